def rwB (bw bh : Nat → Nat) (q : Nat × Nat) : Rw := (q.1 / 2, q.1 % 2, q.2, wkF bw bh q.1, hgF bw bh q.1)
theorem yR_0 {l0 y0 g : Nat} {iy : Nat → Int32} {ly : Nat → Int64} {jy : Nat → Nat → Int32} {ky : Nat → Nat → Int64} : yR l0 y0 g [] (fun _ => false) (va_up (va_up (va_up iy 11 0) 12 0) 13 0, va_up (va_up (va_up ly 14 (lN l0)) 15 (lN y0)) 16 (lN g), jy, ky) :=
  ⟨⟨rfl, rfl⟩, ⟨rfl, rfl, rfl⟩, fun r hr => absurd hr (Nat.not_lt_zero _), fun c hc => absurd hc (Nat.not_lt_zero _), ⟨rfl, fun j hj => absurd hj (Nat.not_lt_zero _)⟩, Nat.le_refl _, fun p hp => absurd hp List.not_mem_nil⟩
theorem tk_s {α β : Type} (f : α → β) (s : List α) (d : α) {r : Nat} (h : r < s.length) : (s.take (r + 1)).map f = (s.take r).map f ++ [f (s.getD r d)] := by
  rw [List.take_add_one, List.getElem?_eq_getElem h, List.map_append]
  simp [List.getD_eq_getElem?_getD, List.getElem?_eq_getElem h]
/-- rows as the search leaves them -/
def beR (bw bh : Nat → Nat) (best : List (Nat × Nat)) : Prop := best.length ≤ 8 ∧ ∀ q ∈ best, q.1 < 8 ∧ 0 < q.2 ∧ q.2 ≤ 20 ∧ bw (q.1 / 2) ≠ 0 ∧ bh (q.1 / 2) ≠ 0
theorem beR_ok {bw bh : Nat → Nat} {best : List (Nat × Nat)} {l0 y0 g : Nat} (hl : l0 ≤ 65536) (hy : y0 ≤ 65536) (hg : g ≤ 65536) (hb : ∀ k, k < 4 → bw k ≤ 65536 ∧ bh k ≤ 65536) (h : beR bw bh best) (r : Nat) : okR l0 y0 g ((best.take r).map (rwB bw bh)) := by
  refine ⟨hl, hy, hg, ?_, fun q hq => ?_⟩
  · rw [List.length_map, List.length_take]; have := h.1; omega
  · obtain ⟨z, hz, rfl⟩ := List.mem_map.mp hq
    obtain ⟨h1, h2, h3, h4, h5⟩ := h.2 z (List.mem_of_mem_take hz)
    have h6 := hb (z.1 / 2) (by omega)
    unfold rwB wkF hgF
    dsimp only
    refine ⟨by omega, by omega, h2, h3, ?_⟩
    split <;> omega
set_option maxHeartbeats 4000000 in
set_option maxRecDepth 100000 in
theorem m_P_layOutBest {l : Launch} {s0 : State} {D : va_G} {cA sa : Nat → Nat} (Z : zE l s0 D cA sa) (a : Nat → Nat) (ii : Nat → Int32) (li : Nat → Int64) (ia : Nat → Nat → Int32) (la : Nat → Nat → Int64) (bd : Nat → Nat) (sb : Nat → Nat) (is_ : Nat → Int32) (ls_ : Nat → Int64) (js : Nat → Nat → Int32) (ks : Nat → Nat → Int64) (hsa : sb 0 = a 5) (room hi wl : Nat → Nat) (M mr gap : Nat) (best : List (Nat × Nat)) (hs : sR room hi wl M mr gap [] best (is_, ls_, js, ks)) (y : Nat → Nat) (iy : Nat → Int32) (ly : Nat → Int64) (jy : Nat → Nat → Int32) (ky : Nat → Nat → Int64) (hya : y 0 = a 6) (bb : Nat → Nat → Nat) (Bi : Nat → Nat → Int32) (Bl : Nat → Nat → Int64) (Bj : Nat → Nat → Nat → Int32) (Bk : Nat → Nat → Nat → Int64) (hbd : ∀ k, k < 4 → bd k = bb k 0) (bw bh wt : Nat → Nat) (hbx : ∀ k, k < 4 → boxR (Bl k) (bw k) (bh k)) (hwt : ∀ k, k < 4 → Bi k 11 = nI (wt k) ∧ wt k ≤ 200) (g l0 y0 : Nat) (hg7 : li 7 = lN g) (hg65 : g ≤ 65536) (hl0 : la 3 0 = lN l0) (hl65 : l0 ≤ 65536) (hy0 : la 3 1 = lN y0) (hy65 : y0 ≤ 65536) (hbe : beR bw bh best) (sz : Nat) : Met l y_P_layOutBest [.code y_P_layOutBest c_P_layOutBest 5 none] ({ frames := 3, cells := 0, slots := 0, locals := 200 }) (wP s0 D [.ref (a 0)] ((w_P a cA ii li ia la bd) ++ (w_S sb cA is_ ls_ js ks) ++ (w_Y y cA iy ly jy ky) ++ (w_B (bb 0) cA (Bi 0) (Bl 0) (Bj 0) (Bk 0)) ++ (w_B (bb 1) cA (Bi 1) (Bl 1) (Bj 1) (Bk 1)) ++ (w_B (bb 2) cA (Bi 2) (Bl 2) (Bj 2) (Bk 2)) ++ (w_B (bb 3) cA (Bi 3) (Bl 3) (Bj 3) (Bk 3))) sz) (va_Qv (fun (u : St) => yR l0 y0 g (best.map (rwB bw bh)) (fun _ => false) u) (wB D (va_A ((w_P a cA ii li ia la bd) ++ (w_S sb cA is_ ls_ js ks) ++ (w_Y y cA iy ly jy ky) ++ (w_B (bb 0) cA (Bi 0) (Bl 0) (Bj 0) (Bk 0)) ++ (w_B (bb 1) cA (Bi 1) (Bl 1) (Bj 1) (Bk 1)) ++ (w_B (bb 2) cA (Bi 2) (Bl 2) (Bj 2) (Bk 2)) ++ (w_B (bb 3) cA (Bi 3) (Bl 3) (Bj 3) (Bk 3))) sz) (fun (u : St) => (w_P a cA ii li ia la bd) ++ (w_S sb cA is_ ls_ js ks) ++ (w_Y y cA u.1 u.2.1 u.2.2.1 u.2.2.2) ++ (w_B (bb 0) cA (Bi 0) (Bl 0) (Bj 0) (Bk 0)) ++ (w_B (bb 1) cA (Bi 1) (Bl 1) (Bj 1) (Bk 1)) ++ (w_B (bb 2) cA (Bi 2) (Bl 2) (Bj 2) (Bk 2)) ++ (w_B (bb 3) cA (Bi 3) (Bl 3) (Bj 3) (Bk 3)))) (va_A ((w_P a cA ii li ia la bd) ++ (w_S sb cA is_ ls_ js ks) ++ (w_Y y cA iy ly jy ky) ++ (w_B (bb 0) cA (Bi 0) (Bl 0) (Bj 0) (Bk 0)) ++ (w_B (bb 1) cA (Bi 1) (Bl 1) (Bj 1) (Bk 1)) ++ (w_B (bb 2) cA (Bi 2) (Bl 2) (Bj 2) (Bk 2)) ++ (w_B (bb 3) cA (Bi 3) (Bl 3) (Bj 3) (Bk 3))) sz)) 0 0 (va_A ((w_P a cA ii li ia la bd) ++ (w_S sb cA is_ ls_ js ks) ++ (w_Y y cA iy ly jy ky) ++ (w_B (bb 0) cA (Bi 0) (Bl 0) (Bj 0) (Bk 0)) ++ (w_B (bb 1) cA (Bi 1) (Bl 1) (Bj 1) (Bk 1)) ++ (w_B (bb 2) cA (Bi 2) (Bl 2) (Bj 2) (Bk 2)) ++ (w_B (bb 3) cA (Bi 3) (Bl 3) (Bj 3) (Bk 3))) sz) := by
  refine wMet Z (by decide) (Nat.le_of_ble_eq_true rfl) ?_
  intro p e s m below meth c hx hb hr hml hown hlk hin hg hK hsz hP hD hA hlo hS ls hl
  subst hsz
  have hown : s.vm.findClass R_P = some m.cls := hown
  have hbb : ∀ k, k < 4 → bw k ≤ 65536 ∧ bh k ≤ 65536 := fun k hk => bx_le (hbx k hk)
  refine lv_aload_n hx hb d_P_layOutBest_0 rfl (lv_at hl 0 rfl) ?_
  refine va_get (D := D) (ci := 0) (v := .ref (a 6)) (C := R_P) (T := T_P) (N := 10) hx hb (uw_P Z.1 hg.1) (fun _ h => h) hown hK hP 0 rfl rfl 5 (by decide) (kw203 Z.1 _ _ hg.1) (fun _ h9 => h9) rfl d_P_layOutBest_1 ?_
  rw [← hya]
  refine lv_aload_n hx hb d_P_layOutBest_4 rfl (lv_at hl 0 rfl) ?_
  refine va_get (D := D) (ci := 0) (v := .ref (a 4)) (C := R_P) (T := T_P) (N := 10) hx hb (uw_P Z.1 hg.1) (fun _ h => h) hown hK hP 0 rfl rfl 3 (by decide) (kw201 Z.1 _ _ hg.1) (fun _ h9 => h9) rfl d_P_layOutBest_5 ?_
  refine lv_iconst (v := 0) hx hb d_P_layOutBest_8 (by decide) ?_
  refine va_lald hx hb hK hP 2 1 rfl rfl (by unfold vp_in; decide) d_P_layOutBest_9 ?_
  refine lv_topl (fun z1 ez1 => ?_)
  obtain rfl : z1 = (lN l0) := by rw [ez1]; exact hl0
  refine lv_aload_n hx hb d_P_layOutBest_10 rfl (lv_at hl 0 rfl) ?_
  refine va_get (D := D) (ci := 0) (v := .ref (a 4)) (C := R_P) (T := T_P) (N := 10) hx hb (uw_P Z.1 hg.1) (fun _ h => h) hown hK hP 0 rfl rfl 3 (by decide) (kw201 Z.1 _ _ hg.1) (fun _ h9 => h9) rfl d_P_layOutBest_11 ?_
  refine lv_iconst (v := 1) hx hb d_P_layOutBest_14 (by decide) ?_
  refine va_lald hx hb hK hP 2 1 rfl rfl (by unfold vp_in; decide) d_P_layOutBest_15 ?_
  refine lv_topl (fun z2 ez2 => ?_)
  obtain rfl : z2 = (lN y0) := by rw [ez2]; exact hy0
  refine lv_aload_n hx hb d_P_layOutBest_16 rfl (lv_at hl 0 rfl) ?_
  refine va_get (D := D) (ci := 0) (v := .long (li 7)) (C := R_P) (T := T_P) (N := 10) hx hb (uw_P Z.1 hg.1) (fun _ h => h) hown hK hP 0 rfl rfl 7 (by decide) (kw205 Z.1 _ _ hg.1) (fun _ h9 => h9) rfl d_P_layOutBest_17 ?_
  refine lv_topl (fun z3 ez3 => ?_)
  obtain rfl : z3 = (lN g) := by rw [ez3]; exact hg7
  refine w_callv (wr := (w_P a cA ii li ia la bd) ++ (w_S sb cA is_ ls_ js ks) ++ (w_B (bb 0) cA (Bi 0) (Bl 0) (Bj 0) (Bk 0)) ++ (w_B (bb 1) cA (Bi 1) (Bl 1) (Bj 1) (Bk 1)) ++ (w_B (bb 2) cA (Bi 2) (Bl 2) (Bj 2) (Bk 2)) ++ (w_B (bb 3) cA (Bi 3) (Bl 3) (Bj 3) (Bk 3))) (w_runVN (rest := []) hx hb hml hown hl.1 hg hlo hK hP hD hS (m_Y_begin Z y iy ly jy ky (lN l0) (lN y0) (lN g) s.heap.size) (kw430 Z.1) (kw432 Z.1) (kp_Y_begin Z.1) (kw433 Z.1) (kw5 Z.1) ⟨by decide, by decide, (by decide +kernel : (parseMethodDescriptor y_Y_begin.desc).map (fun d => d.parameters.length) = some 3)⟩ ⟨Nat.le_of_ble_eq_true rfl, Nat.le_of_ble_eq_true rfl⟩ [11, 12, 13, 14, 15, 16, 17, 18, 19, 20, 21, 22] rfl rfl (ci := 3) (q0 := 11) rfl rfl rfl (Nat.le_of_ble_eq_true rfl) d_P_layOutBest_20 ⟨Nat.le_of_ble_eq_true rfl, Nat.le_of_ble_eq_true rfl⟩) hP hD hS hA [11, 12, 13, 14, 15, 16, 17, 18, 19, 20, 21, 22] [0, 1, 2, 3, 4, 5, 6, 7, 8, 9, 10, 23, 24, 25, 26, 27, 28, 29, 30, 31, 32, 33, 34, 35, 36, 37, 38, 39, 40, 41, 42, 43, 44, 45, 46] rfl rfl rfl (by decide) (fun (u : St) => (w_P a cA ii li ia la bd) ++ (w_S sb cA is_ ls_ js ks) ++ (w_Y y cA u.1 u.2.1 u.2.2.1 u.2.2.2) ++ (w_B (bb 0) cA (Bi 0) (Bl 0) (Bj 0) (Bk 0)) ++ (w_B (bb 1) cA (Bi 1) (Bl 1) (Bj 1) (Bk 1)) ++ (w_B (bb 2) cA (Bi 2) (Bl 2) (Bj 2) (Bk 2)) ++ (w_B (bb 3) cA (Bi 3) (Bl 3) (Bj 3) (Bk 3))) [0, 1, 2, 3, 4, 5, 6, 7, 8, 9, 10, 35, 36, 37, 38, 39, 40, 41, 42, 43, 44, 45, 46, 11, 12, 13, 14, 15, 16, 17, 18, 19, 20, 21, 22, 23, 24, 25, 26, 27, 28, 29, 30, 31, 32, 33, 34] rfl (fun _ => rfl) (fun u0 H locs hq hP hD hS => ?_)
  refine W.widen (k := 0) (n := 0) (Nat.le_of_ble_eq_true rfl) (Nat.le_of_ble_eq_true rfl) ?_
  have hY0 : yR l0 y0 g ((best.take 0).map (rwB bw bh)) (fun _ => false) u0 := by rw [hq]; exact yR_0
  refine lv_iconst (v := 0) hx hb d_P_layOutBest_23 (by decide) ?_
  refine lv_topi (fun z5 ez5 => ?_)
  obtain rfl : z5 = (nI 0) := by rw [ez5]; rfl
  refine lv_istore_n (lv' := [(1, .int (nI 0)), (0, .ref (a 0))]) hx hb d_P_layOutBest_24 rfl hl (by decide) rfl (fun ls hl => ?_)
  have loop : ∀ (f : Nat) (r : Nat) (v : St), best.length - r < f → r ≤ best.length → yR l0 y0 g ((best.take r).map (rwB bw bh)) (fun _ => false) v → ∀ (H : Heap) (locs : List Loc), va_P D ncl ((w_P a cA ii li ia la bd) ++ (w_S sb cA is_ ls_ js ks) ++ (w_Y y cA v.1 v.2.1 v.2.2.1 v.2.2.2) ++ (w_B (bb 0) cA (Bi 0) (Bl 0) (Bj 0) (Bk 0)) ++ (w_B (bb 1) cA (Bi 1) (Bl 1) (Bj 1) (Bk 1)) ++ (w_B (bb 2) cA (Bi 2) (Bl 2) (Bj 2) (Bk 2)) ++ (w_B (bb 3) cA (Bi 3) (Bl 3) (Bj 3) (Bk 3))) H → va_D (va_A ((w_P a cA ii li ia la bd) ++ (w_S sb cA is_ ls_ js ks) ++ (w_Y y cA iy ly jy ky) ++ (w_B (bb 0) cA (Bi 0) (Bl 0) (Bj 0) (Bk 0)) ++ (w_B (bb 1) cA (Bi 1) (Bl 1) (Bj 1) (Bk 1)) ++ (w_B (bb 2) cA (Bi 2) (Bl 2) (Bj 2) (Bk 2)) ++ (w_B (bb 3) cA (Bi 3) (Bl 3) (Bj 3) (Bk 3))) s.heap.size) ((w_P a cA ii li ia la bd) ++ (w_S sb cA is_ ls_ js ks) ++ (w_Y y cA v.1 v.2.1 v.2.2.1 v.2.2.2) ++ (w_B (bb 0) cA (Bi 0) (Bl 0) (Bj 0) (Bk 0)) ++ (w_B (bb 1) cA (Bi 1) (Bl 1) (Bj 1) (Bk 1)) ++ (w_B (bb 2) cA (Bi 2) (Bl 2) (Bj 2) (Bk 2)) ++ (w_B (bb 3) cA (Bi 3) (Bl 3) (Bj 3) (Bk 3))) → va_S (va_A ((w_P a cA ii li ia la bd) ++ (w_S sb cA is_ ls_ js ks) ++ (w_Y y cA iy ly jy ky) ++ (w_B (bb 0) cA (Bi 0) (Bl 0) (Bj 0) (Bk 0)) ++ (w_B (bb 1) cA (Bi 1) (Bl 1) (Bj 1) (Bk 1)) ++ (w_B (bb 2) cA (Bi 2) (Bl 2) (Bj 2) (Bk 2)) ++ (w_B (bb 3) cA (Bi 3) (Bl 3) (Bj 3) (Bk 3))) s.heap.size) s.heap H locs → ∀ (ls : Array Slot), lv_has ls 5 [(0, .ref (a 0)), (1, .int (nI r))] → W p l e ({ frames := 3, cells := 0, slots := 0, locals := 200 }) s m ([.ref (a 0)] : List Value).toArray below meth c H locs 0 0 (MQ below (va_Qv (fun (u : St) => yR l0 y0 g (best.map (rwB bw bh)) (fun _ => false) u) (wB D (va_A ((w_P a cA ii li ia la bd) ++ (w_S sb cA is_ ls_ js ks) ++ (w_Y y cA iy ly jy ky) ++ (w_B (bb 0) cA (Bi 0) (Bl 0) (Bj 0) (Bk 0)) ++ (w_B (bb 1) cA (Bi 1) (Bl 1) (Bj 1) (Bk 1)) ++ (w_B (bb 2) cA (Bi 2) (Bl 2) (Bj 2) (Bk 2)) ++ (w_B (bb 3) cA (Bi 3) (Bl 3) (Bj 3) (Bk 3))) s.heap.size) (fun (u : St) => (w_P a cA ii li ia la bd) ++ (w_S sb cA is_ ls_ js ks) ++ (w_Y y cA u.1 u.2.1 u.2.2.1 u.2.2.2) ++ (w_B (bb 0) cA (Bi 0) (Bl 0) (Bj 0) (Bk 0)) ++ (w_B (bb 1) cA (Bi 1) (Bl 1) (Bj 1) (Bk 1)) ++ (w_B (bb 2) cA (Bi 2) (Bl 2) (Bj 2) (Bk 2)) ++ (w_B (bb 3) cA (Bi 3) (Bl 3) (Bj 3) (Bk 3)))) (va_A ((w_P a cA ii li ia la bd) ++ (w_S sb cA is_ ls_ js ks) ++ (w_Y y cA iy ly jy ky) ++ (w_B (bb 0) cA (Bi 0) (Bl 0) (Bj 0) (Bk 0)) ++ (w_B (bb 1) cA (Bi 1) (Bl 1) (Bj 1) (Bk 1)) ++ (w_B (bb 2) cA (Bi 2) (Bl 2) (Bj 2) (Bk 2)) ++ (w_B (bb 3) cA (Bi 3) (Bl 3) (Bj 3) (Bk 3))) s.heap.size)) ([.ref (a 0)] : List Value).toArray s 0 0 (va_A ((w_P a cA ii li ia la bd) ++ (w_S sb cA is_ ls_ js ks) ++ (w_Y y cA iy ly jy ky) ++ (w_B (bb 0) cA (Bi 0) (Bl 0) (Bj 0) (Bk 0)) ++ (w_B (bb 1) cA (Bi 1) (Bl 1) (Bj 1) (Bk 1)) ++ (w_B (bb 2) cA (Bi 2) (Bl 2) (Bj 2) (Bk 2)) ++ (w_B (bb 3) cA (Bi 3) (Bl 3) (Bj 3) (Bk 3))) s.heap.size)) (F0 m 25 ls []) := by
    intro f
    induction f with
    | zero => intro r v h; exact absurd h (Nat.not_lt_zero _)
    | succ f ih =>
      intro r v hf hr1 hY H locs hP hD hS ls hl
      have h8 := hbe.1
      refine lv_iload_n hx hb d_P_layOutBest_25 rfl (lv_at hl 1 rfl) ?_
      refine lv_aload_n hx hb d_P_layOutBest_26 rfl (lv_at hl 0 rfl) ?_
      refine va_get (D := D) (ci := 0) (v := .ref (a 5)) (C := R_P) (T := T_P) (N := 10) hx hb (uw_P Z.1 hg.1) (fun _ h => h) hown hK hP 0 rfl rfl 4 (by decide) (kw202 Z.1 _ _ hg.1) (fun _ h9 => h9) rfl d_P_layOutBest_27 ?_
      rw [← hsa]
      refine va_getN (D := D) (ci := 4) (v := .int (is_ 7)) (C := R_S) (T := T_S) (N := 12) hx hb (uw_S Z.1 hg.1) (fun _ h => h) hown hK hP 3 rfl rfl 7 (by decide) (kw94 Z.1 _ _ hg.1) (fun _ h9 => h9) rfl d_P_layOutBest_30 ?_
      refine lv_topi (fun z6 ez6 => ?_)
      obtain rfl : z6 = (nI best.length) := by rw [ez6]; exact hs.2.2.1.1
      refine lv_icmp_ge (tgt := 102) hx hb d_P_layOutBest_33 (by decide) (fun c7 => ?_) (fun c7 => ?_)
      · have hre : r = best.length := by have := (nI_leI (by omega) (by omega)).mp c7; omega
        exact w_vret hx hb hr hlk hP hD hS v rfl (by rw [hre, List.take_length] at hY; exact hY) d_P_layOutBest_102
      · have hrl : r < best.length := Nat.lt_of_not_le (fun z => c7 ((nI_leI (by omega) (by omega)).mpr z))
        have hq2 := hbe.2 _ (gd_mem best (0, 0) hrl)
        have hs6 := hs.2.2.2.2.2 r hrl
        obtain ⟨k, hkq⟩ : ∃ z, z = (best.getD r (0, 0)).1 := ⟨_, rfl⟩
        obtain ⟨cn, hcq⟩ : ∃ z, z = (best.getD r (0, 0)).2 := ⟨_, rfl⟩
        rw [← hkq, ← hcq] at hq2 hs6
        obtain ⟨n, hnq⟩ : ∃ z, z = k / 2 := ⟨_, rfl⟩
        obtain ⟨t, htq⟩ : ∃ z, z = k % 2 := ⟨_, rfl⟩
        have hkk : k = 2 * n + t := by omega
        have hn4 : n < 4 := by omega
        have ht2 : t < 2 := by omega
        have hbn := hbx n hn4
        have tz : (nI t = 0) = (t = 0) := propext (nI_eq (b := 0) (by omega) (by decide))
        obtain ⟨wk, hwk⟩ : ∃ z, z = wkF bw bh (2 * n + t) := ⟨_, rfl⟩
        obtain ⟨hk, hhk⟩ : ∃ z, z = hgF bw bh (2 * n + t) := ⟨_, rfl⟩
        refine lv_aload_n hx hb d_P_layOutBest_36 rfl (lv_at hl 0 rfl) ?_
        refine va_get (D := D) (ci := 0) (v := .ref (a 5)) (C := R_P) (T := T_P) (N := 10) hx hb (uw_P Z.1 hg.1) (fun _ h => h) hown hK hP 0 rfl rfl 4 (by decide) (kw202 Z.1 _ _ hg.1) (fun _ h9 => h9) rfl d_P_layOutBest_37 ?_
        rw [← hsa]
        refine va_getN (D := D) (ci := 4) (v := .ref (sb 6)) (C := R_S) (T := T_S) (N := 12) hx hb (uw_S Z.1 hg.1) (fun _ h => h) hown hK hP 3 rfl rfl 5 (by decide) (kw90 Z.1 _ _ hg.1) (fun _ h9 => h9) rfl d_P_layOutBest_40 ?_
        refine lv_iload_n hx hb d_P_layOutBest_43 rfl (lv_at hl 1 rfl) ?_
        refine va_iald hx hb hK hP 9 0 rfl rfl (vp_in_nI (n := r) (N := 9) (by omega) (by decide)) d_P_layOutBest_44 ?_
        refine lv_topi (fun z8 ez8 => ?_)
        rw [nI_clamp (n := r) (by omega)] at ez8
        obtain rfl : z8 = ((js 5) r) := ez8
        refine lv_topi (fun z9 ez9 => ?_)
        obtain rfl : z9 = (nI k) := by rw [ez9]; exact hs6.1
        refine lv_istore_n (lv' := [(2, .int (nI k)), (0, .ref (a 0)), (1, .int (nI r))]) hx hb d_P_layOutBest_45 rfl hl (by decide) rfl (fun ls hl => ?_)
        refine lv_iload_n hx hb d_P_layOutBest_46 rfl (lv_at hl 0 rfl) ?_
        refine lv_iconst (v := 2) hx hb d_P_layOutBest_47 (by decide) ?_
        refine lv_idiv hx hb d_P_layOutBest_48 (by decide) ?_
        refine lv_topi (fun z10 ez10 => ?_)
        obtain rfl : z10 = (nI n) := by rw [ez10]; rw [hnq]; exact pk_div (d := 2) (by omega) (by decide) (by decide)
        refine lv_istore_n (lv' := [(3, .int (nI n)), (2, .int (nI k)), (0, .ref (a 0)), (1, .int (nI r))]) hx hb d_P_layOutBest_49 rfl hl (by decide) rfl (fun ls hl => ?_)
        refine lv_iload_n hx hb d_P_layOutBest_50 rfl (lv_at hl 1 rfl) ?_
        refine lv_iconst (v := 2) hx hb d_P_layOutBest_51 (by decide) ?_
        refine lv_irem hx hb d_P_layOutBest_52 (by decide) ?_
        refine lv_topi (fun z11 ez11 => ?_)
        obtain rfl : z11 = (nI t) := by rw [ez11]; rw [htq]; exact pk_rem (d := 2) (by omega) (by decide) (by decide)
        refine lv_istore (lv' := [(4, .int (nI t)), (3, .int (nI n)), (2, .int (nI k)), (0, .ref (a 0)), (1, .int (nI r))]) hx hb d_P_layOutBest_53 hl (by decide) rfl (fun ls hl => ?_)
        refine lv_aload_n hx hb d_P_layOutBest_55 rfl (lv_at hl 3 rfl) ?_
        refine va_get (D := D) (ci := 0) (v := .ref (a 6)) (C := R_P) (T := T_P) (N := 10) hx hb (uw_P Z.1 hg.1) (fun _ h => h) hown hK hP 0 rfl rfl 5 (by decide) (kw203 Z.1 _ _ hg.1) (fun _ h9 => h9) rfl d_P_layOutBest_56 ?_
        rw [← hya]
        refine lv_iload_n hx hb d_P_layOutBest_59 rfl (lv_at hl 1 rfl) ?_
        refine lv_iload hx hb d_P_layOutBest_60 (lv_at hl 0 rfl) ?_
        refine lv_aload_n hx hb d_P_layOutBest_62 rfl (lv_at hl 3 rfl) ?_
        refine va_get (D := D) (ci := 0) (v := .ref (a 3)) (C := R_P) (T := T_P) (N := 10) hx hb (uw_P Z.1 hg.1) (fun _ h => h) hown hK hP 0 rfl rfl 2 (by decide) (kw200 Z.1 _ _ hg.1) (fun _ h9 => h9) rfl d_P_layOutBest_63 ?_
        refine lv_iload_n hx hb d_P_layOutBest_66 rfl (lv_at hl 1 rfl) ?_
        refine va_aldq hx hb hK hP 1 3 rfl rfl (vp_in_nI (n := n) (N := 4) (by omega) (by decide)) d_P_layOutBest_67 ?_
        rw [nI_clamp (n := n) (by omega)]
        rw [show va_rf ((fun j => some (bd j)) n) = .ref ((bb n) 0) from congrArg Value.ref (hbd n hn4)]
        obtain ⟨hP, hD⟩ := bq_in (F := (fun k => w_B (bb k) cA (Bi k) (Bl k) (Bj k) (Bk k))) (X := (w_P a cA ii li ia la bd) ++ (w_S sb cA is_ ls_ js ks) ++ (w_Y y cA v.1 v.2.1 v.2.2.1 v.2.2.2)) (n := n) hn4 hP hD
        have hP : va_P D ncl ((w_P a cA ii li ia la bd) ++ (w_S sb cA is_ ls_ js ks) ++ (w_Y y cA v.1 v.2.1 v.2.2.1 v.2.2.2) ++ (w_B (bb n) cA (Bi n) (Bl n) (Bj n) (Bk n)) ++ (w_B (bb (pn n 0)) cA (Bi (pn n 0)) (Bl (pn n 0)) (Bj (pn n 0)) (Bk (pn n 0))) ++ (w_B (bb (pn n 1)) cA (Bi (pn n 1)) (Bl (pn n 1)) (Bj (pn n 1)) (Bk (pn n 1))) ++ (w_B (bb (pn n 2)) cA (Bi (pn n 2)) (Bl (pn n 2)) (Bj (pn n 2)) (Bk (pn n 2)))) H := hP
        have hD : va_D _ ((w_P a cA ii li ia la bd) ++ (w_S sb cA is_ ls_ js ks) ++ (w_Y y cA v.1 v.2.1 v.2.2.1 v.2.2.2) ++ (w_B (bb n) cA (Bi n) (Bl n) (Bj n) (Bk n)) ++ (w_B (bb (pn n 0)) cA (Bi (pn n 0)) (Bl (pn n 0)) (Bj (pn n 0)) (Bk (pn n 0))) ++ (w_B (bb (pn n 1)) cA (Bi (pn n 1)) (Bl (pn n 1)) (Bj (pn n 1)) (Bk (pn n 1))) ++ (w_B (bb (pn n 2)) cA (Bi (pn n 2)) (Bl (pn n 2)) (Bj (pn n 2)) (Bk (pn n 2)))) := hD
        refine lv_iload hx hb d_P_layOutBest_68 (lv_at hl 0 rfl) ?_
        refine w_calll (wr := (w_P a cA ii li ia la bd) ++ (w_S sb cA is_ ls_ js ks) ++ (w_Y y cA v.1 v.2.1 v.2.2.1 v.2.2.2) ++ (w_B (bb (pn n 0)) cA (Bi (pn n 0)) (Bl (pn n 0)) (Bj (pn n 0)) (Bk (pn n 0))) ++ (w_B (bb (pn n 1)) cA (Bi (pn n 1)) (Bl (pn n 1)) (Bj (pn n 1)) (Bk (pn n 1))) ++ (w_B (bb (pn n 2)) cA (Bi (pn n 2)) (Bl (pn n 2)) (Bj (pn n 2)) (Bk (pn n 2)))) (w_runVN (rest := [.int (nI t), .int (nI n), .ref (y 0)]) hx hb hml hown hl.1 hg hlo hK hP hD hS (m_B_wide Z (bb n) (Bi n) (Bl n) (Bj n) (Bk n) (nI t) H.size) (kw394 Z.1) (kw396 Z.1) (kp_B_wide Z.1) (kw397 Z.1) (kw3 Z.1) ⟨by decide, by decide, (by decide +kernel : (parseMethodDescriptor y_B_wide.desc).map (fun d => d.parameters.length) = some 1)⟩ ⟨Nat.le_of_ble_eq_true rfl, Nat.le_of_ble_eq_true rfl⟩ [23, 24, 25, 26, 27, 28] rfl rfl (ci := 2) (q0 := 23) rfl rfl rfl (Nat.le_of_ble_eq_true rfl) d_P_layOutBest_70 ⟨Nat.le_of_ble_eq_true rfl, Nat.le_of_ble_eq_true rfl⟩) hP hD hS hA [23, 24, 25, 26, 27, 28] [0, 1, 2, 3, 4, 5, 6, 7, 8, 9, 10, 11, 12, 13, 14, 15, 16, 17, 18, 19, 20, 21, 22, 29, 30, 31, 32, 33, 34, 35, 36, 37, 38, 39, 40, 41, 42, 43, 44, 45, 46] rfl rfl rfl (by decide) (fun _ => (w_P a cA ii li ia la bd) ++ (w_S sb cA is_ ls_ js ks) ++ (w_Y y cA v.1 v.2.1 v.2.2.1 v.2.2.2) ++ (w_B (bb n) cA (Bi n) (Bl n) (Bj n) (Bk n)) ++ (w_B (bb (pn n 0)) cA (Bi (pn n 0)) (Bl (pn n 0)) (Bj (pn n 0)) (Bk (pn n 0))) ++ (w_B (bb (pn n 1)) cA (Bi (pn n 1)) (Bl (pn n 1)) (Bj (pn n 1)) (Bk (pn n 1))) ++ (w_B (bb (pn n 2)) cA (Bi (pn n 2)) (Bl (pn n 2)) (Bj (pn n 2)) (Bk (pn n 2)))) [0, 1, 2, 3, 4, 5, 6, 7, 8, 9, 10, 11, 12, 13, 14, 15, 16, 17, 18, 19, 20, 21, 22, 41, 42, 43, 44, 45, 46, 23, 24, 25, 26, 27, 28, 29, 30, 31, 32, 33, 34, 35, 36, 37, 38, 39, 40] rfl (fun _ => rfl) (fun rw1 u9 H locs hrw1 hP hD hS => ?_)
        refine W.widen (k := 0) (n := 0) (Nat.le_of_ble_eq_true rfl) (Nat.le_of_ble_eq_true rfl) ?_
        obtain rfl : rw1 = lN wk := by rw [hrw1, hwk, wk_2 _ _ ht2]; simp only [tz]; split; exact bx_w hbn; exact bx_h hbn
        refine lv_aload_n hx hb d_P_layOutBest_73 rfl (lv_at hl 3 rfl) ?_
        refine va_get (D := D) (ci := 0) (v := .ref (a 3)) (C := R_P) (T := T_P) (N := 10) hx hb (uw_P Z.1 hg.1) (fun _ h => h) hown hK hP 0 rfl rfl 2 (by decide) (kw200 Z.1 _ _ hg.1) (fun _ h9 => h9) rfl d_P_layOutBest_74 ?_
        refine lv_iload_n hx hb d_P_layOutBest_77 rfl (lv_at hl 1 rfl) ?_
        refine va_aldq hx hb hK hP 1 3 rfl rfl (vp_in_nI (n := n) (N := 4) (by omega) (by decide)) d_P_layOutBest_78 ?_
        rw [nI_clamp (n := n) (by omega)]
        rw [show va_rf ((fun j => some (bd j)) n) = .ref ((bb n) 0) from congrArg Value.ref (hbd n hn4)]
        refine lv_iload hx hb d_P_layOutBest_79 (lv_at hl 0 rfl) ?_
        refine w_calll (wr := (w_P a cA ii li ia la bd) ++ (w_S sb cA is_ ls_ js ks) ++ (w_Y y cA v.1 v.2.1 v.2.2.1 v.2.2.2) ++ (w_B (bb (pn n 0)) cA (Bi (pn n 0)) (Bl (pn n 0)) (Bj (pn n 0)) (Bk (pn n 0))) ++ (w_B (bb (pn n 1)) cA (Bi (pn n 1)) (Bl (pn n 1)) (Bj (pn n 1)) (Bk (pn n 1))) ++ (w_B (bb (pn n 2)) cA (Bi (pn n 2)) (Bl (pn n 2)) (Bj (pn n 2)) (Bk (pn n 2)))) (w_runVN (rest := [.long (lN wk), .int (nI t), .int (nI n), .ref (y 0)]) hx hb hml hown hl.1 hg hlo hK hP hD hS (m_B_high Z (bb n) (Bi n) (Bl n) (Bj n) (Bk n) (nI t) H.size) (kw402 Z.1) (kw404 Z.1) (kp_B_high Z.1) (kw405 Z.1) (kw3 Z.1) ⟨by decide, by decide, (by decide +kernel : (parseMethodDescriptor y_B_high.desc).map (fun d => d.parameters.length) = some 1)⟩ ⟨Nat.le_of_ble_eq_true rfl, Nat.le_of_ble_eq_true rfl⟩ [23, 24, 25, 26, 27, 28] rfl rfl (ci := 2) (q0 := 23) rfl rfl rfl (Nat.le_of_ble_eq_true rfl) d_P_layOutBest_81 ⟨Nat.le_of_ble_eq_true rfl, Nat.le_of_ble_eq_true rfl⟩) hP hD hS hA [23, 24, 25, 26, 27, 28] [0, 1, 2, 3, 4, 5, 6, 7, 8, 9, 10, 11, 12, 13, 14, 15, 16, 17, 18, 19, 20, 21, 22, 29, 30, 31, 32, 33, 34, 35, 36, 37, 38, 39, 40, 41, 42, 43, 44, 45, 46] rfl rfl rfl (by decide) (fun _ => (w_P a cA ii li ia la bd) ++ (w_S sb cA is_ ls_ js ks) ++ (w_Y y cA v.1 v.2.1 v.2.2.1 v.2.2.2) ++ (w_B (bb n) cA (Bi n) (Bl n) (Bj n) (Bk n)) ++ (w_B (bb (pn n 0)) cA (Bi (pn n 0)) (Bl (pn n 0)) (Bj (pn n 0)) (Bk (pn n 0))) ++ (w_B (bb (pn n 1)) cA (Bi (pn n 1)) (Bl (pn n 1)) (Bj (pn n 1)) (Bk (pn n 1))) ++ (w_B (bb (pn n 2)) cA (Bi (pn n 2)) (Bl (pn n 2)) (Bj (pn n 2)) (Bk (pn n 2)))) [0, 1, 2, 3, 4, 5, 6, 7, 8, 9, 10, 11, 12, 13, 14, 15, 16, 17, 18, 19, 20, 21, 22, 41, 42, 43, 44, 45, 46, 23, 24, 25, 26, 27, 28, 29, 30, 31, 32, 33, 34, 35, 36, 37, 38, 39, 40] rfl (fun _ => rfl) (fun rh1 u9 H locs hrh1 hP hD hS => ?_)
        refine W.widen (k := 0) (n := 0) (Nat.le_of_ble_eq_true rfl) (Nat.le_of_ble_eq_true rfl) ?_
        obtain rfl : rh1 = lN hk := by rw [hrh1, hhk, hg_2 _ _ ht2]; simp only [tz]; split; exact bx_h hbn; exact bx_w hbn
        refine lv_aload_n hx hb d_P_layOutBest_84 rfl (lv_at hl 3 rfl) ?_
        refine va_get (D := D) (ci := 0) (v := .ref (a 5)) (C := R_P) (T := T_P) (N := 10) hx hb (uw_P Z.1 hg.1) (fun _ h => h) hown hK hP 0 rfl rfl 4 (by decide) (kw202 Z.1 _ _ hg.1) (fun _ h9 => h9) rfl d_P_layOutBest_85 ?_
        rw [← hsa]
        refine va_getN (D := D) (ci := 4) (v := .ref (sb 7)) (C := R_S) (T := T_S) (N := 12) hx hb (uw_S Z.1 hg.1) (fun _ h => h) hown hK hP 3 rfl rfl 6 (by decide) (kw92 Z.1 _ _ hg.1) (fun _ h9 => h9) rfl d_P_layOutBest_88 ?_
        refine lv_iload_n hx hb d_P_layOutBest_91 rfl (lv_at hl 4 rfl) ?_
        refine va_iald hx hb hK hP 10 0 rfl rfl (vp_in_nI (n := r) (N := 9) (by omega) (by decide)) d_P_layOutBest_92 ?_
        refine lv_topi (fun z12 ez12 => ?_)
        rw [nI_clamp (n := r) (by omega)] at ez12
        obtain rfl : z12 = ((js 6) r) := ez12
        refine lv_topi (fun z13 ez13 => ?_)
        obtain rfl : z13 = (nI cn) := by rw [ez13]; exact hs6.2
        have hrwq : rwB bw bh (best.getD r (0, 0)) = (n, t, cn, wk, hk) := by unfold rwB; rw [← hkq, ← hcq, hwk, hhk, ← hkk, hnq, htq]
        have hokr : okR l0 y0 g ((best.take r).map (rwB bw bh) ++ [(n, t, cn, wk, hk)]) := by rw [← hrwq, ← tk_s _ _ (0, 0) hrl]; exact beR_ok hl65 hy65 hg65 hbb hbe (r + 1)
        refine w_callv (wr := (w_P a cA ii li ia la bd) ++ (w_S sb cA is_ ls_ js ks) ++ (w_B (bb n) cA (Bi n) (Bl n) (Bj n) (Bk n)) ++ (w_B (bb (pn n 0)) cA (Bi (pn n 0)) (Bl (pn n 0)) (Bj (pn n 0)) (Bk (pn n 0))) ++ (w_B (bb (pn n 1)) cA (Bi (pn n 1)) (Bl (pn n 1)) (Bj (pn n 1)) (Bk (pn n 1))) ++ (w_B (bb (pn n 2)) cA (Bi (pn n 2)) (Bl (pn n 2)) (Bj (pn n 2)) (Bk (pn n 2)))) (w_runVN (rest := []) hx hb hml hown hl.1 hg hlo hK hP hD hS (m_Y_addRow Z y v.1 v.2.1 v.2.2.1 v.2.2.2 l0 y0 g ((best.take r).map (rwB bw bh)) (n, t, cn, wk, hk) hY hokr H.size) (kw434 Z.1) (kw436 Z.1) (kp_Y_addRow Z.1) (kw437 Z.1) (kw5 Z.1) ⟨by decide, by decide, (by decide +kernel : (parseMethodDescriptor y_Y_addRow.desc).map (fun d => d.parameters.length) = some 5)⟩ ⟨Nat.le_of_ble_eq_true rfl, Nat.le_of_ble_eq_true rfl⟩ [11, 12, 13, 14, 15, 16, 17, 18, 19, 20, 21, 22] rfl rfl (ci := 3) (q0 := 11) rfl rfl rfl (Nat.le_of_ble_eq_true rfl) d_P_layOutBest_93 ⟨Nat.le_of_ble_eq_true rfl, Nat.le_of_ble_eq_true rfl⟩) hP hD hS hA [11, 12, 13, 14, 15, 16, 17, 18, 19, 20, 21, 22] [0, 1, 2, 3, 4, 5, 6, 7, 8, 9, 10, 23, 24, 25, 26, 27, 28, 29, 30, 31, 32, 33, 34, 35, 36, 37, 38, 39, 40, 41, 42, 43, 44, 45, 46] rfl rfl rfl (by decide) (fun (u2 : St) => (w_P a cA ii li ia la bd) ++ (w_S sb cA is_ ls_ js ks) ++ (w_Y y cA u2.1 u2.2.1 u2.2.2.1 u2.2.2.2) ++ (w_B (bb n) cA (Bi n) (Bl n) (Bj n) (Bk n)) ++ (w_B (bb (pn n 0)) cA (Bi (pn n 0)) (Bl (pn n 0)) (Bj (pn n 0)) (Bk (pn n 0))) ++ (w_B (bb (pn n 1)) cA (Bi (pn n 1)) (Bl (pn n 1)) (Bj (pn n 1)) (Bk (pn n 1))) ++ (w_B (bb (pn n 2)) cA (Bi (pn n 2)) (Bl (pn n 2)) (Bj (pn n 2)) (Bk (pn n 2)))) [0, 1, 2, 3, 4, 5, 6, 7, 8, 9, 10, 35, 36, 37, 38, 39, 40, 41, 42, 43, 44, 45, 46, 11, 12, 13, 14, 15, 16, 17, 18, 19, 20, 21, 22, 23, 24, 25, 26, 27, 28, 29, 30, 31, 32, 33, 34] rfl (fun _ => rfl) (fun u2 H locs hu2 hP hD hS => ?_)
        refine W.widen (k := 0) (n := 0) (Nat.le_of_ble_eq_true rfl) (Nat.le_of_ble_eq_true rfl) ?_
        obtain ⟨hP, hD⟩ := bq_out (F := (fun k => w_B (bb k) cA (Bi k) (Bl k) (Bj k) (Bk k))) (X := (w_P a cA ii li ia la bd) ++ (w_S sb cA is_ ls_ js ks) ++ (w_Y y cA u2.1 u2.2.1 u2.2.2.1 u2.2.2.2)) (n := n) hn4 hP hD
        have hP : va_P D ncl ((w_P a cA ii li ia la bd) ++ (w_S sb cA is_ ls_ js ks) ++ (w_Y y cA u2.1 u2.2.1 u2.2.2.1 u2.2.2.2) ++ (w_B (bb 0) cA (Bi 0) (Bl 0) (Bj 0) (Bk 0)) ++ (w_B (bb 1) cA (Bi 1) (Bl 1) (Bj 1) (Bk 1)) ++ (w_B (bb 2) cA (Bi 2) (Bl 2) (Bj 2) (Bk 2)) ++ (w_B (bb 3) cA (Bi 3) (Bl 3) (Bj 3) (Bk 3))) H := hP
        have hD : va_D _ ((w_P a cA ii li ia la bd) ++ (w_S sb cA is_ ls_ js ks) ++ (w_Y y cA u2.1 u2.2.1 u2.2.2.1 u2.2.2.2) ++ (w_B (bb 0) cA (Bi 0) (Bl 0) (Bj 0) (Bk 0)) ++ (w_B (bb 1) cA (Bi 1) (Bl 1) (Bj 1) (Bk 1)) ++ (w_B (bb 2) cA (Bi 2) (Bl 2) (Bj 2) (Bk 2)) ++ (w_B (bb 3) cA (Bi 3) (Bl 3) (Bj 3) (Bk 3))) := hD
        obtain ⟨v15, ev15⟩ : ∃ y : Int32, y = (nI r) + 1 := ⟨_, rfl⟩
        refine lv_iinc (v := v15) (lv' := [(1, .int v15), (4, .int (nI t)), (3, .int (nI n)), (2, .int (nI k)), (0, .ref (a 0))]) hx hb d_P_layOutBest_96 hl (k := 4) rfl (by rw [ev15]; rfl) (by decide) rfl (fun ls hl => ?_)
        refine lv_goto (tgt := 25) hx hb d_P_layOutBest_99 (by decide) ?_
        obtain rfl : v15 = nI (r + 1) := by rw [ev15]; exact nI_1 r
        exact ih (r + 1) u2 (by omega) (by omega) (by rw [tk_s _ _ (0, 0) hrl, hrwq]; exact hu2) _ _ hP hD hS ls (lv_sub hl [4, 0] rfl)
  exact loop (best.length + 1) 0 u0 (by omega) (Nat.zero_le _) hY0 _ _ hP hD hS ls (lv_sub hl [1, 0] rfl)
