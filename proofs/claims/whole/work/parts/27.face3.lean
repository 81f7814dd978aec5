/-- the copies of rows laid from y on: board, x, y, turn, wide, high -/
abbrev Cp : Type := Nat × Nat × Nat × Nat × Nat × Nat
def lcp (l0 g : Nat) : Nat → List Rw → List Cp
  | _, [] => []
  | y, q :: rw => (List.range q.2.2.1).map (fun i => (q.1, l0 + i * (q.2.2.2.1 + g), y, q.2.1, q.2.2.2.1, q.2.2.2.2)) ++ lcp l0 g (y + (q.2.2.2.2 + g)) rw
def cp0 : Cp := (0, 0, 0, 0, 0, 0)
def cpk (q : Cp) (k : Nat) : Nat := match k with
  | 0 => q.1
  | 1 => q.2.1
  | 2 => q.2.2.1
  | 3 => q.2.2.2.1
  | 4 => q.2.2.2.2.1
  | _ => q.2.2.2.2.2
theorem lcp_len (l0 g : Nat) : ∀ (rw : List Rw) (y : Nat), (lcp l0 g y rw).length = ly_n rw := by
  intro rw
  induction rw with
  | nil => intro y; rfl
  | cons q rw ih => intro y; rw [lcp, List.length_append, ih]; simp [ly_n]
theorem lcp_get (l0 g : Nat) : ∀ (rw : List Rw) (y r i : Nat), r < rw.length → i < (rw.getD r rw0).2.2.1 →
    (lcp l0 g y rw).getD (ly_n (rw.take r) + i) cp0 = ((rw.getD r rw0).1, l0 + i * ((rw.getD r rw0).2.2.2.1 + g), ly_y y g (rw.take r), (rw.getD r rw0).2.1, (rw.getD r rw0).2.2.2.1, (rw.getD r rw0).2.2.2.2) := by
  intro rw
  induction rw with
  | nil => intro y r i h; simp at h
  | cons q rw ih =>
    intro y r i h hi
    cases r with
    | zero =>
      simp only [List.getD_cons_zero] at hi
      rw [lcp, gd_l _ _ _ (by simp [ly_n]; exact hi)]
      simp [ly_n, ly_y, List.getD_eq_getElem?_getD, hi]
    | succ r =>
      simp only [List.getD_cons_succ] at hi ⊢
      have h2 := ih (y + (q.2.2.2.2 + g)) r i (by simp at h; omega) hi
      have e1 : ly_n ((q :: rw).take (r + 1)) + i = q.2.2.1 + (ly_n (rw.take r) + i) := by simp [ly_n]; omega
      have e2 : ly_y y g ((q :: rw).take (r + 1)) = ly_y (y + (q.2.2.2.2 + g)) g (rw.take r) := by simp [ly_y]; omega
      rw [e1, e2, ← h2, lcp, List.getD_eq_getElem?_getD, List.getD_eq_getElem?_getD, List.getElem?_append_right (by simp)]
      simp
theorem ly_loc : ∀ (rw : List Rw) (c : Nat), c < ly_n rw → ∃ r i, r < rw.length ∧ i < (rw.getD r rw0).2.2.1 ∧ c = ly_n (rw.take r) + i := by
  intro rw
  induction rw with
  | nil => intro c h; simp [ly_n] at h
  | cons q rw ih =>
    intro c h
    rcases Nat.lt_or_ge c q.2.2.1 with z | z
    · exact ⟨0, c, by simp, by simpa using z, by simp [ly_n]⟩
    · have e : ly_n (q :: rw) = q.2.2.1 + ly_n rw := by simp [ly_n]
      obtain ⟨r, i, h1, h2, h3⟩ := ih (c - q.2.2.1) (by omega)
      refine ⟨r + 1, i, by simp; omega, by simpa using h2, ?_⟩
      have e2 : ly_n ((q :: rw).take (r + 1)) = q.2.2.1 + ly_n (rw.take r) := by simp [ly_n]
      omega
/-- what the cells say of copy c -/
theorem yR_cp {l0 y0 g : Nat} {rw : List Rw} {bf : Nat → Bool} {u : St} (h : yR l0 y0 g rw bf u) {c : Nat} (hc : c < ly_n rw) : ∃ r, r < rw.length ∧ u.2.2.1 6 c = nI r ∧ u.2.2.1 0 r = nI (cpk ((lcp l0 g y0 rw).getD c cp0) 0) ∧ u.2.2.2 7 c = lN (cpk ((lcp l0 g y0 rw).getD c cp0) 1) ∧ u.2.2.2 3 r = lN (cpk ((lcp l0 g y0 rw).getD c cp0) 2) ∧ u.2.2.1 1 r = nI (cpk ((lcp l0 g y0 rw).getD c cp0) 3) ∧ u.2.2.2 4 r = lN (cpk ((lcp l0 g y0 rw).getD c cp0) 4) ∧ u.2.2.2 5 r = lN (cpk ((lcp l0 g y0 rw).getD c cp0) 5) ∧ rw.getD r rw0 ∈ rw ∧ cpk ((lcp l0 g y0 rw).getD c cp0) 0 = (rw.getD r rw0).1 ∧ cpk ((lcp l0 g y0 rw).getD c cp0) 3 = (rw.getD r rw0).2.1 := by
  obtain ⟨r, i, h1, h2, h3⟩ := ly_loc rw c hc
  obtain ⟨f1, f2, f3, f4, f5, f6, f7⟩ := h.2.2.1 r h1
  have g1 := f7 i h2
  rw [h3, lcp_get l0 g rw y0 r i h1 h2]
  exact ⟨r, h1, g1.1, f1, g1.2, f4, f2, f5, f6, gd_mem _ _ h1, rfl, rfl⟩
set_option maxHeartbeats 4000000 in
set_option maxRecDepth 100000 in
theorem m_P_bad {l : Launch} {s0 : State} {D : va_G} {cA sa : Nat → Nat} (Z : zE l s0 D cA sa) (a : Nat → Nat) (ii : Nat → Int32) (li : Nat → Int64) (ia : Nat → Nat → Int32) (la : Nat → Nat → Int64) (bd : Nat → Nat) (y : Nat → Nat) (iy : Nat → Int32) (ly : Nat → Int64) (jy : Nat → Nat → Int32) (ky : Nat → Nat → Int64) (hya : y 0 = a 6) (l0 y0 g : Nat) (rw : List Rw) (bf : Nat → Bool) (hy : yR l0 y0 g rw bf (iy, ly, jy, ky)) (hok : okR l0 y0 g rw) (v on : Int32) (hon : on = 0 ∨ on = 1) (sz : Nat) : th_Met l y_P_bad [.code y_P_bad c_P_bad 4 (some .boolean)] ({ frames := 10, cells := 1, slots := 6, locals := 300 }) (wP s0 D [.ref (a 0), .int v, .int on] ((w_P a cA ii li ia la bd) ++ (w_Y y cA iy ly jy ky)) sz) (th_Qi (fun (r : Int32) (u : Nat → Nat → Int32) => ∃ c, c < ly_n rw ∧ v = nI c ∧ r = (if jy 8 c = on then 0 else 1) ∧ u = va_up jy 8 (upd (jy 8) c on)) (wB D (va_A ((w_P a cA ii li ia la bd) ++ (w_Y y cA iy ly jy ky)) sz) (fun (u : Nat → Nat → Int32) => (w_P a cA ii li ia la bd) ++ (w_Y y cA iy ly u ky))) (va_A ((w_P a cA ii li ia la bd) ++ (w_Y y cA iy ly jy ky)) sz) (fun x H t => ¬ (∃ c, c < ly_n rw ∧ v = nI c) ∧ th_X "java/lang/IndexOutOfBoundsException" x H t)) 1 6 (va_A ((w_P a cA ii li ia la bd) ++ (w_Y y cA iy ly jy ky)) sz) := by
  refine wMetT Z (by decide) (Nat.le_of_ble_eq_true rfl) ?_
  intro p e s m below meth c hx hb hr hml hown hlk hem hg hK hsz hP hD hA hlo hS ls hl
  subst hsz
  have hown : s.vm.findClass R_P = some m.cls := hown
  have hS0 : va_S (fun q => s.heap.size ≤ q) s.heap s.heap [] := va_S.rf
  have hn160 : ly_n rw ≤ 160 := Nat.le_trans (ok_n (fun z hz => (hok.2.2.2.2 z hz).2.2.2.1)) (by have := hok.2.2.2.1; omega)
  refine lv_aload_n hx hb d_P_bad_0 rfl (lv_at hl 0 rfl) ?_
  refine lv_iload_n hx hb d_P_bad_1 rfl (lv_at hl 1 rfl) ?_
  refine w_check (wt_runV (rest := []) hx hb hml hown hl.1 hg hlo hK hP hD (qS hS0 hA) (m_P_checkCopy Z a ii li ia la bd y iy ly jy ky hya v (ly_n rw) hy.1.2 (by omega) s.heap.size) (kw458 Z.1) (kw460 Z.1) (kp_P_checkCopy Z.1) (kw461 Z.1) (kw1 Z.1) ⟨by decide, by decide, (by decide +kernel : (parseMethodDescriptor y_P_checkCopy.desc).map (fun d => d.parameters.length) = some 1)⟩ ⟨Nat.le_of_ble_eq_true rfl, Nat.le_of_ble_eq_true rfl⟩ [0, 1, 2, 3, 4, 5, 6, 7, 8, 9, 10, 11, 12, 13, 14] rfl rfl (ci := 0) (q0 := 0) rfl rfl rfl (Nat.le_of_ble_eq_true rfl) d_P_bad_2 ⟨Nat.le_of_ble_eq_true rfl, Nat.le_of_ble_eq_true rfl⟩) hP hS0 (fun H locs hc1 hP hS0 => ?_) (fun x t locs1 al hth hS1 => ?_)
  · skip
    refine W.widen (k := 1) (n := 6) (Nat.le_of_ble_eq_true rfl) (Nat.le_of_ble_eq_true rfl) ?_
    have hS := qS hS0 hA
    obtain ⟨c0, hc, rfl⟩ := hc1
    have hnar : vp_nar .boolean on = on := by rcases hon with h | h <;> rw [h] <;> rfl
    refine lv_aload_n hx hb d_P_bad_5 rfl (lv_at hl 0 rfl) ?_
    refine va_get (D := D) (ci := 0) (v := .ref (a 6)) (C := R_P) (T := T_P) (N := 10) hx hb (uw_P Z.1 hg.1) (fun _ h => h) hown hK hP 0 rfl rfl 5 (by decide) (kw203 Z.1 _ _ hg.1) (fun _ h9 => h9) rfl d_P_bad_6 ?_
    rw [← hya]
    refine va_getN (D := D) (ci := 3) (v := .ref (y 9)) (C := R_Y) (T := T_Y) (N := 17) hx hb (uw_Y Z.1 hg.1) (fun _ h => h) hown hK hP 3 rfl rfl 8 (by decide) (kw148 Z.1 _ _ hg.1) (fun _ h9 => h9) rfl d_P_bad_9 ?_
    refine lv_iload_n hx hb d_P_bad_12 rfl (lv_at hl 1 rfl) ?_
    refine va_zald hx hb hK hP 12 2 rfl rfl (vp_in_nI (n := c0) (N := 160) (by omega) (by decide)) d_P_bad_13 ?_
    refine lv_topi (fun z1 ez1 => ?_)
    rw [nI_clamp (n := c0) (by omega)] at ez1
    obtain rfl : z1 = ((jy 8) c0) := ez1
    refine lv_iload_n hx hb d_P_bad_14 rfl (lv_at hl 2 rfl) ?_
    refine lv_icmp_eq (tgt := 22) hx hb d_P_bad_15 (by decide) (fun d2 => ?_) (fun d2 => ?_)
    · refine lv_iconst (v := 0) hx hb d_P_bad_22 (by decide) ?_
      refine lv_istore_n (lv' := [(3, .int 0), (0, .ref (a 0)), (1, .int (nI c0)), (2, .int on)]) hx hb d_P_bad_23 rfl hl (by decide) rfl (fun ls hl => ?_)
      refine lv_aload_n hx hb d_P_bad_24 rfl (lv_at hl 1 rfl) ?_
      refine va_get (D := D) (ci := 0) (v := .ref (a 6)) (C := R_P) (T := T_P) (N := 10) hx hb (uw_P Z.1 hg.1) (fun _ h => h) hown hK hP 0 rfl rfl 5 (by decide) (kw203 Z.1 _ _ hg.1) (fun _ h9 => h9) rfl d_P_bad_25 ?_
      rw [← hya]
      refine va_getN (D := D) (ci := 3) (v := .ref (y 9)) (C := R_Y) (T := T_Y) (N := 17) hx hb (uw_Y Z.1 hg.1) (fun _ h => h) hown hK hP 3 rfl rfl 8 (by decide) (kw148 Z.1 _ _ hg.1) (fun _ h9 => h9) rfl d_P_bad_28 ?_
      refine lv_iload_n hx hb d_P_bad_31 rfl (lv_at hl 2 rfl) ?_
      refine lv_iload_n hx hb d_P_bad_32 rfl (lv_at hl 3 rfl) ?_
      refine va_zast hx hb hK hP hD hS 12 2 rfl rfl (vp_in_nI (n := c0) (N := 160) (by omega) (by decide)) d_P_bad_33 (fun H locs hP hD hS => ?_)
      rw [nI_clamp (n := c0) (by omega)] at hP hD
      have hP : va_P D ncl ((w_P a cA ii li ia la bd) ++ (w_Y y cA iy ly (va_up jy 8 (upd (jy 8) c0 (vp_nar .boolean on))) ky)) H := hP
      have hD : va_D _ ((w_P a cA ii li ia la bd) ++ (w_Y y cA iy ly (va_up jy 8 (upd (jy 8) c0 (vp_nar .boolean on))) ky)) := hD
      refine lv_iload_n hx hb d_P_bad_34 rfl (lv_at hl 0 rfl) ?_
      refine W.widen (k := 1) (n := 6) (Nat.le_of_ble_eq_true rfl) (Nat.le_of_ble_eq_true rfl) ?_
      exact wt_zret hx hb hr rfl hlk hP hD hS (va_up jy 8 (upd (jy 8) c0 (vp_nar .boolean on))) rfl ⟨c0, hc, rfl, by rw [if_pos d2], by rw [hnar]⟩ d_P_bad_35
    · refine lv_iconst (v := 1) hx hb d_P_bad_18 (by decide) ?_
      refine lv_goto (tgt := 23) hx hb d_P_bad_19 (by decide) ?_
      refine lv_istore_n (lv' := [(3, .int 1), (0, .ref (a 0)), (1, .int (nI c0)), (2, .int on)]) hx hb d_P_bad_23 rfl hl (by decide) rfl (fun ls hl => ?_)
      refine lv_aload_n hx hb d_P_bad_24 rfl (lv_at hl 1 rfl) ?_
      refine va_get (D := D) (ci := 0) (v := .ref (a 6)) (C := R_P) (T := T_P) (N := 10) hx hb (uw_P Z.1 hg.1) (fun _ h => h) hown hK hP 0 rfl rfl 5 (by decide) (kw203 Z.1 _ _ hg.1) (fun _ h9 => h9) rfl d_P_bad_25 ?_
      rw [← hya]
      refine va_getN (D := D) (ci := 3) (v := .ref (y 9)) (C := R_Y) (T := T_Y) (N := 17) hx hb (uw_Y Z.1 hg.1) (fun _ h => h) hown hK hP 3 rfl rfl 8 (by decide) (kw148 Z.1 _ _ hg.1) (fun _ h9 => h9) rfl d_P_bad_28 ?_
      refine lv_iload_n hx hb d_P_bad_31 rfl (lv_at hl 2 rfl) ?_
      refine lv_iload_n hx hb d_P_bad_32 rfl (lv_at hl 3 rfl) ?_
      refine va_zast hx hb hK hP hD hS 12 2 rfl rfl (vp_in_nI (n := c0) (N := 160) (by omega) (by decide)) d_P_bad_33 (fun H locs hP hD hS => ?_)
      rw [nI_clamp (n := c0) (by omega)] at hP hD
      have hP : va_P D ncl ((w_P a cA ii li ia la bd) ++ (w_Y y cA iy ly (va_up jy 8 (upd (jy 8) c0 (vp_nar .boolean on))) ky)) H := hP
      have hD : va_D _ ((w_P a cA ii li ia la bd) ++ (w_Y y cA iy ly (va_up jy 8 (upd (jy 8) c0 (vp_nar .boolean on))) ky)) := hD
      refine lv_iload_n hx hb d_P_bad_34 rfl (lv_at hl 0 rfl) ?_
      refine W.widen (k := 1) (n := 6) (Nat.le_of_ble_eq_true rfl) (Nat.le_of_ble_eq_true rfl) ?_
      exact wt_zret hx hb hr rfl hlk hP hD hS (va_up jy 8 (upd (jy 8) c0 (vp_nar .boolean on))) rfl ⟨c0, hc, rfl, by rw [if_neg d2], by rw [hnar]⟩ d_P_bad_35
  · refine th_wid (k := 1) (n := 6) (Nat.le_of_ble_eq_true rfl) (Nat.le_of_ble_eq_true rfl) ?_
    exact wt_pass hem hlk hA hS1 (fun t1 ht hW => have hX := th_up hth.2 hS0 ht al hW; ⟨Or.inr ⟨x, rfl, hth.1, hX⟩, xF hX⟩)
set_option maxHeartbeats 4000000 in
set_option maxRecDepth 100000 in
theorem m_P_at {l : Launch} {s0 : State} {D : va_G} {cA sa : Nat → Nat} (Z : zE l s0 D cA sa) (a : Nat → Nat) (ii : Nat → Int32) (li : Nat → Int64) (ia : Nat → Nat → Int32) (la : Nat → Nat → Int64) (bd : Nat → Nat) (y : Nat → Nat) (iy : Nat → Int32) (ly : Nat → Int64) (jy : Nat → Nat → Int32) (ky : Nat → Nat → Int64) (hya : y 0 = a 6) (l0 y0 g : Nat) (rw : List Rw) (bf : Nat → Bool) (hy : yR l0 y0 g rw bf (iy, ly, jy, ky)) (hok : okR l0 y0 g rw) (v k : Int32) (sz : Nat) : th_Met l y_P_at [.code y_P_at c_P_at 4 (some .long)] ({ frames := 10, cells := 2, slots := 12, locals := 300 }) (wP s0 D [.ref (a 0), .int v, .int k] ((w_P a cA ii li ia la bd) ++ (w_Y y cA iy ly jy ky)) sz) (th_Ql (fun (r : Int64) (_ : Unit) => ∃ c j, c < ly_n rw ∧ v = nI c ∧ j < 6 ∧ k = nI j ∧ r = lN (cpk ((lcp l0 g y0 rw).getD c cp0) j)) (wB D (va_A ((w_P a cA ii li ia la bd) ++ (w_Y y cA iy ly jy ky)) sz) (fun _ => (w_P a cA ii li ia la bd) ++ (w_Y y cA iy ly jy ky))) (va_A ((w_P a cA ii li ia la bd) ++ (w_Y y cA iy ly jy ky)) sz) (fun x H t => ¬ ((∃ c, c < ly_n rw ∧ v = nI c) ∧ ∃ j, j < 6 ∧ k = nI j) ∧ th_X "java/lang/IndexOutOfBoundsException" x H t)) 2 12 (va_A ((w_P a cA ii li ia la bd) ++ (w_Y y cA iy ly jy ky)) sz) := by
  refine wMetT Z (by decide) (Nat.le_of_ble_eq_true rfl) ?_
  intro p e s m below meth c hx hb hr hml hown hlk hem hg hK hsz hP hD hA hlo hS ls hl
  subst hsz
  have hown : s.vm.findClass R_P = some m.cls := hown
  have hS0 : va_S (fun q => s.heap.size ≤ q) s.heap s.heap [] := va_S.rf
  have hn160 : ly_n rw ≤ 160 := Nat.le_trans (ok_n (fun z hz => (hok.2.2.2.2 z hz).2.2.2.1)) (by have := hok.2.2.2.1; omega)
  have h8 := hok.2.2.2.1
  refine lv_aload_n hx hb d_P_at_0 rfl (lv_at hl 0 rfl) ?_
  refine lv_iload_n hx hb d_P_at_1 rfl (lv_at hl 1 rfl) ?_
  refine w_check (wt_runV (rest := []) hx hb hml hown hl.1 hg hlo hK hP hD (qS hS0 hA) (m_P_checkCopy Z a ii li ia la bd y iy ly jy ky hya v (ly_n rw) hy.1.2 (by omega) s.heap.size) (kw458 Z.1) (kw460 Z.1) (kp_P_checkCopy Z.1) (kw461 Z.1) (kw1 Z.1) ⟨by decide, by decide, (by decide +kernel : (parseMethodDescriptor y_P_checkCopy.desc).map (fun d => d.parameters.length) = some 1)⟩ ⟨Nat.le_of_ble_eq_true rfl, Nat.le_of_ble_eq_true rfl⟩ [0, 1, 2, 3, 4, 5, 6, 7, 8, 9, 10, 11, 12, 13, 14] rfl rfl (ci := 0) (q0 := 0) rfl rfl rfl (Nat.le_of_ble_eq_true rfl) d_P_at_2 ⟨Nat.le_of_ble_eq_true rfl, Nat.le_of_ble_eq_true rfl⟩) hP hS0 (fun H locs hc1 hP hS0 => ?_) (fun x t locs1 al hth hS1 => ?_)
  · skip
    refine W.widen (k := 1) (n := 6) (Nat.le_of_ble_eq_true rfl) (Nat.le_of_ble_eq_true rfl) ?_
    have hS := qS hS0 hA
    obtain ⟨c0, hc, rfl⟩ := hc1
    obtain ⟨r0, w1, w2, w3, w4, w5, w6, w7, w8, w9, w10, w11⟩ := yR_cp hy hc
    dsimp only at w2 w3 w4 w5 w6 w7 w8
    have hb4 := (hok.2.2.2.2 _ w9).1
    have ht2 := (hok.2.2.2.2 _ w9).2.1
    refine lv_aload_n hx hb d_P_at_5 rfl (lv_at hl 0 rfl) ?_
    refine va_get (D := D) (ci := 0) (v := .ref (a 6)) (C := R_P) (T := T_P) (N := 10) hx hb (uw_P Z.1 hg.1) (fun _ h => h) hown hK hP 0 rfl rfl 5 (by decide) (kw203 Z.1 _ _ hg.1) (fun _ h9 => h9) rfl d_P_at_6 ?_
    rw [← hya]
    refine va_getN (D := D) (ci := 3) (v := .ref (y 7)) (C := R_Y) (T := T_Y) (N := 17) hx hb (uw_Y Z.1 hg.1) (fun _ h => h) hown hK hP 3 rfl rfl 6 (by decide) (kw144 Z.1 _ _ hg.1) (fun _ h9 => h9) rfl d_P_at_9 ?_
    refine lv_iload_n hx hb d_P_at_12 rfl (lv_at hl 1 rfl) ?_
    refine va_iald hx hb hK hP 10 0 rfl rfl (vp_in_nI (n := c0) (N := 160) (by omega) (by decide)) d_P_at_13 ?_
    refine lv_topi (fun z1 ez1 => ?_)
    rw [nI_clamp (n := c0) (by omega)] at ez1
    obtain rfl : z1 = ((jy 6) c0) := ez1
    refine lv_topi (fun z2 ez2 => ?_)
    obtain rfl : z2 = (nI r0) := by rw [ez2]; exact w2
    refine lv_istore_n (lv' := [(3, .int (nI r0)), (0, .ref (a 0)), (1, .int (nI c0)), (2, .int k)]) hx hb d_P_at_14 rfl hl (by decide) rfl (fun ls hl => ?_)
    refine lv_iload_n hx hb d_P_at_15 rfl (lv_at hl 3 rfl) ?_
    by_cases hk6 : ∃ j, j < 6 ∧ k = nI j
    · obtain ⟨j, hj, rfl⟩ := hk6
      have hj5 : j = 0 ∨ j = 1 ∨ j = 2 ∨ j = 3 ∨ j = 4 ∨ j = 5 := by omega
      rcases hj5 with rfl | rfl | rfl | rfl | rfl | rfl
      · refine lv_tableIn (tgt := 56) hx hb d_P_at_16 (by decide) (by decide) rfl (by decide) ?_
        refine lv_aload_n hx hb d_P_at_56 rfl (lv_at hl 1 rfl) ?_
        refine va_get (D := D) (ci := 0) (v := .ref (a 6)) (C := R_P) (T := T_P) (N := 10) hx hb (uw_P Z.1 hg.1) (fun _ h => h) hown hK hP 0 rfl rfl 5 (by decide) (kw203 Z.1 _ _ hg.1) (fun _ h9 => h9) rfl d_P_at_57 ?_
        rw [← hya]
        refine va_getN (D := D) (ci := 3) (v := .ref (y 1)) (C := R_Y) (T := T_Y) (N := 17) hx hb (uw_Y Z.1 hg.1) (fun _ h => h) hown hK hP 3 rfl rfl 0 (by decide) (kw132 Z.1 _ _ hg.1) (fun _ h9 => h9) rfl d_P_at_60 ?_
        refine lv_iload_n hx hb d_P_at_63 rfl (lv_at hl 0 rfl) ?_
        refine va_iald hx hb hK hP 4 0 rfl rfl (vp_in_nI (n := r0) (N := 8) (by omega) (by decide)) d_P_at_64 ?_
        refine lv_topi (fun z3 ez3 => ?_)
        rw [nI_clamp (n := r0) (by omega)] at ez3
        obtain rfl : z3 = ((jy 0) r0) := ez3
        refine lv_i2l hx hb d_P_at_65 rfl ?_
        refine W.widen (k := 2) (n := 12) (Nat.le_of_ble_eq_true rfl) (Nat.le_of_ble_eq_true rfl) ?_
        exact wt_lret hx hb hr hlk hP hD hS () rfl ⟨c0, 0, hc, rfl, by decide, rfl, by rw [w3, iN_i2l (by omega), lZ_nat]⟩ d_P_at_66
      · refine lv_tableIn (tgt := 67) hx hb d_P_at_16 (by decide) (by decide) rfl (by decide) ?_
        refine lv_aload_n hx hb d_P_at_67 rfl (lv_at hl 1 rfl) ?_
        refine va_get (D := D) (ci := 0) (v := .ref (a 6)) (C := R_P) (T := T_P) (N := 10) hx hb (uw_P Z.1 hg.1) (fun _ h => h) hown hK hP 0 rfl rfl 5 (by decide) (kw203 Z.1 _ _ hg.1) (fun _ h9 => h9) rfl d_P_at_68 ?_
        rw [← hya]
        refine va_getN (D := D) (ci := 3) (v := .ref (y 8)) (C := R_Y) (T := T_Y) (N := 17) hx hb (uw_Y Z.1 hg.1) (fun _ h => h) hown hK hP 3 rfl rfl 7 (by decide) (kw146 Z.1 _ _ hg.1) (fun _ h9 => h9) rfl d_P_at_71 ?_
        refine lv_iload_n hx hb d_P_at_74 rfl (lv_at hl 2 rfl) ?_
        refine va_lald hx hb hK hP 11 1 rfl rfl (vp_in_nI (n := c0) (N := 160) (by omega) (by decide)) d_P_at_75 ?_
        refine lv_topl (fun z4 ez4 => ?_)
        rw [nI_clamp (n := c0) (by omega)] at ez4
        obtain rfl : z4 = ((ky 7) c0) := ez4
        refine W.widen (k := 2) (n := 12) (Nat.le_of_ble_eq_true rfl) (Nat.le_of_ble_eq_true rfl) ?_
        exact wt_lret hx hb hr hlk hP hD hS () rfl ⟨c0, 1, hc, rfl, by decide, rfl, by rw [w4]⟩ d_P_at_76
      · refine lv_tableIn (tgt := 77) hx hb d_P_at_16 (by decide) (by decide) rfl (by decide) ?_
        refine lv_aload_n hx hb d_P_at_77 rfl (lv_at hl 1 rfl) ?_
        refine va_get (D := D) (ci := 0) (v := .ref (a 6)) (C := R_P) (T := T_P) (N := 10) hx hb (uw_P Z.1 hg.1) (fun _ h => h) hown hK hP 0 rfl rfl 5 (by decide) (kw203 Z.1 _ _ hg.1) (fun _ h9 => h9) rfl d_P_at_78 ?_
        rw [← hya]
        refine va_getN (D := D) (ci := 3) (v := .ref (y 4)) (C := R_Y) (T := T_Y) (N := 17) hx hb (uw_Y Z.1 hg.1) (fun _ h => h) hown hK hP 3 rfl rfl 3 (by decide) (kw138 Z.1 _ _ hg.1) (fun _ h9 => h9) rfl d_P_at_81 ?_
        refine lv_iload_n hx hb d_P_at_84 rfl (lv_at hl 0 rfl) ?_
        refine va_lald hx hb hK hP 7 1 rfl rfl (vp_in_nI (n := r0) (N := 8) (by omega) (by decide)) d_P_at_85 ?_
        refine lv_topl (fun z5 ez5 => ?_)
        rw [nI_clamp (n := r0) (by omega)] at ez5
        obtain rfl : z5 = ((ky 3) r0) := ez5
        refine W.widen (k := 2) (n := 12) (Nat.le_of_ble_eq_true rfl) (Nat.le_of_ble_eq_true rfl) ?_
        exact wt_lret hx hb hr hlk hP hD hS () rfl ⟨c0, 2, hc, rfl, by decide, rfl, by rw [w5]⟩ d_P_at_86
      · refine lv_tableIn (tgt := 87) hx hb d_P_at_16 (by decide) (by decide) rfl (by decide) ?_
        refine lv_aload_n hx hb d_P_at_87 rfl (lv_at hl 1 rfl) ?_
        refine va_get (D := D) (ci := 0) (v := .ref (a 6)) (C := R_P) (T := T_P) (N := 10) hx hb (uw_P Z.1 hg.1) (fun _ h => h) hown hK hP 0 rfl rfl 5 (by decide) (kw203 Z.1 _ _ hg.1) (fun _ h9 => h9) rfl d_P_at_88 ?_
        rw [← hya]
        refine va_getN (D := D) (ci := 3) (v := .ref (y 2)) (C := R_Y) (T := T_Y) (N := 17) hx hb (uw_Y Z.1 hg.1) (fun _ h => h) hown hK hP 3 rfl rfl 1 (by decide) (kw134 Z.1 _ _ hg.1) (fun _ h9 => h9) rfl d_P_at_91 ?_
        refine lv_iload_n hx hb d_P_at_94 rfl (lv_at hl 0 rfl) ?_
        refine va_iald hx hb hK hP 5 0 rfl rfl (vp_in_nI (n := r0) (N := 8) (by omega) (by decide)) d_P_at_95 ?_
        refine lv_topi (fun z6 ez6 => ?_)
        rw [nI_clamp (n := r0) (by omega)] at ez6
        obtain rfl : z6 = ((jy 1) r0) := ez6
        refine lv_i2l hx hb d_P_at_96 rfl ?_
        refine W.widen (k := 2) (n := 12) (Nat.le_of_ble_eq_true rfl) (Nat.le_of_ble_eq_true rfl) ?_
        exact wt_lret hx hb hr hlk hP hD hS () rfl ⟨c0, 3, hc, rfl, by decide, rfl, by rw [w6, iN_i2l (by omega), lZ_nat]⟩ d_P_at_97
      · refine lv_tableIn (tgt := 98) hx hb d_P_at_16 (by decide) (by decide) rfl (by decide) ?_
        refine lv_aload_n hx hb d_P_at_98 rfl (lv_at hl 1 rfl) ?_
        refine va_get (D := D) (ci := 0) (v := .ref (a 6)) (C := R_P) (T := T_P) (N := 10) hx hb (uw_P Z.1 hg.1) (fun _ h => h) hown hK hP 0 rfl rfl 5 (by decide) (kw203 Z.1 _ _ hg.1) (fun _ h9 => h9) rfl d_P_at_99 ?_
        rw [← hya]
        refine va_getN (D := D) (ci := 3) (v := .ref (y 5)) (C := R_Y) (T := T_Y) (N := 17) hx hb (uw_Y Z.1 hg.1) (fun _ h => h) hown hK hP 3 rfl rfl 4 (by decide) (kw140 Z.1 _ _ hg.1) (fun _ h9 => h9) rfl d_P_at_102 ?_
        refine lv_iload_n hx hb d_P_at_105 rfl (lv_at hl 0 rfl) ?_
        refine va_lald hx hb hK hP 8 1 rfl rfl (vp_in_nI (n := r0) (N := 8) (by omega) (by decide)) d_P_at_106 ?_
        refine lv_topl (fun z7 ez7 => ?_)
        rw [nI_clamp (n := r0) (by omega)] at ez7
        obtain rfl : z7 = ((ky 4) r0) := ez7
        refine W.widen (k := 2) (n := 12) (Nat.le_of_ble_eq_true rfl) (Nat.le_of_ble_eq_true rfl) ?_
        exact wt_lret hx hb hr hlk hP hD hS () rfl ⟨c0, 4, hc, rfl, by decide, rfl, by rw [w7]⟩ d_P_at_107
      · refine lv_tableIn (tgt := 108) hx hb d_P_at_16 (by decide) (by decide) rfl (by decide) ?_
        refine lv_aload_n hx hb d_P_at_108 rfl (lv_at hl 1 rfl) ?_
        refine va_get (D := D) (ci := 0) (v := .ref (a 6)) (C := R_P) (T := T_P) (N := 10) hx hb (uw_P Z.1 hg.1) (fun _ h => h) hown hK hP 0 rfl rfl 5 (by decide) (kw203 Z.1 _ _ hg.1) (fun _ h9 => h9) rfl d_P_at_109 ?_
        rw [← hya]
        refine va_getN (D := D) (ci := 3) (v := .ref (y 6)) (C := R_Y) (T := T_Y) (N := 17) hx hb (uw_Y Z.1 hg.1) (fun _ h => h) hown hK hP 3 rfl rfl 5 (by decide) (kw142 Z.1 _ _ hg.1) (fun _ h9 => h9) rfl d_P_at_112 ?_
        refine lv_iload_n hx hb d_P_at_115 rfl (lv_at hl 0 rfl) ?_
        refine va_lald hx hb hK hP 9 1 rfl rfl (vp_in_nI (n := r0) (N := 8) (by omega) (by decide)) d_P_at_116 ?_
        refine lv_topl (fun z8 ez8 => ?_)
        rw [nI_clamp (n := r0) (by omega)] at ez8
        obtain rfl : z8 = ((ky 5) r0) := ez8
        refine W.widen (k := 2) (n := 12) (Nat.le_of_ble_eq_true rfl) (Nat.le_of_ble_eq_true rfl) ?_
        exact wt_lret hx hb hr hlk hP hD hS () rfl ⟨c0, 5, hc, rfl, by decide, rfl, by rw [w8]⟩ d_P_at_117
    · refine lv_tableOut (tgt := 118) hx hb d_P_at_16 ?_ (by decide) ?_
      · by_cases hz : k.toInt < 0
        · exact Or.inl hz
        · right; apply Classical.byContradiction; intro hz2; obtain ⟨j, hj, rfl⟩ := nI_of (x := k) (fun q => hz (by rw [Int32.lt_iff_toInt_lt] at q; exact q)); rw [nI_toInt hj] at hz2; exact hk6 ⟨j, by omega, rfl⟩
      · refine W.widen (k := 1) (n := 6) (Nat.le_of_ble_eq_true rfl) (Nat.le_of_ble_eq_true rfl) ?_
        exact w_throwF (C := "java/lang/IndexOutOfBoundsException") hx hb hml hl.1 hown hlk hem Z.2.2.1 hS0 (kw276 Z.1 _ _ hg.1) (kw277 Z.1 _ _ hg.1) (kw10 Z.1 _ _ hg.1) (vk_R.warm hg.1 (Z.2.2.2.1 (130, "a copy tells 0 to 5") (by decide))) (ow_132 Z hg) (by decide) d_P_at_118 d_P_at_121 d_P_at_122 d_P_at_124 d_P_at_127 (Nat.le_of_ble_eq_true rfl) (Nat.le_of_ble_eq_true rfl) (Nat.le_of_ble_eq_true rfl) (Nat.le_of_ble_eq_true rfl) (fun x t hW hX => ⟨Or.inr ⟨x, rfl, fun z => hk6 z.2, hX⟩, xF hX⟩)
  · refine th_wid (k := 2) (n := 12) (Nat.le_of_ble_eq_true rfl) (Nat.le_of_ble_eq_true rfl) ?_
    exact wt_pass hem hlk hA hS1 (fun t1 ht hW => have hX := th_up hth.2 hS0 ht al hW; ⟨Or.inr ⟨x, rfl, fun z => hth.1 z.1, hX⟩, xF hX⟩)
