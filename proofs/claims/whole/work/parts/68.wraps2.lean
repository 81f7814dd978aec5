theorem out0 (f : Nat → Int64) (v : Int64) : vp_updL f (Int32.toNatClampNeg 0) v 0 = v := updL_s f 0 v
set_option maxHeartbeats 4000000 in
set_option maxRecDepth 100000 in
theorem m_L_gap {l : Launch} {s0 : State} {D : va_G} {cA sa : Nat → Nat} (Z : zE l s0 D cA sa) (N9 : zN s0) (a : Nat → Nat) (ii : Nat → Int32) (li : Nat → Int64) (ia : Nat → Nat → Int32) (la : Nat → Nat → Int64) (bd : Nat → Nat) (v : Int64) (oA : Nat) (oF : Nat → Int64) (sz : Nat) : th_Met l y_L_gap [.codeWith y_L_gap c_L_gap 5 (some .int) [(0, 16, 19, 15)]] ({ frames := 12, cells := 1, slots := 6, locals := 380 }) (wP s0 D [.ref (a 0), .long v, .ref oA] ((w_P a cA ii li ia la bd) ++ [(oA, .inl (cA 1, 1, .inr (.inl oF)))]) sz) (th_Qi (fun (r9 : Int32) (u9 : (Nat → Int64) × (Nat → Int64)) => (∃ v9, r9 = 0 ∧ (fun (r : Int32) (u : Nat → Int64) => (0 ≤ v ∧ v ≤ 65536) ∧ r = (if li 7 = v then 0 else 1) ∧ u = va_up li 7 v) v9 u9.1 ∧ u9.2 0 = (if v9 = 0 then 0 else 1)) ∨ (r9 = 1 ∧ (¬ (0 ≤ v ∧ v ≤ 65536)) ∧ u9 = (li, oF))) (wB D (va_A ((w_P a cA ii li ia la bd) ++ [(oA, .inl (cA 1, 1, .inr (.inl oF)))]) sz) (fun (u9 : (Nat → Int64) × (Nat → Int64)) => ((fun (u : Nat → Int64) => w_P a cA ii u ia la bd) u9.1) ++ [(oA, .inl (cA 1, 1, .inr (.inl u9.2)))])) (va_A ((w_P a cA ii li ia la bd) ++ [(oA, .inl (cA 1, 1, .inr (.inl oF)))]) sz) (fun _ _ _ => False)) 1 6 (va_A ((w_P a cA ii li ia la bd) ++ [(oA, .inl (cA 1, 1, .inr (.inl oF)))]) sz) := by
  refine wMetW Z (by decide) (Nat.le_of_ble_eq_true rfl) ?_
  intro p e s m below meth c hx hb hr hml hown hlk htab hg hK hsz hP hD hA hlo hS ls hl
  subst hsz
  have hown : s.vm.findClass R_L = some m.cls := hown
  refine lv_aload_n hx hb d_L_gap_0 rfl (lv_at hl 2 rfl) ?_
  refine lv_iconst (v := 0) hx hb d_L_gap_1 (by decide) ?_
  refine lv_aload_n hx hb d_L_gap_2 rfl (lv_at hl 0 rfl) ?_
  refine lv_lload_n hx hb d_L_gap_3 rfl (lv_at hl 1 rfl) ?_
  refine wt_calli (wr := [(oA, .inl (cA 1, 1, .inr (.inl oF)))]) (wt_runV (rest := [.int 0, .ref oA]) hx hb hml hown hl.1 hg hlo hK hP hD hS (m_P_gap Z a ii li ia la bd v s.heap.size) (kw467 Z.1) (kw468 Z.1) (kw469 Z.1) (kw470 Z.1) (kw1 Z.1) ⟨by decide, by decide, (by decide +kernel : (parseMethodDescriptor y_P_gap.desc).map (fun d => d.parameters.length) = some 1)⟩ ⟨(Nat.le_of_ble_eq_true rfl), (Nat.le_of_ble_eq_true rfl)⟩ [0, 1, 2] rfl rfl (ci := 0) (q0 := 0) rfl rfl rfl (Nat.le_of_ble_eq_true rfl) d_L_gap_4 ⟨(Nat.le_of_ble_eq_true rfl), (Nat.le_of_ble_eq_true rfl)⟩) hP hD hS hA [0, 1, 2] [3] rfl rfl rfl (by decide) (fun (u9 : Nat → Int64) => ((fun (u : Nat → Int64) => w_P a cA ii u ia la bd) u9) ++ [(oA, .inl (cA 1, 1, .inr (.inl oF)))]) [1, 2, 3, 0] rfl (fun _ => rfl) (fun v9 u9 H locs hq hP hD hS => ?_) (fun x9 t9 locs1 al hth hS1 => ?_)
  · refine W.widen (k := 1) (n := 6) (Nat.le_of_ble_eq_true rfl) (Nat.le_of_ble_eq_true rfl) ?_
    refine lv_if_eq (tgt := 14) hx hb d_L_gap_7 (by decide) (fun c1 => ?_) (fun c1 => ?_)
    · refine lv_lconst (v := 0) hx hb d_L_gap_14 (by decide) ?_
      refine va_last hx hb hK hP hD hS 3 1 rfl rfl (by unfold vp_in; decide) d_L_gap_15 (fun H locs hP hD hS => ?_)
      refine lv_goto (tgt := 23) hx hb d_L_gap_16 (by decide) ?_
      refine lv_iconst (v := 0) hx hb d_L_gap_23 (by decide) ?_
      exact wt_iret hx hb hr hlk hP hD hS ((u9, vp_updL oF (Int32.toNatClampNeg 0) 0) : (Nat → Int64) × (Nat → Int64)) rfl (Or.inl ⟨v9, rfl, hq, (out0 oF _).trans (if_pos c1).symm⟩) d_L_gap_24
    · refine lv_lconst (v := 1) hx hb d_L_gap_10 (by decide) ?_
      refine lv_goto (tgt := 15) hx hb d_L_gap_11 (by decide) ?_
      refine va_last hx hb hK hP hD hS 3 1 rfl rfl (by unfold vp_in; decide) d_L_gap_15 (fun H locs hP hD hS => ?_)
      refine lv_goto (tgt := 23) hx hb d_L_gap_16 (by decide) ?_
      refine lv_iconst (v := 0) hx hb d_L_gap_23 (by decide) ?_
      exact wt_iret hx hb hr hlk hP hD hS ((u9, vp_updL oF (Int32.toNatClampNeg 0) 1) : (Nat → Int64) × (Nat → Int64)) rfl (Or.inl ⟨v9, rfl, hq, (out0 oF _).trans (if_neg c1).symm⟩) d_L_gap_24
  · obtain ⟨g0, hX⟩ := hth
    obtain ⟨hX1, hX2, ⟨cell, hc1, hc2, hc3⟩, hX4⟩ := hX
    have hP : va_P D ncl ((w_P a cA ii li ia la bd) ++ [(oA, .inl (cA 1, 1, .inr (.inl oF)))]) t9.heap := kp_P hP hX4
    have hfc : s.vm.findClass "java/lang/IllegalArgumentException" = some cell.cls := by rw [← al.findClass]; exact hc3
    refine ck_1 (own := R_L) (C := "java/lang/IllegalArgumentException") hown htab (by decide) (by decide) (by decide) (kw264 Z.1 _ _ hg.1) hc1 hc2 hfc ?_
    refine W.widen (k := 1) (n := 6) (Nat.le_of_ble_eq_true rfl) (Nat.le_of_ble_eq_true rfl) ?_
    refine lv_astore (lv' := [(4, .ref x9), (0, .ref (a 0)), (1, .long v), (3, .ref oA)]) hx hb d_L_gap_19 hl (by decide) rfl (fun ls hl => ?_)
    refine lv_iconst (v := 1) hx hb d_L_gap_21 (by decide) ?_
    exact wt_iret hx hb hr hlk hP hD hS1 ((li, oF) : (Nat → Int64) × (Nat → Int64)) rfl (Or.inr ⟨rfl, g0, rfl⟩) d_L_gap_22
set_option maxHeartbeats 4000000 in
set_option maxRecDepth 100000 in
theorem m_L_radius {l : Launch} {s0 : State} {D : va_G} {cA sa : Nat → Nat} (Z : zE l s0 D cA sa) (N9 : zN s0) (a : Nat → Nat) (ii : Nat → Int32) (li : Nat → Int64) (ia : Nat → Nat → Int32) (la : Nat → Nat → Int64) (bd : Nat → Nat) (v : Int64) (oA : Nat) (oF : Nat → Int64) (sz : Nat) : th_Met l y_L_radius [.codeWith y_L_radius c_L_radius 5 (some .int) [(0, 16, 19, 15)]] ({ frames := 12, cells := 1, slots := 6, locals := 380 }) (wP s0 D [.ref (a 0), .long v, .ref oA] ((w_P a cA ii li ia la bd) ++ [(oA, .inl (cA 1, 1, .inr (.inl oF)))]) sz) (th_Qi (fun (r9 : Int32) (u9 : (Nat → Int64) × (Nat → Int64)) => (∃ v9, r9 = 0 ∧ (fun (r : Int32) (u : Nat → Int64) => (0 ≤ v ∧ v ≤ 65536) ∧ r = (if li 8 = v then 0 else 1) ∧ u = va_up li 8 v) v9 u9.1 ∧ u9.2 0 = (if v9 = 0 then 0 else 1)) ∨ (r9 = 1 ∧ (¬ (0 ≤ v ∧ v ≤ 65536)) ∧ u9 = (li, oF))) (wB D (va_A ((w_P a cA ii li ia la bd) ++ [(oA, .inl (cA 1, 1, .inr (.inl oF)))]) sz) (fun (u9 : (Nat → Int64) × (Nat → Int64)) => ((fun (u : Nat → Int64) => w_P a cA ii u ia la bd) u9.1) ++ [(oA, .inl (cA 1, 1, .inr (.inl u9.2)))])) (va_A ((w_P a cA ii li ia la bd) ++ [(oA, .inl (cA 1, 1, .inr (.inl oF)))]) sz) (fun _ _ _ => False)) 1 6 (va_A ((w_P a cA ii li ia la bd) ++ [(oA, .inl (cA 1, 1, .inr (.inl oF)))]) sz) := by
  refine wMetW Z (by decide) (Nat.le_of_ble_eq_true rfl) ?_
  intro p e s m below meth c hx hb hr hml hown hlk htab hg hK hsz hP hD hA hlo hS ls hl
  subst hsz
  have hown : s.vm.findClass R_L = some m.cls := hown
  refine lv_aload_n hx hb d_L_radius_0 rfl (lv_at hl 2 rfl) ?_
  refine lv_iconst (v := 0) hx hb d_L_radius_1 (by decide) ?_
  refine lv_aload_n hx hb d_L_radius_2 rfl (lv_at hl 0 rfl) ?_
  refine lv_lload_n hx hb d_L_radius_3 rfl (lv_at hl 1 rfl) ?_
  refine wt_calli (wr := [(oA, .inl (cA 1, 1, .inr (.inl oF)))]) (wt_runV (rest := [.int 0, .ref oA]) hx hb hml hown hl.1 hg hlo hK hP hD hS (m_P_radius Z a ii li ia la bd v s.heap.size) (kw570 Z.1) (kw571 Z.1) (kw572 Z.1) (kw573 Z.1) (kw1 Z.1) ⟨by decide, by decide, (by decide +kernel : (parseMethodDescriptor y_P_radius.desc).map (fun d => d.parameters.length) = some 1)⟩ ⟨(Nat.le_of_ble_eq_true rfl), (Nat.le_of_ble_eq_true rfl)⟩ [0, 1, 2] rfl rfl (ci := 0) (q0 := 0) rfl rfl rfl (Nat.le_of_ble_eq_true rfl) d_L_radius_4 ⟨(Nat.le_of_ble_eq_true rfl), (Nat.le_of_ble_eq_true rfl)⟩) hP hD hS hA [0, 1, 2] [3] rfl rfl rfl (by decide) (fun (u9 : Nat → Int64) => ((fun (u : Nat → Int64) => w_P a cA ii u ia la bd) u9) ++ [(oA, .inl (cA 1, 1, .inr (.inl oF)))]) [1, 2, 3, 0] rfl (fun _ => rfl) (fun v9 u9 H locs hq hP hD hS => ?_) (fun x9 t9 locs1 al hth hS1 => ?_)
  · refine W.widen (k := 1) (n := 6) (Nat.le_of_ble_eq_true rfl) (Nat.le_of_ble_eq_true rfl) ?_
    refine lv_if_eq (tgt := 14) hx hb d_L_radius_7 (by decide) (fun c1 => ?_) (fun c1 => ?_)
    · refine lv_lconst (v := 0) hx hb d_L_radius_14 (by decide) ?_
      refine va_last hx hb hK hP hD hS 3 1 rfl rfl (by unfold vp_in; decide) d_L_radius_15 (fun H locs hP hD hS => ?_)
      refine lv_goto (tgt := 23) hx hb d_L_radius_16 (by decide) ?_
      refine lv_iconst (v := 0) hx hb d_L_radius_23 (by decide) ?_
      exact wt_iret hx hb hr hlk hP hD hS ((u9, vp_updL oF (Int32.toNatClampNeg 0) 0) : (Nat → Int64) × (Nat → Int64)) rfl (Or.inl ⟨v9, rfl, hq, (out0 oF _).trans (if_pos c1).symm⟩) d_L_radius_24
    · refine lv_lconst (v := 1) hx hb d_L_radius_10 (by decide) ?_
      refine lv_goto (tgt := 15) hx hb d_L_radius_11 (by decide) ?_
      refine va_last hx hb hK hP hD hS 3 1 rfl rfl (by unfold vp_in; decide) d_L_radius_15 (fun H locs hP hD hS => ?_)
      refine lv_goto (tgt := 23) hx hb d_L_radius_16 (by decide) ?_
      refine lv_iconst (v := 0) hx hb d_L_radius_23 (by decide) ?_
      exact wt_iret hx hb hr hlk hP hD hS ((u9, vp_updL oF (Int32.toNatClampNeg 0) 1) : (Nat → Int64) × (Nat → Int64)) rfl (Or.inl ⟨v9, rfl, hq, (out0 oF _).trans (if_neg c1).symm⟩) d_L_radius_24
  · obtain ⟨g0, hX⟩ := hth
    obtain ⟨hX1, hX2, ⟨cell, hc1, hc2, hc3⟩, hX4⟩ := hX
    have hP : va_P D ncl ((w_P a cA ii li ia la bd) ++ [(oA, .inl (cA 1, 1, .inr (.inl oF)))]) t9.heap := kp_P hP hX4
    have hfc : s.vm.findClass "java/lang/IllegalArgumentException" = some cell.cls := by rw [← al.findClass]; exact hc3
    refine ck_1 (own := R_L) (C := "java/lang/IllegalArgumentException") hown htab (by decide) (by decide) (by decide) (kw264 Z.1 _ _ hg.1) hc1 hc2 hfc ?_
    refine W.widen (k := 1) (n := 6) (Nat.le_of_ble_eq_true rfl) (Nat.le_of_ble_eq_true rfl) ?_
    refine lv_astore (lv' := [(4, .ref x9), (0, .ref (a 0)), (1, .long v), (3, .ref oA)]) hx hb d_L_radius_19 hl (by decide) rfl (fun ls hl => ?_)
    refine lv_iconst (v := 1) hx hb d_L_radius_21 (by decide) ?_
    exact wt_iret hx hb hr hlk hP hD hS1 ((li, oF) : (Nat → Int64) × (Nat → Int64)) rfl (Or.inr ⟨rfl, g0, rfl⟩) d_L_radius_22
set_option maxHeartbeats 4000000 in
set_option maxRecDepth 100000 in
theorem m_L_rail {l : Launch} {s0 : State} {D : va_G} {cA sa : Nat → Nat} (Z : zE l s0 D cA sa) (N9 : zN s0) (a : Nat → Nat) (ii : Nat → Int32) (li : Nat → Int64) (ia : Nat → Nat → Int32) (la : Nat → Nat → Int64) (bd : Nat → Nat) (sd : Int32) (v : Int64) (oA : Nat) (oF : Nat → Int64) (sz : Nat) : th_Met l y_L_rail [.codeWith y_L_rail c_L_rail 6 (some .int) [(0, 18, 21, 13), (0, 18, 25, 15)]] ({ frames := 12, cells := 2, slots := 12, locals := 380 }) (wP s0 D [.ref (a 0), .int sd, .long v, .ref oA] ((w_P a cA ii li ia la bd) ++ [(oA, .inl (cA 1, 1, .inr (.inl oF)))]) sz) (th_Qi (fun (r9 : Int32) (u9 : (Nat → Nat → Int64) × (Nat → Int64)) => (∃ v9, r9 = 0 ∧ (fun (r : Int32) (u : Nat → Nat → Int64) => ∃ k, k < 4 ∧ sd = nI k ∧ okL v ∧ r = (if la 3 k = v then 0 else 1) ∧ u = va_up la 3 (vp_updL (la 3) k v)) v9 u9.1 ∧ u9.2 0 = (if v9 = 0 then 0 else 1)) ∨ (r9 = 1 ∧ (¬ (∃ k, k < 4 ∧ sd = nI k)) ∧ u9 = (la, oF)) ∨ (r9 = 2 ∧ ((∃ k, k < 4 ∧ sd = nI k) ∧ ¬ okL v) ∧ u9 = (la, oF))) (wB D (va_A ((w_P a cA ii li ia la bd) ++ [(oA, .inl (cA 1, 1, .inr (.inl oF)))]) sz) (fun (u9 : (Nat → Nat → Int64) × (Nat → Int64)) => ((fun (u : Nat → Nat → Int64) => w_P a cA ii li ia u bd) u9.1) ++ [(oA, .inl (cA 1, 1, .inr (.inl u9.2)))])) (va_A ((w_P a cA ii li ia la bd) ++ [(oA, .inl (cA 1, 1, .inr (.inl oF)))]) sz) (fun _ _ _ => False)) 2 12 (va_A ((w_P a cA ii li ia la bd) ++ [(oA, .inl (cA 1, 1, .inr (.inl oF)))]) sz) := by
  refine wMetW Z (by decide) (Nat.le_of_ble_eq_true rfl) ?_
  intro p e s m below meth c hx hb hr hml hown hlk htab hg hK hsz hP hD hA hlo hS ls hl
  subst hsz
  have hown : s.vm.findClass R_L = some m.cls := hown
  refine lv_aload hx hb d_L_rail_0 (lv_at hl 3 rfl) ?_
  refine lv_iconst (v := 0) hx hb d_L_rail_2 (by decide) ?_
  refine lv_aload_n hx hb d_L_rail_3 rfl (lv_at hl 0 rfl) ?_
  refine lv_iload_n hx hb d_L_rail_4 rfl (lv_at hl 1 rfl) ?_
  refine lv_lload_n hx hb d_L_rail_5 rfl (lv_at hl 2 rfl) ?_
  refine wt_calli (wr := [(oA, .inl (cA 1, 1, .inr (.inl oF)))]) (wt_runV (rest := [.int 0, .ref oA]) hx hb hml hown hl.1 hg hlo hK hP hD hS (m_P_rail Z a ii li ia la bd sd v s.heap.size) (kw584 Z.1) (kw585 Z.1) (kw586 Z.1) (kw587 Z.1) (kw1 Z.1) ⟨by decide, by decide, (by decide +kernel : (parseMethodDescriptor y_P_rail.desc).map (fun d => d.parameters.length) = some 2)⟩ ⟨(Nat.le_of_ble_eq_true rfl), (Nat.le_of_ble_eq_true rfl)⟩ [0, 1, 2] rfl rfl (ci := 0) (q0 := 0) rfl rfl rfl (Nat.le_of_ble_eq_true rfl) d_L_rail_6 ⟨(Nat.le_of_ble_eq_true rfl), (Nat.le_of_ble_eq_true rfl)⟩) hP hD hS hA [0, 1, 2] [3] rfl rfl rfl (by decide) (fun (u9 : Nat → Nat → Int64) => ((fun (u : Nat → Nat → Int64) => w_P a cA ii li ia u bd) u9) ++ [(oA, .inl (cA 1, 1, .inr (.inl oF)))]) [1, 2, 3, 0] rfl (fun _ => rfl) (fun v9 u9 H locs hq hP hD hS => ?_) (fun x9 t9 locs1 al hth hS1 => ?_)
  · refine W.widen (k := 2) (n := 12) (Nat.le_of_ble_eq_true rfl) (Nat.le_of_ble_eq_true rfl) ?_
    refine lv_if_eq (tgt := 16) hx hb d_L_rail_9 (by decide) (fun c1 => ?_) (fun c1 => ?_)
    · refine lv_lconst (v := 0) hx hb d_L_rail_16 (by decide) ?_
      refine va_last hx hb hK hP hD hS 3 1 rfl rfl (by unfold vp_in; decide) d_L_rail_17 (fun H locs hP hD hS => ?_)
      refine lv_goto (tgt := 29) hx hb d_L_rail_18 (by decide) ?_
      refine lv_iconst (v := 0) hx hb d_L_rail_29 (by decide) ?_
      exact wt_iret hx hb hr hlk hP hD hS ((u9, vp_updL oF (Int32.toNatClampNeg 0) 0) : (Nat → Nat → Int64) × (Nat → Int64)) rfl (Or.inl ⟨v9, rfl, hq, (out0 oF _).trans (if_pos c1).symm⟩) d_L_rail_30
    · refine lv_lconst (v := 1) hx hb d_L_rail_12 (by decide) ?_
      refine lv_goto (tgt := 17) hx hb d_L_rail_13 (by decide) ?_
      refine va_last hx hb hK hP hD hS 3 1 rfl rfl (by unfold vp_in; decide) d_L_rail_17 (fun H locs hP hD hS => ?_)
      refine lv_goto (tgt := 29) hx hb d_L_rail_18 (by decide) ?_
      refine lv_iconst (v := 0) hx hb d_L_rail_29 (by decide) ?_
      exact wt_iret hx hb hr hlk hP hD hS ((u9, vp_updL oF (Int32.toNatClampNeg 0) 1) : (Nat → Nat → Int64) × (Nat → Int64)) rfl (Or.inl ⟨v9, rfl, hq, (out0 oF _).trans (if_neg c1).symm⟩) d_L_rail_30
  · rcases hth with ⟨g0, hX⟩ | ⟨g0, g1, hX⟩
    · obtain ⟨hX1, hX2, ⟨cell, hc1, hc2, hc3⟩, hX4⟩ := hX
      have hP : va_P D ncl ((w_P a cA ii li ia la bd) ++ [(oA, .inl (cA 1, 1, .inr (.inl oF)))]) t9.heap := kp_P hP hX4
      have hfc : s.vm.findClass "java/lang/IndexOutOfBoundsException" = some cell.cls := by rw [← al.findClass]; exact hc3
      refine ck_1 (own := R_L) (C := "java/lang/IndexOutOfBoundsException") hown htab (by decide) (by decide) (by decide) (kw263 Z.1 _ _ hg.1) hc1 hc2 hfc ?_
      refine W.widen (k := 2) (n := 12) (Nat.le_of_ble_eq_true rfl) (Nat.le_of_ble_eq_true rfl) ?_
      refine lv_astore (lv' := [(5, .ref x9), (0, .ref (a 0)), (1, .int sd), (2, .long v), (4, .ref oA)]) hx hb d_L_rail_21 hl (by decide) rfl (fun ls hl => ?_)
      refine lv_iconst (v := 1) hx hb d_L_rail_23 (by decide) ?_
      exact wt_iret hx hb hr hlk hP hD hS1 ((la, oF) : (Nat → Nat → Int64) × (Nat → Int64)) rfl (Or.inr (Or.inl ⟨rfl, g0, rfl⟩)) d_L_rail_24
    · obtain ⟨hX1, hX2, ⟨cell, hc1, hc2, hc3⟩, hX4⟩ := hX
      have hP : va_P D ncl ((w_P a cA ii li ia la bd) ++ [(oA, .inl (cA 1, 1, .inr (.inl oF)))]) t9.heap := kp_P hP hX4
      have hfc : s.vm.findClass "java/lang/IllegalArgumentException" = some cell.cls := by rw [← al.findClass]; exact hc3
      obtain ⟨c1, hf1, hn1⟩ := nCs.at N9.1 hg hfc
      refine ck_2 (own := R_L) (C := "java/lang/IllegalArgumentException") (C1 := "java/lang/IndexOutOfBoundsException") hown htab (by decide) (by decide) (by decide) (by decide) (by decide) (by decide) (kw263 Z.1 _ _ hg.1) (kw264 Z.1 _ _ hg.1) hc1 hc2 hfc hf1 hn1 ?_
      refine W.widen (k := 2) (n := 12) (Nat.le_of_ble_eq_true rfl) (Nat.le_of_ble_eq_true rfl) ?_
      refine lv_astore (lv' := [(5, .ref x9), (0, .ref (a 0)), (1, .int sd), (2, .long v), (4, .ref oA)]) hx hb d_L_rail_25 hl (by decide) rfl (fun ls hl => ?_)
      refine lv_iconst (v := 2) hx hb d_L_rail_27 (by decide) ?_
      exact wt_iret hx hb hr hlk hP hD hS1 ((la, oF) : (Nat → Nat → Int64) × (Nat → Int64)) rfl (Or.inr (Or.inr ⟨rfl, ⟨g0, g1⟩, rfl⟩)) d_L_rail_28
set_option maxHeartbeats 4000000 in
set_option maxRecDepth 100000 in
theorem m_L_corner {l : Launch} {s0 : State} {D : va_G} {cA sa : Nat → Nat} (Z : zE l s0 D cA sa) (N9 : zN s0) (a : Nat → Nat) (ii : Nat → Int32) (li : Nat → Int64) (ia : Nat → Nat → Int32) (la : Nat → Nat → Int64) (bd : Nat → Nat) (b : Nat → Nat) (ib : Nat → Int32) (lb : Nat → Int64) (jb : Nat → Nat → Int32) (kb : Nat → Nat → Int64) (v : Int32) (x y : Int64) (n nc : Nat) (hn : ii 6 = nI n) (hn2 : n ≤ 4) (hbd : ∀ k, k < n → v = nI k → bd k = b 0) (hnc : ib 5 = nI nc) (hnc2 : nc ≤ 12) (oA : Nat) (oF : Nat → Int64) (sz : Nat) : th_Met l y_L_corner [.codeWith y_L_corner c_L_corner 8 (some .int) [(0, 20, 23, 13), (0, 20, 27, 15)]] ({ frames := 12, cells := 3, slots := 18, locals := 380 }) (wP s0 D [.ref (a 0), .int v, .long x, .long y, .ref oA] (((w_P a cA ii li ia la bd) ++ (w_B b cA ib lb jb kb)) ++ [(oA, .inl (cA 1, 1, .inr (.inl oF)))]) sz) (th_Qi (fun (r9 : Int32) (u9 : (St) × (Nat → Int64)) => (∃ v9, r9 = 0 ∧ (fun (r : Int32) (u : St) => (∃ k, k < n ∧ v = nI k) ∧ okL x ∧ okL y ∧ (if nc < 12 then r = 1 ∧ u = (va_up ib 5 (ib 5 + 1), bc_li lb (ib 5) x y, jb, va_up (va_up kb 0 (vp_updL (kb 0) nc x)) 1 (vp_updL (kb 1) nc y)) else r = 0 ∧ u = (ib, lb, jb, kb))) v9 u9.1 ∧ u9.2 0 = (if v9 = 0 then 0 else 1)) ∨ (r9 = 1 ∧ (¬ (∃ k, k < n ∧ v = nI k)) ∧ u9 = ((ib, lb, jb, kb), oF)) ∨ (r9 = 2 ∧ ((∃ k, k < n ∧ v = nI k) ∧ ¬ (okL x ∧ okL y)) ∧ u9 = ((ib, lb, jb, kb), oF))) (wB D (va_A (((w_P a cA ii li ia la bd) ++ (w_B b cA ib lb jb kb)) ++ [(oA, .inl (cA 1, 1, .inr (.inl oF)))]) sz) (fun (u9 : (St) × (Nat → Int64)) => ((fun (u : St) => (w_P a cA ii li ia la bd) ++ (w_B b cA u.1 u.2.1 u.2.2.1 u.2.2.2)) u9.1) ++ [(oA, .inl (cA 1, 1, .inr (.inl u9.2)))])) (va_A (((w_P a cA ii li ia la bd) ++ (w_B b cA ib lb jb kb)) ++ [(oA, .inl (cA 1, 1, .inr (.inl oF)))]) sz) (fun _ _ _ => False)) 3 18 (va_A (((w_P a cA ii li ia la bd) ++ (w_B b cA ib lb jb kb)) ++ [(oA, .inl (cA 1, 1, .inr (.inl oF)))]) sz) := by
  refine wMetW Z (by decide) (Nat.le_of_ble_eq_true rfl) ?_
  intro p e s m below meth c hx hb hr hml hown hlk htab hg hK hsz hP hD hA hlo hS ls hl
  subst hsz
  have hown : s.vm.findClass R_L = some m.cls := hown
  refine lv_aload hx hb d_L_corner_0 (lv_at hl 4 rfl) ?_
  refine lv_iconst (v := 0) hx hb d_L_corner_2 (by decide) ?_
  refine lv_aload_n hx hb d_L_corner_3 rfl (lv_at hl 0 rfl) ?_
  refine lv_iload_n hx hb d_L_corner_4 rfl (lv_at hl 1 rfl) ?_
  refine lv_lload_n hx hb d_L_corner_5 rfl (lv_at hl 2 rfl) ?_
  refine lv_lload hx hb d_L_corner_6 (lv_at hl 3 rfl) ?_
  refine wt_calli (wr := [(oA, .inl (cA 1, 1, .inr (.inl oF)))]) (wt_runV (rest := [.int 0, .ref oA]) hx hb hml hown hl.1 hg hlo hK hP hD hS (m_P_corner Z a ii li ia la bd b ib lb jb kb v x y n nc hn hn2 hbd hnc hnc2 s.heap.size) (kw265 Z.1) (kw266 Z.1) (kw267 Z.1) (kw268 Z.1) (kw1 Z.1) ⟨by decide, by decide, (by decide +kernel : (parseMethodDescriptor y_P_corner.desc).map (fun d => d.parameters.length) = some 3)⟩ ⟨(Nat.le_of_ble_eq_true rfl), (Nat.le_of_ble_eq_true rfl)⟩ [0, 1, 2, 3, 4, 5, 6, 7, 8] rfl rfl (ci := 0) (q0 := 0) rfl rfl rfl (Nat.le_of_ble_eq_true rfl) d_L_corner_8 ⟨(Nat.le_of_ble_eq_true rfl), (Nat.le_of_ble_eq_true rfl)⟩) hP hD hS hA [0, 1, 2, 3, 4, 5, 6, 7, 8] [9] rfl rfl rfl (by decide) (fun (u9 : St) => ((fun (u : St) => (w_P a cA ii li ia la bd) ++ (w_B b cA u.1 u.2.1 u.2.2.1 u.2.2.2)) u9) ++ [(oA, .inl (cA 1, 1, .inr (.inl oF)))]) [1, 2, 3, 4, 5, 6, 7, 8, 9, 0] rfl (fun _ => rfl) (fun v9 u9 H locs hq hP hD hS => ?_) (fun x9 t9 locs1 al hth hS1 => ?_)
  · refine W.widen (k := 3) (n := 18) (Nat.le_of_ble_eq_true rfl) (Nat.le_of_ble_eq_true rfl) ?_
    refine lv_if_eq (tgt := 18) hx hb d_L_corner_11 (by decide) (fun c1 => ?_) (fun c1 => ?_)
    · refine lv_lconst (v := 0) hx hb d_L_corner_18 (by decide) ?_
      refine va_last hx hb hK hP hD hS 9 1 rfl rfl (by unfold vp_in; decide) d_L_corner_19 (fun H locs hP hD hS => ?_)
      refine lv_goto (tgt := 31) hx hb d_L_corner_20 (by decide) ?_
      refine lv_iconst (v := 0) hx hb d_L_corner_31 (by decide) ?_
      exact wt_iret hx hb hr hlk hP hD hS ((u9, vp_updL oF (Int32.toNatClampNeg 0) 0) : (St) × (Nat → Int64)) rfl (Or.inl ⟨v9, rfl, hq, (out0 oF _).trans (if_pos c1).symm⟩) d_L_corner_32
    · refine lv_lconst (v := 1) hx hb d_L_corner_14 (by decide) ?_
      refine lv_goto (tgt := 19) hx hb d_L_corner_15 (by decide) ?_
      refine va_last hx hb hK hP hD hS 9 1 rfl rfl (by unfold vp_in; decide) d_L_corner_19 (fun H locs hP hD hS => ?_)
      refine lv_goto (tgt := 31) hx hb d_L_corner_20 (by decide) ?_
      refine lv_iconst (v := 0) hx hb d_L_corner_31 (by decide) ?_
      exact wt_iret hx hb hr hlk hP hD hS ((u9, vp_updL oF (Int32.toNatClampNeg 0) 1) : (St) × (Nat → Int64)) rfl (Or.inl ⟨v9, rfl, hq, (out0 oF _).trans (if_neg c1).symm⟩) d_L_corner_32
  · rcases hth with ⟨g0, hX⟩ | ⟨g0, g1, hX⟩
    · obtain ⟨hX1, hX2, ⟨cell, hc1, hc2, hc3⟩, hX4⟩ := hX
      have hP : va_P D ncl (((w_P a cA ii li ia la bd) ++ (w_B b cA ib lb jb kb)) ++ [(oA, .inl (cA 1, 1, .inr (.inl oF)))]) t9.heap := kp_P hP hX4
      have hfc : s.vm.findClass "java/lang/IndexOutOfBoundsException" = some cell.cls := by rw [← al.findClass]; exact hc3
      refine ck_1 (own := R_L) (C := "java/lang/IndexOutOfBoundsException") hown htab (by decide) (by decide) (by decide) (kw263 Z.1 _ _ hg.1) hc1 hc2 hfc ?_
      refine W.widen (k := 3) (n := 18) (Nat.le_of_ble_eq_true rfl) (Nat.le_of_ble_eq_true rfl) ?_
      refine lv_astore (lv' := [(7, .ref x9), (0, .ref (a 0)), (1, .int v), (2, .long x), (4, .long y), (6, .ref oA)]) hx hb d_L_corner_23 hl (by decide) rfl (fun ls hl => ?_)
      refine lv_iconst (v := 1) hx hb d_L_corner_25 (by decide) ?_
      exact wt_iret hx hb hr hlk hP hD hS1 (((ib, lb, jb, kb), oF) : (St) × (Nat → Int64)) rfl (Or.inr (Or.inl ⟨rfl, g0, rfl⟩)) d_L_corner_26
    · obtain ⟨hX1, hX2, ⟨cell, hc1, hc2, hc3⟩, hX4⟩ := hX
      have hP : va_P D ncl (((w_P a cA ii li ia la bd) ++ (w_B b cA ib lb jb kb)) ++ [(oA, .inl (cA 1, 1, .inr (.inl oF)))]) t9.heap := kp_P hP hX4
      have hfc : s.vm.findClass "java/lang/IllegalArgumentException" = some cell.cls := by rw [← al.findClass]; exact hc3
      obtain ⟨c1, hf1, hn1⟩ := nCs.at N9.1 hg hfc
      refine ck_2 (own := R_L) (C := "java/lang/IllegalArgumentException") (C1 := "java/lang/IndexOutOfBoundsException") hown htab (by decide) (by decide) (by decide) (by decide) (by decide) (by decide) (kw263 Z.1 _ _ hg.1) (kw264 Z.1 _ _ hg.1) hc1 hc2 hfc hf1 hn1 ?_
      refine W.widen (k := 3) (n := 18) (Nat.le_of_ble_eq_true rfl) (Nat.le_of_ble_eq_true rfl) ?_
      refine lv_astore (lv' := [(7, .ref x9), (0, .ref (a 0)), (1, .int v), (2, .long x), (4, .long y), (6, .ref oA)]) hx hb d_L_corner_27 hl (by decide) rfl (fun ls hl => ?_)
      refine lv_iconst (v := 2) hx hb d_L_corner_29 (by decide) ?_
      exact wt_iret hx hb hr hlk hP hD hS1 (((ib, lb, jb, kb), oF) : (St) × (Nat → Int64)) rfl (Or.inr (Or.inr ⟨rfl, ⟨g0, g1⟩, rfl⟩)) d_L_corner_30
set_option maxHeartbeats 4000000 in
set_option maxRecDepth 100000 in
theorem m_L_part {l : Launch} {s0 : State} {D : va_G} {cA sa : Nat → Nat} (Z : zE l s0 D cA sa) (N9 : zN s0) (a : Nat → Nat) (ii : Nat → Int32) (li : Nat → Int64) (ia : Nat → Nat → Int32) (la : Nat → Nat → Int64) (bd : Nat → Nat) (b : Nat → Nat) (ib : Nat → Int32) (lb : Nat → Int64) (jb : Nat → Nat → Int32) (kb : Nat → Nat → Int64) (v : Int32) (x y r0 : Int64) (n nc : Nat) (hn : ii 6 = nI n) (hn2 : n ≤ 4) (hbd : ∀ k, k < n → v = nI k → bd k = b 0) (hnc : ib 6 = nI nc) (hnc2 : nc ≤ 10) (oA : Nat) (oF : Nat → Int64) (sz : Nat) : th_Met l y_L_part [.codeWith y_L_part c_L_part 10 (some .int) [(0, 22, 25, 13), (0, 22, 29, 15)]] ({ frames := 12, cells := 5, slots := 30, locals := 380 }) (wP s0 D [.ref (a 0), .int v, .long x, .long y, .long r0, .ref oA] (((w_P a cA ii li ia la bd) ++ (w_B b cA ib lb jb kb)) ++ [(oA, .inl (cA 1, 1, .inr (.inl oF)))]) sz) (th_Qi (fun (r9 : Int32) (u9 : (St) × (Nat → Int64)) => (∃ v9, r9 = 0 ∧ (fun (r : Int32) (u : St) => (∃ k, k < n ∧ v = nI k) ∧ okL x ∧ okL y ∧ (okL r0 ∧ r0 ≠ 0) ∧ (if nc < 10 then r = 1 ∧ u = (va_up ib 6 (ib 6 + 1), lb, jb, va_up (va_up (va_up kb 2 (vp_updL (kb 2) nc x)) 3 (vp_updL (kb 3) nc y)) 4 (vp_updL (kb 4) nc r0)) else r = 0 ∧ u = (ib, lb, jb, kb))) v9 u9.1 ∧ u9.2 0 = (if v9 = 0 then 0 else 1)) ∨ (r9 = 1 ∧ (¬ (∃ k, k < n ∧ v = nI k)) ∧ u9 = ((ib, lb, jb, kb), oF)) ∨ (r9 = 2 ∧ ((∃ k, k < n ∧ v = nI k) ∧ ¬ (okL x ∧ okL y ∧ okL r0 ∧ r0 ≠ 0)) ∧ u9 = ((ib, lb, jb, kb), oF))) (wB D (va_A (((w_P a cA ii li ia la bd) ++ (w_B b cA ib lb jb kb)) ++ [(oA, .inl (cA 1, 1, .inr (.inl oF)))]) sz) (fun (u9 : (St) × (Nat → Int64)) => ((fun (u : St) => (w_P a cA ii li ia la bd) ++ (w_B b cA u.1 u.2.1 u.2.2.1 u.2.2.2)) u9.1) ++ [(oA, .inl (cA 1, 1, .inr (.inl u9.2)))])) (va_A (((w_P a cA ii li ia la bd) ++ (w_B b cA ib lb jb kb)) ++ [(oA, .inl (cA 1, 1, .inr (.inl oF)))]) sz) (fun _ _ _ => False)) 5 30 (va_A (((w_P a cA ii li ia la bd) ++ (w_B b cA ib lb jb kb)) ++ [(oA, .inl (cA 1, 1, .inr (.inl oF)))]) sz) := by
  refine wMetW Z (by decide) (Nat.le_of_ble_eq_true rfl) ?_
  intro p e s m below meth c hx hb hr hml hown hlk htab hg hK hsz hP hD hA hlo hS ls hl
  subst hsz
  have hown : s.vm.findClass R_L = some m.cls := hown
  refine lv_aload hx hb d_L_part_0 (lv_at hl 5 rfl) ?_
  refine lv_iconst (v := 0) hx hb d_L_part_2 (by decide) ?_
  refine lv_aload_n hx hb d_L_part_3 rfl (lv_at hl 0 rfl) ?_
  refine lv_iload_n hx hb d_L_part_4 rfl (lv_at hl 1 rfl) ?_
  refine lv_lload_n hx hb d_L_part_5 rfl (lv_at hl 2 rfl) ?_
  refine lv_lload hx hb d_L_part_6 (lv_at hl 3 rfl) ?_
  refine lv_lload hx hb d_L_part_8 (lv_at hl 4 rfl) ?_
  refine wt_calli (wr := [(oA, .inl (cA 1, 1, .inr (.inl oF)))]) (wt_runV (rest := [.int 0, .ref oA]) hx hb hml hown hl.1 hg hlo hK hP hD hS (m_P_part Z a ii li ia la bd b ib lb jb kb v x y r0 n nc hn hn2 hbd hnc hnc2 s.heap.size) (kw524 Z.1) (kw525 Z.1) (kw526 Z.1) (kw527 Z.1) (kw1 Z.1) ⟨by decide, by decide, (by decide +kernel : (parseMethodDescriptor y_P_part.desc).map (fun d => d.parameters.length) = some 4)⟩ ⟨(Nat.le_of_ble_eq_true rfl), (Nat.le_of_ble_eq_true rfl)⟩ [0, 1, 2, 3, 4, 5, 6, 7, 8] rfl rfl (ci := 0) (q0 := 0) rfl rfl rfl (Nat.le_of_ble_eq_true rfl) d_L_part_10 ⟨(Nat.le_of_ble_eq_true rfl), (Nat.le_of_ble_eq_true rfl)⟩) hP hD hS hA [0, 1, 2, 3, 4, 5, 6, 7, 8] [9] rfl rfl rfl (by decide) (fun (u9 : St) => ((fun (u : St) => (w_P a cA ii li ia la bd) ++ (w_B b cA u.1 u.2.1 u.2.2.1 u.2.2.2)) u9) ++ [(oA, .inl (cA 1, 1, .inr (.inl oF)))]) [1, 2, 3, 4, 5, 6, 7, 8, 9, 0] rfl (fun _ => rfl) (fun v9 u9 H locs hq hP hD hS => ?_) (fun x9 t9 locs1 al hth hS1 => ?_)
  · refine W.widen (k := 5) (n := 30) (Nat.le_of_ble_eq_true rfl) (Nat.le_of_ble_eq_true rfl) ?_
    refine lv_if_eq (tgt := 20) hx hb d_L_part_13 (by decide) (fun c1 => ?_) (fun c1 => ?_)
    · refine lv_lconst (v := 0) hx hb d_L_part_20 (by decide) ?_
      refine va_last hx hb hK hP hD hS 9 1 rfl rfl (by unfold vp_in; decide) d_L_part_21 (fun H locs hP hD hS => ?_)
      refine lv_goto (tgt := 33) hx hb d_L_part_22 (by decide) ?_
      refine lv_iconst (v := 0) hx hb d_L_part_33 (by decide) ?_
      exact wt_iret hx hb hr hlk hP hD hS ((u9, vp_updL oF (Int32.toNatClampNeg 0) 0) : (St) × (Nat → Int64)) rfl (Or.inl ⟨v9, rfl, hq, (out0 oF _).trans (if_pos c1).symm⟩) d_L_part_34
    · refine lv_lconst (v := 1) hx hb d_L_part_16 (by decide) ?_
      refine lv_goto (tgt := 21) hx hb d_L_part_17 (by decide) ?_
      refine va_last hx hb hK hP hD hS 9 1 rfl rfl (by unfold vp_in; decide) d_L_part_21 (fun H locs hP hD hS => ?_)
      refine lv_goto (tgt := 33) hx hb d_L_part_22 (by decide) ?_
      refine lv_iconst (v := 0) hx hb d_L_part_33 (by decide) ?_
      exact wt_iret hx hb hr hlk hP hD hS ((u9, vp_updL oF (Int32.toNatClampNeg 0) 1) : (St) × (Nat → Int64)) rfl (Or.inl ⟨v9, rfl, hq, (out0 oF _).trans (if_neg c1).symm⟩) d_L_part_34
  · rcases hth with ⟨g0, hX⟩ | ⟨g0, g1, hX⟩
    · obtain ⟨hX1, hX2, ⟨cell, hc1, hc2, hc3⟩, hX4⟩ := hX
      have hP : va_P D ncl (((w_P a cA ii li ia la bd) ++ (w_B b cA ib lb jb kb)) ++ [(oA, .inl (cA 1, 1, .inr (.inl oF)))]) t9.heap := kp_P hP hX4
      have hfc : s.vm.findClass "java/lang/IndexOutOfBoundsException" = some cell.cls := by rw [← al.findClass]; exact hc3
      refine ck_1 (own := R_L) (C := "java/lang/IndexOutOfBoundsException") hown htab (by decide) (by decide) (by decide) (kw263 Z.1 _ _ hg.1) hc1 hc2 hfc ?_
      refine W.widen (k := 5) (n := 30) (Nat.le_of_ble_eq_true rfl) (Nat.le_of_ble_eq_true rfl) ?_
      refine lv_astore (lv' := [(9, .ref x9), (0, .ref (a 0)), (1, .int v), (2, .long x), (4, .long y), (6, .long r0), (8, .ref oA)]) hx hb d_L_part_25 hl (by decide) rfl (fun ls hl => ?_)
      refine lv_iconst (v := 1) hx hb d_L_part_27 (by decide) ?_
      exact wt_iret hx hb hr hlk hP hD hS1 (((ib, lb, jb, kb), oF) : (St) × (Nat → Int64)) rfl (Or.inr (Or.inl ⟨rfl, g0, rfl⟩)) d_L_part_28
    · obtain ⟨hX1, hX2, ⟨cell, hc1, hc2, hc3⟩, hX4⟩ := hX
      have hP : va_P D ncl (((w_P a cA ii li ia la bd) ++ (w_B b cA ib lb jb kb)) ++ [(oA, .inl (cA 1, 1, .inr (.inl oF)))]) t9.heap := kp_P hP hX4
      have hfc : s.vm.findClass "java/lang/IllegalArgumentException" = some cell.cls := by rw [← al.findClass]; exact hc3
      obtain ⟨c1, hf1, hn1⟩ := nCs.at N9.1 hg hfc
      refine ck_2 (own := R_L) (C := "java/lang/IllegalArgumentException") (C1 := "java/lang/IndexOutOfBoundsException") hown htab (by decide) (by decide) (by decide) (by decide) (by decide) (by decide) (kw263 Z.1 _ _ hg.1) (kw264 Z.1 _ _ hg.1) hc1 hc2 hfc hf1 hn1 ?_
      refine W.widen (k := 5) (n := 30) (Nat.le_of_ble_eq_true rfl) (Nat.le_of_ble_eq_true rfl) ?_
      refine lv_astore (lv' := [(9, .ref x9), (0, .ref (a 0)), (1, .int v), (2, .long x), (4, .long y), (6, .long r0), (8, .ref oA)]) hx hb d_L_part_29 hl (by decide) rfl (fun ls hl => ?_)
      refine lv_iconst (v := 2) hx hb d_L_part_31 (by decide) ?_
      exact wt_iret hx hb hr hlk hP hD hS1 (((ib, lb, jb, kb), oF) : (St) × (Nat → Int64)) rfl (Or.inr (Or.inr ⟨rfl, ⟨g0, g1⟩, rfl⟩)) d_L_part_32
set_option maxHeartbeats 4000000 in
set_option maxRecDepth 100000 in
theorem m_L_wants {l : Launch} {s0 : State} {D : va_G} {cA sa : Nat → Nat} (Z : zE l s0 D cA sa) (N9 : zN s0) (a : Nat → Nat) (ii : Nat → Int32) (li : Nat → Int64) (ia : Nat → Nat → Int32) (la : Nat → Nat → Int64) (bd : Nat → Nat) (b : Nat → Nat) (ib : Nat → Int32) (lb : Nat → Int64) (jb : Nat → Nat → Int32) (kb : Nat → Nat → Int64) (v w0 : Int32) (n : Nat) (hn : ii 6 = nI n) (hn2 : n ≤ 4) (hbd : ∀ k, k < n → v = nI k → bd k = b 0) (oA : Nat) (oF : Nat → Int64) (sz : Nat) : th_Met l y_L_wants [.codeWith y_L_wants c_L_wants 5 (some .int) [(0, 17, 20, 13), (0, 17, 24, 15)]] ({ frames := 12, cells := 2, slots := 12, locals := 380 }) (wP s0 D [.ref (a 0), .int v, .int w0, .ref oA] (((w_P a cA ii li ia la bd) ++ (w_B b cA ib lb jb kb)) ++ [(oA, .inl (cA 1, 1, .inr (.inl oF)))]) sz) (th_Qi (fun (r9 : Int32) (u9 : (Nat → Int32) × (Nat → Int64)) => (∃ v9, r9 = 0 ∧ (fun (r : Int32) (u : Nat → Int32) => (∃ k, k < n ∧ v = nI k) ∧ (∃ k, k < 201 ∧ w0 = nI k) ∧ r = (if ib 11 = w0 then 0 else 1) ∧ u = va_up ib 11 w0) v9 u9.1 ∧ u9.2 0 = (if v9 = 0 then 0 else 1)) ∨ (r9 = 1 ∧ (¬ (∃ k, k < n ∧ v = nI k)) ∧ u9 = (ib, oF)) ∨ (r9 = 2 ∧ ((∃ k, k < n ∧ v = nI k) ∧ ¬ (∃ k, k < 201 ∧ w0 = nI k)) ∧ u9 = (ib, oF))) (wB D (va_A (((w_P a cA ii li ia la bd) ++ (w_B b cA ib lb jb kb)) ++ [(oA, .inl (cA 1, 1, .inr (.inl oF)))]) sz) (fun (u9 : (Nat → Int32) × (Nat → Int64)) => ((fun (u : Nat → Int32) => (w_P a cA ii li ia la bd) ++ (w_B b cA u lb jb kb)) u9.1) ++ [(oA, .inl (cA 1, 1, .inr (.inl u9.2)))])) (va_A (((w_P a cA ii li ia la bd) ++ (w_B b cA ib lb jb kb)) ++ [(oA, .inl (cA 1, 1, .inr (.inl oF)))]) sz) (fun _ _ _ => False)) 2 12 (va_A (((w_P a cA ii li ia la bd) ++ (w_B b cA ib lb jb kb)) ++ [(oA, .inl (cA 1, 1, .inr (.inl oF)))]) sz) := by
  refine wMetW Z (by decide) (Nat.le_of_ble_eq_true rfl) ?_
  intro p e s m below meth c hx hb hr hml hown hlk htab hg hK hsz hP hD hA hlo hS ls hl
  subst hsz
  have hown : s.vm.findClass R_L = some m.cls := hown
  refine lv_aload_n hx hb d_L_wants_0 rfl (lv_at hl 3 rfl) ?_
  refine lv_iconst (v := 0) hx hb d_L_wants_1 (by decide) ?_
  refine lv_aload_n hx hb d_L_wants_2 rfl (lv_at hl 0 rfl) ?_
  refine lv_iload_n hx hb d_L_wants_3 rfl (lv_at hl 1 rfl) ?_
  refine lv_iload_n hx hb d_L_wants_4 rfl (lv_at hl 2 rfl) ?_
  refine wt_calli (wr := [(oA, .inl (cA 1, 1, .inr (.inl oF)))]) (wt_runV (rest := [.int 0, .ref oA]) hx hb hml hown hl.1 hg hlo hK hP hD hS (m_P_wants Z a ii li ia la bd b ib lb jb kb v w0 n hn hn2 hbd s.heap.size) (kw591 Z.1) (kw592 Z.1) (kw593 Z.1) (kw594 Z.1) (kw1 Z.1) ⟨by decide, by decide, (by decide +kernel : (parseMethodDescriptor y_P_wants.desc).map (fun d => d.parameters.length) = some 2)⟩ ⟨(Nat.le_of_ble_eq_true rfl), (Nat.le_of_ble_eq_true rfl)⟩ [0, 1, 2, 3, 4, 5, 6, 7, 8] rfl rfl (ci := 0) (q0 := 0) rfl rfl rfl (Nat.le_of_ble_eq_true rfl) d_L_wants_5 ⟨(Nat.le_of_ble_eq_true rfl), (Nat.le_of_ble_eq_true rfl)⟩) hP hD hS hA [0, 1, 2, 3, 4, 5, 6, 7, 8] [9] rfl rfl rfl (by decide) (fun (u9 : Nat → Int32) => ((fun (u : Nat → Int32) => (w_P a cA ii li ia la bd) ++ (w_B b cA u lb jb kb)) u9) ++ [(oA, .inl (cA 1, 1, .inr (.inl oF)))]) [1, 2, 3, 4, 5, 6, 7, 8, 9, 0] rfl (fun _ => rfl) (fun v9 u9 H locs hq hP hD hS => ?_) (fun x9 t9 locs1 al hth hS1 => ?_)
  · refine W.widen (k := 2) (n := 12) (Nat.le_of_ble_eq_true rfl) (Nat.le_of_ble_eq_true rfl) ?_
    refine lv_if_eq (tgt := 15) hx hb d_L_wants_8 (by decide) (fun c1 => ?_) (fun c1 => ?_)
    · refine lv_lconst (v := 0) hx hb d_L_wants_15 (by decide) ?_
      refine va_last hx hb hK hP hD hS 9 1 rfl rfl (by unfold vp_in; decide) d_L_wants_16 (fun H locs hP hD hS => ?_)
      refine lv_goto (tgt := 28) hx hb d_L_wants_17 (by decide) ?_
      refine lv_iconst (v := 0) hx hb d_L_wants_28 (by decide) ?_
      exact wt_iret hx hb hr hlk hP hD hS ((u9, vp_updL oF (Int32.toNatClampNeg 0) 0) : (Nat → Int32) × (Nat → Int64)) rfl (Or.inl ⟨v9, rfl, hq, (out0 oF _).trans (if_pos c1).symm⟩) d_L_wants_29
    · refine lv_lconst (v := 1) hx hb d_L_wants_11 (by decide) ?_
      refine lv_goto (tgt := 16) hx hb d_L_wants_12 (by decide) ?_
      refine va_last hx hb hK hP hD hS 9 1 rfl rfl (by unfold vp_in; decide) d_L_wants_16 (fun H locs hP hD hS => ?_)
      refine lv_goto (tgt := 28) hx hb d_L_wants_17 (by decide) ?_
      refine lv_iconst (v := 0) hx hb d_L_wants_28 (by decide) ?_
      exact wt_iret hx hb hr hlk hP hD hS ((u9, vp_updL oF (Int32.toNatClampNeg 0) 1) : (Nat → Int32) × (Nat → Int64)) rfl (Or.inl ⟨v9, rfl, hq, (out0 oF _).trans (if_neg c1).symm⟩) d_L_wants_29
  · rcases hth with ⟨g0, hX⟩ | ⟨g0, g1, hX⟩
    · obtain ⟨hX1, hX2, ⟨cell, hc1, hc2, hc3⟩, hX4⟩ := hX
      have hP : va_P D ncl (((w_P a cA ii li ia la bd) ++ (w_B b cA ib lb jb kb)) ++ [(oA, .inl (cA 1, 1, .inr (.inl oF)))]) t9.heap := kp_P hP hX4
      have hfc : s.vm.findClass "java/lang/IndexOutOfBoundsException" = some cell.cls := by rw [← al.findClass]; exact hc3
      refine ck_1 (own := R_L) (C := "java/lang/IndexOutOfBoundsException") hown htab (by decide) (by decide) (by decide) (kw263 Z.1 _ _ hg.1) hc1 hc2 hfc ?_
      refine W.widen (k := 2) (n := 12) (Nat.le_of_ble_eq_true rfl) (Nat.le_of_ble_eq_true rfl) ?_
      refine lv_astore (lv' := [(4, .ref x9), (0, .ref (a 0)), (1, .int v), (2, .int w0), (3, .ref oA)]) hx hb d_L_wants_20 hl (by decide) rfl (fun ls hl => ?_)
      refine lv_iconst (v := 1) hx hb d_L_wants_22 (by decide) ?_
      exact wt_iret hx hb hr hlk hP hD hS1 ((ib, oF) : (Nat → Int32) × (Nat → Int64)) rfl (Or.inr (Or.inl ⟨rfl, g0, rfl⟩)) d_L_wants_23
    · obtain ⟨hX1, hX2, ⟨cell, hc1, hc2, hc3⟩, hX4⟩ := hX
      have hP : va_P D ncl (((w_P a cA ii li ia la bd) ++ (w_B b cA ib lb jb kb)) ++ [(oA, .inl (cA 1, 1, .inr (.inl oF)))]) t9.heap := kp_P hP hX4
      have hfc : s.vm.findClass "java/lang/IllegalArgumentException" = some cell.cls := by rw [← al.findClass]; exact hc3
      obtain ⟨c1, hf1, hn1⟩ := nCs.at N9.1 hg hfc
      refine ck_2 (own := R_L) (C := "java/lang/IllegalArgumentException") (C1 := "java/lang/IndexOutOfBoundsException") hown htab (by decide) (by decide) (by decide) (by decide) (by decide) (by decide) (kw263 Z.1 _ _ hg.1) (kw264 Z.1 _ _ hg.1) hc1 hc2 hfc hf1 hn1 ?_
      refine W.widen (k := 2) (n := 12) (Nat.le_of_ble_eq_true rfl) (Nat.le_of_ble_eq_true rfl) ?_
      refine lv_astore (lv' := [(4, .ref x9), (0, .ref (a 0)), (1, .int v), (2, .int w0), (3, .ref oA)]) hx hb d_L_wants_24 hl (by decide) rfl (fun ls hl => ?_)
      refine lv_iconst (v := 2) hx hb d_L_wants_26 (by decide) ?_
      exact wt_iret hx hb hr hlk hP hD hS1 ((ib, oF) : (Nat → Int32) × (Nat → Int64)) rfl (Or.inr (Or.inr ⟨rfl, ⟨g0, g1⟩, rfl⟩)) d_L_wants_27
set_option maxHeartbeats 4000000 in
set_option maxRecDepth 100000 in
theorem m_L_at {l : Launch} {s0 : State} {D : va_G} {cA sa : Nat → Nat} (Z : zE l s0 D cA sa) (N9 : zN s0) (a : Nat → Nat) (ii : Nat → Int32) (li : Nat → Int64) (ia : Nat → Nat → Int32) (la : Nat → Nat → Int64) (bd : Nat → Nat) (y : Nat → Nat) (iy : Nat → Int32) (ly : Nat → Int64) (jy : Nat → Nat → Int32) (ky : Nat → Nat → Int64) (hya : y 0 = a 6) (l0 y0 g : Nat) (rw : List Rw) (bf : Nat → Bool) (hy : yR l0 y0 g rw bf (iy, ly, jy, ky)) (hok : okR l0 y0 g rw) (v k : Int32) (oA : Nat) (oF : Nat → Int64) (sz : Nat) : th_Met l y_L_at [.codeWith y_L_at c_L_at 5 (some .int) [(0, 9, 12, 13)]] ({ frames := 12, cells := 2, slots := 12, locals := 380 }) (wP s0 D [.ref (a 0), .int v, .int k, .ref oA] (((w_P a cA ii li ia la bd) ++ (w_Y y cA iy ly jy ky)) ++ [(oA, .inl (cA 1, 1, .inr (.inl oF)))]) sz) (th_Qi (fun (r9 : Int32) (u9 : (Unit) × (Nat → Int64)) => (∃ v9, r9 = 0 ∧ (fun (r : Int64) (_ : Unit) => ∃ c j, c < ly_n rw ∧ v = nI c ∧ j < 6 ∧ k = nI j ∧ r = lN (cpk ((lcp l0 g y0 rw).getD c cp0) j)) v9 u9.1 ∧ u9.2 0 = v9) ∨ (r9 = 1 ∧ (¬ ((∃ c, c < ly_n rw ∧ v = nI c) ∧ ∃ j, j < 6 ∧ k = nI j)) ∧ u9 = ((), oF))) (wB D (va_A (((w_P a cA ii li ia la bd) ++ (w_Y y cA iy ly jy ky)) ++ [(oA, .inl (cA 1, 1, .inr (.inl oF)))]) sz) (fun (u9 : (Unit) × (Nat → Int64)) => ((fun (_ : Unit) => (w_P a cA ii li ia la bd) ++ (w_Y y cA iy ly jy ky)) u9.1) ++ [(oA, .inl (cA 1, 1, .inr (.inl u9.2)))])) (va_A (((w_P a cA ii li ia la bd) ++ (w_Y y cA iy ly jy ky)) ++ [(oA, .inl (cA 1, 1, .inr (.inl oF)))]) sz) (fun _ _ _ => False)) 2 12 (va_A (((w_P a cA ii li ia la bd) ++ (w_Y y cA iy ly jy ky)) ++ [(oA, .inl (cA 1, 1, .inr (.inl oF)))]) sz) := by
  refine wMetW Z (by decide) (Nat.le_of_ble_eq_true rfl) ?_
  intro p e s m below meth c hx hb hr hml hown hlk htab hg hK hsz hP hD hA hlo hS ls hl
  subst hsz
  have hown : s.vm.findClass R_L = some m.cls := hown
  refine lv_aload_n hx hb d_L_at_0 rfl (lv_at hl 3 rfl) ?_
  refine lv_iconst (v := 0) hx hb d_L_at_1 (by decide) ?_
  refine lv_aload_n hx hb d_L_at_2 rfl (lv_at hl 0 rfl) ?_
  refine lv_iload_n hx hb d_L_at_3 rfl (lv_at hl 1 rfl) ?_
  refine lv_iload_n hx hb d_L_at_4 rfl (lv_at hl 2 rfl) ?_
  refine wt_calll (wr := [(oA, .inl (cA 1, 1, .inr (.inl oF)))]) (wt_runV (rest := [.int 0, .ref oA]) hx hb hml hown hl.1 hg hlo hK hP hD hS (m_P_at Z a ii li ia la bd y iy ly jy ky hya l0 y0 g rw bf hy hok v k s.heap.size) (kw454 Z.1) (kw455 Z.1) (kw456 Z.1) (kw457 Z.1) (kw1 Z.1) ⟨by decide, by decide, (by decide +kernel : (parseMethodDescriptor y_P_at.desc).map (fun d => d.parameters.length) = some 2)⟩ ⟨(Nat.le_of_ble_eq_true rfl), (Nat.le_of_ble_eq_true rfl)⟩ [0, 1, 2, 3, 4, 5, 6, 7, 8, 9, 10, 11, 12, 13, 14] rfl rfl (ci := 0) (q0 := 0) rfl rfl rfl (Nat.le_of_ble_eq_true rfl) d_L_at_5 ⟨(Nat.le_of_ble_eq_true rfl), (Nat.le_of_ble_eq_true rfl)⟩) hP hD hS hA [0, 1, 2, 3, 4, 5, 6, 7, 8, 9, 10, 11, 12, 13, 14] [15] rfl rfl rfl (by decide) (fun (u9 : Unit) => ((fun (_ : Unit) => (w_P a cA ii li ia la bd) ++ (w_Y y cA iy ly jy ky)) u9) ++ [(oA, .inl (cA 1, 1, .inr (.inl oF)))]) [1, 2, 3, 4, 5, 6, 7, 8, 9, 10, 11, 12, 13, 14, 15, 0] rfl (fun _ => rfl) (fun v9 u9 H locs hq hP hD hS => ?_) (fun x9 t9 locs1 al hth hS1 => ?_)
  · refine W.widen (k := 2) (n := 12) (Nat.le_of_ble_eq_true rfl) (Nat.le_of_ble_eq_true rfl) ?_
    refine va_last hx hb hK hP hD hS 15 1 rfl rfl (by unfold vp_in; decide) d_L_at_8 (fun H locs hP hD hS => ?_)
    refine lv_goto (tgt := 16) hx hb d_L_at_9 (by decide) ?_
    refine lv_iconst (v := 0) hx hb d_L_at_16 (by decide) ?_
    exact wt_iret hx hb hr hlk hP hD hS ((u9, vp_updL oF (Int32.toNatClampNeg 0) v9) : (Unit) × (Nat → Int64)) rfl (Or.inl ⟨v9, rfl, hq, (out0 oF _)⟩) d_L_at_17
  · obtain ⟨g0, hX⟩ := hth
    obtain ⟨hX1, hX2, ⟨cell, hc1, hc2, hc3⟩, hX4⟩ := hX
    have hP : va_P D ncl (((w_P a cA ii li ia la bd) ++ (w_Y y cA iy ly jy ky)) ++ [(oA, .inl (cA 1, 1, .inr (.inl oF)))]) t9.heap := kp_P hP hX4
    have hfc : s.vm.findClass "java/lang/IndexOutOfBoundsException" = some cell.cls := by rw [← al.findClass]; exact hc3
    refine ck_1 (own := R_L) (C := "java/lang/IndexOutOfBoundsException") hown htab (by decide) (by decide) (by decide) (kw263 Z.1 _ _ hg.1) hc1 hc2 hfc ?_
    refine W.widen (k := 2) (n := 12) (Nat.le_of_ble_eq_true rfl) (Nat.le_of_ble_eq_true rfl) ?_
    refine lv_astore (lv' := [(4, .ref x9), (0, .ref (a 0)), (1, .int v), (2, .int k), (3, .ref oA)]) hx hb d_L_at_12 hl (by decide) rfl (fun ls hl => ?_)
    refine lv_iconst (v := 1) hx hb d_L_at_14 (by decide) ?_
    exact wt_iret hx hb hr hlk hP hD hS1 (((), oF) : (Unit) × (Nat → Int64)) rfl (Or.inr ⟨rfl, g0, rfl⟩) d_L_at_15
set_option maxHeartbeats 4000000 in
set_option maxRecDepth 100000 in
theorem m_L_score {l : Launch} {s0 : State} {D : va_G} {cA sa : Nat → Nat} (Z : zE l s0 D cA sa) (N9 : zN s0) (a : Nat → Nat) (ii : Nat → Int32) (li : Nat → Int64) (ia : Nat → Nat → Int32) (la : Nat → Nat → Int64) (bd : Nat → Nat) (y : Nat → Nat) (iy : Nat → Int32) (ly : Nat → Int64) (jy : Nat → Nat → Int32) (ky : Nat → Nat → Int64) (hya : y 0 = a 6) (l0 y0 g : Nat) (rw : List Rw) (bf : Nat → Bool) (hy : yR l0 y0 g rw bf (iy, ly, jy, ky)) (hok : okR l0 y0 g rw) (v k : Int32) (oA : Nat) (oF : Nat → Int64) (sz : Nat) : th_Met l y_L_score [.codeWith y_L_score c_L_score 5 (some .int) [(0, 9, 12, 13)]] ({ frames := 12, cells := 3, slots := 18, locals := 380 }) (wP s0 D [.ref (a 0), .int v, .int k, .ref oA] (((w_P a cA ii li ia la bd) ++ (w_Y y cA iy ly jy ky)) ++ [(oA, .inl (cA 1, 1, .inr (.inl oF)))]) sz) (th_Qi (fun (r9 : Int32) (u9 : (Unit) × (Nat → Int64)) => (∃ v9, r9 = 0 ∧ (fun (r : Int64) (_ : Unit) => ∃ j i, j < (ly_s y0 g rw).length ∧ v = nI j ∧ i < 2 ∧ k = nI i ∧ r = lN (if i = 0 then ((ly_s y0 g rw).getD j (0, 0)).1 else ((ly_s y0 g rw).getD j (0, 0)).2)) v9 u9.1 ∧ u9.2 0 = v9) ∨ (r9 = 1 ∧ (¬ ((∃ j, j < (ly_s y0 g rw).length ∧ v = nI j) ∧ ∃ i, i < 2 ∧ k = nI i)) ∧ u9 = ((), oF))) (wB D (va_A (((w_P a cA ii li ia la bd) ++ (w_Y y cA iy ly jy ky)) ++ [(oA, .inl (cA 1, 1, .inr (.inl oF)))]) sz) (fun (u9 : (Unit) × (Nat → Int64)) => ((fun (_ : Unit) => (w_P a cA ii li ia la bd) ++ (w_Y y cA iy ly jy ky)) u9.1) ++ [(oA, .inl (cA 1, 1, .inr (.inl u9.2)))])) (va_A (((w_P a cA ii li ia la bd) ++ (w_Y y cA iy ly jy ky)) ++ [(oA, .inl (cA 1, 1, .inr (.inl oF)))]) sz) (fun _ _ _ => False)) 3 18 (va_A (((w_P a cA ii li ia la bd) ++ (w_Y y cA iy ly jy ky)) ++ [(oA, .inl (cA 1, 1, .inr (.inl oF)))]) sz) := by
  refine wMetW Z (by decide) (Nat.le_of_ble_eq_true rfl) ?_
  intro p e s m below meth c hx hb hr hml hown hlk htab hg hK hsz hP hD hA hlo hS ls hl
  subst hsz
  have hown : s.vm.findClass R_L = some m.cls := hown
  refine lv_aload_n hx hb d_L_score_0 rfl (lv_at hl 3 rfl) ?_
  refine lv_iconst (v := 0) hx hb d_L_score_1 (by decide) ?_
  refine lv_aload_n hx hb d_L_score_2 rfl (lv_at hl 0 rfl) ?_
  refine lv_iload_n hx hb d_L_score_3 rfl (lv_at hl 1 rfl) ?_
  refine lv_iload_n hx hb d_L_score_4 rfl (lv_at hl 2 rfl) ?_
  refine wt_calll (wr := [(oA, .inl (cA 1, 1, .inr (.inl oF)))]) (wt_runV (rest := [.int 0, .ref oA]) hx hb hml hown hl.1 hg hlo hK hP hD hS (m_P_score Z a ii li ia la bd y iy ly jy ky hya l0 y0 g rw bf hy hok v k s.heap.size) (kw516 Z.1) (kw517 Z.1) (kw518 Z.1) (kw519 Z.1) (kw1 Z.1) ⟨by decide, by decide, (by decide +kernel : (parseMethodDescriptor y_P_score.desc).map (fun d => d.parameters.length) = some 2)⟩ ⟨(Nat.le_of_ble_eq_true rfl), (Nat.le_of_ble_eq_true rfl)⟩ [0, 1, 2, 3, 4, 5, 6, 7, 8, 9, 10, 11, 12, 13, 14] rfl rfl (ci := 0) (q0 := 0) rfl rfl rfl (Nat.le_of_ble_eq_true rfl) d_L_score_5 ⟨(Nat.le_of_ble_eq_true rfl), (Nat.le_of_ble_eq_true rfl)⟩) hP hD hS hA [0, 1, 2, 3, 4, 5, 6, 7, 8, 9, 10, 11, 12, 13, 14] [15] rfl rfl rfl (by decide) (fun (u9 : Unit) => ((fun (_ : Unit) => (w_P a cA ii li ia la bd) ++ (w_Y y cA iy ly jy ky)) u9) ++ [(oA, .inl (cA 1, 1, .inr (.inl oF)))]) [1, 2, 3, 4, 5, 6, 7, 8, 9, 10, 11, 12, 13, 14, 15, 0] rfl (fun _ => rfl) (fun v9 u9 H locs hq hP hD hS => ?_) (fun x9 t9 locs1 al hth hS1 => ?_)
  · refine W.widen (k := 3) (n := 18) (Nat.le_of_ble_eq_true rfl) (Nat.le_of_ble_eq_true rfl) ?_
    refine va_last hx hb hK hP hD hS 15 1 rfl rfl (by unfold vp_in; decide) d_L_score_8 (fun H locs hP hD hS => ?_)
    refine lv_goto (tgt := 16) hx hb d_L_score_9 (by decide) ?_
    refine lv_iconst (v := 0) hx hb d_L_score_16 (by decide) ?_
    exact wt_iret hx hb hr hlk hP hD hS ((u9, vp_updL oF (Int32.toNatClampNeg 0) v9) : (Unit) × (Nat → Int64)) rfl (Or.inl ⟨v9, rfl, hq, (out0 oF _)⟩) d_L_score_17
  · obtain ⟨g0, hX⟩ := hth
    obtain ⟨hX1, hX2, ⟨cell, hc1, hc2, hc3⟩, hX4⟩ := hX
    have hP : va_P D ncl (((w_P a cA ii li ia la bd) ++ (w_Y y cA iy ly jy ky)) ++ [(oA, .inl (cA 1, 1, .inr (.inl oF)))]) t9.heap := kp_P hP hX4
    have hfc : s.vm.findClass "java/lang/IndexOutOfBoundsException" = some cell.cls := by rw [← al.findClass]; exact hc3
    refine ck_1 (own := R_L) (C := "java/lang/IndexOutOfBoundsException") hown htab (by decide) (by decide) (by decide) (kw263 Z.1 _ _ hg.1) hc1 hc2 hfc ?_
    refine W.widen (k := 3) (n := 18) (Nat.le_of_ble_eq_true rfl) (Nat.le_of_ble_eq_true rfl) ?_
    refine lv_astore (lv' := [(4, .ref x9), (0, .ref (a 0)), (1, .int v), (2, .int k), (3, .ref oA)]) hx hb d_L_score_12 hl (by decide) rfl (fun ls hl => ?_)
    refine lv_iconst (v := 1) hx hb d_L_score_14 (by decide) ?_
    exact wt_iret hx hb hr hlk hP hD hS1 (((), oF) : (Unit) × (Nat → Int64)) rfl (Or.inr ⟨rfl, g0, rfl⟩) d_L_score_15
set_option maxHeartbeats 4000000 in
set_option maxRecDepth 100000 in
theorem m_L_mill {l : Launch} {s0 : State} {D : va_G} {cA sa : Nat → Nat} (Z : zE l s0 D cA sa) (N9 : zN s0) (a : Nat → Nat) (ii : Nat → Int32) (li : Nat → Int64) (ia : Nat → Nat → Int32) (la : Nat → Nat → Int64) (bd : Nat → Nat) (y : Nat → Nat) (iy : Nat → Int32) (ly : Nat → Int64) (jy : Nat → Nat → Int32) (ky : Nat → Nat → Int64) (hya : y 0 = a 6) (l0 y0 g : Nat) (rw : List Rw) (bf : Nat → Bool) (hy : yR l0 y0 g rw bf (iy, ly, jy, ky)) (hok : okR l0 y0 g rw) (k v : Int32) (oA : Nat) (oF : Nat → Int64) (sz : Nat) : th_Met l y_L_mill [.codeWith y_L_mill c_L_mill 5 (some .int) [(0, 9, 12, 13)]] ({ frames := 12, cells := 2, slots := 12, locals := 380 }) (wP s0 D [.ref (a 0), .int k, .int v, .ref oA] (((w_P a cA ii li ia la bd) ++ (w_Y y cA iy ly jy ky)) ++ [(oA, .inl (cA 1, 1, .inr (.inl oF)))]) sz) (th_Qi (fun (r9 : Int32) (u9 : (Unit) × (Nat → Int64)) => (∃ v9, r9 = 0 ∧ (fun (r : Int64) (_ : Unit) => ∃ kk c ax, kk < 2 ^ 31 ∧ k = nI kk ∧ c < ly_n rw ∧ yo (jy 8) (ly_n rw) (nI (kk / 4)) (nI c) ∧ ax < 2 ∧ v = nI ax ∧ r = ml_v ((lcp l0 g y0 rw).getD c cp0) (li 8) (kk % 4) ax) v9 u9.1 ∧ u9.2 0 = v9) ∨ (r9 = 1 ∧ (¬ ((∃ kk c, kk < 2 ^ 31 ∧ k = nI kk ∧ c < ly_n rw ∧ yo (jy 8) (ly_n rw) (nI (kk / 4)) (nI c)) ∧ ∃ ax, ax < 2 ∧ v = nI ax)) ∧ u9 = ((), oF))) (wB D (va_A (((w_P a cA ii li ia la bd) ++ (w_Y y cA iy ly jy ky)) ++ [(oA, .inl (cA 1, 1, .inr (.inl oF)))]) sz) (fun (u9 : (Unit) × (Nat → Int64)) => ((fun (_ : Unit) => (w_P a cA ii li ia la bd) ++ (w_Y y cA iy ly jy ky)) u9.1) ++ [(oA, .inl (cA 1, 1, .inr (.inl u9.2)))])) (va_A (((w_P a cA ii li ia la bd) ++ (w_Y y cA iy ly jy ky)) ++ [(oA, .inl (cA 1, 1, .inr (.inl oF)))]) sz) (fun _ _ _ => False)) 2 12 (va_A (((w_P a cA ii li ia la bd) ++ (w_Y y cA iy ly jy ky)) ++ [(oA, .inl (cA 1, 1, .inr (.inl oF)))]) sz) := by
  refine wMetW Z (by decide) (Nat.le_of_ble_eq_true rfl) ?_
  intro p e s m below meth c hx hb hr hml hown hlk htab hg hK hsz hP hD hA hlo hS ls hl
  subst hsz
  have hown : s.vm.findClass R_L = some m.cls := hown
  refine lv_aload_n hx hb d_L_mill_0 rfl (lv_at hl 3 rfl) ?_
  refine lv_iconst (v := 0) hx hb d_L_mill_1 (by decide) ?_
  refine lv_aload_n hx hb d_L_mill_2 rfl (lv_at hl 0 rfl) ?_
  refine lv_iload_n hx hb d_L_mill_3 rfl (lv_at hl 1 rfl) ?_
  refine lv_iload_n hx hb d_L_mill_4 rfl (lv_at hl 2 rfl) ?_
  refine wt_calll (wr := [(oA, .inl (cA 1, 1, .inr (.inl oF)))]) (wt_runV (rest := [.int 0, .ref oA]) hx hb hml hown hl.1 hg hlo hK hP hD hS (m_P_mill Z a ii li ia la bd y iy ly jy ky hya l0 y0 g rw bf hy hok k v s.heap.size) (kw558 Z.1) (kw559 Z.1) (kw560 Z.1) (kw561 Z.1) (kw1 Z.1) ⟨by decide, by decide, (by decide +kernel : (parseMethodDescriptor y_P_mill.desc).map (fun d => d.parameters.length) = some 2)⟩ ⟨(Nat.le_of_ble_eq_true rfl), (Nat.le_of_ble_eq_true rfl)⟩ [0, 1, 2, 3, 4, 5, 6, 7, 8, 9, 10, 11, 12, 13, 14] rfl rfl (ci := 0) (q0 := 0) rfl rfl rfl (Nat.le_of_ble_eq_true rfl) d_L_mill_5 ⟨(Nat.le_of_ble_eq_true rfl), (Nat.le_of_ble_eq_true rfl)⟩) hP hD hS hA [0, 1, 2, 3, 4, 5, 6, 7, 8, 9, 10, 11, 12, 13, 14] [15] rfl rfl rfl (by decide) (fun (u9 : Unit) => ((fun (_ : Unit) => (w_P a cA ii li ia la bd) ++ (w_Y y cA iy ly jy ky)) u9) ++ [(oA, .inl (cA 1, 1, .inr (.inl oF)))]) [1, 2, 3, 4, 5, 6, 7, 8, 9, 10, 11, 12, 13, 14, 15, 0] rfl (fun _ => rfl) (fun v9 u9 H locs hq hP hD hS => ?_) (fun x9 t9 locs1 al hth hS1 => ?_)
  · refine W.widen (k := 2) (n := 12) (Nat.le_of_ble_eq_true rfl) (Nat.le_of_ble_eq_true rfl) ?_
    refine va_last hx hb hK hP hD hS 15 1 rfl rfl (by unfold vp_in; decide) d_L_mill_8 (fun H locs hP hD hS => ?_)
    refine lv_goto (tgt := 16) hx hb d_L_mill_9 (by decide) ?_
    refine lv_iconst (v := 0) hx hb d_L_mill_16 (by decide) ?_
    exact wt_iret hx hb hr hlk hP hD hS ((u9, vp_updL oF (Int32.toNatClampNeg 0) v9) : (Unit) × (Nat → Int64)) rfl (Or.inl ⟨v9, rfl, hq, (out0 oF _)⟩) d_L_mill_17
  · obtain ⟨g0, hX⟩ := hth
    obtain ⟨hX1, hX2, ⟨cell, hc1, hc2, hc3⟩, hX4⟩ := hX
    have hP : va_P D ncl (((w_P a cA ii li ia la bd) ++ (w_Y y cA iy ly jy ky)) ++ [(oA, .inl (cA 1, 1, .inr (.inl oF)))]) t9.heap := kp_P hP hX4
    have hfc : s.vm.findClass "java/lang/IndexOutOfBoundsException" = some cell.cls := by rw [← al.findClass]; exact hc3
    refine ck_1 (own := R_L) (C := "java/lang/IndexOutOfBoundsException") hown htab (by decide) (by decide) (by decide) (kw263 Z.1 _ _ hg.1) hc1 hc2 hfc ?_
    refine W.widen (k := 2) (n := 12) (Nat.le_of_ble_eq_true rfl) (Nat.le_of_ble_eq_true rfl) ?_
    refine lv_astore (lv' := [(4, .ref x9), (0, .ref (a 0)), (1, .int k), (2, .int v), (3, .ref oA)]) hx hb d_L_mill_12 hl (by decide) rfl (fun ls hl => ?_)
    refine lv_iconst (v := 1) hx hb d_L_mill_14 (by decide) ?_
    exact wt_iret hx hb hr hlk hP hD hS1 (((), oF) : (Unit) × (Nat → Int64)) rfl (Or.inr ⟨rfl, g0, rfl⟩) d_L_mill_15
set_option maxHeartbeats 4000000 in
set_option maxRecDepth 100000 in
theorem m_L_bad {l : Launch} {s0 : State} {D : va_G} {cA sa : Nat → Nat} (Z : zE l s0 D cA sa) (N9 : zN s0) (a : Nat → Nat) (ii : Nat → Int32) (li : Nat → Int64) (ia : Nat → Nat → Int32) (la : Nat → Nat → Int64) (bd : Nat → Nat) (y : Nat → Nat) (iy : Nat → Int32) (ly : Nat → Int64) (jy : Nat → Nat → Int32) (ky : Nat → Nat → Int64) (hya : y 0 = a 6) (l0 y0 g : Nat) (rw : List Rw) (bf : Nat → Bool) (hy : yR l0 y0 g rw bf (iy, ly, jy, ky)) (hok : okR l0 y0 g rw) (v on : Int32) (hon : on = 0 ∨ on = 1) (oA : Nat) (oF : Nat → Int64) (sz : Nat) : th_Met l y_L_bad [.codeWith y_L_bad c_L_bad 5 (some .int) [(0, 17, 20, 13)]] ({ frames := 12, cells := 1, slots := 6, locals := 380 }) (wP s0 D [.ref (a 0), .int v, .int on, .ref oA] (((w_P a cA ii li ia la bd) ++ (w_Y y cA iy ly jy ky)) ++ [(oA, .inl (cA 1, 1, .inr (.inl oF)))]) sz) (th_Qi (fun (r9 : Int32) (u9 : (Nat → Nat → Int32) × (Nat → Int64)) => (∃ v9, r9 = 0 ∧ (fun (r : Int32) (u : Nat → Nat → Int32) => ∃ c, c < ly_n rw ∧ v = nI c ∧ r = (if jy 8 c = on then 0 else 1) ∧ u = va_up jy 8 (upd (jy 8) c on)) v9 u9.1 ∧ u9.2 0 = (if v9 = 0 then 0 else 1)) ∨ (r9 = 1 ∧ (¬ (∃ c, c < ly_n rw ∧ v = nI c)) ∧ u9 = (jy, oF))) (wB D (va_A (((w_P a cA ii li ia la bd) ++ (w_Y y cA iy ly jy ky)) ++ [(oA, .inl (cA 1, 1, .inr (.inl oF)))]) sz) (fun (u9 : (Nat → Nat → Int32) × (Nat → Int64)) => ((fun (u : Nat → Nat → Int32) => (w_P a cA ii li ia la bd) ++ (w_Y y cA iy ly u ky)) u9.1) ++ [(oA, .inl (cA 1, 1, .inr (.inl u9.2)))])) (va_A (((w_P a cA ii li ia la bd) ++ (w_Y y cA iy ly jy ky)) ++ [(oA, .inl (cA 1, 1, .inr (.inl oF)))]) sz) (fun _ _ _ => False)) 1 6 (va_A (((w_P a cA ii li ia la bd) ++ (w_Y y cA iy ly jy ky)) ++ [(oA, .inl (cA 1, 1, .inr (.inl oF)))]) sz) := by
  refine wMetW Z (by decide) (Nat.le_of_ble_eq_true rfl) ?_
  intro p e s m below meth c hx hb hr hml hown hlk htab hg hK hsz hP hD hA hlo hS ls hl
  subst hsz
  have hown : s.vm.findClass R_L = some m.cls := hown
  refine lv_aload_n hx hb d_L_bad_0 rfl (lv_at hl 3 rfl) ?_
  refine lv_iconst (v := 0) hx hb d_L_bad_1 (by decide) ?_
  refine lv_aload_n hx hb d_L_bad_2 rfl (lv_at hl 0 rfl) ?_
  refine lv_iload_n hx hb d_L_bad_3 rfl (lv_at hl 1 rfl) ?_
  refine lv_iload_n hx hb d_L_bad_4 rfl (lv_at hl 2 rfl) ?_
  refine wt_calli (wr := [(oA, .inl (cA 1, 1, .inr (.inl oF)))]) (wt_runV (rest := [.int 0, .ref oA]) hx hb hml hown hl.1 hg hlo hK hP hD hS (m_P_bad Z a ii li ia la bd y iy ly jy ky hya l0 y0 g rw bf hy hok v on hon s.heap.size) (kw577 Z.1) (kw578 Z.1) (kw579 Z.1) (kw580 Z.1) (kw1 Z.1) ⟨by decide, by decide, (by decide +kernel : (parseMethodDescriptor y_P_bad.desc).map (fun d => d.parameters.length) = some 2)⟩ ⟨(Nat.le_of_ble_eq_true rfl), (Nat.le_of_ble_eq_true rfl)⟩ [0, 1, 2, 3, 4, 5, 6, 7, 8, 9, 10, 11, 12, 13, 14] rfl rfl (ci := 0) (q0 := 0) rfl rfl rfl (Nat.le_of_ble_eq_true rfl) d_L_bad_5 ⟨(Nat.le_of_ble_eq_true rfl), (Nat.le_of_ble_eq_true rfl)⟩) hP hD hS hA [0, 1, 2, 3, 4, 5, 6, 7, 8, 9, 10, 11, 12, 13, 14] [15] rfl rfl rfl (by decide) (fun (u9 : Nat → Nat → Int32) => ((fun (u : Nat → Nat → Int32) => (w_P a cA ii li ia la bd) ++ (w_Y y cA iy ly u ky)) u9) ++ [(oA, .inl (cA 1, 1, .inr (.inl oF)))]) [1, 2, 3, 4, 5, 6, 7, 8, 9, 10, 11, 12, 13, 14, 15, 0] rfl (fun _ => rfl) (fun v9 u9 H locs hq hP hD hS => ?_) (fun x9 t9 locs1 al hth hS1 => ?_)
  · refine W.widen (k := 1) (n := 6) (Nat.le_of_ble_eq_true rfl) (Nat.le_of_ble_eq_true rfl) ?_
    refine lv_if_eq (tgt := 15) hx hb d_L_bad_8 (by decide) (fun c1 => ?_) (fun c1 => ?_)
    · refine lv_lconst (v := 0) hx hb d_L_bad_15 (by decide) ?_
      refine va_last hx hb hK hP hD hS 15 1 rfl rfl (by unfold vp_in; decide) d_L_bad_16 (fun H locs hP hD hS => ?_)
      refine lv_goto (tgt := 24) hx hb d_L_bad_17 (by decide) ?_
      refine lv_iconst (v := 0) hx hb d_L_bad_24 (by decide) ?_
      exact wt_iret hx hb hr hlk hP hD hS ((u9, vp_updL oF (Int32.toNatClampNeg 0) 0) : (Nat → Nat → Int32) × (Nat → Int64)) rfl (Or.inl ⟨v9, rfl, hq, (out0 oF _).trans (if_pos c1).symm⟩) d_L_bad_25
    · refine lv_lconst (v := 1) hx hb d_L_bad_11 (by decide) ?_
      refine lv_goto (tgt := 16) hx hb d_L_bad_12 (by decide) ?_
      refine va_last hx hb hK hP hD hS 15 1 rfl rfl (by unfold vp_in; decide) d_L_bad_16 (fun H locs hP hD hS => ?_)
      refine lv_goto (tgt := 24) hx hb d_L_bad_17 (by decide) ?_
      refine lv_iconst (v := 0) hx hb d_L_bad_24 (by decide) ?_
      exact wt_iret hx hb hr hlk hP hD hS ((u9, vp_updL oF (Int32.toNatClampNeg 0) 1) : (Nat → Nat → Int32) × (Nat → Int64)) rfl (Or.inl ⟨v9, rfl, hq, (out0 oF _).trans (if_neg c1).symm⟩) d_L_bad_25
  · obtain ⟨g0, hX⟩ := hth
    obtain ⟨hX1, hX2, ⟨cell, hc1, hc2, hc3⟩, hX4⟩ := hX
    have hP : va_P D ncl (((w_P a cA ii li ia la bd) ++ (w_Y y cA iy ly jy ky)) ++ [(oA, .inl (cA 1, 1, .inr (.inl oF)))]) t9.heap := kp_P hP hX4
    have hfc : s.vm.findClass "java/lang/IndexOutOfBoundsException" = some cell.cls := by rw [← al.findClass]; exact hc3
    refine ck_1 (own := R_L) (C := "java/lang/IndexOutOfBoundsException") hown htab (by decide) (by decide) (by decide) (kw263 Z.1 _ _ hg.1) hc1 hc2 hfc ?_
    refine W.widen (k := 1) (n := 6) (Nat.le_of_ble_eq_true rfl) (Nat.le_of_ble_eq_true rfl) ?_
    refine lv_astore (lv' := [(4, .ref x9), (0, .ref (a 0)), (1, .int v), (2, .int on), (3, .ref oA)]) hx hb d_L_bad_20 hl (by decide) rfl (fun ls hl => ?_)
    refine lv_iconst (v := 1) hx hb d_L_bad_22 (by decide) ?_
    exact wt_iret hx hb hr hlk hP hD hS1 ((jy, oF) : (Nat → Nat → Int32) × (Nat → Int64)) rfl (Or.inr ⟨rfl, g0, rfl⟩) d_L_bad_23
set_option maxHeartbeats 4000000 in
set_option maxRecDepth 100000 in
theorem m_L_tab {l : Launch} {s0 : State} {D : va_G} {cA sa : Nat → Nat} (Z : zE l s0 D cA sa) (N9 : zN s0) (a : Nat → Nat) (ii : Nat → Int32) (li : Nat → Int64) (ia : Nat → Nat → Int32) (la : Nat → Nat → Int64) (bd : Nat → Nat) (y : Nat → Nat) (iy : Nat → Int32) (ly : Nat → Int64) (jy : Nat → Nat → Int32) (ky : Nat → Nat → Int64) (hya : y 0 = a 6) (l0 y0 g : Nat) (rw : List Rw) (bf : Nat → Bool) (hy : yR l0 y0 g rw bf (iy, ly, jy, ky)) (hok : okR l0 y0 g rw) (b : Nat → Nat) (ib : Nat → Int32) (lb : Nat → Int64) (jb : Nat → Nat → Int32) (kb : Nat → Nat → Int64) (v k wt : Int32) (np : Nat) (hnp : ib 6 = nI np) (hnp2 : np ≤ 10) (hbd : ∀ c, c < ly_n rw → v = nI c → bd (cpk ((lcp l0 g y0 rw).getD c cp0) 0) = b 0) (oA : Nat) (oF : Nat → Int64) (sz : Nat) : th_Met l y_L_tab [.codeWith y_L_tab c_L_tab 6 (some .int) [(0, 11, 14, 13), (0, 11, 18, 33)]] ({ frames := 12, cells := 4, slots := 24, locals := 380 }) (wP s0 D [.ref (a 0), .int v, .int k, .int wt, .ref oA] (((w_P a cA ii li ia la bd) ++ (w_Y y cA iy ly jy ky) ++ (w_B b cA ib lb jb kb)) ++ [(oA, .inl (cA 1, 1, .inr (.inl oF)))]) sz) (th_Qi (fun (r9 : Int32) (u9 : (Unit) × (Nat → Int64)) => (∃ v9, r9 = 0 ∧ (fun (r : Int64) (_ : Unit) => ∃ c sd wh, c < ly_n rw ∧ v = nI c ∧ sd < 4 ∧ k = nI sd ∧ wh < 2 ∧ wt = nI wh ∧ (List.range np).any (bn kb lb (tb_x ((lcp l0 g y0 rw).getD c cp0) sd) (tb_y ((lcp l0 g y0 rw).getD c cp0) sd) (nI (cpk ((lcp l0 g y0 rw).getD c cp0) 3))) = false ∧ r = if wh = 0 then lN (cpk ((lcp l0 g y0 rw).getD c cp0) 1) + tb_x ((lcp l0 g y0 rw).getD c cp0) sd else lN (cpk ((lcp l0 g y0 rw).getD c cp0) 2) + tb_y ((lcp l0 g y0 rw).getD c cp0) sd) v9 u9.1 ∧ u9.2 0 = v9) ∨ (r9 = 1 ∧ (¬ ((∃ c, c < ly_n rw ∧ v = nI c) ∧ (∃ sd, sd < 4 ∧ k = nI sd) ∧ ∃ wh, wh < 2 ∧ wt = nI wh)) ∧ u9 = ((), oF)) ∨ (r9 = 2 ∧ ((∃ c sd, c < ly_n rw ∧ v = nI c ∧ sd < 4 ∧ k = nI sd ∧ (∃ wh, wh < 2 ∧ wt = nI wh) ∧ (List.range np).any (bn kb lb (tb_x ((lcp l0 g y0 rw).getD c cp0) sd) (tb_y ((lcp l0 g y0 rw).getD c cp0) sd) (nI (cpk ((lcp l0 g y0 rw).getD c cp0) 3))) = true)) ∧ u9 = ((), oF))) (wB D (va_A (((w_P a cA ii li ia la bd) ++ (w_Y y cA iy ly jy ky) ++ (w_B b cA ib lb jb kb)) ++ [(oA, .inl (cA 1, 1, .inr (.inl oF)))]) sz) (fun (u9 : (Unit) × (Nat → Int64)) => ((fun (_ : Unit) => (w_P a cA ii li ia la bd) ++ (w_Y y cA iy ly jy ky) ++ (w_B b cA ib lb jb kb)) u9.1) ++ [(oA, .inl (cA 1, 1, .inr (.inl u9.2)))])) (va_A (((w_P a cA ii li ia la bd) ++ (w_Y y cA iy ly jy ky) ++ (w_B b cA ib lb jb kb)) ++ [(oA, .inl (cA 1, 1, .inr (.inl oF)))]) sz) (fun _ _ _ => False)) 4 24 (va_A (((w_P a cA ii li ia la bd) ++ (w_Y y cA iy ly jy ky) ++ (w_B b cA ib lb jb kb)) ++ [(oA, .inl (cA 1, 1, .inr (.inl oF)))]) sz) := by
  refine wMetW Z (by decide) (Nat.le_of_ble_eq_true rfl) ?_
  intro p e s m below meth c hx hb hr hml hown hlk htab hg hK hsz hP hD hA hlo hS ls hl
  subst hsz
  have hown : s.vm.findClass R_L = some m.cls := hown
  refine lv_aload hx hb d_L_tab_0 (lv_at hl 4 rfl) ?_
  refine lv_iconst (v := 0) hx hb d_L_tab_2 (by decide) ?_
  refine lv_aload_n hx hb d_L_tab_3 rfl (lv_at hl 0 rfl) ?_
  refine lv_iload_n hx hb d_L_tab_4 rfl (lv_at hl 1 rfl) ?_
  refine lv_iload_n hx hb d_L_tab_5 rfl (lv_at hl 2 rfl) ?_
  refine lv_iload_n hx hb d_L_tab_6 rfl (lv_at hl 3 rfl) ?_
  refine wt_calll (wr := [(oA, .inl (cA 1, 1, .inr (.inl oF)))]) (wt_runV (rest := [.int 0, .ref oA]) hx hb hml hown hl.1 hg hlo hK hP hD hS (m_P_tab Z a ii li ia la bd y iy ly jy ky hya l0 y0 g rw bf hy hok b ib lb jb kb v k wt np hnp hnp2 hbd s.heap.size) (kw475 Z.1) (kw476 Z.1) (kw477 Z.1) (kw478 Z.1) (kw1 Z.1) ⟨by decide, by decide, (by decide +kernel : (parseMethodDescriptor y_P_tab.desc).map (fun d => d.parameters.length) = some 3)⟩ ⟨(Nat.le_of_ble_eq_true rfl), (Nat.le_of_ble_eq_true rfl)⟩ [0, 1, 2, 3, 4, 5, 6, 7, 8, 9, 10, 11, 12, 13, 14, 15, 16, 17, 18, 19, 20] rfl rfl (ci := 0) (q0 := 0) rfl rfl rfl (Nat.le_of_ble_eq_true rfl) d_L_tab_7 ⟨(Nat.le_of_ble_eq_true rfl), (Nat.le_of_ble_eq_true rfl)⟩) hP hD hS hA [0, 1, 2, 3, 4, 5, 6, 7, 8, 9, 10, 11, 12, 13, 14, 15, 16, 17, 18, 19, 20] [21] rfl rfl rfl (by decide) (fun (u9 : Unit) => ((fun (_ : Unit) => (w_P a cA ii li ia la bd) ++ (w_Y y cA iy ly jy ky) ++ (w_B b cA ib lb jb kb)) u9) ++ [(oA, .inl (cA 1, 1, .inr (.inl oF)))]) [1, 2, 3, 4, 5, 6, 7, 8, 9, 10, 11, 12, 13, 14, 15, 16, 17, 18, 19, 20, 21, 0] rfl (fun _ => rfl) (fun v9 u9 H locs hq hP hD hS => ?_) (fun x9 t9 locs1 al hth hS1 => ?_)
  · refine W.widen (k := 4) (n := 24) (Nat.le_of_ble_eq_true rfl) (Nat.le_of_ble_eq_true rfl) ?_
    refine va_last hx hb hK hP hD hS 21 1 rfl rfl (by unfold vp_in; decide) d_L_tab_10 (fun H locs hP hD hS => ?_)
    refine lv_goto (tgt := 22) hx hb d_L_tab_11 (by decide) ?_
    refine lv_iconst (v := 0) hx hb d_L_tab_22 (by decide) ?_
    exact wt_iret hx hb hr hlk hP hD hS ((u9, vp_updL oF (Int32.toNatClampNeg 0) v9) : (Unit) × (Nat → Int64)) rfl (Or.inl ⟨v9, rfl, hq, (out0 oF _)⟩) d_L_tab_23
  · rcases hth with ⟨g0, hX⟩ | ⟨g0, hX⟩
    · obtain ⟨hX1, hX2, ⟨cell, hc1, hc2, hc3⟩, hX4⟩ := hX
      have hP : va_P D ncl (((w_P a cA ii li ia la bd) ++ (w_Y y cA iy ly jy ky) ++ (w_B b cA ib lb jb kb)) ++ [(oA, .inl (cA 1, 1, .inr (.inl oF)))]) t9.heap := kp_P hP hX4
      have hfc : s.vm.findClass "java/lang/IndexOutOfBoundsException" = some cell.cls := by rw [← al.findClass]; exact hc3
      refine ck_1 (own := R_L) (C := "java/lang/IndexOutOfBoundsException") hown htab (by decide) (by decide) (by decide) (kw263 Z.1 _ _ hg.1) hc1 hc2 hfc ?_
      refine W.widen (k := 4) (n := 24) (Nat.le_of_ble_eq_true rfl) (Nat.le_of_ble_eq_true rfl) ?_
      refine lv_astore (lv' := [(5, .ref x9), (0, .ref (a 0)), (1, .int v), (2, .int k), (3, .int wt), (4, .ref oA)]) hx hb d_L_tab_14 hl (by decide) rfl (fun ls hl => ?_)
      refine lv_iconst (v := 1) hx hb d_L_tab_16 (by decide) ?_
      exact wt_iret hx hb hr hlk hP hD hS1 (((), oF) : (Unit) × (Nat → Int64)) rfl (Or.inr (Or.inl ⟨rfl, g0, rfl⟩)) d_L_tab_17
    · obtain ⟨hX1, hX2, ⟨cell, hc1, hc2, hc3⟩, hX4⟩ := hX
      have hP : va_P D ncl (((w_P a cA ii li ia la bd) ++ (w_Y y cA iy ly jy ky) ++ (w_B b cA ib lb jb kb)) ++ [(oA, .inl (cA 1, 1, .inr (.inl oF)))]) t9.heap := kp_P hP hX4
      have hfc : s.vm.findClass "java/lang/IllegalStateException" = some cell.cls := by rw [← al.findClass]; exact hc3
      obtain ⟨c1, hf1, hn1⟩ := nCs.at N9.2 hg hfc
      refine ck_2 (own := R_L) (C := "java/lang/IllegalStateException") (C1 := "java/lang/IndexOutOfBoundsException") hown htab (by decide) (by decide) (by decide) (by decide) (by decide) (by decide) (kw263 Z.1 _ _ hg.1) (kw474 Z.1 _ _ hg.1) hc1 hc2 hfc hf1 hn1 ?_
      refine W.widen (k := 4) (n := 24) (Nat.le_of_ble_eq_true rfl) (Nat.le_of_ble_eq_true rfl) ?_
      refine lv_astore (lv' := [(5, .ref x9), (0, .ref (a 0)), (1, .int v), (2, .int k), (3, .int wt), (4, .ref oA)]) hx hb d_L_tab_18 hl (by decide) rfl (fun ls hl => ?_)
      refine lv_iconst (v := 2) hx hb d_L_tab_20 (by decide) ?_
      exact wt_iret hx hb hr hlk hP hD hS1 (((), oF) : (Unit) × (Nat → Int64)) rfl (Or.inr (Or.inr ⟨rfl, g0, rfl⟩)) d_L_tab_21
set_option maxHeartbeats 4000000 in
set_option maxRecDepth 100000 in
theorem m_L_waste {l : Launch} {s0 : State} {D : va_G} {cA sa : Nat → Nat} (Z : zE l s0 D cA sa) (N9 : zN s0) (a : Nat → Nat) (ii : Nat → Int32) (li : Nat → Int64) (ia : Nat → Nat → Int32) (la : Nat → Nat → Int64) (bd : Nat → Nat) (y : Nat → Nat) (iy : Nat → Int32) (ly : Nat → Int64) (jy : Nat → Nat → Int32) (ky : Nat → Nat → Int64) (hya : y 0 = a 6) (l0 y0 g : Nat) (rw : List Rw) (bf : Nat → Bool) (hy : yR l0 y0 g rw bf (iy, ly, jy, ky)) (hok : okR l0 y0 g rw) (bb : Nat → Nat → Nat) (Bi : Nat → Nat → Int32) (Bl : Nat → Nat → Int64) (Bj : Nat → Nat → Nat → Int32) (Bk : Nat → Nat → Nat → Int64) (hbd : ∀ k, k < 4 → bd k = bb k 0) (nc A2 : Nat → Nat) (hnc : ∀ k, k < 4 → Bi k 5 = nI (nc k) ∧ nc k ≤ 12) (hA2 : ∀ k, k < 4 → abL (ba_sum (Bk k) (nc k) (nc k)) = lN (A2 k) ∧ A2 k ≤ 1000000000000) (v : Int32) (w h : Nat) (hw : li 0 = lN w) (hw1 : 0 < w) (hw2 : w ≤ 65536) (hh : li 1 = lN h) (hh1 : 0 < h) (hh2 : h ≤ 65536) (oA : Nat) (oF : Nat → Int64) (sz : Nat) : th_Met l y_L_waste [.codeWith y_L_waste c_L_waste 4 (some .int) [(0, 8, 11, 13)]] ({ frames := 12, cells := 1, slots := 6, locals := 380 }) (wP s0 D [.ref (a 0), .int v, .ref oA] (((w_P a cA ii li ia la bd) ++ (w_Y y cA iy ly jy ky) ++ (w_B (bb 0) cA (Bi 0) (Bl 0) (Bj 0) (Bk 0)) ++ (w_B (bb 1) cA (Bi 1) (Bl 1) (Bj 1) (Bk 1)) ++ (w_B (bb 2) cA (Bi 2) (Bl 2) (Bj 2) (Bk 2)) ++ (w_B (bb 3) cA (Bi 3) (Bl 3) (Bj 3) (Bk 3))) ++ [(oA, .inl (cA 1, 1, .inr (.inl oF)))]) sz) (th_Qi (fun (r9 : Int32) (u9 : (Unit) × (Nat → Int64)) => (∃ v9, r9 = 0 ∧ (fun (r : Int64) (_ : Unit) => ∃ i, i < 2 ∧ v = nI i ∧ r = (if i = 0 then lZ ((2 * w * h : Nat) - (tsN A2 rw rw.length : Nat) : Int) else lN (2 * w * h)) / lN (max 1 (Nat.gcd (((2 * w * h : Nat) - (tsN A2 rw rw.length : Nat) : Int)).natAbs (2 * w * h)))) v9 u9.1 ∧ u9.2 0 = v9) ∨ (r9 = 1 ∧ (¬ (∃ i, i < 2 ∧ v = nI i)) ∧ u9 = ((), oF))) (wB D (va_A (((w_P a cA ii li ia la bd) ++ (w_Y y cA iy ly jy ky) ++ (w_B (bb 0) cA (Bi 0) (Bl 0) (Bj 0) (Bk 0)) ++ (w_B (bb 1) cA (Bi 1) (Bl 1) (Bj 1) (Bk 1)) ++ (w_B (bb 2) cA (Bi 2) (Bl 2) (Bj 2) (Bk 2)) ++ (w_B (bb 3) cA (Bi 3) (Bl 3) (Bj 3) (Bk 3))) ++ [(oA, .inl (cA 1, 1, .inr (.inl oF)))]) sz) (fun (u9 : (Unit) × (Nat → Int64)) => ((fun (_ : Unit) => (w_P a cA ii li ia la bd) ++ (w_Y y cA iy ly jy ky) ++ (w_B (bb 0) cA (Bi 0) (Bl 0) (Bj 0) (Bk 0)) ++ (w_B (bb 1) cA (Bi 1) (Bl 1) (Bj 1) (Bk 1)) ++ (w_B (bb 2) cA (Bi 2) (Bl 2) (Bj 2) (Bk 2)) ++ (w_B (bb 3) cA (Bi 3) (Bl 3) (Bj 3) (Bk 3))) u9.1) ++ [(oA, .inl (cA 1, 1, .inr (.inl u9.2)))])) (va_A (((w_P a cA ii li ia la bd) ++ (w_Y y cA iy ly jy ky) ++ (w_B (bb 0) cA (Bi 0) (Bl 0) (Bj 0) (Bk 0)) ++ (w_B (bb 1) cA (Bi 1) (Bl 1) (Bj 1) (Bk 1)) ++ (w_B (bb 2) cA (Bi 2) (Bl 2) (Bj 2) (Bk 2)) ++ (w_B (bb 3) cA (Bi 3) (Bl 3) (Bj 3) (Bk 3))) ++ [(oA, .inl (cA 1, 1, .inr (.inl oF)))]) sz) (fun _ _ _ => False)) 1 6 (va_A (((w_P a cA ii li ia la bd) ++ (w_Y y cA iy ly jy ky) ++ (w_B (bb 0) cA (Bi 0) (Bl 0) (Bj 0) (Bk 0)) ++ (w_B (bb 1) cA (Bi 1) (Bl 1) (Bj 1) (Bk 1)) ++ (w_B (bb 2) cA (Bi 2) (Bl 2) (Bj 2) (Bk 2)) ++ (w_B (bb 3) cA (Bi 3) (Bl 3) (Bj 3) (Bk 3))) ++ [(oA, .inl (cA 1, 1, .inr (.inl oF)))]) sz) := by
  refine wMetW Z (by decide) (Nat.le_of_ble_eq_true rfl) ?_
  intro p e s m below meth c hx hb hr hml hown hlk htab hg hK hsz hP hD hA hlo hS ls hl
  subst hsz
  have hown : s.vm.findClass R_L = some m.cls := hown
  refine lv_aload_n hx hb d_L_waste_0 rfl (lv_at hl 2 rfl) ?_
  refine lv_iconst (v := 0) hx hb d_L_waste_1 (by decide) ?_
  refine lv_aload_n hx hb d_L_waste_2 rfl (lv_at hl 0 rfl) ?_
  refine lv_iload_n hx hb d_L_waste_3 rfl (lv_at hl 1 rfl) ?_
  refine wt_calll (wr := [(oA, .inl (cA 1, 1, .inr (.inl oF)))]) (wt_runV (rest := [.int 0, .ref oA]) hx hb hml hown hl.1 hg hlo hK hP hD hS (m_P_waste Z a ii li ia la bd y iy ly jy ky hya l0 y0 g rw bf hy hok bb Bi Bl Bj Bk hbd nc A2 hnc hA2 v w h hw hw1 hw2 hh hh1 hh2 s.heap.size) (kw536 Z.1) (kw537 Z.1) (kw538 Z.1) (kw539 Z.1) (kw1 Z.1) ⟨by decide, by decide, (by decide +kernel : (parseMethodDescriptor y_P_waste.desc).map (fun d => d.parameters.length) = some 1)⟩ ⟨(Nat.le_of_ble_eq_true rfl), (Nat.le_of_ble_eq_true rfl)⟩ [0, 1, 2, 3, 4, 5, 6, 7, 8, 9, 10, 11, 12, 13, 14, 15, 16, 17, 18, 19, 20, 21, 22, 23, 24, 25, 26, 27, 28, 29, 30, 31, 32, 33, 34, 35, 36, 37, 38] rfl rfl (ci := 0) (q0 := 0) rfl rfl rfl (Nat.le_of_ble_eq_true rfl) d_L_waste_4 ⟨(Nat.le_of_ble_eq_true rfl), (Nat.le_of_ble_eq_true rfl)⟩) hP hD hS hA [0, 1, 2, 3, 4, 5, 6, 7, 8, 9, 10, 11, 12, 13, 14, 15, 16, 17, 18, 19, 20, 21, 22, 23, 24, 25, 26, 27, 28, 29, 30, 31, 32, 33, 34, 35, 36, 37, 38] [39] rfl rfl rfl (by decide) (fun (u9 : Unit) => ((fun (_ : Unit) => (w_P a cA ii li ia la bd) ++ (w_Y y cA iy ly jy ky) ++ (w_B (bb 0) cA (Bi 0) (Bl 0) (Bj 0) (Bk 0)) ++ (w_B (bb 1) cA (Bi 1) (Bl 1) (Bj 1) (Bk 1)) ++ (w_B (bb 2) cA (Bi 2) (Bl 2) (Bj 2) (Bk 2)) ++ (w_B (bb 3) cA (Bi 3) (Bl 3) (Bj 3) (Bk 3))) u9) ++ [(oA, .inl (cA 1, 1, .inr (.inl oF)))]) [1, 2, 3, 4, 5, 6, 7, 8, 9, 10, 11, 12, 13, 14, 15, 16, 17, 18, 19, 20, 21, 22, 23, 24, 25, 26, 27, 28, 29, 30, 31, 32, 33, 34, 35, 36, 37, 38, 39, 0] rfl (fun _ => rfl) (fun v9 u9 H locs hq hP hD hS => ?_) (fun x9 t9 locs1 al hth hS1 => ?_)
  · refine W.widen (k := 1) (n := 6) (Nat.le_of_ble_eq_true rfl) (Nat.le_of_ble_eq_true rfl) ?_
    refine va_last hx hb hK hP hD hS 39 1 rfl rfl (by unfold vp_in; decide) d_L_waste_7 (fun H locs hP hD hS => ?_)
    refine lv_goto (tgt := 14) hx hb d_L_waste_8 (by decide) ?_
    refine lv_iconst (v := 0) hx hb d_L_waste_14 (by decide) ?_
    exact wt_iret hx hb hr hlk hP hD hS ((u9, vp_updL oF (Int32.toNatClampNeg 0) v9) : (Unit) × (Nat → Int64)) rfl (Or.inl ⟨v9, rfl, hq, (out0 oF _)⟩) d_L_waste_15
  · obtain ⟨g0, hX⟩ := hth
    obtain ⟨hX1, hX2, ⟨cell, hc1, hc2, hc3⟩, hX4⟩ := hX
    have hP : va_P D ncl (((w_P a cA ii li ia la bd) ++ (w_Y y cA iy ly jy ky) ++ (w_B (bb 0) cA (Bi 0) (Bl 0) (Bj 0) (Bk 0)) ++ (w_B (bb 1) cA (Bi 1) (Bl 1) (Bj 1) (Bk 1)) ++ (w_B (bb 2) cA (Bi 2) (Bl 2) (Bj 2) (Bk 2)) ++ (w_B (bb 3) cA (Bi 3) (Bl 3) (Bj 3) (Bk 3))) ++ [(oA, .inl (cA 1, 1, .inr (.inl oF)))]) t9.heap := kp_P hP hX4
    have hfc : s.vm.findClass "java/lang/IndexOutOfBoundsException" = some cell.cls := by rw [← al.findClass]; exact hc3
    refine ck_1 (own := R_L) (C := "java/lang/IndexOutOfBoundsException") hown htab (by decide) (by decide) (by decide) (kw263 Z.1 _ _ hg.1) hc1 hc2 hfc ?_
    refine W.widen (k := 1) (n := 6) (Nat.le_of_ble_eq_true rfl) (Nat.le_of_ble_eq_true rfl) ?_
    refine lv_astore_n (lv' := [(3, .ref x9), (0, .ref (a 0)), (1, .int v), (2, .ref oA)]) hx hb d_L_waste_11 rfl hl (by decide) rfl (fun ls hl => ?_)
    refine lv_iconst (v := 1) hx hb d_L_waste_12 (by decide) ?_
    exact wt_iret hx hb hr hlk hP hD hS1 (((), oF) : (Unit) × (Nat → Int64)) rfl (Or.inr ⟨rfl, g0, rfl⟩) d_L_waste_13
set_option maxHeartbeats 4000000 in
set_option maxRecDepth 100000 in
theorem m_L_run {l : Launch} {s0 : State} {D : va_G} {cA sa : Nat → Nat} (Z : zE l s0 D cA sa) (N9 : zN s0) (a : Nat → Nat) (ii : Nat → Int32) (li : Nat → Int64) (ia : Nat → Nat → Int32) (la : Nat → Nat → Int64) (bd : Nat → Nat) (sb : Nat → Nat) (is_ : Nat → Int32) (ls_ : Nat → Int64) (js : Nat → Nat → Int32) (ks : Nat → Nat → Int64) (hsa : sb 0 = a 5) (hsV : sV (is_, ls_, js, ks)) (y : Nat → Nat) (iy : Nat → Int32) (ly : Nat → Int64) (jy : Nat → Nat → Int32) (ky : Nat → Nat → Int64) (hya : y 0 = a 6) (bb : Nat → Nat → Nat) (Bi : Nat → Nat → Int32) (Bl : Nat → Nat → Int64) (Bj : Nat → Nat → Nat → Int32) (Bk : Nat → Nat → Nat → Int64) (hbd : ∀ k, k < 4 → bd k = bb k 0) (bw bh wt : Nat → Nat) (hbx : ∀ k, k < 4 → boxR (Bl k) (bw k) (bh k)) (hwt : ∀ k, k < 4 → Bi k 11 = nI (wt k) ∧ wt k ≤ 200) (g l0 y0 : Nat) (hg7 : li 7 = lN g) (hg65 : g ≤ 65536) (hl0 : la 3 0 = lN l0) (hl65 : l0 ≤ 65536) (hy0 : la 3 1 = lN y0) (hy65 : y0 ≤ 65536) (ac fr : Int) (hac : li 0 - la 3 0 - la 3 2 = lZ ac) (ha1 : -200000 ≤ ac) (ha2 : ac ≤ 65536) (hfr : li 1 - la 3 1 - la 3 3 = lZ fr) (hf1 : -200000 ≤ fr) (hf2 : fr ≤ 65536) (nb : Nat) (hnb : ii 6 = nI nb) (hnb4 : nb ≤ 4) (kv : Int32) (nv : Int64) (oA : Nat) (oF : Nat → Int64) (sz : Nat) : th_Met l y_L_run [.codeWith y_L_run c_L_run 6 (some .int) [(0, 11, 14, 15)]] ({ frames := 22, cells := 1, slots := 6, locals := 1580 }) (wP s0 D [.ref (a 0), .int kv, .long nv, .ref oA] (((w_P a cA ii li ia la bd) ++ (w_S sb cA is_ ls_ js ks) ++ (w_Y y cA iy ly jy ky) ++ (w_B (bb 0) cA (Bi 0) (Bl 0) (Bj 0) (Bk 0)) ++ (w_B (bb 1) cA (Bi 1) (Bl 1) (Bj 1) (Bk 1)) ++ (w_B (bb 2) cA (Bi 2) (Bl 2) (Bj 2) (Bk 2)) ++ (w_B (bb 3) cA (Bi 3) (Bl 3) (Bj 3) (Bk 3))) ++ [(oA, .inl (cA 1, 1, .inr (.inl oF)))]) sz) (th_Qi (fun (r9 : Int32) (u9 : (RU) × (Nat → Int64)) => (∃ v9, r9 = 0 ∧ (fun (r : Int32) (u : RU) => ∃ kn n, kn < 5 ∧ n < 9 ∧ kv = nI kn ∧ nv = lN n ∧ prR ac fr g nb l0 y0 bw bh wt ii kn n r u) v9 u9.1 ∧ u9.2 0 = v9.toInt64) ∨ (r9 = 1 ∧ (¬ (∃ kn n, kn < 5 ∧ n < 9 ∧ kv = nI kn ∧ nv = lN n)) ∧ u9 = (((is_, ls_, js, ks), ii, (iy, ly, jy, ky)), oF))) (wB D (va_A (((w_P a cA ii li ia la bd) ++ (w_S sb cA is_ ls_ js ks) ++ (w_Y y cA iy ly jy ky) ++ (w_B (bb 0) cA (Bi 0) (Bl 0) (Bj 0) (Bk 0)) ++ (w_B (bb 1) cA (Bi 1) (Bl 1) (Bj 1) (Bk 1)) ++ (w_B (bb 2) cA (Bi 2) (Bl 2) (Bj 2) (Bk 2)) ++ (w_B (bb 3) cA (Bi 3) (Bl 3) (Bj 3) (Bk 3))) ++ [(oA, .inl (cA 1, 1, .inr (.inl oF)))]) sz) (fun (u9 : (RU) × (Nat → Int64)) => ((fun (u : RU) => (w_P a cA u.2.1 li ia la bd) ++ (w_S sb cA u.1.1 u.1.2.1 u.1.2.2.1 u.1.2.2.2) ++ (w_Y y cA u.2.2.1 u.2.2.2.1 u.2.2.2.2.1 u.2.2.2.2.2) ++ (w_B (bb 0) cA (Bi 0) (Bl 0) (Bj 0) (Bk 0)) ++ (w_B (bb 1) cA (Bi 1) (Bl 1) (Bj 1) (Bk 1)) ++ (w_B (bb 2) cA (Bi 2) (Bl 2) (Bj 2) (Bk 2)) ++ (w_B (bb 3) cA (Bi 3) (Bl 3) (Bj 3) (Bk 3))) u9.1) ++ [(oA, .inl (cA 1, 1, .inr (.inl u9.2)))])) (va_A (((w_P a cA ii li ia la bd) ++ (w_S sb cA is_ ls_ js ks) ++ (w_Y y cA iy ly jy ky) ++ (w_B (bb 0) cA (Bi 0) (Bl 0) (Bj 0) (Bk 0)) ++ (w_B (bb 1) cA (Bi 1) (Bl 1) (Bj 1) (Bk 1)) ++ (w_B (bb 2) cA (Bi 2) (Bl 2) (Bj 2) (Bk 2)) ++ (w_B (bb 3) cA (Bi 3) (Bl 3) (Bj 3) (Bk 3))) ++ [(oA, .inl (cA 1, 1, .inr (.inl oF)))]) sz) (fun _ _ _ => False)) 1 6 (va_A (((w_P a cA ii li ia la bd) ++ (w_S sb cA is_ ls_ js ks) ++ (w_Y y cA iy ly jy ky) ++ (w_B (bb 0) cA (Bi 0) (Bl 0) (Bj 0) (Bk 0)) ++ (w_B (bb 1) cA (Bi 1) (Bl 1) (Bj 1) (Bk 1)) ++ (w_B (bb 2) cA (Bi 2) (Bl 2) (Bj 2) (Bk 2)) ++ (w_B (bb 3) cA (Bi 3) (Bl 3) (Bj 3) (Bk 3))) ++ [(oA, .inl (cA 1, 1, .inr (.inl oF)))]) sz) := by
  refine wMetW Z (by decide) (Nat.le_of_ble_eq_true rfl) ?_
  intro p e s m below meth c hx hb hr hml hown hlk htab hg hK hsz hP hD hA hlo hS ls hl
  subst hsz
  have hown : s.vm.findClass R_L = some m.cls := hown
  refine lv_aload hx hb d_L_run_0 (lv_at hl 3 rfl) ?_
  refine lv_iconst (v := 0) hx hb d_L_run_2 (by decide) ?_
  refine lv_aload_n hx hb d_L_run_3 rfl (lv_at hl 0 rfl) ?_
  refine lv_iload_n hx hb d_L_run_4 rfl (lv_at hl 1 rfl) ?_
  refine lv_lload_n hx hb d_L_run_5 rfl (lv_at hl 2 rfl) ?_
  refine wt_calli (wr := [(oA, .inl (cA 1, 1, .inr (.inl oF)))]) (wt_runV (rest := [.int 0, .ref oA]) hx hb hml hown hl.1 hg hlo hK hP hD hS (m_P_run Z a ii li ia la bd sb is_ ls_ js ks hsa hsV y iy ly jy ky hya bb Bi Bl Bj Bk hbd bw bh wt hbx hwt g l0 y0 hg7 hg65 hl0 hl65 hy0 hy65 ac fr hac ha1 ha2 hfr hf1 hf2 nb hnb hnb4 kv nv s.heap.size) (kw372 Z.1) (kw373 Z.1) (kw374 Z.1) (kw375 Z.1) (kw1 Z.1) ⟨by decide, by decide, (by decide +kernel : (parseMethodDescriptor y_P_run.desc).map (fun d => d.parameters.length) = some 2)⟩ ⟨(Nat.le_of_ble_eq_true rfl), (Nat.le_of_ble_eq_true rfl)⟩ [0, 1, 2, 3, 4, 5, 6, 7, 8, 9, 10, 11, 12, 13, 14, 15, 16, 17, 18, 19, 20, 21, 22, 23, 24, 25, 26, 27, 28, 29, 30, 31, 32, 33, 34, 35, 36, 37, 38, 39, 40, 41, 42, 43, 44, 45, 46] rfl rfl (ci := 0) (q0 := 0) rfl rfl rfl (Nat.le_of_ble_eq_true rfl) d_L_run_6 ⟨(Nat.le_of_ble_eq_true rfl), (Nat.le_of_ble_eq_true rfl)⟩) hP hD hS hA [0, 1, 2, 3, 4, 5, 6, 7, 8, 9, 10, 11, 12, 13, 14, 15, 16, 17, 18, 19, 20, 21, 22, 23, 24, 25, 26, 27, 28, 29, 30, 31, 32, 33, 34, 35, 36, 37, 38, 39, 40, 41, 42, 43, 44, 45, 46] [47] rfl rfl rfl (by decide) (fun (u9 : RU) => ((fun (u : RU) => (w_P a cA u.2.1 li ia la bd) ++ (w_S sb cA u.1.1 u.1.2.1 u.1.2.2.1 u.1.2.2.2) ++ (w_Y y cA u.2.2.1 u.2.2.2.1 u.2.2.2.2.1 u.2.2.2.2.2) ++ (w_B (bb 0) cA (Bi 0) (Bl 0) (Bj 0) (Bk 0)) ++ (w_B (bb 1) cA (Bi 1) (Bl 1) (Bj 1) (Bk 1)) ++ (w_B (bb 2) cA (Bi 2) (Bl 2) (Bj 2) (Bk 2)) ++ (w_B (bb 3) cA (Bi 3) (Bl 3) (Bj 3) (Bk 3))) u9) ++ [(oA, .inl (cA 1, 1, .inr (.inl oF)))]) [1, 2, 3, 4, 5, 6, 7, 8, 9, 10, 11, 12, 13, 14, 15, 16, 17, 18, 19, 20, 21, 22, 23, 24, 25, 26, 27, 28, 29, 30, 31, 32, 33, 34, 35, 36, 37, 38, 39, 40, 41, 42, 43, 44, 45, 46, 47, 0] rfl (fun _ => rfl) (fun v9 u9 H locs hq hP hD hS => ?_) (fun x9 t9 locs1 al hth hS1 => ?_)
  · refine W.widen (k := 1) (n := 6) (Nat.le_of_ble_eq_true rfl) (Nat.le_of_ble_eq_true rfl) ?_
    refine lv_i2l hx hb d_L_run_9 rfl ?_
    refine va_last hx hb hK hP hD hS 47 1 rfl rfl (by unfold vp_in; decide) d_L_run_10 (fun H locs hP hD hS => ?_)
    refine lv_goto (tgt := 18) hx hb d_L_run_11 (by decide) ?_
    refine lv_iconst (v := 0) hx hb d_L_run_18 (by decide) ?_
    exact wt_iret hx hb hr hlk hP hD hS ((u9, vp_updL oF (Int32.toNatClampNeg 0) (Int32.toInt64 v9)) : (RU) × (Nat → Int64)) rfl (Or.inl ⟨v9, rfl, hq, (out0 oF _)⟩) d_L_run_19
  · obtain ⟨g0, hX⟩ := hth
    obtain ⟨hX1, hX2, ⟨cell, hc1, hc2, hc3⟩, hX4⟩ := hX
    have hP : va_P D ncl (((w_P a cA ii li ia la bd) ++ (w_S sb cA is_ ls_ js ks) ++ (w_Y y cA iy ly jy ky) ++ (w_B (bb 0) cA (Bi 0) (Bl 0) (Bj 0) (Bk 0)) ++ (w_B (bb 1) cA (Bi 1) (Bl 1) (Bj 1) (Bk 1)) ++ (w_B (bb 2) cA (Bi 2) (Bl 2) (Bj 2) (Bk 2)) ++ (w_B (bb 3) cA (Bi 3) (Bl 3) (Bj 3) (Bk 3))) ++ [(oA, .inl (cA 1, 1, .inr (.inl oF)))]) t9.heap := kp_P hP hX4
    have hfc : s.vm.findClass "java/lang/IllegalArgumentException" = some cell.cls := by rw [← al.findClass]; exact hc3
    refine ck_1 (own := R_L) (C := "java/lang/IllegalArgumentException") hown htab (by decide) (by decide) (by decide) (kw264 Z.1 _ _ hg.1) hc1 hc2 hfc ?_
    refine W.widen (k := 1) (n := 6) (Nat.le_of_ble_eq_true rfl) (Nat.le_of_ble_eq_true rfl) ?_
    refine lv_astore (lv' := [(5, .ref x9), (0, .ref (a 0)), (1, .int kv), (2, .long nv), (4, .ref oA)]) hx hb d_L_run_14 hl (by decide) rfl (fun ls hl => ?_)
    refine lv_iconst (v := 1) hx hb d_L_run_16 (by decide) ?_
    exact wt_iret hx hb hr hlk hP hD hS1 ((((is_, ls_, js, ks), ii, (iy, ly, jy, ky)), oF) : (RU) × (Nat → Int64)) rfl (Or.inr ⟨rfl, g0, rfl⟩) d_L_run_17
