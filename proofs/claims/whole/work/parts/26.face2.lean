theorem nar01 {r : Int32} (h : r = 0 ∨ r = 1) : narrow .boolean (.int r) = .int r := by
  rcases h with h | h <;> rw [h] <;> rfl
abbrev okL (v : Int64) : Prop := 0 ≤ v ∧ v ≤ 65536
set_option maxHeartbeats 4000000 in
set_option maxRecDepth 100000 in
theorem m_P_rail {l : Launch} {s0 : State} {D : va_G} {cA sa : Nat → Nat} (Z : zE l s0 D cA sa) (a : Nat → Nat) (ii : Nat → Int32) (li : Nat → Int64) (ia : Nat → Nat → Int32) (la : Nat → Nat → Int64) (bd : Nat → Nat) (sd : Int32) (v : Int64) (sz : Nat) : th_Met l y_P_rail [.code y_P_rail c_P_rail 5 (some .boolean)] ({ frames := 10, cells := 2, slots := 12, locals := 300 }) (wP s0 D [.ref (a 0), .int sd, .long v] (w_P a cA ii li ia la bd) sz) (th_Qi (fun (r : Int32) (u : Nat → Nat → Int64) => ∃ k, k < 4 ∧ sd = nI k ∧ okL v ∧ r = (if la 3 k = v then 0 else 1) ∧ u = va_up la 3 (vp_updL (la 3) k v)) (wB D (va_A (w_P a cA ii li ia la bd) sz) (fun u => w_P a cA ii li ia u bd)) (va_A (w_P a cA ii li ia la bd) sz) (fun x H t => (¬ (∃ k, k < 4 ∧ sd = nI k) ∧ th_X "java/lang/IndexOutOfBoundsException" x H t) ∨ ((∃ k, k < 4 ∧ sd = nI k) ∧ ¬ okL v ∧ th_X "java/lang/IllegalArgumentException" x H t))) 2 12 (va_A (w_P a cA ii li ia la bd) sz) := by
  refine wMetT Z (by decide) (Nat.le_of_ble_eq_true rfl) ?_
  intro p e s m below meth c hx hb hr hml hown hlk hem hg hK hsz hP hD hA hlo hS ls hl
  subst hsz
  have hown : s.vm.findClass R_P = some m.cls := hown
  have hS0 : va_S (fun q => s.heap.size ≤ q) s.heap s.heap [] := va_S.rf
  refine lv_iload_n hx hb d_P_rail_0 rfl (lv_at hl 1 rfl) ?_
  refine w_check (wt_runS (rest := []) hx hb hml hown hl.1 hg hlo hP hD (qS hS0 hA) (m_P_checkSide Z sd s.heap.size) (kw479 Z.1) (kw480 Z.1) (kw481 Z.1) (kw1 Z.1) ⟨by decide, by decide, (by decide +kernel : (parseMethodDescriptor y_P_checkSide.desc).map (fun d => d.parameters.length) = some 1)⟩ ⟨Nat.le_of_ble_eq_true rfl, Nat.le_of_ble_eq_true rfl⟩ [] rfl rfl rfl (Nat.le_of_ble_eq_true rfl) d_P_rail_1 ⟨Nat.le_of_ble_eq_true rfl, Nat.le_of_ble_eq_true rfl⟩) hP hS0 (fun H locs hc1 hP hS0 => ?_) (fun x t locs1 al hth hS1 => ?_)
  · skip
    refine W.widen (k := 1) (n := 6) (Nat.le_of_ble_eq_true rfl) (Nat.le_of_ble_eq_true rfl) ?_
    refine lv_lload_n hx hb d_P_rail_4 rfl (lv_at hl 2 rfl) ?_
    refine w_check (wt_runS (rest := []) hx hb hml hown hl.1 hg hlo hP hD (qS hS0 hA) (m_P_checkLength Z v H.size) (kw344 Z.1) (kw345 Z.1) (kw346 Z.1) (kw1 Z.1) ⟨by decide, by decide, (by decide +kernel : (parseMethodDescriptor y_P_checkLength.desc).map (fun d => d.parameters.length) = some 1)⟩ ⟨Nat.le_of_ble_eq_true rfl, Nat.le_of_ble_eq_true rfl⟩ [] rfl rfl rfl (Nat.le_of_ble_eq_true rfl) d_P_rail_5 ⟨Nat.le_of_ble_eq_true rfl, Nat.le_of_ble_eq_true rfl⟩) hP hS0 (fun H locs hc2 hP hS0 => ?_) (fun x t locs1 al hth hS1 => ?_)
    · skip
      refine W.widen (k := 2) (n := 12) (Nat.le_of_ble_eq_true rfl) (Nat.le_of_ble_eq_true rfl) ?_
      have hS := qS hS0 hA
      obtain ⟨k, hk, rfl⟩ := hc1
      refine lv_aload_n hx hb d_P_rail_8 rfl (lv_at hl 0 rfl) ?_
      refine va_get (D := D) (ci := 0) (v := .ref (a 4)) (C := R_P) (T := T_P) (N := 10) hx hb (uw_P Z.1 hg.1) (fun _ h => h) hown hK hP 0 rfl rfl 3 (by decide) (kw201 Z.1 _ _ hg.1) (fun _ h9 => h9) rfl d_P_rail_9 ?_
      refine lv_iload_n hx hb d_P_rail_12 rfl (lv_at hl 1 rfl) ?_
      refine va_lald hx hb hK hP 2 1 rfl rfl (vp_in_nI (n := k) (N := 4) (by omega) (by decide)) d_P_rail_13 ?_
      refine lv_topl (fun z1 ez1 => ?_)
      rw [nI_clamp (n := k) (by omega)] at ez1
      obtain rfl : z1 = ((la 3) k) := ez1
      refine lv_lload_n hx hb d_P_rail_14 rfl (lv_at hl 2 rfl) ?_
      refine W.lcmp hx hb d_P_rail_15 ?_
      refine lv_if_eq (tgt := 23) hx hb d_P_rail_16 (by decide) (fun d2 => ?_) (fun d2 => ?_)
      · refine lv_iconst (v := 0) hx hb d_P_rail_23 (by decide) ?_
        refine lv_istore (lv' := [(4, .int 0), (0, .ref (a 0)), (1, .int (nI k)), (2, .long v)]) hx hb d_P_rail_24 hl (by decide) rfl (fun ls hl => ?_)
        refine lv_aload_n hx hb d_P_rail_26 rfl (lv_at hl 1 rfl) ?_
        refine va_get (D := D) (ci := 0) (v := .ref (a 4)) (C := R_P) (T := T_P) (N := 10) hx hb (uw_P Z.1 hg.1) (fun _ h => h) hown hK hP 0 rfl rfl 3 (by decide) (kw201 Z.1 _ _ hg.1) (fun _ h9 => h9) rfl d_P_rail_27 ?_
        refine lv_iload_n hx hb d_P_rail_30 rfl (lv_at hl 2 rfl) ?_
        refine lv_lload_n hx hb d_P_rail_31 rfl (lv_at hl 3 rfl) ?_
        refine va_last hx hb hK hP hD hS 2 1 rfl rfl (vp_in_nI (n := k) (N := 4) (by omega) (by decide)) d_P_rail_32 (fun H locs hP hD hS => ?_)
        rw [nI_clamp (n := k) (by omega)] at hP hD
        have hP : va_P D ncl (w_P a cA ii li ia (va_up la 3 (vp_updL (la 3) k v)) bd) H := hP
        have hD : va_D _ (w_P a cA ii li ia (va_up la 3 (vp_updL (la 3) k v)) bd) := hD
        refine lv_iload hx hb d_P_rail_33 (lv_at hl 0 rfl) ?_
        refine W.widen (k := 2) (n := 12) (Nat.le_of_ble_eq_true rfl) (Nat.le_of_ble_eq_true rfl) ?_
        exact wt_zret hx hb hr rfl hlk hP hD hS (va_up la 3 (vp_updL (la 3) k v)) rfl ⟨k, hk, rfl, hc2, by rw [if_pos ((lg_cmp_eq _ _).mp d2)], rfl⟩ d_P_rail_35
      · refine lv_iconst (v := 1) hx hb d_P_rail_19 (by decide) ?_
        refine lv_goto (tgt := 24) hx hb d_P_rail_20 (by decide) ?_
        refine lv_istore (lv' := [(4, .int 1), (0, .ref (a 0)), (1, .int (nI k)), (2, .long v)]) hx hb d_P_rail_24 hl (by decide) rfl (fun ls hl => ?_)
        refine lv_aload_n hx hb d_P_rail_26 rfl (lv_at hl 1 rfl) ?_
        refine va_get (D := D) (ci := 0) (v := .ref (a 4)) (C := R_P) (T := T_P) (N := 10) hx hb (uw_P Z.1 hg.1) (fun _ h => h) hown hK hP 0 rfl rfl 3 (by decide) (kw201 Z.1 _ _ hg.1) (fun _ h9 => h9) rfl d_P_rail_27 ?_
        refine lv_iload_n hx hb d_P_rail_30 rfl (lv_at hl 2 rfl) ?_
        refine lv_lload_n hx hb d_P_rail_31 rfl (lv_at hl 3 rfl) ?_
        refine va_last hx hb hK hP hD hS 2 1 rfl rfl (vp_in_nI (n := k) (N := 4) (by omega) (by decide)) d_P_rail_32 (fun H locs hP hD hS => ?_)
        rw [nI_clamp (n := k) (by omega)] at hP hD
        have hP : va_P D ncl (w_P a cA ii li ia (va_up la 3 (vp_updL (la 3) k v)) bd) H := hP
        have hD : va_D _ (w_P a cA ii li ia (va_up la 3 (vp_updL (la 3) k v)) bd) := hD
        refine lv_iload hx hb d_P_rail_33 (lv_at hl 0 rfl) ?_
        refine W.widen (k := 2) (n := 12) (Nat.le_of_ble_eq_true rfl) (Nat.le_of_ble_eq_true rfl) ?_
        exact wt_zret hx hb hr rfl hlk hP hD hS (va_up la 3 (vp_updL (la 3) k v)) rfl ⟨k, hk, rfl, hc2, by rw [if_neg (fun z => d2 ((lg_cmp_eq _ _).mpr z))], rfl⟩ d_P_rail_35
    · refine th_wid (k := 2) (n := 12) (Nat.le_of_ble_eq_true rfl) (Nat.le_of_ble_eq_true rfl) ?_
      exact wt_pass hem hlk hA hS1 (fun t1 ht hW => have hX := th_up hth.2 hS0 ht al hW; ⟨Or.inr ⟨x, rfl, Or.inr ⟨hc1, hth.1, hX⟩⟩, xF hX⟩)
  · refine th_wid (k := 2) (n := 12) (Nat.le_of_ble_eq_true rfl) (Nat.le_of_ble_eq_true rfl) ?_
    exact wt_pass hem hlk hA hS1 (fun t1 ht hW => have hX := th_up hth.2 hS0 ht al hW; ⟨Or.inr ⟨x, rfl, Or.inl ⟨hth.1, hX⟩⟩, xF hX⟩)
set_option maxHeartbeats 4000000 in
set_option maxRecDepth 100000 in
theorem m_P_corner {l : Launch} {s0 : State} {D : va_G} {cA sa : Nat → Nat} (Z : zE l s0 D cA sa) (a : Nat → Nat) (ii : Nat → Int32) (li : Nat → Int64) (ia : Nat → Nat → Int32) (la : Nat → Nat → Int64) (bd : Nat → Nat) (b : Nat → Nat) (ib : Nat → Int32) (lb : Nat → Int64) (jb : Nat → Nat → Int32) (kb : Nat → Nat → Int64) (v : Int32) (x y : Int64) (n nc : Nat) (hn : ii 6 = nI n) (hn2 : n ≤ 4) (hbd : ∀ k, k < n → v = nI k → bd k = b 0) (hnc : ib 5 = nI nc) (hnc2 : nc ≤ 12) (sz : Nat) : th_Met l y_P_corner [.code y_P_corner c_P_corner 6 (some .boolean)] ({ frames := 10, cells := 3, slots := 18, locals := 300 }) (wP s0 D [.ref (a 0), .int v, .long x, .long y] ((w_P a cA ii li ia la bd) ++ (w_B b cA ib lb jb kb)) sz) (th_Qi (fun (r : Int32) (u : St) => (∃ k, k < n ∧ v = nI k) ∧ okL x ∧ okL y ∧ (if nc < 12 then r = 1 ∧ u = (va_up ib 5 (ib 5 + 1), bc_li lb (ib 5) x y, jb, va_up (va_up kb 0 (vp_updL (kb 0) nc x)) 1 (vp_updL (kb 1) nc y)) else r = 0 ∧ u = (ib, lb, jb, kb))) (wB D (va_A ((w_P a cA ii li ia la bd) ++ (w_B b cA ib lb jb kb)) sz) (fun (u : St) => (w_P a cA ii li ia la bd) ++ (w_B b cA u.1 u.2.1 u.2.2.1 u.2.2.2))) (va_A ((w_P a cA ii li ia la bd) ++ (w_B b cA ib lb jb kb)) sz) (fun z H t => (¬ (∃ k, k < n ∧ v = nI k) ∧ th_X "java/lang/IndexOutOfBoundsException" z H t) ∨ ((∃ k, k < n ∧ v = nI k) ∧ ¬ (okL x ∧ okL y) ∧ th_X "java/lang/IllegalArgumentException" z H t))) 3 18 (va_A ((w_P a cA ii li ia la bd) ++ (w_B b cA ib lb jb kb)) sz) := by
  refine wMetT Z (by decide) (Nat.le_of_ble_eq_true rfl) ?_
  intro p e s m below meth c hx hb hr hml hown hlk hem hg hK hsz hP hD hA hlo hS ls hl
  subst hsz
  have hown : s.vm.findClass R_P = some m.cls := hown
  have hS0 : va_S (fun q => s.heap.size ≤ q) s.heap s.heap [] := va_S.rf
  refine lv_aload_n hx hb d_P_corner_0 rfl (lv_at hl 0 rfl) ?_
  refine lv_iload_n hx hb d_P_corner_1 rfl (lv_at hl 1 rfl) ?_
  refine w_check (wt_runV (rest := []) hx hb hml hown hl.1 hg hlo hK hP hD (qS hS0 hA) (m_P_checkBoard Z a ii li ia la bd v n hn (by omega) s.heap.size) (kw269 Z.1) (kw271 Z.1) (kp_P_checkBoard Z.1) (kw272 Z.1) (kw1 Z.1) ⟨by decide, by decide, (by decide +kernel : (parseMethodDescriptor y_P_checkBoard.desc).map (fun d => d.parameters.length) = some 1)⟩ ⟨Nat.le_of_ble_eq_true rfl, Nat.le_of_ble_eq_true rfl⟩ [0, 1, 2] rfl rfl (ci := 0) (q0 := 0) rfl rfl rfl (Nat.le_of_ble_eq_true rfl) d_P_corner_2 ⟨Nat.le_of_ble_eq_true rfl, Nat.le_of_ble_eq_true rfl⟩) hP hS0 (fun H locs hc1 hP hS0 => ?_) (fun x t locs1 al hth hS1 => ?_)
  · skip
    refine W.widen (k := 1) (n := 6) (Nat.le_of_ble_eq_true rfl) (Nat.le_of_ble_eq_true rfl) ?_
    refine lv_lload_n hx hb d_P_corner_5 rfl (lv_at hl 2 rfl) ?_
    refine w_check (wt_runS (rest := []) hx hb hml hown hl.1 hg hlo hP hD (qS hS0 hA) (m_P_checkLength Z x H.size) (kw344 Z.1) (kw345 Z.1) (kw346 Z.1) (kw1 Z.1) ⟨by decide, by decide, (by decide +kernel : (parseMethodDescriptor y_P_checkLength.desc).map (fun d => d.parameters.length) = some 1)⟩ ⟨Nat.le_of_ble_eq_true rfl, Nat.le_of_ble_eq_true rfl⟩ [] rfl rfl rfl (Nat.le_of_ble_eq_true rfl) d_P_corner_6 ⟨Nat.le_of_ble_eq_true rfl, Nat.le_of_ble_eq_true rfl⟩) hP hS0 (fun H locs hc2 hP hS0 => ?_) (fun x t locs1 al hth hS1 => ?_)
    · skip
      refine W.widen (k := 2) (n := 12) (Nat.le_of_ble_eq_true rfl) (Nat.le_of_ble_eq_true rfl) ?_
      refine lv_lload hx hb d_P_corner_9 (lv_at hl 3 rfl) ?_
      refine w_check (wt_runS (rest := []) hx hb hml hown hl.1 hg hlo hP hD (qS hS0 hA) (m_P_checkLength Z y H.size) (kw344 Z.1) (kw345 Z.1) (kw346 Z.1) (kw1 Z.1) ⟨by decide, by decide, (by decide +kernel : (parseMethodDescriptor y_P_checkLength.desc).map (fun d => d.parameters.length) = some 1)⟩ ⟨Nat.le_of_ble_eq_true rfl, Nat.le_of_ble_eq_true rfl⟩ [] rfl rfl rfl (Nat.le_of_ble_eq_true rfl) d_P_corner_11 ⟨Nat.le_of_ble_eq_true rfl, Nat.le_of_ble_eq_true rfl⟩) hP hS0 (fun H locs hc3 hP hS0 => ?_) (fun x t locs1 al hth hS1 => ?_)
      · skip
        refine W.widen (k := 3) (n := 18) (Nat.le_of_ble_eq_true rfl) (Nat.le_of_ble_eq_true rfl) ?_
        have hS := qS hS0 hA
        have hc1s := hc1
        obtain ⟨k, hk, rfl⟩ := hc1
        refine lv_aload_n hx hb d_P_corner_14 rfl (lv_at hl 0 rfl) ?_
        refine va_get (D := D) (ci := 0) (v := .ref (a 3)) (C := R_P) (T := T_P) (N := 10) hx hb (uw_P Z.1 hg.1) (fun _ h => h) hown hK hP 0 rfl rfl 2 (by decide) (kw200 Z.1 _ _ hg.1) (fun _ h9 => h9) rfl d_P_corner_15 ?_
        refine lv_iload_n hx hb d_P_corner_18 rfl (lv_at hl 1 rfl) ?_
        refine va_aldq hx hb hK hP 1 3 rfl rfl (vp_in_nI (n := k) (N := 4) (by omega) (by decide)) d_P_corner_19 ?_
        rw [nI_clamp (n := k) (by omega)]
        rw [show va_rf ((fun j => some (bd j)) k) = .ref (b 0) from congrArg Value.ref (hbd k hk rfl)]
        refine lv_lload_n hx hb d_P_corner_20 rfl (lv_at hl 2 rfl) ?_
        refine lv_lload hx hb d_P_corner_21 (lv_at hl 3 rfl) ?_
        refine w_calli (wr := (w_P a cA ii li ia la bd)) (w_runVN (rest := []) hx hb hml hown hl.1 hg hlo hK hP hD hS (m_B_addCorner Z b ib lb jb kb x y nc hnc hnc2 H.size) (kw363 Z.1) (kw365 Z.1) (kp_B_addCorner Z.1) (kw366 Z.1) (kw3 Z.1) ⟨by decide, by decide, (by decide +kernel : (parseMethodDescriptor y_B_addCorner.desc).map (fun d => d.parameters.length) = some 2)⟩ ⟨Nat.le_of_ble_eq_true rfl, Nat.le_of_ble_eq_true rfl⟩ [3, 4, 5, 6, 7, 8] rfl rfl (ci := 2) (q0 := 3) rfl rfl rfl (Nat.le_of_ble_eq_true rfl) d_P_corner_23 ⟨Nat.le_of_ble_eq_true rfl, Nat.le_of_ble_eq_true rfl⟩) hP hD hS hA [3, 4, 5, 6, 7, 8] [0, 1, 2] rfl rfl rfl (by decide) (fun (u : St) => (w_P a cA ii li ia la bd) ++ (w_B b cA u.1 u.2.1 u.2.2.1 u.2.2.2)) [0, 1, 2, 3, 4, 5, 6, 7, 8] rfl (fun _ => rfl) (fun r1 u1 H locs hq hP hD hS => ?_)
        refine W.widen (k := 3) (n := 18) (Nat.le_of_ble_eq_true rfl) (Nat.le_of_ble_eq_true rfl) ?_
        refine W.widen (k := 3) (n := 18) (Nat.le_of_ble_eq_true rfl) (Nat.le_of_ble_eq_true rfl) ?_
        exact wt_zret hx hb hr (nar01 (by split at hq; exact Or.inr hq.1; exact Or.inl hq.1)) hlk hP hD hS u1 rfl ⟨hc1s, hc2, hc3, hq⟩ d_P_corner_26
      · refine th_wid (k := 3) (n := 18) (Nat.le_of_ble_eq_true rfl) (Nat.le_of_ble_eq_true rfl) ?_
        exact wt_pass hem hlk hA hS1 (fun t1 ht hW => have hX := th_up hth.2 hS0 ht al hW; ⟨Or.inr ⟨x, rfl, Or.inr ⟨hc1, fun z => hth.1 z.2, hX⟩⟩, xF hX⟩)
    · refine th_wid (k := 3) (n := 18) (Nat.le_of_ble_eq_true rfl) (Nat.le_of_ble_eq_true rfl) ?_
      exact wt_pass hem hlk hA hS1 (fun t1 ht hW => have hX := th_up hth.2 hS0 ht al hW; ⟨Or.inr ⟨x, rfl, Or.inr ⟨hc1, fun z => hth.1 z.1, hX⟩⟩, xF hX⟩)
  · refine th_wid (k := 3) (n := 18) (Nat.le_of_ble_eq_true rfl) (Nat.le_of_ble_eq_true rfl) ?_
    exact wt_pass hem hlk hA hS1 (fun t1 ht hW => have hX := th_up hth.2 hS0 ht al hW; ⟨Or.inr ⟨x, rfl, Or.inl ⟨hth.1, hX⟩⟩, xF hX⟩)
set_option maxHeartbeats 4000000 in
set_option maxRecDepth 100000 in
theorem m_P_part {l : Launch} {s0 : State} {D : va_G} {cA sa : Nat → Nat} (Z : zE l s0 D cA sa) (a : Nat → Nat) (ii : Nat → Int32) (li : Nat → Int64) (ia : Nat → Nat → Int32) (la : Nat → Nat → Int64) (bd : Nat → Nat) (b : Nat → Nat) (ib : Nat → Int32) (lb : Nat → Int64) (jb : Nat → Nat → Int32) (kb : Nat → Nat → Int64) (v : Int32) (x y r0 : Int64) (n nc : Nat) (hn : ii 6 = nI n) (hn2 : n ≤ 4) (hbd : ∀ k, k < n → v = nI k → bd k = b 0) (hnc : ib 6 = nI nc) (hnc2 : nc ≤ 10) (sz : Nat) : th_Met l y_P_part [.code y_P_part c_P_part 8 (some .boolean)] ({ frames := 10, cells := 5, slots := 30, locals := 300 }) (wP s0 D [.ref (a 0), .int v, .long x, .long y, .long r0] ((w_P a cA ii li ia la bd) ++ (w_B b cA ib lb jb kb)) sz) (th_Qi (fun (r : Int32) (u : St) => (∃ k, k < n ∧ v = nI k) ∧ okL x ∧ okL y ∧ (okL r0 ∧ r0 ≠ 0) ∧ (if nc < 10 then r = 1 ∧ u = (va_up ib 6 (ib 6 + 1), lb, jb, va_up (va_up (va_up kb 2 (vp_updL (kb 2) nc x)) 3 (vp_updL (kb 3) nc y)) 4 (vp_updL (kb 4) nc r0)) else r = 0 ∧ u = (ib, lb, jb, kb))) (wB D (va_A ((w_P a cA ii li ia la bd) ++ (w_B b cA ib lb jb kb)) sz) (fun (u : St) => (w_P a cA ii li ia la bd) ++ (w_B b cA u.1 u.2.1 u.2.2.1 u.2.2.2))) (va_A ((w_P a cA ii li ia la bd) ++ (w_B b cA ib lb jb kb)) sz) (fun z H t => (¬ (∃ k, k < n ∧ v = nI k) ∧ th_X "java/lang/IndexOutOfBoundsException" z H t) ∨ ((∃ k, k < n ∧ v = nI k) ∧ ¬ (okL x ∧ okL y ∧ okL r0 ∧ r0 ≠ 0) ∧ th_X "java/lang/IllegalArgumentException" z H t))) 5 30 (va_A ((w_P a cA ii li ia la bd) ++ (w_B b cA ib lb jb kb)) sz) := by
  refine wMetT Z (by decide) (Nat.le_of_ble_eq_true rfl) ?_
  intro p e s m below meth c hx hb hr hml hown hlk hem hg hK hsz hP hD hA hlo hS ls hl
  subst hsz
  have hown : s.vm.findClass R_P = some m.cls := hown
  have hS0 : va_S (fun q => s.heap.size ≤ q) s.heap s.heap [] := va_S.rf
  refine lv_aload_n hx hb d_P_part_0 rfl (lv_at hl 0 rfl) ?_
  refine lv_iload_n hx hb d_P_part_1 rfl (lv_at hl 1 rfl) ?_
  refine w_check (wt_runV (rest := []) hx hb hml hown hl.1 hg hlo hK hP hD (qS hS0 hA) (m_P_checkBoard Z a ii li ia la bd v n hn (by omega) s.heap.size) (kw269 Z.1) (kw271 Z.1) (kp_P_checkBoard Z.1) (kw272 Z.1) (kw1 Z.1) ⟨by decide, by decide, (by decide +kernel : (parseMethodDescriptor y_P_checkBoard.desc).map (fun d => d.parameters.length) = some 1)⟩ ⟨Nat.le_of_ble_eq_true rfl, Nat.le_of_ble_eq_true rfl⟩ [0, 1, 2] rfl rfl (ci := 0) (q0 := 0) rfl rfl rfl (Nat.le_of_ble_eq_true rfl) d_P_part_2 ⟨Nat.le_of_ble_eq_true rfl, Nat.le_of_ble_eq_true rfl⟩) hP hS0 (fun H locs hc1 hP hS0 => ?_) (fun x t locs1 al hth hS1 => ?_)
  · skip
    refine W.widen (k := 1) (n := 6) (Nat.le_of_ble_eq_true rfl) (Nat.le_of_ble_eq_true rfl) ?_
    refine lv_lload_n hx hb d_P_part_5 rfl (lv_at hl 2 rfl) ?_
    refine w_check (wt_runS (rest := []) hx hb hml hown hl.1 hg hlo hP hD (qS hS0 hA) (m_P_checkLength Z x H.size) (kw344 Z.1) (kw345 Z.1) (kw346 Z.1) (kw1 Z.1) ⟨by decide, by decide, (by decide +kernel : (parseMethodDescriptor y_P_checkLength.desc).map (fun d => d.parameters.length) = some 1)⟩ ⟨Nat.le_of_ble_eq_true rfl, Nat.le_of_ble_eq_true rfl⟩ [] rfl rfl rfl (Nat.le_of_ble_eq_true rfl) d_P_part_6 ⟨Nat.le_of_ble_eq_true rfl, Nat.le_of_ble_eq_true rfl⟩) hP hS0 (fun H locs hc2 hP hS0 => ?_) (fun x t locs1 al hth hS1 => ?_)
    · skip
      refine W.widen (k := 2) (n := 12) (Nat.le_of_ble_eq_true rfl) (Nat.le_of_ble_eq_true rfl) ?_
      refine lv_lload hx hb d_P_part_9 (lv_at hl 3 rfl) ?_
      refine w_check (wt_runS (rest := []) hx hb hml hown hl.1 hg hlo hP hD (qS hS0 hA) (m_P_checkLength Z y H.size) (kw344 Z.1) (kw345 Z.1) (kw346 Z.1) (kw1 Z.1) ⟨by decide, by decide, (by decide +kernel : (parseMethodDescriptor y_P_checkLength.desc).map (fun d => d.parameters.length) = some 1)⟩ ⟨Nat.le_of_ble_eq_true rfl, Nat.le_of_ble_eq_true rfl⟩ [] rfl rfl rfl (Nat.le_of_ble_eq_true rfl) d_P_part_11 ⟨Nat.le_of_ble_eq_true rfl, Nat.le_of_ble_eq_true rfl⟩) hP hS0 (fun H locs hc3 hP hS0 => ?_) (fun x t locs1 al hth hS1 => ?_)
      · skip
        refine W.widen (k := 3) (n := 18) (Nat.le_of_ble_eq_true rfl) (Nat.le_of_ble_eq_true rfl) ?_
        refine lv_lload hx hb d_P_part_14 (lv_at hl 4 rfl) ?_
        refine w_check (wt_runS (rest := []) hx hb hml hown hl.1 hg hlo hP hD (qS hS0 hA) (m_P_checkLength Z r0 H.size) (kw344 Z.1) (kw345 Z.1) (kw346 Z.1) (kw1 Z.1) ⟨by decide, by decide, (by decide +kernel : (parseMethodDescriptor y_P_checkLength.desc).map (fun d => d.parameters.length) = some 1)⟩ ⟨Nat.le_of_ble_eq_true rfl, Nat.le_of_ble_eq_true rfl⟩ [] rfl rfl rfl (Nat.le_of_ble_eq_true rfl) d_P_part_16 ⟨Nat.le_of_ble_eq_true rfl, Nat.le_of_ble_eq_true rfl⟩) hP hS0 (fun H locs hc4 hP hS0 => ?_) (fun x t locs1 al hth hS1 => ?_)
        · skip
          refine W.widen (k := 4) (n := 24) (Nat.le_of_ble_eq_true rfl) (Nat.le_of_ble_eq_true rfl) ?_
          refine lv_lload hx hb d_P_part_19 (lv_at hl 4 rfl) ?_
          refine lv_lconst (v := 0) hx hb d_P_part_21 (by decide) ?_
          refine W.lcmp hx hb d_P_part_22 ?_
          refine lv_if_ne (tgt := 36) hx hb d_P_part_23 (by decide) (fun d1 => ?_) (fun d1 => ?_)
          · have hS := qS hS0 hA
            have hc1s := hc1
            have hr0 : r0 ≠ 0 := fun z => d1 ((lg_cmp_eq _ _).mpr z)
            obtain ⟨k, hk, rfl⟩ := hc1
            refine lv_aload_n hx hb d_P_part_36 rfl (lv_at hl 0 rfl) ?_
            refine va_get (D := D) (ci := 0) (v := .ref (a 3)) (C := R_P) (T := T_P) (N := 10) hx hb (uw_P Z.1 hg.1) (fun _ h => h) hown hK hP 0 rfl rfl 2 (by decide) (kw200 Z.1 _ _ hg.1) (fun _ h9 => h9) rfl d_P_part_37 ?_
            refine lv_iload_n hx hb d_P_part_40 rfl (lv_at hl 1 rfl) ?_
            refine va_aldq hx hb hK hP 1 3 rfl rfl (vp_in_nI (n := k) (N := 4) (by omega) (by decide)) d_P_part_41 ?_
            rw [nI_clamp (n := k) (by omega)]
            rw [show va_rf ((fun j => some (bd j)) k) = .ref (b 0) from congrArg Value.ref (hbd k hk rfl)]
            refine lv_lload_n hx hb d_P_part_42 rfl (lv_at hl 2 rfl) ?_
            refine lv_lload hx hb d_P_part_43 (lv_at hl 3 rfl) ?_
            refine lv_lload hx hb d_P_part_45 (lv_at hl 4 rfl) ?_
            refine w_calli (wr := (w_P a cA ii li ia la bd)) (w_runVN (rest := []) hx hb hml hown hl.1 hg hlo hK hP hD hS (m_B_addPart Z b ib lb jb kb x y r0 nc hnc hnc2 H.size) (kw529 Z.1) (kw531 Z.1) (kp_B_addPart Z.1) (kw532 Z.1) (kw3 Z.1) ⟨by decide, by decide, (by decide +kernel : (parseMethodDescriptor y_B_addPart.desc).map (fun d => d.parameters.length) = some 3)⟩ ⟨Nat.le_of_ble_eq_true rfl, Nat.le_of_ble_eq_true rfl⟩ [3, 4, 5, 6, 7, 8] rfl rfl (ci := 2) (q0 := 3) rfl rfl rfl (Nat.le_of_ble_eq_true rfl) d_P_part_47 ⟨Nat.le_of_ble_eq_true rfl, Nat.le_of_ble_eq_true rfl⟩) hP hD hS hA [3, 4, 5, 6, 7, 8] [0, 1, 2] rfl rfl rfl (by decide) (fun (u : St) => (w_P a cA ii li ia la bd) ++ (w_B b cA u.1 u.2.1 u.2.2.1 u.2.2.2)) [0, 1, 2, 3, 4, 5, 6, 7, 8] rfl (fun _ => rfl) (fun r1 u1 H locs hq hP hD hS => ?_)
            refine W.widen (k := 4) (n := 24) (Nat.le_of_ble_eq_true rfl) (Nat.le_of_ble_eq_true rfl) ?_
            refine W.widen (k := 5) (n := 30) (Nat.le_of_ble_eq_true rfl) (Nat.le_of_ble_eq_true rfl) ?_
            exact wt_zret hx hb hr (nar01 (by split at hq; exact Or.inr hq.1; exact Or.inl hq.1)) hlk hP hD hS u1 rfl ⟨hc1s, hc2, hc3, ⟨hc4, hr0⟩, hq⟩ d_P_part_50
          · refine W.widen (k := 4) (n := 24) (Nat.le_of_ble_eq_true rfl) (Nat.le_of_ble_eq_true rfl) ?_
            exact w_throwF (C := "java/lang/IllegalArgumentException") hx hb hml hl.1 hown hlk hem Z.2.2.1 hS0 (kw347 Z.1 _ _ hg.1) (kw348 Z.1 _ _ hg.1) (kw11 Z.1 _ _ hg.1) (vk_R.warm hg.1 (Z.2.2.2.1 (166, "a part has a radius") (by decide))) (ow_73 Z hg) (by decide) d_P_part_26 d_P_part_29 d_P_part_30 d_P_part_32 d_P_part_35 (Nat.le_of_ble_eq_true rfl) (Nat.le_of_ble_eq_true rfl) (Nat.le_of_ble_eq_true rfl) (Nat.le_of_ble_eq_true rfl) (fun x t hW hX => ⟨Or.inr ⟨x, rfl, Or.inr ⟨hc1, fun z => z.2.2.2 ((lg_cmp_eq _ _).mp d1), hX⟩⟩, xF hX⟩)
        · refine th_wid (k := 5) (n := 30) (Nat.le_of_ble_eq_true rfl) (Nat.le_of_ble_eq_true rfl) ?_
          exact wt_pass hem hlk hA hS1 (fun t1 ht hW => have hX := th_up hth.2 hS0 ht al hW; ⟨Or.inr ⟨x, rfl, Or.inr ⟨hc1, fun z => hth.1 z.2.2.1, hX⟩⟩, xF hX⟩)
      · refine th_wid (k := 5) (n := 30) (Nat.le_of_ble_eq_true rfl) (Nat.le_of_ble_eq_true rfl) ?_
        exact wt_pass hem hlk hA hS1 (fun t1 ht hW => have hX := th_up hth.2 hS0 ht al hW; ⟨Or.inr ⟨x, rfl, Or.inr ⟨hc1, fun z => hth.1 z.2.1, hX⟩⟩, xF hX⟩)
    · refine th_wid (k := 5) (n := 30) (Nat.le_of_ble_eq_true rfl) (Nat.le_of_ble_eq_true rfl) ?_
      exact wt_pass hem hlk hA hS1 (fun t1 ht hW => have hX := th_up hth.2 hS0 ht al hW; ⟨Or.inr ⟨x, rfl, Or.inr ⟨hc1, fun z => hth.1 z.1, hX⟩⟩, xF hX⟩)
  · refine th_wid (k := 5) (n := 30) (Nat.le_of_ble_eq_true rfl) (Nat.le_of_ble_eq_true rfl) ?_
    exact wt_pass hem hlk hA hS1 (fun t1 ht hW => have hX := th_up hth.2 hS0 ht al hW; ⟨Or.inr ⟨x, rfl, Or.inl ⟨hth.1, hX⟩⟩, xF hX⟩)
set_option maxHeartbeats 4000000 in
set_option maxRecDepth 100000 in
theorem m_P_wants {l : Launch} {s0 : State} {D : va_G} {cA sa : Nat → Nat} (Z : zE l s0 D cA sa) (a : Nat → Nat) (ii : Nat → Int32) (li : Nat → Int64) (ia : Nat → Nat → Int32) (la : Nat → Nat → Int64) (bd : Nat → Nat) (b : Nat → Nat) (ib : Nat → Int32) (lb : Nat → Int64) (jb : Nat → Nat → Int32) (kb : Nat → Nat → Int64) (v w0 : Int32) (n : Nat) (hn : ii 6 = nI n) (hn2 : n ≤ 4) (hbd : ∀ k, k < n → v = nI k → bd k = b 0) (sz : Nat) : th_Met l y_P_wants [.code y_P_wants c_P_wants 4 (some .boolean)] ({ frames := 10, cells := 2, slots := 12, locals := 300 }) (wP s0 D [.ref (a 0), .int v, .int w0] ((w_P a cA ii li ia la bd) ++ (w_B b cA ib lb jb kb)) sz) (th_Qi (fun (r : Int32) (u : Nat → Int32) => (∃ k, k < n ∧ v = nI k) ∧ (∃ k, k < 201 ∧ w0 = nI k) ∧ r = (if ib 11 = w0 then 0 else 1) ∧ u = va_up ib 11 w0) (wB D (va_A ((w_P a cA ii li ia la bd) ++ (w_B b cA ib lb jb kb)) sz) (fun (u : Nat → Int32) => (w_P a cA ii li ia la bd) ++ (w_B b cA u lb jb kb))) (va_A ((w_P a cA ii li ia la bd) ++ (w_B b cA ib lb jb kb)) sz) (fun z H t => (¬ (∃ k, k < n ∧ v = nI k) ∧ th_X "java/lang/IndexOutOfBoundsException" z H t) ∨ ((∃ k, k < n ∧ v = nI k) ∧ ¬ (∃ k, k < 201 ∧ w0 = nI k) ∧ th_X "java/lang/IllegalArgumentException" z H t))) 2 12 (va_A ((w_P a cA ii li ia la bd) ++ (w_B b cA ib lb jb kb)) sz) := by
  refine wMetT Z (by decide) (Nat.le_of_ble_eq_true rfl) ?_
  intro p e s m below meth c hx hb hr hml hown hlk hem hg hK hsz hP hD hA hlo hS ls hl
  subst hsz
  have hown : s.vm.findClass R_P = some m.cls := hown
  have hS0 : va_S (fun q => s.heap.size ≤ q) s.heap s.heap [] := va_S.rf
  refine lv_aload_n hx hb d_P_wants_0 rfl (lv_at hl 0 rfl) ?_
  refine lv_iload_n hx hb d_P_wants_1 rfl (lv_at hl 1 rfl) ?_
  refine w_check (wt_runV (rest := []) hx hb hml hown hl.1 hg hlo hK hP hD (qS hS0 hA) (m_P_checkBoard Z a ii li ia la bd v n hn (by omega) s.heap.size) (kw269 Z.1) (kw271 Z.1) (kp_P_checkBoard Z.1) (kw272 Z.1) (kw1 Z.1) ⟨by decide, by decide, (by decide +kernel : (parseMethodDescriptor y_P_checkBoard.desc).map (fun d => d.parameters.length) = some 1)⟩ ⟨Nat.le_of_ble_eq_true rfl, Nat.le_of_ble_eq_true rfl⟩ [0, 1, 2] rfl rfl (ci := 0) (q0 := 0) rfl rfl rfl (Nat.le_of_ble_eq_true rfl) d_P_wants_2 ⟨Nat.le_of_ble_eq_true rfl, Nat.le_of_ble_eq_true rfl⟩) hP hS0 (fun H locs hc1 hP hS0 => ?_) (fun x t locs1 al hth hS1 => ?_)
  · skip
    refine W.widen (k := 1) (n := 6) (Nat.le_of_ble_eq_true rfl) (Nat.le_of_ble_eq_true rfl) ?_
    refine lv_iload_n hx hb d_P_wants_5 rfl (lv_at hl 2 rfl) ?_
    refine lv_i2l hx hb d_P_wants_6 rfl ?_
    refine lv_lconst (v := 0) hx hb d_P_wants_7 (by decide) ?_
    refine lv_ldc2 (v := 200) hx hb hown (kw595 Z.1 _ _ hg.1) d_P_wants_8 ?_
    refine w_purei (w_runS (rest := []) hx hb hml hown hl.1 hg hlo hP hD (qS hS0 hA) (m_P_isWithin Z w0.toInt64 0 200 H.size) (kw273 Z.1) (kw274 Z.1) (kw275 Z.1) (kw1 Z.1) ⟨by decide, by decide, (by decide +kernel : (parseMethodDescriptor y_P_isWithin.desc).map (fun d => d.parameters.length) = some 3)⟩ ⟨Nat.le_of_ble_eq_true rfl, Nat.le_of_ble_eq_true rfl⟩ [] rfl rfl rfl (Nat.le_of_ble_eq_true rfl) d_P_wants_11 ⟨Nat.le_of_ble_eq_true rfl, Nat.le_of_ble_eq_true rfl⟩) hP hS0 (fun r1 _ H locs hr1 hP hS0 => ?_)
    refine W.widen (k := 1) (n := 6) (Nat.le_of_ble_eq_true rfl) (Nat.le_of_ble_eq_true rfl) ?_
    subst hr1
    refine lv_if_ne (tgt := 27) hx hb d_P_wants_14 (by decide) (fun d1 => ?_) (fun d1 => ?_)
    · have hw0 : ∃ k, k < 201 ∧ w0 = nI k := (ib_iff (n := 201) (hi := 200) (by decide) rfl).mp (Classical.byContradiction (fun z => d1 (if_neg z)))
      have hS := qS hS0 hA
      have hc1s := hc1
      obtain ⟨k, hk, rfl⟩ := hc1
      refine lv_aload_n hx hb d_P_wants_27 rfl (lv_at hl 0 rfl) ?_
      refine va_get (D := D) (ci := 0) (v := .ref (a 3)) (C := R_P) (T := T_P) (N := 10) hx hb (uw_P Z.1 hg.1) (fun _ h => h) hown hK hP 0 rfl rfl 2 (by decide) (kw200 Z.1 _ _ hg.1) (fun _ h9 => h9) rfl d_P_wants_28 ?_
      refine lv_iload_n hx hb d_P_wants_31 rfl (lv_at hl 1 rfl) ?_
      refine va_aldq hx hb hK hP 1 3 rfl rfl (vp_in_nI (n := k) (N := 4) (by omega) (by decide)) d_P_wants_32 ?_
      rw [nI_clamp (n := k) (by omega)]
      rw [show va_rf ((fun j => some (bd j)) k) = .ref (b 0) from congrArg Value.ref (hbd k hk rfl)]
      refine va_getN (D := D) (ci := 2) (v := .int (ib 11)) (C := R_B) (T := T_B) (N := 12) hx hb (uw_B Z.1 hg.1) (fun _ h => h) hown hK hP 3 rfl rfl 11 (by decide) (kw50 Z.1 _ _ hg.1) (fun _ h9 => h9) rfl d_P_wants_33 ?_
      refine lv_iload_n hx hb d_P_wants_36 rfl (lv_at hl 2 rfl) ?_
      refine lv_icmp_eq (tgt := 44) hx hb d_P_wants_37 (by decide) (fun g2 => ?_) (fun g2 => ?_)
      · refine lv_iconst (v := 0) hx hb d_P_wants_44 (by decide) ?_
        refine lv_istore_n (lv' := [(3, .int 0), (0, .ref (a 0)), (1, .int (nI k)), (2, .int w0)]) hx hb d_P_wants_45 rfl hl (by decide) rfl (fun ls hl => ?_)
        refine lv_aload_n hx hb d_P_wants_46 rfl (lv_at hl 1 rfl) ?_
        refine va_get (D := D) (ci := 0) (v := .ref (a 3)) (C := R_P) (T := T_P) (N := 10) hx hb (uw_P Z.1 hg.1) (fun _ h => h) hown hK hP 0 rfl rfl 2 (by decide) (kw200 Z.1 _ _ hg.1) (fun _ h9 => h9) rfl d_P_wants_47 ?_
        refine lv_iload_n hx hb d_P_wants_50 rfl (lv_at hl 2 rfl) ?_
        refine va_aldq hx hb hK hP 1 3 rfl rfl (vp_in_nI (n := k) (N := 4) (by omega) (by decide)) d_P_wants_51 ?_
        rw [nI_clamp (n := k) (by omega)]
        rw [show va_rf ((fun j => some (bd j)) k) = .ref (b 0) from congrArg Value.ref (hbd k hk rfl)]
        refine lv_iload_n hx hb d_P_wants_52 rfl (lv_at hl 3 rfl) ?_
        refine va_putN (D := D) (ci := 2) (v := .int w0) (ty := t_B 11) (C := R_B) (T := T_B) (N := 12) hx hb (uw_B Z.1 hg.1) (fun _ h => h) t_B t_B_ok n_B hown hK hP hD hS 3 rfl rfl 11 (by decide) (kw50 Z.1 _ _ hg.1) (fun _ h9 => h9) rfl (by decide +kernel) rfl rfl (Nat.le_of_ble_eq_true rfl) d_P_wants_53 (fun H locs hP hD hS => ?_)
        have hP : va_P D ncl ((w_P a cA ii li ia la bd) ++ (w_B b cA (va_up ib 11 w0) lb jb kb)) H := hP
        have hD : va_D _ ((w_P a cA ii li ia la bd) ++ (w_B b cA (va_up ib 11 w0) lb jb kb)) := hD
        refine lv_iload_n hx hb d_P_wants_56 rfl (lv_at hl 0 rfl) ?_
        refine W.widen (k := 2) (n := 12) (Nat.le_of_ble_eq_true rfl) (Nat.le_of_ble_eq_true rfl) ?_
        exact wt_zret hx hb hr rfl hlk hP hD hS (va_up ib 11 w0) rfl ⟨hc1s, hw0, by rw [if_pos g2], rfl⟩ d_P_wants_57
      · refine lv_iconst (v := 1) hx hb d_P_wants_40 (by decide) ?_
        refine lv_goto (tgt := 45) hx hb d_P_wants_41 (by decide) ?_
        refine lv_istore_n (lv' := [(3, .int 1), (0, .ref (a 0)), (1, .int (nI k)), (2, .int w0)]) hx hb d_P_wants_45 rfl hl (by decide) rfl (fun ls hl => ?_)
        refine lv_aload_n hx hb d_P_wants_46 rfl (lv_at hl 1 rfl) ?_
        refine va_get (D := D) (ci := 0) (v := .ref (a 3)) (C := R_P) (T := T_P) (N := 10) hx hb (uw_P Z.1 hg.1) (fun _ h => h) hown hK hP 0 rfl rfl 2 (by decide) (kw200 Z.1 _ _ hg.1) (fun _ h9 => h9) rfl d_P_wants_47 ?_
        refine lv_iload_n hx hb d_P_wants_50 rfl (lv_at hl 2 rfl) ?_
        refine va_aldq hx hb hK hP 1 3 rfl rfl (vp_in_nI (n := k) (N := 4) (by omega) (by decide)) d_P_wants_51 ?_
        rw [nI_clamp (n := k) (by omega)]
        rw [show va_rf ((fun j => some (bd j)) k) = .ref (b 0) from congrArg Value.ref (hbd k hk rfl)]
        refine lv_iload_n hx hb d_P_wants_52 rfl (lv_at hl 3 rfl) ?_
        refine va_putN (D := D) (ci := 2) (v := .int w0) (ty := t_B 11) (C := R_B) (T := T_B) (N := 12) hx hb (uw_B Z.1 hg.1) (fun _ h => h) t_B t_B_ok n_B hown hK hP hD hS 3 rfl rfl 11 (by decide) (kw50 Z.1 _ _ hg.1) (fun _ h9 => h9) rfl (by decide +kernel) rfl rfl (Nat.le_of_ble_eq_true rfl) d_P_wants_53 (fun H locs hP hD hS => ?_)
        have hP : va_P D ncl ((w_P a cA ii li ia la bd) ++ (w_B b cA (va_up ib 11 w0) lb jb kb)) H := hP
        have hD : va_D _ ((w_P a cA ii li ia la bd) ++ (w_B b cA (va_up ib 11 w0) lb jb kb)) := hD
        refine lv_iload_n hx hb d_P_wants_56 rfl (lv_at hl 0 rfl) ?_
        refine W.widen (k := 2) (n := 12) (Nat.le_of_ble_eq_true rfl) (Nat.le_of_ble_eq_true rfl) ?_
        exact wt_zret hx hb hr rfl hlk hP hD hS (va_up ib 11 w0) rfl ⟨hc1s, hw0, by rw [if_neg g2], rfl⟩ d_P_wants_57
    · refine W.widen (k := 1) (n := 6) (Nat.le_of_ble_eq_true rfl) (Nat.le_of_ble_eq_true rfl) ?_
      exact w_throwF (C := "java/lang/IllegalArgumentException") hx hb hml hl.1 hown hlk hem Z.2.2.1 hS0 (kw347 Z.1 _ _ hg.1) (kw348 Z.1 _ _ hg.1) (kw11 Z.1 _ _ hg.1) (vk_R.warm hg.1 (Z.2.2.2.1 (203, "0 to 200 are wanted") (by decide))) (ow_73 Z hg) (by decide) d_P_wants_17 d_P_wants_20 d_P_wants_21 d_P_wants_23 d_P_wants_26 (Nat.le_of_ble_eq_true rfl) (Nat.le_of_ble_eq_true rfl) (Nat.le_of_ble_eq_true rfl) (Nat.le_of_ble_eq_true rfl) (fun x t hW hX => ⟨Or.inr ⟨x, rfl, Or.inr ⟨hc1, fun z => absurd d1 (by rw [if_pos ((ib_iff (n := 201) (hi := 200) (by decide) rfl).mpr z)]; decide), hX⟩⟩, xF hX⟩)
  · refine th_wid (k := 2) (n := 12) (Nat.le_of_ble_eq_true rfl) (Nat.le_of_ble_eq_true rfl) ?_
    exact wt_pass hem hlk hA hS1 (fun t1 ht hW => have hX := th_up hth.2 hS0 ht al hW; ⟨Or.inr ⟨x, rfl, Or.inl ⟨hth.1, hX⟩⟩, xF hX⟩)
