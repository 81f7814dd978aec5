theorem yo_no {f : Nat → Int32} {n c : Nat} {k : Int32} (hn : n ≤ 160) (hc : c < n) (h : yo f n k (-1)) : ¬ yo f n k (nI c) := by
  have hm : ∀ j, j < 160 → ¬ (-1 : Int32) = nI j := fun j hj z => by
    have := congrArg Int32.toInt z
    rw [nI_toInt (by omega), show (-1 : Int32).toInt = -1 from rfl] at this
    omega
  intro h2
  rcases h2 with ⟨-, z⟩ | ⟨mm, j, h3, h4, h5, h6, -⟩
  · exact hm c (by omega) z.symm
  · rcases h with ⟨z, -⟩ | ⟨mm', j', -, -, z, y, -⟩
    · rw [h3] at z
      rcases z with z | z
      · exact nI_pos (by omega) z
      · exact nI_ge h4 (by omega) z
    · exact hm j' (by omega) y
def ml_v (q : Cp) (rad : Int64) (cn ax : Nat) : Int64 := if ax = 0 then (if cn = 1 ∨ cn = 2 then lN (cpk q 1) + lN (cpk q 4) + rad else lN (cpk q 1) - rad) else (if cn = 2 ∨ cn = 3 then lN (cpk q 2) + lN (cpk q 5) + rad else lN (cpk q 2) - rad)
set_option maxHeartbeats 4000000 in
set_option maxRecDepth 100000 in
theorem m_P_mill {l : Launch} {s0 : State} {D : va_G} {cA sa : Nat → Nat} (Z : zE l s0 D cA sa) (a : Nat → Nat) (ii : Nat → Int32) (li : Nat → Int64) (ia : Nat → Nat → Int32) (la : Nat → Nat → Int64) (bd : Nat → Nat) (y : Nat → Nat) (iy : Nat → Int32) (ly : Nat → Int64) (jy : Nat → Nat → Int32) (ky : Nat → Nat → Int64) (hya : y 0 = a 6) (l0 y0 g : Nat) (rw : List Rw) (bf : Nat → Bool) (hy : yR l0 y0 g rw bf (iy, ly, jy, ky)) (hok : okR l0 y0 g rw) (k v : Int32) (sz : Nat) : th_Met l y_P_mill [.code y_P_mill c_P_mill 7 (some .long)] ({ frames := 10, cells := 2, slots := 12, locals := 300 }) (wP s0 D [.ref (a 0), .int k, .int v] ((w_P a cA ii li ia la bd) ++ (w_Y y cA iy ly jy ky)) sz) (th_Ql (fun (r : Int64) (_ : Unit) => ∃ kk c ax, kk < 2 ^ 31 ∧ k = nI kk ∧ c < ly_n rw ∧ yo (jy 8) (ly_n rw) (nI (kk / 4)) (nI c) ∧ ax < 2 ∧ v = nI ax ∧ r = ml_v ((lcp l0 g y0 rw).getD c cp0) (li 8) (kk % 4) ax) (wB D (va_A ((w_P a cA ii li ia la bd) ++ (w_Y y cA iy ly jy ky)) sz) (fun _ => (w_P a cA ii li ia la bd) ++ (w_Y y cA iy ly jy ky))) (va_A ((w_P a cA ii li ia la bd) ++ (w_Y y cA iy ly jy ky)) sz) (fun x H t => ¬ ((∃ kk c, kk < 2 ^ 31 ∧ k = nI kk ∧ c < ly_n rw ∧ yo (jy 8) (ly_n rw) (nI (kk / 4)) (nI c)) ∧ ∃ ax, ax < 2 ∧ v = nI ax) ∧ th_X "java/lang/IndexOutOfBoundsException" x H t)) 2 12 (va_A ((w_P a cA ii li ia la bd) ++ (w_Y y cA iy ly jy ky)) sz) := by
  refine wMetT Z (by decide) (Nat.le_of_ble_eq_true rfl) ?_
  intro p e s m below meth c hx hb hr hml hown hlk hem hg hK hsz hP hD hA hlo hS ls hl
  subst hsz
  have hown : s.vm.findClass R_P = some m.cls := hown
  have hS0 : va_S (fun q => s.heap.size ≤ q) s.heap s.heap [] := va_S.rf
  have hn160 : ly_n rw ≤ 160 := Nat.le_trans (ok_n (fun z hz => (hok.2.2.2.2 z hz).2.2.2.1)) (by have := hok.2.2.2.1; omega)
  have h01 : ∀ j, j < ly_n rw → jy 8 j = 0 ∨ jy 8 j = 1 := fun j hj => by have := hy.2.2.2.1 j hj; dsimp only at this; rw [this]; split; exact Or.inr rfl; exact Or.inl rfl
  have h8 := hok.2.2.2.1
  refine lv_iload_n hx hb d_P_mill_0 rfl (lv_at hl 1 rfl) ?_
  refine lv_if_ge (tgt := 8) hx hb d_P_mill_1 (by decide) (fun c1 => ?_) (fun c1 => ?_)
  · obtain ⟨kk, hkk, rfl⟩ := nI_of (x := k) (Int32.not_lt.mpr c1)
    refine lv_aload_n hx hb d_P_mill_8 rfl (lv_at hl 0 rfl) ?_
    refine va_get (D := D) (ci := 0) (v := .ref (a 6)) (C := R_P) (T := T_P) (N := 10) hx hb (uw_P Z.1 hg.1) (fun _ h => h) hown hK hP 0 rfl rfl 5 (by decide) (kw203 Z.1 _ _ hg.1) (fun _ h9 => h9) rfl d_P_mill_9 ?_
    rw [← hya]
    refine lv_iload_n hx hb d_P_mill_12 rfl (lv_at hl 1 rfl) ?_
    refine lv_iconst (v := 4) hx hb d_P_mill_13 (by decide) ?_
    refine lv_idiv hx hb d_P_mill_14 (by decide) ?_
    refine lv_topi (fun z2 ez2 => ?_)
    obtain rfl : z2 = (nI (kk / 4)) := by rw [ez2]; exact pk_div (d := 4) hkk (by decide) (by decide)
    refine w_rcalli (w_runVN (rest := []) hx hb hml hown hl.1 hg hlo hK hP hD (qS hS0 hA) (r_Y_copyInOrder Z y iy ly jy ky (nI (kk / 4)) (ly_n rw) hy.1.2 hn160 h01 s.heap.size) (kw245 Z.1) (kw247 Z.1) (kp_Y_copyInOrder Z.1) (kw248 Z.1) (kw5 Z.1) ⟨by decide, by decide, (by decide +kernel : (parseMethodDescriptor y_Y_copyInOrder.desc).map (fun d => d.parameters.length) = some 1)⟩ ⟨Nat.le_of_ble_eq_true rfl, Nat.le_of_ble_eq_true rfl⟩ [3, 4, 5, 6, 7, 8, 9, 10, 11, 12, 13, 14] rfl rfl (ci := 3) (q0 := 3) rfl rfl rfl (Nat.le_of_ble_eq_true rfl) d_P_mill_15 ⟨Nat.le_of_ble_eq_true rfl, Nat.le_of_ble_eq_true rfl⟩) hP hS0 (fun rc H locs hrc hP hS0 => ?_)
    refine W.widen (k := 0) (n := 0) (Nat.le_of_ble_eq_true rfl) (Nat.le_of_ble_eq_true rfl) ?_
    refine lv_istore_n (lv' := [(3, .int rc), (0, .ref (a 0)), (1, .int (nI kk)), (2, .int v)]) hx hb d_P_mill_18 rfl hl (by decide) rfl (fun ls hl => ?_)
    refine lv_iload_n hx hb d_P_mill_19 rfl (lv_at hl 0 rfl) ?_
    refine lv_iconst (v := (-1)) hx hb d_P_mill_20 (by decide) ?_
    refine lv_icmp_ne (tgt := 34) hx hb d_P_mill_21 (by decide) (fun d3 => ?_) (fun d3 => ?_)
    · obtain ⟨c0, hc, rfl⟩ : ∃ j, j < ly_n rw ∧ rc = nI j := by rcases hrc with ⟨-, z⟩ | ⟨mm, j, -, -, z, y, -⟩; exact absurd z d3; exact ⟨j, z, y⟩
      refine lv_iload_n hx hb d_P_mill_34 rfl (lv_at hl 3 rfl) ?_
      refine w_check (wt_runS (rest := []) hx hb hml hown hl.1 hg hlo hP hD (qS hS0 hA) (m_P_checkOneOfTwo Z v H.size) (kw484 Z.1) (kw485 Z.1) (kw486 Z.1) (kw1 Z.1) ⟨by decide, by decide, (by decide +kernel : (parseMethodDescriptor y_P_checkOneOfTwo.desc).map (fun d => d.parameters.length) = some 1)⟩ ⟨Nat.le_of_ble_eq_true rfl, Nat.le_of_ble_eq_true rfl⟩ [] rfl rfl rfl (Nat.le_of_ble_eq_true rfl) d_P_mill_35 ⟨Nat.le_of_ble_eq_true rfl, Nat.le_of_ble_eq_true rfl⟩) hP hS0 (fun H locs hc2 hP hS0 => ?_) (fun x t locs1 al hth hS1 => ?_)
      · skip
        refine W.widen (k := 1) (n := 6) (Nat.le_of_ble_eq_true rfl) (Nat.le_of_ble_eq_true rfl) ?_
        have hS := qS hS0 hA
        obtain ⟨ax, hax, rfl⟩ := hc2
        obtain ⟨r0, w1, w2, w3, w4, w5, w6, w7, w8, w9, w10, w11⟩ := yR_cp hy hc
        dsimp only at w2 w3 w4 w5 w6 w7 w8
        obtain ⟨q0, hq0⟩ : ∃ z, z = (lcp l0 g y0 rw).getD c0 cp0 := ⟨_, rfl⟩
        rw [← hq0] at w4 w5 w7 w8
        refine lv_aload_n hx hb d_P_mill_38 rfl (lv_at hl 1 rfl) ?_
        refine va_get (D := D) (ci := 0) (v := .ref (a 6)) (C := R_P) (T := T_P) (N := 10) hx hb (uw_P Z.1 hg.1) (fun _ h => h) hown hK hP 0 rfl rfl 5 (by decide) (kw203 Z.1 _ _ hg.1) (fun _ h9 => h9) rfl d_P_mill_39 ?_
        rw [← hya]
        refine va_getN (D := D) (ci := 3) (v := .ref (y 7)) (C := R_Y) (T := T_Y) (N := 17) hx hb (uw_Y Z.1 hg.1) (fun _ h => h) hown hK hP 3 rfl rfl 6 (by decide) (kw144 Z.1 _ _ hg.1) (fun _ h9 => h9) rfl d_P_mill_42 ?_
        refine lv_iload_n hx hb d_P_mill_45 rfl (lv_at hl 0 rfl) ?_
        refine va_iald hx hb hK hP 10 0 rfl rfl (vp_in_nI (n := c0) (N := 160) (by omega) (by decide)) d_P_mill_46 ?_
        refine lv_topi (fun z4 ez4 => ?_)
        rw [nI_clamp (n := c0) (by omega)] at ez4
        obtain rfl : z4 = ((jy 6) c0) := ez4
        refine lv_topi (fun z5 ez5 => ?_)
        obtain rfl : z5 = (nI r0) := by rw [ez5]; exact w2
        refine lv_istore (lv' := [(4, .int (nI r0)), (3, .int (nI c0)), (0, .ref (a 0)), (1, .int (nI kk)), (2, .int (nI ax))]) hx hb d_P_mill_47 hl (by decide) rfl (fun ls hl => ?_)
        refine lv_iload_n hx hb d_P_mill_49 rfl (lv_at hl 3 rfl) ?_
        refine lv_iconst (v := 4) hx hb d_P_mill_50 (by decide) ?_
        refine lv_irem hx hb d_P_mill_51 (by decide) ?_
        refine lv_topi (fun z6 ez6 => ?_)
        obtain rfl : z6 = (nI (kk % 4)) := by rw [ez6]; exact pk_rem (d := 4) hkk (by decide) (by decide)
        refine lv_istore (lv' := [(5, .int (nI (kk % 4))), (4, .int (nI r0)), (3, .int (nI c0)), (0, .ref (a 0)), (1, .int (nI kk)), (2, .int (nI ax))]) hx hb d_P_mill_52 hl (by decide) rfl (fun ls hl => ?_)
        refine lv_iload_n hx hb d_P_mill_54 rfl (lv_at hl 5 rfl) ?_
        refine lv_if_ne (tgt := 103) hx hb d_P_mill_55 (by decide) (fun g7 => ?_) (fun g7 => ?_)
        · have hx0 : ¬ ax = 0 := fun z => g7 (by rw [z]; rfl)
          refine lv_iload hx hb d_P_mill_103 (lv_at hl 0 rfl) ?_
          refine lv_iconst (v := 2) hx hb d_P_mill_105 (by decide) ?_
          refine lv_icmp_eq (tgt := 115) hx hb d_P_mill_106 (by decide) (fun e16 => ?_) (fun e16 => ?_)
          · have hcn : kk % 4 = 2 := (nI_eq (b := 2) (by omega) (by decide)).mp e16
            refine lv_iconst (v := 1) hx hb d_P_mill_115 (by decide) ?_
            refine lv_goto (tgt := 120) hx hb d_P_mill_116 (by decide) ?_
            refine lv_istore (lv' := [(6, .int 1), (5, .int (nI (kk % 4))), (4, .int (nI r0)), (3, .int (nI c0)), (0, .ref (a 0)), (1, .int (nI kk)), (2, .int (nI ax))]) hx hb d_P_mill_120 hl (by decide) rfl (fun ls hl => ?_)
            refine lv_aload_n hx hb d_P_mill_122 rfl (lv_at hl 4 rfl) ?_
            refine lv_aload_n hx hb d_P_mill_123 rfl (lv_at hl 4 rfl) ?_
            refine va_get (D := D) (ci := 0) (v := .ref (a 6)) (C := R_P) (T := T_P) (N := 10) hx hb (uw_P Z.1 hg.1) (fun _ h => h) hown hK hP 0 rfl rfl 5 (by decide) (kw203 Z.1 _ _ hg.1) (fun _ h9 => h9) rfl d_P_mill_124 ?_
            rw [← hya]
            refine va_getN (D := D) (ci := 3) (v := .ref (y 4)) (C := R_Y) (T := T_Y) (N := 17) hx hb (uw_Y Z.1 hg.1) (fun _ h => h) hown hK hP 3 rfl rfl 3 (by decide) (kw138 Z.1 _ _ hg.1) (fun _ h9 => h9) rfl d_P_mill_127 ?_
            refine lv_iload hx hb d_P_mill_130 (lv_at hl 2 rfl) ?_
            refine va_lald hx hb hK hP 7 1 rfl rfl (vp_in_nI (n := r0) (N := 8) (by omega) (by decide)) d_P_mill_132 ?_
            refine lv_topl (fun z17 ez17 => ?_)
            rw [nI_clamp (n := r0) (by omega)] at ez17
            obtain rfl : z17 = ((ky 3) r0) := ez17
            rw [w5]
            refine lv_aload_n hx hb d_P_mill_133 rfl (lv_at hl 4 rfl) ?_
            refine va_get (D := D) (ci := 0) (v := .ref (a 6)) (C := R_P) (T := T_P) (N := 10) hx hb (uw_P Z.1 hg.1) (fun _ h => h) hown hK hP 0 rfl rfl 5 (by decide) (kw203 Z.1 _ _ hg.1) (fun _ h9 => h9) rfl d_P_mill_134 ?_
            rw [← hya]
            refine va_getN (D := D) (ci := 3) (v := .ref (y 6)) (C := R_Y) (T := T_Y) (N := 17) hx hb (uw_Y Z.1 hg.1) (fun _ h => h) hown hK hP 3 rfl rfl 5 (by decide) (kw142 Z.1 _ _ hg.1) (fun _ h9 => h9) rfl d_P_mill_137 ?_
            refine lv_iload hx hb d_P_mill_140 (lv_at hl 2 rfl) ?_
            refine va_lald hx hb hK hP 9 1 rfl rfl (vp_in_nI (n := r0) (N := 8) (by omega) (by decide)) d_P_mill_142 ?_
            refine lv_topl (fun z18 ez18 => ?_)
            rw [nI_clamp (n := r0) (by omega)] at ez18
            obtain rfl : z18 = ((ky 5) r0) := ez18
            rw [w8]
            refine lv_iload hx hb d_P_mill_143 (lv_at hl 0 rfl) ?_
            refine w_calll (wr := (w_Y y cA iy ly jy ky)) (w_runV (rest := []) hx hb hml hown hl.1 hg hlo hK hP hD hS (m_P_grownEnd Z a ii li ia la bd (lN (cpk q0 2)) (lN (cpk q0 5)) 1 H.size) (kw563 Z.1) (kw565 Z.1) (kp_P_grownEnd Z.1) (kw566 Z.1) (kw1 Z.1) ⟨by decide, by decide, (by decide +kernel : (parseMethodDescriptor y_P_grownEnd.desc).map (fun d => d.parameters.length) = some 3)⟩ ⟨Nat.le_of_ble_eq_true rfl, Nat.le_of_ble_eq_true rfl⟩ [0, 1, 2] rfl rfl (ci := 0) (q0 := 0) rfl rfl rfl (Nat.le_of_ble_eq_true rfl) d_P_mill_145 ⟨Nat.le_of_ble_eq_true rfl, Nat.le_of_ble_eq_true rfl⟩) hP hD hS hA [0, 1, 2] [3, 4, 5, 6, 7, 8, 9, 10, 11, 12, 13, 14] rfl rfl rfl (by decide) (fun _ => (w_P a cA ii li ia la bd) ++ (w_Y y cA iy ly jy ky)) [12, 13, 14, 0, 1, 2, 3, 4, 5, 6, 7, 8, 9, 10, 11] rfl (fun _ => rfl) (fun rg u H locs hg9 hP hD hS => ?_)
            refine W.widen (k := 1) (n := 6) (Nat.le_of_ble_eq_true rfl) (Nat.le_of_ble_eq_true rfl) ?_
            refine W.widen (k := 2) (n := 12) (Nat.le_of_ble_eq_true rfl) (Nat.le_of_ble_eq_true rfl) ?_
            exact wt_lret hx hb hr hlk hP hD hS () rfl ⟨kk, c0, ax, hkk, rfl, hc, hrc, hax, rfl, by rw [hg9, ← hq0]; unfold ml_v; rw [if_neg hx0, if_pos (Or.inl hcn)]; exact if_neg (by decide)⟩ d_P_mill_148
          · have hc1 : ¬ kk % 4 = 2 := fun z => e16 (by rw [z]; rfl)
            refine lv_iload hx hb d_P_mill_109 (lv_at hl 0 rfl) ?_
            refine lv_iconst (v := 3) hx hb d_P_mill_111 (by decide) ?_
            refine lv_icmp_ne (tgt := 119) hx hb d_P_mill_112 (by decide) (fun h19 => ?_) (fun h19 => ?_)
            · have hc2 : ¬ kk % 4 = 3 := fun z => h19 (by rw [z]; rfl)
              refine lv_iconst (v := 0) hx hb d_P_mill_119 (by decide) ?_
              refine lv_istore (lv' := [(6, .int 0), (5, .int (nI (kk % 4))), (4, .int (nI r0)), (3, .int (nI c0)), (0, .ref (a 0)), (1, .int (nI kk)), (2, .int (nI ax))]) hx hb d_P_mill_120 hl (by decide) rfl (fun ls hl => ?_)
              refine lv_aload_n hx hb d_P_mill_122 rfl (lv_at hl 4 rfl) ?_
              refine lv_aload_n hx hb d_P_mill_123 rfl (lv_at hl 4 rfl) ?_
              refine va_get (D := D) (ci := 0) (v := .ref (a 6)) (C := R_P) (T := T_P) (N := 10) hx hb (uw_P Z.1 hg.1) (fun _ h => h) hown hK hP 0 rfl rfl 5 (by decide) (kw203 Z.1 _ _ hg.1) (fun _ h9 => h9) rfl d_P_mill_124 ?_
              rw [← hya]
              refine va_getN (D := D) (ci := 3) (v := .ref (y 4)) (C := R_Y) (T := T_Y) (N := 17) hx hb (uw_Y Z.1 hg.1) (fun _ h => h) hown hK hP 3 rfl rfl 3 (by decide) (kw138 Z.1 _ _ hg.1) (fun _ h9 => h9) rfl d_P_mill_127 ?_
              refine lv_iload hx hb d_P_mill_130 (lv_at hl 2 rfl) ?_
              refine va_lald hx hb hK hP 7 1 rfl rfl (vp_in_nI (n := r0) (N := 8) (by omega) (by decide)) d_P_mill_132 ?_
              refine lv_topl (fun z22 ez22 => ?_)
              rw [nI_clamp (n := r0) (by omega)] at ez22
              obtain rfl : z22 = ((ky 3) r0) := ez22
              rw [w5]
              refine lv_aload_n hx hb d_P_mill_133 rfl (lv_at hl 4 rfl) ?_
              refine va_get (D := D) (ci := 0) (v := .ref (a 6)) (C := R_P) (T := T_P) (N := 10) hx hb (uw_P Z.1 hg.1) (fun _ h => h) hown hK hP 0 rfl rfl 5 (by decide) (kw203 Z.1 _ _ hg.1) (fun _ h9 => h9) rfl d_P_mill_134 ?_
              rw [← hya]
              refine va_getN (D := D) (ci := 3) (v := .ref (y 6)) (C := R_Y) (T := T_Y) (N := 17) hx hb (uw_Y Z.1 hg.1) (fun _ h => h) hown hK hP 3 rfl rfl 5 (by decide) (kw142 Z.1 _ _ hg.1) (fun _ h9 => h9) rfl d_P_mill_137 ?_
              refine lv_iload hx hb d_P_mill_140 (lv_at hl 2 rfl) ?_
              refine va_lald hx hb hK hP 9 1 rfl rfl (vp_in_nI (n := r0) (N := 8) (by omega) (by decide)) d_P_mill_142 ?_
              refine lv_topl (fun z23 ez23 => ?_)
              rw [nI_clamp (n := r0) (by omega)] at ez23
              obtain rfl : z23 = ((ky 5) r0) := ez23
              rw [w8]
              refine lv_iload hx hb d_P_mill_143 (lv_at hl 0 rfl) ?_
              refine w_calll (wr := (w_Y y cA iy ly jy ky)) (w_runV (rest := []) hx hb hml hown hl.1 hg hlo hK hP hD hS (m_P_grownEnd Z a ii li ia la bd (lN (cpk q0 2)) (lN (cpk q0 5)) 0 H.size) (kw563 Z.1) (kw565 Z.1) (kp_P_grownEnd Z.1) (kw566 Z.1) (kw1 Z.1) ⟨by decide, by decide, (by decide +kernel : (parseMethodDescriptor y_P_grownEnd.desc).map (fun d => d.parameters.length) = some 3)⟩ ⟨Nat.le_of_ble_eq_true rfl, Nat.le_of_ble_eq_true rfl⟩ [0, 1, 2] rfl rfl (ci := 0) (q0 := 0) rfl rfl rfl (Nat.le_of_ble_eq_true rfl) d_P_mill_145 ⟨Nat.le_of_ble_eq_true rfl, Nat.le_of_ble_eq_true rfl⟩) hP hD hS hA [0, 1, 2] [3, 4, 5, 6, 7, 8, 9, 10, 11, 12, 13, 14] rfl rfl rfl (by decide) (fun _ => (w_P a cA ii li ia la bd) ++ (w_Y y cA iy ly jy ky)) [12, 13, 14, 0, 1, 2, 3, 4, 5, 6, 7, 8, 9, 10, 11] rfl (fun _ => rfl) (fun rg u H locs hg9 hP hD hS => ?_)
              refine W.widen (k := 1) (n := 6) (Nat.le_of_ble_eq_true rfl) (Nat.le_of_ble_eq_true rfl) ?_
              refine W.widen (k := 2) (n := 12) (Nat.le_of_ble_eq_true rfl) (Nat.le_of_ble_eq_true rfl) ?_
              exact wt_lret hx hb hr hlk hP hD hS () rfl ⟨kk, c0, ax, hkk, rfl, hc, hrc, hax, rfl, by rw [hg9, ← hq0]; unfold ml_v; rw [if_pos rfl, if_neg hx0, if_neg (fun z => z.elim hc1 hc2)]⟩ d_P_mill_148
            · have hcn : kk % 4 = 3 := (nI_eq (b := 3) (by omega) (by decide)).mp h19
              refine lv_iconst (v := 1) hx hb d_P_mill_115 (by decide) ?_
              refine lv_goto (tgt := 120) hx hb d_P_mill_116 (by decide) ?_
              refine lv_istore (lv' := [(6, .int 1), (5, .int (nI (kk % 4))), (4, .int (nI r0)), (3, .int (nI c0)), (0, .ref (a 0)), (1, .int (nI kk)), (2, .int (nI ax))]) hx hb d_P_mill_120 hl (by decide) rfl (fun ls hl => ?_)
              refine lv_aload_n hx hb d_P_mill_122 rfl (lv_at hl 4 rfl) ?_
              refine lv_aload_n hx hb d_P_mill_123 rfl (lv_at hl 4 rfl) ?_
              refine va_get (D := D) (ci := 0) (v := .ref (a 6)) (C := R_P) (T := T_P) (N := 10) hx hb (uw_P Z.1 hg.1) (fun _ h => h) hown hK hP 0 rfl rfl 5 (by decide) (kw203 Z.1 _ _ hg.1) (fun _ h9 => h9) rfl d_P_mill_124 ?_
              rw [← hya]
              refine va_getN (D := D) (ci := 3) (v := .ref (y 4)) (C := R_Y) (T := T_Y) (N := 17) hx hb (uw_Y Z.1 hg.1) (fun _ h => h) hown hK hP 3 rfl rfl 3 (by decide) (kw138 Z.1 _ _ hg.1) (fun _ h9 => h9) rfl d_P_mill_127 ?_
              refine lv_iload hx hb d_P_mill_130 (lv_at hl 2 rfl) ?_
              refine va_lald hx hb hK hP 7 1 rfl rfl (vp_in_nI (n := r0) (N := 8) (by omega) (by decide)) d_P_mill_132 ?_
              refine lv_topl (fun z20 ez20 => ?_)
              rw [nI_clamp (n := r0) (by omega)] at ez20
              obtain rfl : z20 = ((ky 3) r0) := ez20
              rw [w5]
              refine lv_aload_n hx hb d_P_mill_133 rfl (lv_at hl 4 rfl) ?_
              refine va_get (D := D) (ci := 0) (v := .ref (a 6)) (C := R_P) (T := T_P) (N := 10) hx hb (uw_P Z.1 hg.1) (fun _ h => h) hown hK hP 0 rfl rfl 5 (by decide) (kw203 Z.1 _ _ hg.1) (fun _ h9 => h9) rfl d_P_mill_134 ?_
              rw [← hya]
              refine va_getN (D := D) (ci := 3) (v := .ref (y 6)) (C := R_Y) (T := T_Y) (N := 17) hx hb (uw_Y Z.1 hg.1) (fun _ h => h) hown hK hP 3 rfl rfl 5 (by decide) (kw142 Z.1 _ _ hg.1) (fun _ h9 => h9) rfl d_P_mill_137 ?_
              refine lv_iload hx hb d_P_mill_140 (lv_at hl 2 rfl) ?_
              refine va_lald hx hb hK hP 9 1 rfl rfl (vp_in_nI (n := r0) (N := 8) (by omega) (by decide)) d_P_mill_142 ?_
              refine lv_topl (fun z21 ez21 => ?_)
              rw [nI_clamp (n := r0) (by omega)] at ez21
              obtain rfl : z21 = ((ky 5) r0) := ez21
              rw [w8]
              refine lv_iload hx hb d_P_mill_143 (lv_at hl 0 rfl) ?_
              refine w_calll (wr := (w_Y y cA iy ly jy ky)) (w_runV (rest := []) hx hb hml hown hl.1 hg hlo hK hP hD hS (m_P_grownEnd Z a ii li ia la bd (lN (cpk q0 2)) (lN (cpk q0 5)) 1 H.size) (kw563 Z.1) (kw565 Z.1) (kp_P_grownEnd Z.1) (kw566 Z.1) (kw1 Z.1) ⟨by decide, by decide, (by decide +kernel : (parseMethodDescriptor y_P_grownEnd.desc).map (fun d => d.parameters.length) = some 3)⟩ ⟨Nat.le_of_ble_eq_true rfl, Nat.le_of_ble_eq_true rfl⟩ [0, 1, 2] rfl rfl (ci := 0) (q0 := 0) rfl rfl rfl (Nat.le_of_ble_eq_true rfl) d_P_mill_145 ⟨Nat.le_of_ble_eq_true rfl, Nat.le_of_ble_eq_true rfl⟩) hP hD hS hA [0, 1, 2] [3, 4, 5, 6, 7, 8, 9, 10, 11, 12, 13, 14] rfl rfl rfl (by decide) (fun _ => (w_P a cA ii li ia la bd) ++ (w_Y y cA iy ly jy ky)) [12, 13, 14, 0, 1, 2, 3, 4, 5, 6, 7, 8, 9, 10, 11] rfl (fun _ => rfl) (fun rg u H locs hg9 hP hD hS => ?_)
              refine W.widen (k := 1) (n := 6) (Nat.le_of_ble_eq_true rfl) (Nat.le_of_ble_eq_true rfl) ?_
              refine W.widen (k := 2) (n := 12) (Nat.le_of_ble_eq_true rfl) (Nat.le_of_ble_eq_true rfl) ?_
              exact wt_lret hx hb hr hlk hP hD hS () rfl ⟨kk, c0, ax, hkk, rfl, hc, hrc, hax, rfl, by rw [hg9, ← hq0]; unfold ml_v; rw [if_neg hx0, if_pos (Or.inr hcn)]; exact if_neg (by decide)⟩ d_P_mill_148
        · have hx0 : ax = 0 := (nI_eq (b := 0) (by omega) (by decide)).mp g7
          refine lv_iload hx hb d_P_mill_58 (lv_at hl 0 rfl) ?_
          refine lv_iconst (v := 1) hx hb d_P_mill_60 (by decide) ?_
          refine lv_icmp_eq (tgt := 70) hx hb d_P_mill_61 (by decide) (fun e8 => ?_) (fun e8 => ?_)
          · have hcn : kk % 4 = 1 := (nI_eq (b := 1) (by omega) (by decide)).mp e8
            refine lv_iconst (v := 1) hx hb d_P_mill_70 (by decide) ?_
            refine lv_goto (tgt := 75) hx hb d_P_mill_71 (by decide) ?_
            refine lv_istore (lv' := [(6, .int 1), (5, .int (nI (kk % 4))), (4, .int (nI r0)), (3, .int (nI c0)), (0, .ref (a 0)), (1, .int (nI kk)), (2, .int (nI ax))]) hx hb d_P_mill_75 hl (by decide) rfl (fun ls hl => ?_)
            refine lv_aload_n hx hb d_P_mill_77 rfl (lv_at hl 4 rfl) ?_
            refine lv_aload_n hx hb d_P_mill_78 rfl (lv_at hl 4 rfl) ?_
            refine va_get (D := D) (ci := 0) (v := .ref (a 6)) (C := R_P) (T := T_P) (N := 10) hx hb (uw_P Z.1 hg.1) (fun _ h => h) hown hK hP 0 rfl rfl 5 (by decide) (kw203 Z.1 _ _ hg.1) (fun _ h9 => h9) rfl d_P_mill_79 ?_
            rw [← hya]
            refine va_getN (D := D) (ci := 3) (v := .ref (y 8)) (C := R_Y) (T := T_Y) (N := 17) hx hb (uw_Y Z.1 hg.1) (fun _ h => h) hown hK hP 3 rfl rfl 7 (by decide) (kw146 Z.1 _ _ hg.1) (fun _ h9 => h9) rfl d_P_mill_82 ?_
            refine lv_iload_n hx hb d_P_mill_85 rfl (lv_at hl 3 rfl) ?_
            refine va_lald hx hb hK hP 11 1 rfl rfl (vp_in_nI (n := c0) (N := 160) (by omega) (by decide)) d_P_mill_86 ?_
            refine lv_topl (fun z9 ez9 => ?_)
            rw [nI_clamp (n := c0) (by omega)] at ez9
            obtain rfl : z9 = ((ky 7) c0) := ez9
            rw [w4]
            refine lv_aload_n hx hb d_P_mill_87 rfl (lv_at hl 4 rfl) ?_
            refine va_get (D := D) (ci := 0) (v := .ref (a 6)) (C := R_P) (T := T_P) (N := 10) hx hb (uw_P Z.1 hg.1) (fun _ h => h) hown hK hP 0 rfl rfl 5 (by decide) (kw203 Z.1 _ _ hg.1) (fun _ h9 => h9) rfl d_P_mill_88 ?_
            rw [← hya]
            refine va_getN (D := D) (ci := 3) (v := .ref (y 5)) (C := R_Y) (T := T_Y) (N := 17) hx hb (uw_Y Z.1 hg.1) (fun _ h => h) hown hK hP 3 rfl rfl 4 (by decide) (kw140 Z.1 _ _ hg.1) (fun _ h9 => h9) rfl d_P_mill_91 ?_
            refine lv_iload hx hb d_P_mill_94 (lv_at hl 2 rfl) ?_
            refine va_lald hx hb hK hP 8 1 rfl rfl (vp_in_nI (n := r0) (N := 8) (by omega) (by decide)) d_P_mill_96 ?_
            refine lv_topl (fun z10 ez10 => ?_)
            rw [nI_clamp (n := r0) (by omega)] at ez10
            obtain rfl : z10 = ((ky 4) r0) := ez10
            rw [w7]
            refine lv_iload hx hb d_P_mill_97 (lv_at hl 0 rfl) ?_
            refine w_calll (wr := (w_Y y cA iy ly jy ky)) (w_runV (rest := []) hx hb hml hown hl.1 hg hlo hK hP hD hS (m_P_grownEnd Z a ii li ia la bd (lN (cpk q0 1)) (lN (cpk q0 4)) 1 H.size) (kw563 Z.1) (kw565 Z.1) (kp_P_grownEnd Z.1) (kw566 Z.1) (kw1 Z.1) ⟨by decide, by decide, (by decide +kernel : (parseMethodDescriptor y_P_grownEnd.desc).map (fun d => d.parameters.length) = some 3)⟩ ⟨Nat.le_of_ble_eq_true rfl, Nat.le_of_ble_eq_true rfl⟩ [0, 1, 2] rfl rfl (ci := 0) (q0 := 0) rfl rfl rfl (Nat.le_of_ble_eq_true rfl) d_P_mill_99 ⟨Nat.le_of_ble_eq_true rfl, Nat.le_of_ble_eq_true rfl⟩) hP hD hS hA [0, 1, 2] [3, 4, 5, 6, 7, 8, 9, 10, 11, 12, 13, 14] rfl rfl rfl (by decide) (fun _ => (w_P a cA ii li ia la bd) ++ (w_Y y cA iy ly jy ky)) [12, 13, 14, 0, 1, 2, 3, 4, 5, 6, 7, 8, 9, 10, 11] rfl (fun _ => rfl) (fun rg u H locs hg9 hP hD hS => ?_)
            refine W.widen (k := 1) (n := 6) (Nat.le_of_ble_eq_true rfl) (Nat.le_of_ble_eq_true rfl) ?_
            refine W.widen (k := 2) (n := 12) (Nat.le_of_ble_eq_true rfl) (Nat.le_of_ble_eq_true rfl) ?_
            exact wt_lret hx hb hr hlk hP hD hS () rfl ⟨kk, c0, ax, hkk, rfl, hc, hrc, hax, rfl, by rw [hg9, ← hq0]; unfold ml_v; rw [if_pos hx0, if_pos (Or.inl hcn)]; exact if_neg (by decide)⟩ d_P_mill_102
          · have hc1 : ¬ kk % 4 = 1 := fun z => e8 (by rw [z]; rfl)
            refine lv_iload hx hb d_P_mill_64 (lv_at hl 0 rfl) ?_
            refine lv_iconst (v := 2) hx hb d_P_mill_66 (by decide) ?_
            refine lv_icmp_ne (tgt := 74) hx hb d_P_mill_67 (by decide) (fun h11 => ?_) (fun h11 => ?_)
            · have hc2 : ¬ kk % 4 = 2 := fun z => h11 (by rw [z]; rfl)
              refine lv_iconst (v := 0) hx hb d_P_mill_74 (by decide) ?_
              refine lv_istore (lv' := [(6, .int 0), (5, .int (nI (kk % 4))), (4, .int (nI r0)), (3, .int (nI c0)), (0, .ref (a 0)), (1, .int (nI kk)), (2, .int (nI ax))]) hx hb d_P_mill_75 hl (by decide) rfl (fun ls hl => ?_)
              refine lv_aload_n hx hb d_P_mill_77 rfl (lv_at hl 4 rfl) ?_
              refine lv_aload_n hx hb d_P_mill_78 rfl (lv_at hl 4 rfl) ?_
              refine va_get (D := D) (ci := 0) (v := .ref (a 6)) (C := R_P) (T := T_P) (N := 10) hx hb (uw_P Z.1 hg.1) (fun _ h => h) hown hK hP 0 rfl rfl 5 (by decide) (kw203 Z.1 _ _ hg.1) (fun _ h9 => h9) rfl d_P_mill_79 ?_
              rw [← hya]
              refine va_getN (D := D) (ci := 3) (v := .ref (y 8)) (C := R_Y) (T := T_Y) (N := 17) hx hb (uw_Y Z.1 hg.1) (fun _ h => h) hown hK hP 3 rfl rfl 7 (by decide) (kw146 Z.1 _ _ hg.1) (fun _ h9 => h9) rfl d_P_mill_82 ?_
              refine lv_iload_n hx hb d_P_mill_85 rfl (lv_at hl 3 rfl) ?_
              refine va_lald hx hb hK hP 11 1 rfl rfl (vp_in_nI (n := c0) (N := 160) (by omega) (by decide)) d_P_mill_86 ?_
              refine lv_topl (fun z14 ez14 => ?_)
              rw [nI_clamp (n := c0) (by omega)] at ez14
              obtain rfl : z14 = ((ky 7) c0) := ez14
              rw [w4]
              refine lv_aload_n hx hb d_P_mill_87 rfl (lv_at hl 4 rfl) ?_
              refine va_get (D := D) (ci := 0) (v := .ref (a 6)) (C := R_P) (T := T_P) (N := 10) hx hb (uw_P Z.1 hg.1) (fun _ h => h) hown hK hP 0 rfl rfl 5 (by decide) (kw203 Z.1 _ _ hg.1) (fun _ h9 => h9) rfl d_P_mill_88 ?_
              rw [← hya]
              refine va_getN (D := D) (ci := 3) (v := .ref (y 5)) (C := R_Y) (T := T_Y) (N := 17) hx hb (uw_Y Z.1 hg.1) (fun _ h => h) hown hK hP 3 rfl rfl 4 (by decide) (kw140 Z.1 _ _ hg.1) (fun _ h9 => h9) rfl d_P_mill_91 ?_
              refine lv_iload hx hb d_P_mill_94 (lv_at hl 2 rfl) ?_
              refine va_lald hx hb hK hP 8 1 rfl rfl (vp_in_nI (n := r0) (N := 8) (by omega) (by decide)) d_P_mill_96 ?_
              refine lv_topl (fun z15 ez15 => ?_)
              rw [nI_clamp (n := r0) (by omega)] at ez15
              obtain rfl : z15 = ((ky 4) r0) := ez15
              rw [w7]
              refine lv_iload hx hb d_P_mill_97 (lv_at hl 0 rfl) ?_
              refine w_calll (wr := (w_Y y cA iy ly jy ky)) (w_runV (rest := []) hx hb hml hown hl.1 hg hlo hK hP hD hS (m_P_grownEnd Z a ii li ia la bd (lN (cpk q0 1)) (lN (cpk q0 4)) 0 H.size) (kw563 Z.1) (kw565 Z.1) (kp_P_grownEnd Z.1) (kw566 Z.1) (kw1 Z.1) ⟨by decide, by decide, (by decide +kernel : (parseMethodDescriptor y_P_grownEnd.desc).map (fun d => d.parameters.length) = some 3)⟩ ⟨Nat.le_of_ble_eq_true rfl, Nat.le_of_ble_eq_true rfl⟩ [0, 1, 2] rfl rfl (ci := 0) (q0 := 0) rfl rfl rfl (Nat.le_of_ble_eq_true rfl) d_P_mill_99 ⟨Nat.le_of_ble_eq_true rfl, Nat.le_of_ble_eq_true rfl⟩) hP hD hS hA [0, 1, 2] [3, 4, 5, 6, 7, 8, 9, 10, 11, 12, 13, 14] rfl rfl rfl (by decide) (fun _ => (w_P a cA ii li ia la bd) ++ (w_Y y cA iy ly jy ky)) [12, 13, 14, 0, 1, 2, 3, 4, 5, 6, 7, 8, 9, 10, 11] rfl (fun _ => rfl) (fun rg u H locs hg9 hP hD hS => ?_)
              refine W.widen (k := 1) (n := 6) (Nat.le_of_ble_eq_true rfl) (Nat.le_of_ble_eq_true rfl) ?_
              refine W.widen (k := 2) (n := 12) (Nat.le_of_ble_eq_true rfl) (Nat.le_of_ble_eq_true rfl) ?_
              exact wt_lret hx hb hr hlk hP hD hS () rfl ⟨kk, c0, ax, hkk, rfl, hc, hrc, hax, rfl, by rw [hg9, ← hq0]; unfold ml_v; rw [if_pos rfl, if_pos hx0, if_neg (fun z => z.elim hc1 hc2)]⟩ d_P_mill_102
            · have hcn : kk % 4 = 2 := (nI_eq (b := 2) (by omega) (by decide)).mp h11
              refine lv_iconst (v := 1) hx hb d_P_mill_70 (by decide) ?_
              refine lv_goto (tgt := 75) hx hb d_P_mill_71 (by decide) ?_
              refine lv_istore (lv' := [(6, .int 1), (5, .int (nI (kk % 4))), (4, .int (nI r0)), (3, .int (nI c0)), (0, .ref (a 0)), (1, .int (nI kk)), (2, .int (nI ax))]) hx hb d_P_mill_75 hl (by decide) rfl (fun ls hl => ?_)
              refine lv_aload_n hx hb d_P_mill_77 rfl (lv_at hl 4 rfl) ?_
              refine lv_aload_n hx hb d_P_mill_78 rfl (lv_at hl 4 rfl) ?_
              refine va_get (D := D) (ci := 0) (v := .ref (a 6)) (C := R_P) (T := T_P) (N := 10) hx hb (uw_P Z.1 hg.1) (fun _ h => h) hown hK hP 0 rfl rfl 5 (by decide) (kw203 Z.1 _ _ hg.1) (fun _ h9 => h9) rfl d_P_mill_79 ?_
              rw [← hya]
              refine va_getN (D := D) (ci := 3) (v := .ref (y 8)) (C := R_Y) (T := T_Y) (N := 17) hx hb (uw_Y Z.1 hg.1) (fun _ h => h) hown hK hP 3 rfl rfl 7 (by decide) (kw146 Z.1 _ _ hg.1) (fun _ h9 => h9) rfl d_P_mill_82 ?_
              refine lv_iload_n hx hb d_P_mill_85 rfl (lv_at hl 3 rfl) ?_
              refine va_lald hx hb hK hP 11 1 rfl rfl (vp_in_nI (n := c0) (N := 160) (by omega) (by decide)) d_P_mill_86 ?_
              refine lv_topl (fun z12 ez12 => ?_)
              rw [nI_clamp (n := c0) (by omega)] at ez12
              obtain rfl : z12 = ((ky 7) c0) := ez12
              rw [w4]
              refine lv_aload_n hx hb d_P_mill_87 rfl (lv_at hl 4 rfl) ?_
              refine va_get (D := D) (ci := 0) (v := .ref (a 6)) (C := R_P) (T := T_P) (N := 10) hx hb (uw_P Z.1 hg.1) (fun _ h => h) hown hK hP 0 rfl rfl 5 (by decide) (kw203 Z.1 _ _ hg.1) (fun _ h9 => h9) rfl d_P_mill_88 ?_
              rw [← hya]
              refine va_getN (D := D) (ci := 3) (v := .ref (y 5)) (C := R_Y) (T := T_Y) (N := 17) hx hb (uw_Y Z.1 hg.1) (fun _ h => h) hown hK hP 3 rfl rfl 4 (by decide) (kw140 Z.1 _ _ hg.1) (fun _ h9 => h9) rfl d_P_mill_91 ?_
              refine lv_iload hx hb d_P_mill_94 (lv_at hl 2 rfl) ?_
              refine va_lald hx hb hK hP 8 1 rfl rfl (vp_in_nI (n := r0) (N := 8) (by omega) (by decide)) d_P_mill_96 ?_
              refine lv_topl (fun z13 ez13 => ?_)
              rw [nI_clamp (n := r0) (by omega)] at ez13
              obtain rfl : z13 = ((ky 4) r0) := ez13
              rw [w7]
              refine lv_iload hx hb d_P_mill_97 (lv_at hl 0 rfl) ?_
              refine w_calll (wr := (w_Y y cA iy ly jy ky)) (w_runV (rest := []) hx hb hml hown hl.1 hg hlo hK hP hD hS (m_P_grownEnd Z a ii li ia la bd (lN (cpk q0 1)) (lN (cpk q0 4)) 1 H.size) (kw563 Z.1) (kw565 Z.1) (kp_P_grownEnd Z.1) (kw566 Z.1) (kw1 Z.1) ⟨by decide, by decide, (by decide +kernel : (parseMethodDescriptor y_P_grownEnd.desc).map (fun d => d.parameters.length) = some 3)⟩ ⟨Nat.le_of_ble_eq_true rfl, Nat.le_of_ble_eq_true rfl⟩ [0, 1, 2] rfl rfl (ci := 0) (q0 := 0) rfl rfl rfl (Nat.le_of_ble_eq_true rfl) d_P_mill_99 ⟨Nat.le_of_ble_eq_true rfl, Nat.le_of_ble_eq_true rfl⟩) hP hD hS hA [0, 1, 2] [3, 4, 5, 6, 7, 8, 9, 10, 11, 12, 13, 14] rfl rfl rfl (by decide) (fun _ => (w_P a cA ii li ia la bd) ++ (w_Y y cA iy ly jy ky)) [12, 13, 14, 0, 1, 2, 3, 4, 5, 6, 7, 8, 9, 10, 11] rfl (fun _ => rfl) (fun rg u H locs hg9 hP hD hS => ?_)
              refine W.widen (k := 1) (n := 6) (Nat.le_of_ble_eq_true rfl) (Nat.le_of_ble_eq_true rfl) ?_
              refine W.widen (k := 2) (n := 12) (Nat.le_of_ble_eq_true rfl) (Nat.le_of_ble_eq_true rfl) ?_
              exact wt_lret hx hb hr hlk hP hD hS () rfl ⟨kk, c0, ax, hkk, rfl, hc, hrc, hax, rfl, by rw [hg9, ← hq0]; unfold ml_v; rw [if_pos hx0, if_pos (Or.inr hcn)]; exact if_neg (by decide)⟩ d_P_mill_102
      · refine th_wid (k := 2) (n := 12) (Nat.le_of_ble_eq_true rfl) (Nat.le_of_ble_eq_true rfl) ?_
        exact wt_pass hem hlk hA hS1 (fun t1 ht hW => have hX := th_up hth.2 hS0 ht al hW; ⟨Or.inr ⟨x, rfl, fun z => hth.1 z.2, hX⟩, xF hX⟩)
    · rw [d3] at hrc
      refine W.widen (k := 1) (n := 6) (Nat.le_of_ble_eq_true rfl) (Nat.le_of_ble_eq_true rfl) ?_
      exact w_throwF (C := "java/lang/IndexOutOfBoundsException") hx hb hml hl.1 hown hlk hem Z.2.2.1 hS0 (kw276 Z.1 _ _ hg.1) (kw277 Z.1 _ _ hg.1) (kw10 Z.1 _ _ hg.1) (vk_R.warm hg.1 (Z.2.2.2.1 (188, "no such corner of the way") (by decide))) (ow_132 Z hg) (by decide) d_P_mill_24 d_P_mill_27 d_P_mill_28 d_P_mill_30 d_P_mill_33 (Nat.le_of_ble_eq_true rfl) (Nat.le_of_ble_eq_true rfl) (Nat.le_of_ble_eq_true rfl) (Nat.le_of_ble_eq_true rfl) (fun x t hW hX => ⟨Or.inr ⟨x, rfl, fun z => by obtain ⟨⟨k2, c, z1, z2, z3, z4⟩, -⟩ := z; obtain rfl := (nI_eq hkk z1).mp z2; exact yo_no hn160 z3 hrc z4, hX⟩, xF hX⟩)
  · have hk0 : k < 0 := Int32.not_le.mp c1
    refine lv_iconst (v := (-1)) hx hb d_P_mill_4 (by decide) ?_
    refine lv_goto (tgt := 18) hx hb d_P_mill_5 (by decide) ?_
    refine lv_istore_n (lv' := [(3, .int (-1)), (0, .ref (a 0)), (1, .int k), (2, .int v)]) hx hb d_P_mill_18 rfl hl (by decide) rfl (fun ls hl => ?_)
    refine lv_iload_n hx hb d_P_mill_19 rfl (lv_at hl 0 rfl) ?_
    refine lv_iconst (v := (-1)) hx hb d_P_mill_20 (by decide) ?_
    refine lv_icmp_ne (tgt := 34) hx hb d_P_mill_21 (by decide) (fun z => absurd rfl z) (fun _ => ?_)
    refine W.widen (k := 1) (n := 6) (Nat.le_of_ble_eq_true rfl) (Nat.le_of_ble_eq_true rfl) ?_
    exact w_throwF (C := "java/lang/IndexOutOfBoundsException") hx hb hml hl.1 hown hlk hem Z.2.2.1 hS0 (kw276 Z.1 _ _ hg.1) (kw277 Z.1 _ _ hg.1) (kw10 Z.1 _ _ hg.1) (vk_R.warm hg.1 (Z.2.2.2.1 (188, "no such corner of the way") (by decide))) (ow_132 Z hg) (by decide) d_P_mill_24 d_P_mill_27 d_P_mill_28 d_P_mill_30 d_P_mill_33 (Nat.le_of_ble_eq_true rfl) (Nat.le_of_ble_eq_true rfl) (Nat.le_of_ble_eq_true rfl) (Nat.le_of_ble_eq_true rfl) (fun x t hW hX => ⟨Or.inr ⟨x, rfl, fun z => by obtain ⟨⟨kk, c, z1, z2, -⟩, -⟩ := z; rw [z2] at hk0; exact nI_pos z1 hk0, hX⟩, xF hX⟩)
