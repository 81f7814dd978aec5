set_option maxHeartbeats 4000000 in
set_option maxRecDepth 100000 in
theorem m_Y_addScore {l : Launch} {s0 : State} {D : va_G} {cA sa : Nat → Nat} (Z : zE l s0 D cA sa) (a : Nat → Nat) (ii : Nat → Int32) (li : Nat → Int64) (ia : Nat → Nat → Int32) (la : Nat → Nat → Int64) (y : Int64) (bx : Int32) (k : Nat) (h13 : ii 13 = nI k) (hk : k < 16) (sz : Nat) : Met l y_Y_addScore [.code y_Y_addScore c_Y_addScore 4 none] ({ frames := 0, cells := 0, slots := 0, locals := 0 }) (wP s0 D [.ref (a 0), .long y, .int bx] (w_Y a cA ii li ia la) sz) (va_Qv (fun (u : St) => u = if 0 < k ∧ la 9 (k - 1) = y then (ii, li, va_up ia 10 (upd (ia 10) (k - 1) (ia 10 (k - 1) + bx)), la) else (va_up ii 13 (nI (k + 1)), li, va_up ia 10 (upd (ia 10) k bx), va_up la 9 (vp_updL (la 9) k y))) (wB D (va_A (w_Y a cA ii li ia la) sz) (fun (u : St) => w_Y a cA u.1 u.2.1 u.2.2.1 u.2.2.2)) (va_A (w_Y a cA ii li ia la) sz)) 0 0 (va_A (w_Y a cA ii li ia la) sz) := by
  refine wMet Z (by decide) (Nat.le_of_ble_eq_true rfl) ?_
  intro p e s m below meth c hx hb hr hml hown hlk hin hg hK hsz hP hD hA hlo hS ls hl
  subst hsz
  have hown : s.vm.findClass R_Y = some m.cls := hown
  refine lv_aload_n hx hb d_Y_addScore_0 rfl (lv_at hl 0 rfl) ?_
  refine va_get (D := D) (ci := 3) (v := .int (ii 13)) (C := R_Y) (T := T_Y) (N := 17) hx hb (uw_Y Z.1 hg.1) (fun _ h => h) hown hK hP 0 rfl rfl 13 (by decide) (kw157 Z.1 _ _ hg.1) (fun _ h9 => h9) rfl d_Y_addScore_1 ?_
  refine lv_if_le (tgt := 41) hx hb d_Y_addScore_4 (by decide) (fun c1 => ?_) (fun c1 => ?_)
  · have h0 : k = 0 := by rw [h13] at c1; have := (nI_leI (b := 0) (by omega) (by decide)).mp c1; omega
    have hcl : (ii 13).toNatClampNeg = k := by rw [h13]; exact nI_clamp (by omega)
    refine lv_aload_n hx hb d_Y_addScore_41 rfl (lv_at hl 0 rfl) ?_
    refine va_get (D := D) (ci := 3) (v := .int (ii 13)) (C := R_Y) (T := T_Y) (N := 17) hx hb (uw_Y Z.1 hg.1) (fun _ h => h) hown hK hP 0 rfl rfl 13 (by decide) (kw157 Z.1 _ _ hg.1) (fun _ h9 => h9) rfl d_Y_addScore_42 ?_
    refine lv_aload_n hx hb d_Y_addScore_45 rfl (lv_at hl 0 rfl) ?_
    refine va_get (D := D) (ci := 3) (v := .ref (a 10)) (C := R_Y) (T := T_Y) (N := 17) hx hb (uw_Y Z.1 hg.1) (fun _ h => h) hown hK hP 0 rfl rfl 9 (by decide) (kw149 Z.1 _ _ hg.1) (fun _ h9 => h9) rfl d_Y_addScore_46 ?_
    refine va_alen hx hb hK hP 10 1 rfl rfl (v := 16) rfl d_Y_addScore_49 ?_
    refine lv_icmp_ge (tgt := 83) hx hb d_Y_addScore_50 (by decide) (fun k2 => by first | exact absurd (show ¬ (16 : Int32) ≤ ii 13 by rw [h13]; exact nI_ge (b := 16) hk (by decide)) k2 | exact absurd k2 (show ¬ (16 : Int32) ≤ ii 13 by rw [h13]; exact nI_ge (b := 16) hk (by decide))) (fun _ => ?_)
    refine lv_aload_n hx hb d_Y_addScore_53 rfl (lv_at hl 0 rfl) ?_
    refine va_get (D := D) (ci := 3) (v := .ref (a 10)) (C := R_Y) (T := T_Y) (N := 17) hx hb (uw_Y Z.1 hg.1) (fun _ h => h) hown hK hP 0 rfl rfl 9 (by decide) (kw149 Z.1 _ _ hg.1) (fun _ h9 => h9) rfl d_Y_addScore_54 ?_
    refine lv_aload_n hx hb d_Y_addScore_57 rfl (lv_at hl 0 rfl) ?_
    refine va_get (D := D) (ci := 3) (v := .int (ii 13)) (C := R_Y) (T := T_Y) (N := 17) hx hb (uw_Y Z.1 hg.1) (fun _ h => h) hown hK hP 0 rfl rfl 13 (by decide) (kw157 Z.1 _ _ hg.1) (fun _ h9 => h9) rfl d_Y_addScore_58 ?_
    refine lv_lload_n hx hb d_Y_addScore_61 rfl (lv_at hl 1 rfl) ?_
    refine va_last hx hb hK hP hD hS 10 1 rfl rfl (by rw [h13]; exact vp_in_nI (N := 16) hk (by decide)) d_Y_addScore_62 (fun H locs hP hD hS => ?_)
    have hP : va_P D ncl (w_Y a cA ii li ia (va_up la 9 (vp_updL (la 9) (Int32.toNatClampNeg (ii 13)) y))) H := hP
    have hD : va_D _ (w_Y a cA ii li ia (va_up la 9 (vp_updL (la 9) (Int32.toNatClampNeg (ii 13)) y))) := hD
    refine lv_aload_n hx hb d_Y_addScore_63 rfl (lv_at hl 0 rfl) ?_
    refine va_get (D := D) (ci := 3) (v := .ref (a 11)) (C := R_Y) (T := T_Y) (N := 17) hx hb (uw_Y Z.1 hg.1) (fun _ h => h) hown hK hP 0 rfl rfl 10 (by decide) (kw151 Z.1 _ _ hg.1) (fun _ h9 => h9) rfl d_Y_addScore_64 ?_
    refine lv_aload_n hx hb d_Y_addScore_67 rfl (lv_at hl 0 rfl) ?_
    refine va_get (D := D) (ci := 3) (v := .int (ii 13)) (C := R_Y) (T := T_Y) (N := 17) hx hb (uw_Y Z.1 hg.1) (fun _ h => h) hown hK hP 0 rfl rfl 13 (by decide) (kw157 Z.1 _ _ hg.1) (fun _ h9 => h9) rfl d_Y_addScore_68 ?_
    refine lv_iload_n hx hb d_Y_addScore_71 rfl (lv_at hl 2 rfl) ?_
    refine va_iast hx hb hK hP hD hS 11 0 rfl rfl (by rw [h13]; exact vp_in_nI (N := 16) hk (by decide)) d_Y_addScore_72 (fun H locs hP hD hS => ?_)
    have hP : va_P D ncl (w_Y a cA ii li (va_up ia 10 (upd (ia 10) (Int32.toNatClampNeg (ii 13)) bx)) (va_up la 9 (vp_updL (la 9) (Int32.toNatClampNeg (ii 13)) y))) H := hP
    have hD : va_D _ (w_Y a cA ii li (va_up ia 10 (upd (ia 10) (Int32.toNatClampNeg (ii 13)) bx)) (va_up la 9 (vp_updL (la 9) (Int32.toNatClampNeg (ii 13)) y))) := hD
    refine lv_aload_n hx hb d_Y_addScore_73 rfl (lv_at hl 0 rfl) ?_
    refine lv_dup hx hb d_Y_addScore_74 rfl ?_
    refine va_get (D := D) (ci := 3) (v := .int (ii 13)) (C := R_Y) (T := T_Y) (N := 17) hx hb (uw_Y Z.1 hg.1) (fun _ h => h) hown hK hP 0 rfl rfl 13 (by decide) (kw157 Z.1 _ _ hg.1) (fun _ h9 => h9) rfl d_Y_addScore_75 ?_
    refine lv_iconst (v := 1) hx hb d_Y_addScore_78 (by decide) ?_
    refine lv_iadd hx hb d_Y_addScore_79 ?_
    refine va_put (D := D) (ci := 3) (v := .int ((ii 13) + 1)) (ty := t_Y 13) (C := R_Y) (T := T_Y) (N := 17) hx hb (uw_Y Z.1 hg.1) (fun _ h => h) t_Y t_Y_ok n_Y hown hK hP hD hS 0 rfl rfl 13 (by decide) (kw157 Z.1 _ _ hg.1) (fun _ h9 => h9) rfl (by decide +kernel) rfl rfl (Nat.le_of_ble_eq_true rfl) d_Y_addScore_80 (fun H locs hP hD hS => ?_)
    have hP : va_P D ncl (w_Y a cA (va_up ii 13 ((ii 13) + 1)) li (va_up ia 10 (upd (ia 10) (Int32.toNatClampNeg (ii 13)) bx)) (va_up la 9 (vp_updL (la 9) (Int32.toNatClampNeg (ii 13)) y))) H := hP
    have hD : va_D _ (w_Y a cA (va_up ii 13 ((ii 13) + 1)) li (va_up ia 10 (upd (ia 10) (Int32.toNatClampNeg (ii 13)) bx)) (va_up la 9 (vp_updL (la 9) (Int32.toNatClampNeg (ii 13)) y))) := hD
    exact w_vret hx hb hr hlk hP hD hS ((va_up ii 13 ((ii 13) + 1)), li, (va_up ia 10 (upd (ia 10) (Int32.toNatClampNeg (ii 13)) bx)), (va_up la 9 (vp_updL (la 9) (Int32.toNatClampNeg (ii 13)) y))) rfl (by rw [if_neg (fun z => by omega), hcl, h13, nI_1]) d_Y_addScore_83
  · have h0 : 0 < k := Nat.lt_of_not_le (fun z => c1 (by rw [h13]; exact (nI_leI (b := 0) (by omega) (by decide)).mpr z))
    refine lv_aload_n hx hb d_Y_addScore_7 rfl (lv_at hl 0 rfl) ?_
    refine va_get (D := D) (ci := 3) (v := .ref (a 10)) (C := R_Y) (T := T_Y) (N := 17) hx hb (uw_Y Z.1 hg.1) (fun _ h => h) hown hK hP 0 rfl rfl 9 (by decide) (kw149 Z.1 _ _ hg.1) (fun _ h9 => h9) rfl d_Y_addScore_8 ?_
    refine lv_aload_n hx hb d_Y_addScore_11 rfl (lv_at hl 0 rfl) ?_
    refine va_get (D := D) (ci := 3) (v := .int (ii 13)) (C := R_Y) (T := T_Y) (N := 17) hx hb (uw_Y Z.1 hg.1) (fun _ h => h) hown hK hP 0 rfl rfl 13 (by decide) (kw157 Z.1 _ _ hg.1) (fun _ h9 => h9) rfl d_Y_addScore_12 ?_
    refine lv_iconst (v := 1) hx hb d_Y_addScore_15 (by decide) ?_
    refine lv_isub hx hb d_Y_addScore_16 ?_
    refine lv_topi (fun z3 ez3 => ?_)
    obtain rfl : z3 = (nI (k - 1)) := by rw [ez3]; rw [h13]; exact nI_sub (b := 1) (by omega)
    refine va_lald hx hb hK hP 10 1 rfl rfl (vp_in_nI (N := 16) (by omega) (by decide)) d_Y_addScore_17 ?_
    refine lv_topl (fun z4 ez4 => ?_)
    rw [nI_clamp (n := (k - 1)) (by omega)] at ez4
    obtain rfl : z4 = ((la 9) (k - 1)) := ez4
    refine lv_lload_n hx hb d_Y_addScore_18 rfl (lv_at hl 1 rfl) ?_
    refine W.lcmp hx hb d_Y_addScore_19 ?_
    refine lv_if_ne (tgt := 41) hx hb d_Y_addScore_20 (by decide) (fun d5 => ?_) (fun d5 => ?_)
    · have hcl : (ii 13).toNatClampNeg = k := by rw [h13]; exact nI_clamp (by omega)
      refine lv_aload_n hx hb d_Y_addScore_41 rfl (lv_at hl 0 rfl) ?_
      refine va_get (D := D) (ci := 3) (v := .int (ii 13)) (C := R_Y) (T := T_Y) (N := 17) hx hb (uw_Y Z.1 hg.1) (fun _ h => h) hown hK hP 0 rfl rfl 13 (by decide) (kw157 Z.1 _ _ hg.1) (fun _ h9 => h9) rfl d_Y_addScore_42 ?_
      refine lv_aload_n hx hb d_Y_addScore_45 rfl (lv_at hl 0 rfl) ?_
      refine va_get (D := D) (ci := 3) (v := .ref (a 10)) (C := R_Y) (T := T_Y) (N := 17) hx hb (uw_Y Z.1 hg.1) (fun _ h => h) hown hK hP 0 rfl rfl 9 (by decide) (kw149 Z.1 _ _ hg.1) (fun _ h9 => h9) rfl d_Y_addScore_46 ?_
      refine va_alen hx hb hK hP 10 1 rfl rfl (v := 16) rfl d_Y_addScore_49 ?_
      refine lv_icmp_ge (tgt := 83) hx hb d_Y_addScore_50 (by decide) (fun k6 => by first | exact absurd (show ¬ (16 : Int32) ≤ ii 13 by rw [h13]; exact nI_ge (b := 16) hk (by decide)) k6 | exact absurd k6 (show ¬ (16 : Int32) ≤ ii 13 by rw [h13]; exact nI_ge (b := 16) hk (by decide))) (fun _ => ?_)
      refine lv_aload_n hx hb d_Y_addScore_53 rfl (lv_at hl 0 rfl) ?_
      refine va_get (D := D) (ci := 3) (v := .ref (a 10)) (C := R_Y) (T := T_Y) (N := 17) hx hb (uw_Y Z.1 hg.1) (fun _ h => h) hown hK hP 0 rfl rfl 9 (by decide) (kw149 Z.1 _ _ hg.1) (fun _ h9 => h9) rfl d_Y_addScore_54 ?_
      refine lv_aload_n hx hb d_Y_addScore_57 rfl (lv_at hl 0 rfl) ?_
      refine va_get (D := D) (ci := 3) (v := .int (ii 13)) (C := R_Y) (T := T_Y) (N := 17) hx hb (uw_Y Z.1 hg.1) (fun _ h => h) hown hK hP 0 rfl rfl 13 (by decide) (kw157 Z.1 _ _ hg.1) (fun _ h9 => h9) rfl d_Y_addScore_58 ?_
      refine lv_lload_n hx hb d_Y_addScore_61 rfl (lv_at hl 1 rfl) ?_
      refine va_last hx hb hK hP hD hS 10 1 rfl rfl (by rw [h13]; exact vp_in_nI (N := 16) hk (by decide)) d_Y_addScore_62 (fun H locs hP hD hS => ?_)
      have hP : va_P D ncl (w_Y a cA ii li ia (va_up la 9 (vp_updL (la 9) (Int32.toNatClampNeg (ii 13)) y))) H := hP
      have hD : va_D _ (w_Y a cA ii li ia (va_up la 9 (vp_updL (la 9) (Int32.toNatClampNeg (ii 13)) y))) := hD
      refine lv_aload_n hx hb d_Y_addScore_63 rfl (lv_at hl 0 rfl) ?_
      refine va_get (D := D) (ci := 3) (v := .ref (a 11)) (C := R_Y) (T := T_Y) (N := 17) hx hb (uw_Y Z.1 hg.1) (fun _ h => h) hown hK hP 0 rfl rfl 10 (by decide) (kw151 Z.1 _ _ hg.1) (fun _ h9 => h9) rfl d_Y_addScore_64 ?_
      refine lv_aload_n hx hb d_Y_addScore_67 rfl (lv_at hl 0 rfl) ?_
      refine va_get (D := D) (ci := 3) (v := .int (ii 13)) (C := R_Y) (T := T_Y) (N := 17) hx hb (uw_Y Z.1 hg.1) (fun _ h => h) hown hK hP 0 rfl rfl 13 (by decide) (kw157 Z.1 _ _ hg.1) (fun _ h9 => h9) rfl d_Y_addScore_68 ?_
      refine lv_iload_n hx hb d_Y_addScore_71 rfl (lv_at hl 2 rfl) ?_
      refine va_iast hx hb hK hP hD hS 11 0 rfl rfl (by rw [h13]; exact vp_in_nI (N := 16) hk (by decide)) d_Y_addScore_72 (fun H locs hP hD hS => ?_)
      have hP : va_P D ncl (w_Y a cA ii li (va_up ia 10 (upd (ia 10) (Int32.toNatClampNeg (ii 13)) bx)) (va_up la 9 (vp_updL (la 9) (Int32.toNatClampNeg (ii 13)) y))) H := hP
      have hD : va_D _ (w_Y a cA ii li (va_up ia 10 (upd (ia 10) (Int32.toNatClampNeg (ii 13)) bx)) (va_up la 9 (vp_updL (la 9) (Int32.toNatClampNeg (ii 13)) y))) := hD
      refine lv_aload_n hx hb d_Y_addScore_73 rfl (lv_at hl 0 rfl) ?_
      refine lv_dup hx hb d_Y_addScore_74 rfl ?_
      refine va_get (D := D) (ci := 3) (v := .int (ii 13)) (C := R_Y) (T := T_Y) (N := 17) hx hb (uw_Y Z.1 hg.1) (fun _ h => h) hown hK hP 0 rfl rfl 13 (by decide) (kw157 Z.1 _ _ hg.1) (fun _ h9 => h9) rfl d_Y_addScore_75 ?_
      refine lv_iconst (v := 1) hx hb d_Y_addScore_78 (by decide) ?_
      refine lv_iadd hx hb d_Y_addScore_79 ?_
      refine va_put (D := D) (ci := 3) (v := .int ((ii 13) + 1)) (ty := t_Y 13) (C := R_Y) (T := T_Y) (N := 17) hx hb (uw_Y Z.1 hg.1) (fun _ h => h) t_Y t_Y_ok n_Y hown hK hP hD hS 0 rfl rfl 13 (by decide) (kw157 Z.1 _ _ hg.1) (fun _ h9 => h9) rfl (by decide +kernel) rfl rfl (Nat.le_of_ble_eq_true rfl) d_Y_addScore_80 (fun H locs hP hD hS => ?_)
      have hP : va_P D ncl (w_Y a cA (va_up ii 13 ((ii 13) + 1)) li (va_up ia 10 (upd (ia 10) (Int32.toNatClampNeg (ii 13)) bx)) (va_up la 9 (vp_updL (la 9) (Int32.toNatClampNeg (ii 13)) y))) H := hP
      have hD : va_D _ (w_Y a cA (va_up ii 13 ((ii 13) + 1)) li (va_up ia 10 (upd (ia 10) (Int32.toNatClampNeg (ii 13)) bx)) (va_up la 9 (vp_updL (la 9) (Int32.toNatClampNeg (ii 13)) y))) := hD
      exact w_vret hx hb hr hlk hP hD hS ((va_up ii 13 ((ii 13) + 1)), li, (va_up ia 10 (upd (ia 10) (Int32.toNatClampNeg (ii 13)) bx)), (va_up la 9 (vp_updL (la 9) (Int32.toNatClampNeg (ii 13)) y))) rfl (by rw [if_neg (fun z => d5 ((lg_cmp_eq _ _).mpr z.2)), hcl, h13, nI_1]) d_Y_addScore_83
    · have he : la 9 (k - 1) = y := (lg_cmp_eq _ _).mp d5
      refine lv_aload_n hx hb d_Y_addScore_23 rfl (lv_at hl 0 rfl) ?_
      refine va_get (D := D) (ci := 3) (v := .ref (a 11)) (C := R_Y) (T := T_Y) (N := 17) hx hb (uw_Y Z.1 hg.1) (fun _ h => h) hown hK hP 0 rfl rfl 10 (by decide) (kw151 Z.1 _ _ hg.1) (fun _ h9 => h9) rfl d_Y_addScore_24 ?_
      refine lv_aload_n hx hb d_Y_addScore_27 rfl (lv_at hl 0 rfl) ?_
      refine va_get (D := D) (ci := 3) (v := .int (ii 13)) (C := R_Y) (T := T_Y) (N := 17) hx hb (uw_Y Z.1 hg.1) (fun _ h => h) hown hK hP 0 rfl rfl 13 (by decide) (kw157 Z.1 _ _ hg.1) (fun _ h9 => h9) rfl d_Y_addScore_28 ?_
      refine lv_iconst (v := 1) hx hb d_Y_addScore_31 (by decide) ?_
      refine lv_isub hx hb d_Y_addScore_32 ?_
      refine lv_topi (fun z7 ez7 => ?_)
      obtain rfl : z7 = (nI (k - 1)) := by rw [ez7]; rw [h13]; exact nI_sub (b := 1) (by omega)
      refine lv_dup2_11 hx hb d_Y_addScore_33 rfl rfl ?_
      refine va_iald hx hb hK hP 11 0 rfl rfl (vp_in_nI (N := 16) (by omega) (by decide)) d_Y_addScore_34 ?_
      refine lv_topi (fun z8 ez8 => ?_)
      rw [nI_clamp (n := (k - 1)) (by omega)] at ez8
      obtain rfl : z8 = ((ia 10) (k - 1)) := ez8
      refine lv_iload_n hx hb d_Y_addScore_35 rfl (lv_at hl 2 rfl) ?_
      refine lv_iadd hx hb d_Y_addScore_36 ?_
      refine va_iast hx hb hK hP hD hS 11 0 rfl rfl (vp_in_nI (N := 16) (by omega) (by decide)) d_Y_addScore_37 (fun H locs hP hD hS => ?_)
      rw [nI_clamp (n := (k - 1)) (by omega)] at hP hD
      have hP : va_P D ncl (w_Y a cA ii li (va_up ia 10 (upd (ia 10) (k - 1) (((ia 10) (k - 1)) + bx))) la) H := hP
      have hD : va_D _ (w_Y a cA ii li (va_up ia 10 (upd (ia 10) (k - 1) (((ia 10) (k - 1)) + bx))) la) := hD
      refine lv_goto (tgt := 83) hx hb d_Y_addScore_38 (by decide) ?_
      exact w_vret hx hb hr hlk hP hD hS (ii, li, (va_up ia 10 (upd (ia 10) (k - 1) (((ia 10) (k - 1)) + bx))), la) rfl (by rw [if_pos ⟨h0, he⟩]) d_Y_addScore_83
/-- how many of the first n are q -/
def yc (f : Nat → Int32) (q : Int32) : Nat → Nat
  | 0 => 0
  | n + 1 => yc f q n + (if f n = q then 1 else 0)
theorem yc_le (f : Nat → Int32) (q : Int32) : ∀ n, yc f q n ≤ n := by
  intro n
  induction n with
  | zero => exact Nat.le_refl 0
  | succ n ih => rw [yc]; split <;> omega
theorem yc_mono (f : Nat → Int32) (q : Int32) {m : Nat} : ∀ n, m ≤ n → yc f q m ≤ yc f q n := by
  intro n
  induction n with
  | zero => intro h; obtain rfl : m = 0 := by omega
            exact Nat.le_refl _
  | succ n ih =>
    intro h
    rcases Nat.lt_or_ge m (n + 1) with g | g
    · have := ih (by omega); rw [yc]; omega
    · obtain rfl : m = n + 1 := by omega
      exact Nat.le_refl _
set_option maxHeartbeats 4000000 in
set_option maxRecDepth 100000 in
theorem m_Y_countOf {l : Launch} {s0 : State} {D : va_G} {cA sa : Nat → Nat} (Z : zE l s0 D cA sa) (a : Nat → Nat) (ii : Nat → Int32) (li : Nat → Int64) (ia : Nat → Nat → Int32) (la : Nat → Nat → Int64) (q : Int32) (n : Nat) (h12 : ii 12 = nI n) (hn : n ≤ 160) (sz : Nat) : Met l y_Y_countOf [.code y_Y_countOf c_Y_countOf 4 (some .int)] ({ frames := 0, cells := 0, slots := 0, locals := 0 }) (wP s0 D [.ref (a 0), .int q] (w_Y a cA ii li ia la) sz) (va_Qi (fun r (_ : Unit) => r = nI (yc (ia 8) q n)) (wB D (va_A (w_Y a cA ii li ia la) sz) (fun _ => w_Y a cA ii li ia la)) (va_A (w_Y a cA ii li ia la) sz)) 0 0 (va_A (w_Y a cA ii li ia la) sz) := by
  refine wMet Z (by decide) (Nat.le_of_ble_eq_true rfl) ?_
  intro p e s m below meth c hx hb hr hml hown hlk hin hg hK hsz hP hD hA hlo hS ls hl
  subst hsz
  have hown : s.vm.findClass R_Y = some m.cls := hown
  refine lv_iconst (v := 0) hx hb d_Y_countOf_0 (by decide) ?_
  refine lv_topi (fun z1 ez1 => ?_)
  obtain rfl : z1 = (nI 0) := by rw [ez1]; rfl
  refine lv_istore_n (lv' := [(2, .int (nI 0)), (0, .ref (a 0)), (1, .int q)]) hx hb d_Y_countOf_1 rfl hl (by decide) rfl (fun ls hl => ?_)
  refine lv_iconst (v := 0) hx hb d_Y_countOf_2 (by decide) ?_
  refine lv_topi (fun z2 ez2 => ?_)
  obtain rfl : z2 = (nI 0) := by rw [ez2]; rfl
  refine lv_istore_n (lv' := [(3, .int (nI 0)), (2, .int (nI 0)), (0, .ref (a 0)), (1, .int q)]) hx hb d_Y_countOf_3 rfl hl (by decide) rfl (fun ls hl => ?_)
  have loop : ∀ (f : Nat) (k : Nat), n - k < f → k ≤ n → ∀ (H : Heap) (locs : List Loc), va_P D ncl (w_Y a cA ii li ia la) H → va_D (va_A (w_Y a cA ii li ia la) s.heap.size) (w_Y a cA ii li ia la) → va_S (va_A (w_Y a cA ii li ia la) s.heap.size) s.heap H locs → ∀ (ls : Array Slot), lv_has ls 4 [(0, .ref (a 0)), (1, .int q), (2, .int (nI (yc (ia 8) q k))), (3, .int (nI k))] → W p l e ({ frames := 0, cells := 0, slots := 0, locals := 0 }) s m ([.ref (a 0), .int q] : List Value).toArray below meth c H locs 0 0 (MQ below (va_Qi (fun r (_ : Unit) => r = nI (yc (ia 8) q n)) (wB D (va_A (w_Y a cA ii li ia la) s.heap.size) (fun _ => w_Y a cA ii li ia la)) (va_A (w_Y a cA ii li ia la) s.heap.size)) ([.ref (a 0), .int q] : List Value).toArray s 0 0 (va_A (w_Y a cA ii li ia la) s.heap.size)) (F0 m 4 ls []) := by
    intro f
    induction f with
    | zero => intro k h; exact absurd h (Nat.not_lt_zero _)
    | succ f ih =>
      intro k hf hk H locs hP hD hS ls hl
      refine lv_iload_n hx hb d_Y_countOf_4 rfl (lv_at hl 3 rfl) ?_
      refine lv_aload_n hx hb d_Y_countOf_5 rfl (lv_at hl 0 rfl) ?_
      refine va_get (D := D) (ci := 3) (v := .int (ii 12)) (C := R_Y) (T := T_Y) (N := 17) hx hb (uw_Y Z.1 hg.1) (fun _ h => h) hown hK hP 0 rfl rfl 12 (by decide) (kw155 Z.1 _ _ hg.1) (fun _ h9 => h9) rfl d_Y_countOf_6 ?_
      refine lv_icmp_ge (tgt := 31) hx hb d_Y_countOf_9 (by decide) (fun c3 => ?_) (fun c3 => ?_)
      · obtain rfl : k = n := by rw [h12] at c3; have := (nI_leI (by omega) (by omega)).mp c3; omega
        refine lv_iload_n hx hb d_Y_countOf_31 rfl (lv_at hl 2 rfl) ?_
        exact w_iret hx hb hr hlk hP hD hS () rfl rfl d_Y_countOf_32
      · have hkn : k < n := Nat.lt_of_not_le (fun z => c3 (by rw [h12]; exact (nI_leI (by omega) (by omega)).mpr z))
        refine lv_aload_n hx hb d_Y_countOf_12 rfl (lv_at hl 0 rfl) ?_
        refine va_get (D := D) (ci := 3) (v := .ref (a 9)) (C := R_Y) (T := T_Y) (N := 17) hx hb (uw_Y Z.1 hg.1) (fun _ h => h) hown hK hP 0 rfl rfl 8 (by decide) (kw147 Z.1 _ _ hg.1) (fun _ h9 => h9) rfl d_Y_countOf_13 ?_
        refine lv_iload_n hx hb d_Y_countOf_16 rfl (lv_at hl 3 rfl) ?_
        refine va_zald hx hb hK hP 9 2 rfl rfl (vp_in_nI (n := k) (N := 160) (by omega) (by decide)) d_Y_countOf_17 ?_
        refine lv_topi (fun z4 ez4 => ?_)
        rw [nI_clamp (n := k) (by omega)] at ez4
        obtain rfl : z4 = ((ia 8) k) := ez4
        refine lv_iload_n hx hb d_Y_countOf_18 rfl (lv_at hl 1 rfl) ?_
        refine lv_icmp_ne (tgt := 25) hx hb d_Y_countOf_19 (by decide) (fun d5 => ?_) (fun d5 => ?_)
        · obtain ⟨v6, ev6⟩ : ∃ y : Int32, y = (nI k) + 1 := ⟨_, rfl⟩
          refine lv_iinc (v := v6) (lv' := [(3, .int v6), (0, .ref (a 0)), (1, .int q), (2, .int (nI (yc (ia 8) q k)))]) hx hb d_Y_countOf_25 hl (k := 3) rfl (by rw [ev6]; rfl) (by decide) rfl (fun ls hl => ?_)
          refine lv_goto (tgt := 4) hx hb d_Y_countOf_28 (by decide) ?_
          obtain rfl : v6 = nI (k + 1) := by rw [ev6]; exact nI_1 k
          have hy : yc (ia 8) q (k + 1) = yc (ia 8) q k := by rw [yc, if_neg d5, Nat.add_zero]
          rw [← hy] at hl
          exact ih (k + 1) (by omega) (by omega) _ _ hP hD hS ls (lv_sub hl [1, 2, 3, 0] rfl)
        · obtain ⟨v7, ev7⟩ : ∃ y : Int32, y = (nI (yc (ia 8) q k)) + 1 := ⟨_, rfl⟩
          refine lv_iinc (v := v7) (lv' := [(2, .int v7), (0, .ref (a 0)), (1, .int q), (3, .int (nI k))]) hx hb d_Y_countOf_22 hl (k := 2) rfl (by rw [ev7]; rfl) (by decide) rfl (fun ls hl => ?_)
          obtain ⟨v8, ev8⟩ : ∃ y : Int32, y = (nI k) + 1 := ⟨_, rfl⟩
          refine lv_iinc (v := v8) (lv' := [(3, .int v8), (2, .int v7), (0, .ref (a 0)), (1, .int q)]) hx hb d_Y_countOf_25 hl (k := 3) rfl (by rw [ev8]; rfl) (by decide) rfl (fun ls hl => ?_)
          refine lv_goto (tgt := 4) hx hb d_Y_countOf_28 (by decide) ?_
          obtain rfl : v8 = nI (k + 1) := by rw [ev8]; exact nI_1 k
          obtain rfl : v7 = nI (yc (ia 8) q (k + 1)) := by rw [ev7]; rw [nI_1, yc, if_pos d5]
          exact ih (k + 1) (by omega) (by omega) _ _ hP hD hS ls (lv_sub hl [2, 3, 1, 0] rfl)
  exact loop (n + 1) 0 (by omega) (by omega) _ _ hP hD hS ls (lv_sub hl [2, 3, 1, 0] rfl)
set_option maxHeartbeats 4000000 in
set_option maxRecDepth 100000 in
theorem m_Y_nthOf {l : Launch} {s0 : State} {D : va_G} {cA sa : Nat → Nat} (Z : zE l s0 D cA sa) (a : Nat → Nat) (ii : Nat → Int32) (li : Nat → Int64) (ia : Nat → Nat → Int32) (la : Nat → Nat → Int64) (q : Int32) (n mm : Nat) (h12 : ii 12 = nI n) (hn : n ≤ 160) (hm : mm ≤ 160) (sz : Nat) : Met l y_Y_nthOf [.code y_Y_nthOf c_Y_nthOf 5 (some .int)] ({ frames := 0, cells := 0, slots := 0, locals := 0 }) (wP s0 D [.ref (a 0), .int q, .int (nI mm)] (w_Y a cA ii li ia la) sz) (va_Qi (fun r (_ : Unit) => (∃ j, j < n ∧ ia 8 j = q ∧ yc (ia 8) q j = mm ∧ r = nI j) ∨ (yc (ia 8) q n ≤ mm ∧ r = -1)) (wB D (va_A (w_Y a cA ii li ia la) sz) (fun _ => w_Y a cA ii li ia la)) (va_A (w_Y a cA ii li ia la) sz)) 0 0 (va_A (w_Y a cA ii li ia la) sz) := by
  refine wMet Z (by decide) (Nat.le_of_ble_eq_true rfl) ?_
  intro p e s m below meth c hx hb hr hml hown hlk hin hg hK hsz hP hD hA hlo hS ls hl
  subst hsz
  have hown : s.vm.findClass R_Y = some m.cls := hown
  refine lv_iload_n hx hb d_Y_nthOf_0 rfl (lv_at hl 2 rfl) ?_
  refine lv_istore_n (lv' := [(3, .int (nI mm)), (0, .ref (a 0)), (1, .int q), (2, .int (nI mm))]) hx hb d_Y_nthOf_1 rfl hl (by decide) rfl (fun ls hl => ?_)
  refine lv_iconst (v := 0) hx hb d_Y_nthOf_2 (by decide) ?_
  refine lv_topi (fun z1 ez1 => ?_)
  obtain rfl : z1 = (nI 0) := by rw [ez1]; rfl
  refine lv_istore (lv' := [(4, .int (nI 0)), (3, .int (nI mm)), (0, .ref (a 0)), (1, .int q), (2, .int (nI mm))]) hx hb d_Y_nthOf_3 hl (by decide) rfl (fun ls hl => ?_)
  have loop : ∀ (f : Nat) (k : Nat), n - k < f → k ≤ n → yc (ia 8) q k ≤ mm → ∀ (H : Heap) (locs : List Loc), va_P D ncl (w_Y a cA ii li ia la) H → va_D (va_A (w_Y a cA ii li ia la) s.heap.size) (w_Y a cA ii li ia la) → va_S (va_A (w_Y a cA ii li ia la) s.heap.size) s.heap H locs → ∀ (ls : Array Slot), lv_has ls 5 [(0, .ref (a 0)), (1, .int q), (3, .int (nI (mm - yc (ia 8) q k))), (4, .int (nI k))] → W p l e ({ frames := 0, cells := 0, slots := 0, locals := 0 }) s m ([.ref (a 0), .int q, .int (nI mm)] : List Value).toArray below meth c H locs 0 0 (MQ below (va_Qi (fun r (_ : Unit) => (∃ j, j < n ∧ ia 8 j = q ∧ yc (ia 8) q j = mm ∧ r = nI j) ∨ (yc (ia 8) q n ≤ mm ∧ r = -1)) (wB D (va_A (w_Y a cA ii li ia la) s.heap.size) (fun _ => w_Y a cA ii li ia la)) (va_A (w_Y a cA ii li ia la) s.heap.size)) ([.ref (a 0), .int q, .int (nI mm)] : List Value).toArray s 0 0 (va_A (w_Y a cA ii li ia la) s.heap.size)) (F0 m 5 ls []) := by
    intro f
    induction f with
    | zero => intro k h; exact absurd h (Nat.not_lt_zero _)
    | succ f ih =>
      intro k hf hk hy H locs hP hD hS ls hl
      refine lv_iload hx hb d_Y_nthOf_5 (lv_at hl 3 rfl) ?_
      refine lv_aload_n hx hb d_Y_nthOf_7 rfl (lv_at hl 0 rfl) ?_
      refine va_get (D := D) (ci := 3) (v := .int (ii 12)) (C := R_Y) (T := T_Y) (N := 17) hx hb (uw_Y Z.1 hg.1) (fun _ h => h) hown hK hP 0 rfl rfl 12 (by decide) (kw155 Z.1 _ _ hg.1) (fun _ h9 => h9) rfl d_Y_nthOf_8 ?_
      refine lv_icmp_ge (tgt := 41) hx hb d_Y_nthOf_11 (by decide) (fun c2 => ?_) (fun c2 => ?_)
      · obtain rfl : k = n := by rw [h12] at c2; have := (nI_leI (by omega) (by omega)).mp c2; omega
        refine lv_iconst (v := (-1)) hx hb d_Y_nthOf_41 (by decide) ?_
        exact w_iret hx hb hr hlk hP hD hS () rfl (Or.inr ⟨hy, rfl⟩) d_Y_nthOf_42
      · have hkn : k < n := Nat.lt_of_not_le (fun z => c2 (by rw [h12]; exact (nI_leI (by omega) (by omega)).mpr z))
        refine lv_aload_n hx hb d_Y_nthOf_14 rfl (lv_at hl 0 rfl) ?_
        refine va_get (D := D) (ci := 3) (v := .ref (a 9)) (C := R_Y) (T := T_Y) (N := 17) hx hb (uw_Y Z.1 hg.1) (fun _ h => h) hown hK hP 0 rfl rfl 8 (by decide) (kw147 Z.1 _ _ hg.1) (fun _ h9 => h9) rfl d_Y_nthOf_15 ?_
        refine lv_iload hx hb d_Y_nthOf_18 (lv_at hl 3 rfl) ?_
        refine va_zald hx hb hK hP 9 2 rfl rfl (vp_in_nI (n := k) (N := 160) (by omega) (by decide)) d_Y_nthOf_20 ?_
        refine lv_topi (fun z3 ez3 => ?_)
        rw [nI_clamp (n := k) (by omega)] at ez3
        obtain rfl : z3 = ((ia 8) k) := ez3
        refine lv_iload_n hx hb d_Y_nthOf_21 rfl (lv_at hl 1 rfl) ?_
        refine lv_icmp_ne (tgt := 35) hx hb d_Y_nthOf_22 (by decide) (fun d4 => ?_) (fun d4 => ?_)
        · obtain ⟨v5, ev5⟩ : ∃ y : Int32, y = (nI k) + 1 := ⟨_, rfl⟩
          refine lv_iinc (v := v5) (lv' := [(4, .int v5), (0, .ref (a 0)), (1, .int q), (3, .int (nI (mm - yc (ia 8) q k)))]) hx hb d_Y_nthOf_35 hl (k := 3) rfl (by rw [ev5]; rfl) (by decide) rfl (fun ls hl => ?_)
          refine lv_goto (tgt := 5) hx hb d_Y_nthOf_38 (by decide) ?_
          obtain rfl : v5 = nI (k + 1) := by rw [ev5]; exact nI_1 k
          have hy2 : yc (ia 8) q (k + 1) = yc (ia 8) q k := by rw [yc, if_neg d4, Nat.add_zero]
          rw [← hy2] at hl
          exact ih (k + 1) (by omega) (by omega) (by omega) _ _ hP hD hS ls (lv_sub hl [1, 2, 3, 0] rfl)
        · refine lv_iload_n hx hb d_Y_nthOf_25 rfl (lv_at hl 2 rfl) ?_
          refine lv_if_ne (tgt := 32) hx hb d_Y_nthOf_26 (by decide) (fun g6 => ?_) (fun g6 => ?_)
          · have hlt : yc (ia 8) q k < mm := Nat.lt_of_not_le (fun z => g6 (by rw [show mm - yc (ia 8) q k = 0 by omega]; rfl))
            obtain ⟨v7, ev7⟩ : ∃ y : Int32, y = (nI (mm - yc (ia 8) q k)) + (-1) := ⟨_, rfl⟩
            refine lv_iinc (v := v7) (lv' := [(3, .int v7), (0, .ref (a 0)), (1, .int q), (4, .int (nI k))]) hx hb d_Y_nthOf_32 hl (k := 2) rfl (by rw [ev7]; rfl) (by decide) rfl (fun ls hl => ?_)
            obtain ⟨v8, ev8⟩ : ∃ y : Int32, y = (nI k) + 1 := ⟨_, rfl⟩
            refine lv_iinc (v := v8) (lv' := [(4, .int v8), (3, .int v7), (0, .ref (a 0)), (1, .int q)]) hx hb d_Y_nthOf_35 hl (k := 3) rfl (by rw [ev8]; rfl) (by decide) rfl (fun ls hl => ?_)
            refine lv_goto (tgt := 5) hx hb d_Y_nthOf_38 (by decide) ?_
            obtain rfl : v8 = nI (k + 1) := by rw [ev8]; exact nI_1 k
            obtain rfl : v7 = nI (mm - yc (ia 8) q (k + 1)) := by rw [ev7]; rw [yc, if_pos d4, show mm - yc (ia 8) q k = (mm - (yc (ia 8) q k + 1)) + 1 by omega, pk_m1]
            exact ih (k + 1) (by omega) (by omega) (by rw [yc, if_pos d4]; omega) _ _ hP hD hS ls (lv_sub hl [2, 3, 1, 0] rfl)
          · have heq : yc (ia 8) q k = mm := by have := (nI_eq (b := 0) (by omega) (by decide)).mp g6; omega
            refine lv_iload hx hb d_Y_nthOf_29 (lv_at hl 3 rfl) ?_
            exact w_iret hx hb hr hlk hP hD hS () rfl (Or.inl ⟨k, hkn, d4, heq, rfl⟩) d_Y_nthOf_31
  exact loop (n + 1) 0 (by omega) (by omega) (Nat.zero_le _) _ _ hP hD hS ls (lv_sub hl [2, 3, 1, 0] rfl)
/-- the k-th in the order of cuts: those that are 0 first -/
def yo (f : Nat → Int32) (n : Nat) (k r : Int32) : Prop :=
  ((k < 0 ∨ nI n ≤ k) ∧ r = -1) ∨ ∃ mm j, k = nI mm ∧ mm < n ∧ j < n ∧ r = nI j ∧ ((mm < yc f 0 n ∧ f j = 0 ∧ yc f 0 j = mm) ∨ (yc f 0 n ≤ mm ∧ f j = 1 ∧ yc f 1 j = mm - yc f 0 n))
theorem yc_01 (f : Nat → Int32) : ∀ n, (∀ j, j < n → f j = 0 ∨ f j = 1) → yc f 0 n + yc f 1 n = n := by
  intro n
  induction n with
  | zero => intro _; rfl
  | succ n ih =>
    intro h
    have h1 := ih (fun j hj => h j (by omega))
    rw [yc, yc]
    rcases h n (by omega) with g | g
    · rw [if_pos g, if_neg (by rw [g]; decide)]; omega
    · rw [if_neg (by rw [g]; decide), if_pos g]; omega
set_option maxHeartbeats 4000000 in
set_option maxRecDepth 100000 in
theorem m_Y_copyInOrder {l : Launch} {s0 : State} {D : va_G} {cA sa : Nat → Nat} (Z : zE l s0 D cA sa) (a : Nat → Nat) (ii : Nat → Int32) (li : Nat → Int64) (ia : Nat → Nat → Int32) (la : Nat → Nat → Int64) (k : Int32) (n : Nat) (h12 : ii 12 = nI n) (hn : n ≤ 160) (h01 : ∀ j, j < n → ia 8 j = 0 ∨ ia 8 j = 1) (sz : Nat) : Met l y_Y_copyInOrder [.code y_Y_copyInOrder c_Y_copyInOrder 3 (some .int)] ({ frames := 1, cells := 0, slots := 0, locals := 40 }) (wP s0 D [.ref (a 0), .int k] (w_Y a cA ii li ia la) sz) (va_Qi (fun r (_ : Unit) => yo (ia 8) n k r) (wB D (va_A (w_Y a cA ii li ia la) sz) (fun _ => w_Y a cA ii li ia la)) (va_A (w_Y a cA ii li ia la) sz)) 0 0 (va_A (w_Y a cA ii li ia la) sz) := by
  refine wMet Z (by decide) (Nat.le_of_ble_eq_true rfl) ?_
  intro p e s m below meth c hx hb hr hml hown hlk hin hg hK hsz hP hD hA hlo hS ls hl
  subst hsz
  have hown : s.vm.findClass R_Y = some m.cls := hown
  refine lv_iload_n hx hb d_Y_copyInOrder_0 rfl (lv_at hl 1 rfl) ?_
  refine lv_if_lt (tgt := 12) hx hb d_Y_copyInOrder_1 (by decide) (fun c1 => ?_) (fun c1 => ?_)
  · refine lv_iconst (v := (-1)) hx hb d_Y_copyInOrder_12 (by decide) ?_
    exact w_iret hx hb hr hlk hP hD hS () rfl (Or.inl ⟨Or.inl c1, rfl⟩) d_Y_copyInOrder_13
  · refine lv_iload_n hx hb d_Y_copyInOrder_4 rfl (lv_at hl 1 rfl) ?_
    refine lv_aload_n hx hb d_Y_copyInOrder_5 rfl (lv_at hl 0 rfl) ?_
    refine va_get (D := D) (ci := 3) (v := .int (ii 12)) (C := R_Y) (T := T_Y) (N := 17) hx hb (uw_Y Z.1 hg.1) (fun _ h => h) hown hK hP 0 rfl rfl 12 (by decide) (kw155 Z.1 _ _ hg.1) (fun _ h9 => h9) rfl d_Y_copyInOrder_6 ?_
    refine lv_icmp_lt (tgt := 14) hx hb d_Y_copyInOrder_9 (by decide) (fun d2 => ?_) (fun d2 => ?_)
    · obtain ⟨mm, hm0, rfl⟩ := nI_of c1
      have hm : mm < n := (nI_ltI hm0 (by omega)).mp (by rw [← h12]; exact d2)
      have h1 := yc_01 (ia 8) n h01
      have h2 := yc_le (ia 8) 0 n
      refine lv_aload_n hx hb d_Y_copyInOrder_14 rfl (lv_at hl 0 rfl) ?_
      refine lv_iconst (v := 0) hx hb d_Y_copyInOrder_15 (by decide) ?_
      refine w_calli (wr := ([] : va_W)) (w_runV (rest := []) hx hb hml hown hl.1 hg hlo hK hP hD hS (m_Y_countOf Z a ii li ia la 0 n h12 hn s.heap.size) (kw249 Z.1) (kw251 Z.1) (kp_Y_countOf Z.1) (kw252 Z.1) (kw5 Z.1) ⟨by decide, by decide, (by decide +kernel : (parseMethodDescriptor y_Y_countOf.desc).map (fun d => d.parameters.length) = some 1)⟩ ⟨Nat.le_of_ble_eq_true rfl, Nat.le_of_ble_eq_true rfl⟩ [0, 1, 2, 3, 4, 5, 6, 7, 8, 9, 10, 11] rfl rfl (ci := 3) (q0 := 0) rfl rfl rfl (Nat.le_of_ble_eq_true rfl) d_Y_copyInOrder_16 ⟨Nat.le_of_ble_eq_true rfl, Nat.le_of_ble_eq_true rfl⟩) hP hD hS hA [0, 1, 2, 3, 4, 5, 6, 7, 8, 9, 10, 11] [] rfl rfl rfl (by decide) (fun _ => w_Y a cA ii li ia la) [0, 1, 2, 3, 4, 5, 6, 7, 8, 9, 10, 11] rfl (fun _ => rfl) (fun rc u H locs hrc hP hD hS => ?_)
      refine W.widen (k := 0) (n := 0) (Nat.le_of_ble_eq_true rfl) (Nat.le_of_ble_eq_true rfl) ?_
      subst hrc
      refine lv_istore_n (lv' := [(2, .int (nI (yc (ia 8) 0 n))), (0, .ref (a 0)), (1, .int (nI mm))]) hx hb d_Y_copyInOrder_19 rfl hl (by decide) rfl (fun ls hl => ?_)
      refine lv_iload_n hx hb d_Y_copyInOrder_20 rfl (lv_at hl 2 rfl) ?_
      refine lv_iload_n hx hb d_Y_copyInOrder_21 rfl (lv_at hl 0 rfl) ?_
      refine lv_icmp_ge (tgt := 34) hx hb d_Y_copyInOrder_22 (by decide) (fun g3 => ?_) (fun g3 => ?_)
      · have h3 := (nI_leI (by omega) (by omega)).mp g3
        refine lv_aload_n hx hb d_Y_copyInOrder_34 rfl (lv_at hl 1 rfl) ?_
        refine lv_iconst (v := 1) hx hb d_Y_copyInOrder_35 (by decide) ?_
        refine lv_iload_n hx hb d_Y_copyInOrder_36 rfl (lv_at hl 2 rfl) ?_
        refine lv_iload_n hx hb d_Y_copyInOrder_37 rfl (lv_at hl 0 rfl) ?_
        refine lv_isub hx hb d_Y_copyInOrder_38 ?_
        refine lv_topi (fun z4 ez4 => ?_)
        obtain rfl : z4 = (nI (mm - yc (ia 8) 0 n)) := by rw [ez4]; exact nI_sub h3
        refine w_calli (wr := ([] : va_W)) (w_runV (rest := []) hx hb hml hown hl.1 hg hlo hK hP hD hS (m_Y_nthOf Z a ii li ia la 1 n (mm - yc (ia 8) 0 n) h12 hn (by omega) H.size) (kw253 Z.1) (kw255 Z.1) (kp_Y_nthOf Z.1) (kw256 Z.1) (kw5 Z.1) ⟨by decide, by decide, (by decide +kernel : (parseMethodDescriptor y_Y_nthOf.desc).map (fun d => d.parameters.length) = some 2)⟩ ⟨Nat.le_of_ble_eq_true rfl, Nat.le_of_ble_eq_true rfl⟩ [0, 1, 2, 3, 4, 5, 6, 7, 8, 9, 10, 11] rfl rfl (ci := 3) (q0 := 0) rfl rfl rfl (Nat.le_of_ble_eq_true rfl) d_Y_copyInOrder_39 ⟨Nat.le_of_ble_eq_true rfl, Nat.le_of_ble_eq_true rfl⟩) hP hD hS hA [0, 1, 2, 3, 4, 5, 6, 7, 8, 9, 10, 11] [] rfl rfl rfl (by decide) (fun _ => w_Y a cA ii li ia la) [0, 1, 2, 3, 4, 5, 6, 7, 8, 9, 10, 11] rfl (fun _ => rfl) (fun rn u H locs hrn hP hD hS => ?_)
        refine W.widen (k := 0) (n := 0) (Nat.le_of_ble_eq_true rfl) (Nat.le_of_ble_eq_true rfl) ?_
        exact w_iret hx hb hr hlk hP hD hS () rfl (by rcases hrn with ⟨j, j1, j2, j3, j4⟩ | ⟨j1, j2⟩; exact Or.inr ⟨mm, j, rfl, hm, j1, j4, Or.inr ⟨h3, j2, j3⟩⟩; omega) d_Y_copyInOrder_42
      · have h3 : mm < yc (ia 8) 0 n := Nat.lt_of_not_le (fun z => g3 ((nI_leI (by omega) (by omega)).mpr z))
        refine lv_aload_n hx hb d_Y_copyInOrder_25 rfl (lv_at hl 1 rfl) ?_
        refine lv_iconst (v := 0) hx hb d_Y_copyInOrder_26 (by decide) ?_
        refine lv_iload_n hx hb d_Y_copyInOrder_27 rfl (lv_at hl 2 rfl) ?_
        refine w_calli (wr := ([] : va_W)) (w_runV (rest := []) hx hb hml hown hl.1 hg hlo hK hP hD hS (m_Y_nthOf Z a ii li ia la 0 n mm h12 hn (by omega) H.size) (kw253 Z.1) (kw255 Z.1) (kp_Y_nthOf Z.1) (kw256 Z.1) (kw5 Z.1) ⟨by decide, by decide, (by decide +kernel : (parseMethodDescriptor y_Y_nthOf.desc).map (fun d => d.parameters.length) = some 2)⟩ ⟨Nat.le_of_ble_eq_true rfl, Nat.le_of_ble_eq_true rfl⟩ [0, 1, 2, 3, 4, 5, 6, 7, 8, 9, 10, 11] rfl rfl (ci := 3) (q0 := 0) rfl rfl rfl (Nat.le_of_ble_eq_true rfl) d_Y_copyInOrder_28 ⟨Nat.le_of_ble_eq_true rfl, Nat.le_of_ble_eq_true rfl⟩) hP hD hS hA [0, 1, 2, 3, 4, 5, 6, 7, 8, 9, 10, 11] [] rfl rfl rfl (by decide) (fun _ => w_Y a cA ii li ia la) [0, 1, 2, 3, 4, 5, 6, 7, 8, 9, 10, 11] rfl (fun _ => rfl) (fun rn u H locs hrn hP hD hS => ?_)
        refine W.widen (k := 0) (n := 0) (Nat.le_of_ble_eq_true rfl) (Nat.le_of_ble_eq_true rfl) ?_
        refine lv_goto (tgt := 42) hx hb d_Y_copyInOrder_31 (by decide) ?_
        exact w_iret hx hb hr hlk hP hD hS () rfl (by rcases hrn with ⟨j, j1, j2, j3, j4⟩ | ⟨j1, j2⟩; exact Or.inr ⟨mm, j, rfl, hm, j1, j4, Or.inl ⟨h3, j2, j3⟩⟩; omega) d_Y_copyInOrder_42
    · refine lv_iconst (v := (-1)) hx hb d_Y_copyInOrder_12 (by decide) ?_
      exact w_iret hx hb hr hlk hP hD hS () rfl (Or.inl ⟨Or.inr (by rw [← h12]; exact Int32.not_lt.mp d2), rfl⟩) d_Y_copyInOrder_13
