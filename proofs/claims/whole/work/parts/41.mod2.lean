set_option maxHeartbeats 4000000 in
set_option maxRecDepth 100000 in
theorem m_M_wideOf {l : Launch} {s0 : State} {D : va_G} {cA sa : Nat → Nat} (Z : zE l s0 D cA sa) (a : Nat → Nat) (ii : Nat → Int32) (li : Nat → Int64) (ia : Nat → Nat → Int32) (la : Nat → Nat → Int64) (k : Nat) (hk : k < 8) (sz : Nat) : Met l y_M_wideOf [.code y_M_wideOf c_M_wideOf 2 (some .long)] ({ frames := 0, cells := 0, slots := 0, locals := 0 }) (wP s0 D [.ref (a 0), .int (nI k)] (w_M a cA ii li ia la) sz) (va_Ql (fun r (_ : Unit) => r = if k % 2 = 0 then la 19 (k / 2) else la 20 (k / 2)) (wB D (va_A (w_M a cA ii li ia la) sz) (fun _ => w_M a cA ii li ia la)) (va_A (w_M a cA ii li ia la) sz)) 0 0 (va_A (w_M a cA ii li ia la) sz) := by
  refine wMet Z (by decide) (Nat.le_of_ble_eq_true rfl) ?_
  intro p e s m below meth c hx hb hr hml hown hlk hin hg hK hsz hP hD hA hlo hS ls hl
  subst hsz
  have hown : s.vm.findClass R_M = some m.cls := hown
  refine lv_iload_n hx hb d_M_wideOf_0 rfl (lv_at hl 1 rfl) ?_
  refine lv_iconst (v := 2) hx hb d_M_wideOf_1 (by decide) ?_
  refine lv_irem hx hb d_M_wideOf_2 (by decide) ?_
  refine lv_topi (fun z1 ez1 => ?_)
  obtain rfl : z1 = (nI (k % 2)) := by rw [ez1]; exact pk_rem (d := 2) (by omega) (by decide) (by decide)
  refine lv_if_ne (tgt := 17) hx hb d_M_wideOf_3 (by decide) (fun c2 => ?_) (fun c2 => ?_)
  · refine lv_aload_n hx hb d_M_wideOf_17 rfl (lv_at hl 0 rfl) ?_
    refine va_get (D := D) (ci := 1) (v := .ref (a 21)) (C := R_M) (T := T_M) (N := 26) hx hb (uw_M Z.1 hg.1) (fun _ h => h) hown hK hP 0 rfl rfl 20 (by decide) (kw624 Z.1 _ _ hg.1) (fun _ h9 => h9) rfl d_M_wideOf_18 ?_
    refine lv_iload_n hx hb d_M_wideOf_21 rfl (lv_at hl 1 rfl) ?_
    refine lv_iconst (v := 2) hx hb d_M_wideOf_22 (by decide) ?_
    refine lv_idiv hx hb d_M_wideOf_23 (by decide) ?_
    refine lv_topi (fun z3 ez3 => ?_)
    obtain rfl : z3 = (nI (k / 2)) := by rw [ez3]; exact pk_div (d := 2) (by omega) (by decide) (by decide)
    refine va_lald hx hb hK hP 13 1 rfl rfl (vp_in_nI (n := k / 2) (N := 4) (by omega) (by decide)) d_M_wideOf_24 ?_
    refine lv_topl (fun z4 ez4 => ?_)
    rw [nI_clamp (n := (k / 2)) (by omega)] at ez4
    obtain rfl : z4 = ((la 20) (k / 2)) := ez4
    exact w_lret hx hb hr hlk hP hD hS () rfl (by rw [if_neg (fun z => c2 (by rw [z]; rfl))]) d_M_wideOf_25
  · refine lv_aload_n hx hb d_M_wideOf_6 rfl (lv_at hl 0 rfl) ?_
    refine va_get (D := D) (ci := 1) (v := .ref (a 20)) (C := R_M) (T := T_M) (N := 26) hx hb (uw_M Z.1 hg.1) (fun _ h => h) hown hK hP 0 rfl rfl 19 (by decide) (kw623 Z.1 _ _ hg.1) (fun _ h9 => h9) rfl d_M_wideOf_7 ?_
    refine lv_iload_n hx hb d_M_wideOf_10 rfl (lv_at hl 1 rfl) ?_
    refine lv_iconst (v := 2) hx hb d_M_wideOf_11 (by decide) ?_
    refine lv_idiv hx hb d_M_wideOf_12 (by decide) ?_
    refine lv_topi (fun z5 ez5 => ?_)
    obtain rfl : z5 = (nI (k / 2)) := by rw [ez5]; exact pk_div (d := 2) (by omega) (by decide) (by decide)
    refine va_lald hx hb hK hP 12 1 rfl rfl (vp_in_nI (n := k / 2) (N := 4) (by omega) (by decide)) d_M_wideOf_13 ?_
    refine lv_topl (fun z6 ez6 => ?_)
    rw [nI_clamp (n := (k / 2)) (by omega)] at ez6
    obtain rfl : z6 = ((la 19) (k / 2)) := ez6
    refine lv_goto (tgt := 25) hx hb d_M_wideOf_14 (by decide) ?_
    exact w_lret hx hb hr hlk hP hD hS () rfl (by rw [if_pos ((nI_eq (b := 0) (by omega) (by decide)).mp c2)]) d_M_wideOf_25
set_option maxHeartbeats 4000000 in
set_option maxRecDepth 100000 in
theorem m_M_highOf {l : Launch} {s0 : State} {D : va_G} {cA sa : Nat → Nat} (Z : zE l s0 D cA sa) (a : Nat → Nat) (ii : Nat → Int32) (li : Nat → Int64) (ia : Nat → Nat → Int32) (la : Nat → Nat → Int64) (k : Nat) (hk : k < 8) (sz : Nat) : Met l y_M_highOf [.code y_M_highOf c_M_highOf 2 (some .long)] ({ frames := 0, cells := 0, slots := 0, locals := 0 }) (wP s0 D [.ref (a 0), .int (nI k)] (w_M a cA ii li ia la) sz) (va_Ql (fun r (_ : Unit) => r = if k % 2 = 0 then la 20 (k / 2) else la 19 (k / 2)) (wB D (va_A (w_M a cA ii li ia la) sz) (fun _ => w_M a cA ii li ia la)) (va_A (w_M a cA ii li ia la) sz)) 0 0 (va_A (w_M a cA ii li ia la) sz) := by
  refine wMet Z (by decide) (Nat.le_of_ble_eq_true rfl) ?_
  intro p e s m below meth c hx hb hr hml hown hlk hin hg hK hsz hP hD hA hlo hS ls hl
  subst hsz
  have hown : s.vm.findClass R_M = some m.cls := hown
  refine lv_iload_n hx hb d_M_highOf_0 rfl (lv_at hl 1 rfl) ?_
  refine lv_iconst (v := 2) hx hb d_M_highOf_1 (by decide) ?_
  refine lv_irem hx hb d_M_highOf_2 (by decide) ?_
  refine lv_topi (fun z1 ez1 => ?_)
  obtain rfl : z1 = (nI (k % 2)) := by rw [ez1]; exact pk_rem (d := 2) (by omega) (by decide) (by decide)
  refine lv_if_ne (tgt := 17) hx hb d_M_highOf_3 (by decide) (fun c2 => ?_) (fun c2 => ?_)
  · refine lv_aload_n hx hb d_M_highOf_17 rfl (lv_at hl 0 rfl) ?_
    refine va_get (D := D) (ci := 1) (v := .ref (a 20)) (C := R_M) (T := T_M) (N := 26) hx hb (uw_M Z.1 hg.1) (fun _ h => h) hown hK hP 0 rfl rfl 19 (by decide) (kw623 Z.1 _ _ hg.1) (fun _ h9 => h9) rfl d_M_highOf_18 ?_
    refine lv_iload_n hx hb d_M_highOf_21 rfl (lv_at hl 1 rfl) ?_
    refine lv_iconst (v := 2) hx hb d_M_highOf_22 (by decide) ?_
    refine lv_idiv hx hb d_M_highOf_23 (by decide) ?_
    refine lv_topi (fun z3 ez3 => ?_)
    obtain rfl : z3 = (nI (k / 2)) := by rw [ez3]; exact pk_div (d := 2) (by omega) (by decide) (by decide)
    refine va_lald hx hb hK hP 12 1 rfl rfl (vp_in_nI (n := k / 2) (N := 4) (by omega) (by decide)) d_M_highOf_24 ?_
    refine lv_topl (fun z4 ez4 => ?_)
    rw [nI_clamp (n := (k / 2)) (by omega)] at ez4
    obtain rfl : z4 = ((la 19) (k / 2)) := ez4
    exact w_lret hx hb hr hlk hP hD hS () rfl (by rw [if_neg (fun z => c2 (by rw [z]; rfl))]) d_M_highOf_25
  · refine lv_aload_n hx hb d_M_highOf_6 rfl (lv_at hl 0 rfl) ?_
    refine va_get (D := D) (ci := 1) (v := .ref (a 21)) (C := R_M) (T := T_M) (N := 26) hx hb (uw_M Z.1 hg.1) (fun _ h => h) hown hK hP 0 rfl rfl 20 (by decide) (kw624 Z.1 _ _ hg.1) (fun _ h9 => h9) rfl d_M_highOf_7 ?_
    refine lv_iload_n hx hb d_M_highOf_10 rfl (lv_at hl 1 rfl) ?_
    refine lv_iconst (v := 2) hx hb d_M_highOf_11 (by decide) ?_
    refine lv_idiv hx hb d_M_highOf_12 (by decide) ?_
    refine lv_topi (fun z5 ez5 => ?_)
    obtain rfl : z5 = (nI (k / 2)) := by rw [ez5]; exact pk_div (d := 2) (by omega) (by decide) (by decide)
    refine va_lald hx hb hK hP 13 1 rfl rfl (vp_in_nI (n := k / 2) (N := 4) (by omega) (by decide)) d_M_highOf_13 ?_
    refine lv_topl (fun z6 ez6 => ?_)
    rw [nI_clamp (n := (k / 2)) (by omega)] at ez6
    obtain rfl : z6 = ((la 20) (k / 2)) := ez6
    refine lv_goto (tgt := 25) hx hb d_M_highOf_14 (by decide) ?_
    exact w_lret hx hb hr hlk hP hD hS () rfl (by rw [if_pos ((nI_eq (b := 0) (by omega) (by decide)).mp c2)]) d_M_highOf_25
set_option maxHeartbeats 4000000 in
set_option maxRecDepth 100000 in
theorem m_M_at {l : Launch} {s0 : State} {D : va_G} {cA sa : Nat → Nat} (Z : zE l s0 D cA sa) (a : Nat → Nat) (ii : Nat → Int32) (li : Nat → Int64) (ia : Nat → Nat → Int32) (la : Nat → Nat → Int64) (v k : Int32) (n : Nat) (hn : ii 13 = nI n) (hn2 : n ≤ 200) (sz : Nat) : Met l y_M_at [.code y_M_at c_M_at 3 (some .long)] ({ frames := 1, cells := 0, slots := 0, locals := 40 }) (wP s0 D [.ref (a 0), .int v, .int k] (w_M a cA ii li ia la) sz) (va_Ql (fun (r : Int64) (u : St) => (∃ c j, c < n ∧ v = nI c ∧ j < 6 ∧ k = nI j ∧ r = la 14 (6 * c + j) ∧ u = (va_up ii 0 0, li, ia, la)) ∨ (¬ ((∃ c, c < n ∧ v = nI c) ∧ ∃ j, j < 6 ∧ k = nI j) ∧ u = (va_up ii 0 1, li, ia, la))) (wB D (va_A (w_M a cA ii li ia la) sz) (fun (u : St) => w_M a cA u.1 u.2.1 u.2.2.1 u.2.2.2)) (va_A (w_M a cA ii li ia la) sz)) 0 0 (va_A (w_M a cA ii li ia la) sz) := by
  refine wMet Z (by decide) (Nat.le_of_ble_eq_true rfl) ?_
  intro p e s m below meth c hx hb hr hml hown hlk hin hg hK hsz hP hD hA hlo hS ls hl
  subst hsz
  have hown : s.vm.findClass R_M = some m.cls := hown
  refine lv_aload_n hx hb d_M_at_0 rfl (lv_at hl 0 rfl) ?_
  refine lv_aload_n hx hb d_M_at_1 rfl (lv_at hl 0 rfl) ?_
  refine lv_iload_n hx hb d_M_at_2 rfl (lv_at hl 1 rfl) ?_
  refine w_calli (wr := ([] : va_W)) (w_runV (rest := [.ref (a 0)]) hx hb hml hown hl.1 hg hlo hK hP hD hS (m_M_isCopy Z a ii li ia la v n hn (by omega) s.heap.size) (kw788 Z.1) (kw790 Z.1) (kp_M_isCopy Z.1) (kw791 Z.1) (kw6 Z.1) ⟨by decide, by decide, (by decide +kernel : (parseMethodDescriptor y_M_isCopy.desc).map (fun d => d.parameters.length) = some 1)⟩ ⟨Nat.le_of_ble_eq_true rfl, Nat.le_of_ble_eq_true rfl⟩ [0, 1, 2, 3, 4, 5, 6, 7, 8, 9, 10, 11, 12, 13, 14, 15, 16] rfl rfl (ci := 1) (q0 := 0) rfl rfl rfl (Nat.le_of_ble_eq_true rfl) d_M_at_3 ⟨Nat.le_of_ble_eq_true rfl, Nat.le_of_ble_eq_true rfl⟩) hP hD hS hA [0, 1, 2, 3, 4, 5, 6, 7, 8, 9, 10, 11, 12, 13, 14, 15, 16] [] rfl rfl rfl (by decide) (fun _ => w_M a cA ii li ia la) [0, 1, 2, 3, 4, 5, 6, 7, 8, 9, 10, 11, 12, 13, 14, 15, 16] rfl (fun _ => rfl) (fun r1 u H locs h1 hP hD hS => ?_)
  refine W.widen (k := 0) (n := 0) (Nat.le_of_ble_eq_true rfl) (Nat.le_of_ble_eq_true rfl) ?_
  refine lv_if_eq (tgt := 23) hx hb d_M_at_6 (by decide) (fun c1 => ?_) (fun c1 => ?_)
  · have hno : ¬ (∃ c, c < n ∧ v = nI c) := by rcases h1 with ⟨z, -⟩ | ⟨-, z⟩; rw [z] at c1; exact absurd c1 (by decide); exact z
    refine lv_iconst (v := 1) hx hb d_M_at_23 (by decide) ?_
    refine va_put (D := D) (ci := 1) (v := .int 1) (ty := t_M 0) (C := R_M) (T := T_M) (N := 26) hx hb (uw_M Z.1 hg.1) (fun _ h => h) t_M t_M_ok n_M hown hK hP hD hS 0 rfl rfl 0 (by decide) (kw604 Z.1 _ _ hg.1) (fun _ h9 => h9) rfl (by decide +kernel) rfl rfl (Nat.le_of_ble_eq_true rfl) d_M_at_24 (fun H locs hP hD hS => ?_)
    have hP : va_P D ncl (w_M a cA (va_up ii 0 1) li ia la) H := hP
    have hD : va_D _ (w_M a cA (va_up ii 0 1) li ia la) := hD
    refine lv_aload_n hx hb d_M_at_27 rfl (lv_at hl 0 rfl) ?_
    refine va_get (D := D) (ci := 1) (v := .int 1) (C := R_M) (T := T_M) (N := 26) hx hb (uw_M Z.1 hg.1) (fun _ h => h) hown hK hP 0 rfl rfl 0 (by decide) (kw604 Z.1 _ _ hg.1) (fun _ h9 => h9) rfl d_M_at_28 ?_
    refine lv_if_ne (tgt := 48) hx hb d_M_at_31 (by decide) (fun _ => ?_) (fun k2 => by first | exact absurd (show ¬ (1 : Int32) = 0 by decide) k2 | exact absurd k2 (show ¬ (1 : Int32) = 0 by decide))
    refine lv_lconst (v := 0) hx hb d_M_at_48 (by decide) ?_
    exact w_lret hx hb hr hlk hP hD hS ((va_up ii 0 1), li, ia, la) rfl (Or.inr ⟨fun z => hno z.1, rfl⟩) d_M_at_49
  · have hc1 : ∃ c, c < n ∧ v = nI c := by rcases h1 with ⟨-, z⟩ | ⟨z, -⟩; exact z; exact absurd z c1
    refine lv_iload_n hx hb d_M_at_9 rfl (lv_at hl 2 rfl) ?_
    refine lv_if_lt (tgt := 23) hx hb d_M_at_10 (by decide) (fun d3 => ?_) (fun d3 => ?_)
    · refine lv_iconst (v := 1) hx hb d_M_at_23 (by decide) ?_
      refine va_put (D := D) (ci := 1) (v := .int 1) (ty := t_M 0) (C := R_M) (T := T_M) (N := 26) hx hb (uw_M Z.1 hg.1) (fun _ h => h) t_M t_M_ok n_M hown hK hP hD hS 0 rfl rfl 0 (by decide) (kw604 Z.1 _ _ hg.1) (fun _ h9 => h9) rfl (by decide +kernel) rfl rfl (Nat.le_of_ble_eq_true rfl) d_M_at_24 (fun H locs hP hD hS => ?_)
      have hP : va_P D ncl (w_M a cA (va_up ii 0 1) li ia la) H := hP
      have hD : va_D _ (w_M a cA (va_up ii 0 1) li ia la) := hD
      refine lv_aload_n hx hb d_M_at_27 rfl (lv_at hl 0 rfl) ?_
      refine va_get (D := D) (ci := 1) (v := .int 1) (C := R_M) (T := T_M) (N := 26) hx hb (uw_M Z.1 hg.1) (fun _ h => h) hown hK hP 0 rfl rfl 0 (by decide) (kw604 Z.1 _ _ hg.1) (fun _ h9 => h9) rfl d_M_at_28 ?_
      refine lv_if_ne (tgt := 48) hx hb d_M_at_31 (by decide) (fun _ => ?_) (fun k4 => by first | exact absurd (show ¬ (1 : Int32) = 0 by decide) k4 | exact absurd k4 (show ¬ (1 : Int32) = 0 by decide))
      refine lv_lconst (v := 0) hx hb d_M_at_48 (by decide) ?_
      exact w_lret hx hb hr hlk hP hD hS ((va_up ii 0 1), li, ia, la) rfl (Or.inr ⟨fun z => bk_no0 (by decide) d3 z.2, rfl⟩) d_M_at_49
    · refine lv_iload_n hx hb d_M_at_13 rfl (lv_at hl 2 rfl) ?_
      refine lv_bipush (v := 6) hx hb d_M_at_14 (by decide) ?_
      refine lv_icmp_ge (tgt := 23) hx hb d_M_at_16 (by decide) (fun g5 => ?_) (fun g5 => ?_)
      · refine lv_iconst (v := 1) hx hb d_M_at_23 (by decide) ?_
        refine va_put (D := D) (ci := 1) (v := .int 1) (ty := t_M 0) (C := R_M) (T := T_M) (N := 26) hx hb (uw_M Z.1 hg.1) (fun _ h => h) t_M t_M_ok n_M hown hK hP hD hS 0 rfl rfl 0 (by decide) (kw604 Z.1 _ _ hg.1) (fun _ h9 => h9) rfl (by decide +kernel) rfl rfl (Nat.le_of_ble_eq_true rfl) d_M_at_24 (fun H locs hP hD hS => ?_)
        have hP : va_P D ncl (w_M a cA (va_up ii 0 1) li ia la) H := hP
        have hD : va_D _ (w_M a cA (va_up ii 0 1) li ia la) := hD
        refine lv_aload_n hx hb d_M_at_27 rfl (lv_at hl 0 rfl) ?_
        refine va_get (D := D) (ci := 1) (v := .int 1) (C := R_M) (T := T_M) (N := 26) hx hb (uw_M Z.1 hg.1) (fun _ h => h) hown hK hP 0 rfl rfl 0 (by decide) (kw604 Z.1 _ _ hg.1) (fun _ h9 => h9) rfl d_M_at_28 ?_
        refine lv_if_ne (tgt := 48) hx hb d_M_at_31 (by decide) (fun _ => ?_) (fun k6 => by first | exact absurd (show ¬ (1 : Int32) = 0 by decide) k6 | exact absurd k6 (show ¬ (1 : Int32) = 0 by decide))
        refine lv_lconst (v := 0) hx hb d_M_at_48 (by decide) ?_
        exact w_lret hx hb hr hlk hP hD hS ((va_up ii 0 1), li, ia, la) rfl (Or.inr ⟨fun z => bk_no1 (n := 6) (by decide) g5 z.2, rfl⟩) d_M_at_49
      · obtain ⟨j, hj, rfl⟩ := bk_lt (n := 6) (by decide) d3 g5
        obtain ⟨c0, hc, rfl⟩ := hc1
        refine lv_iconst (v := 0) hx hb d_M_at_19 (by decide) ?_
        refine lv_goto (tgt := 24) hx hb d_M_at_20 (by decide) ?_
        refine va_put (D := D) (ci := 1) (v := .int 0) (ty := t_M 0) (C := R_M) (T := T_M) (N := 26) hx hb (uw_M Z.1 hg.1) (fun _ h => h) t_M t_M_ok n_M hown hK hP hD hS 0 rfl rfl 0 (by decide) (kw604 Z.1 _ _ hg.1) (fun _ h9 => h9) rfl (by decide +kernel) rfl rfl (Nat.le_of_ble_eq_true rfl) d_M_at_24 (fun H locs hP hD hS => ?_)
        have hP : va_P D ncl (w_M a cA (va_up ii 0 0) li ia la) H := hP
        have hD : va_D _ (w_M a cA (va_up ii 0 0) li ia la) := hD
        refine lv_aload_n hx hb d_M_at_27 rfl (lv_at hl 0 rfl) ?_
        refine va_get (D := D) (ci := 1) (v := .int 0) (C := R_M) (T := T_M) (N := 26) hx hb (uw_M Z.1 hg.1) (fun _ h => h) hown hK hP 0 rfl rfl 0 (by decide) (kw604 Z.1 _ _ hg.1) (fun _ h9 => h9) rfl d_M_at_28 ?_
        refine lv_if_ne (tgt := 48) hx hb d_M_at_31 (by decide) (fun k7 => by first | exact absurd (show (0 : Int32) = 0 from rfl) k7 | exact absurd k7 (show (0 : Int32) = 0 from rfl)) (fun _ => ?_)
        refine lv_aload_n hx hb d_M_at_34 rfl (lv_at hl 0 rfl) ?_
        refine va_get (D := D) (ci := 1) (v := .ref (a 15)) (C := R_M) (T := T_M) (N := 26) hx hb (uw_M Z.1 hg.1) (fun _ h => h) hown hK hP 0 rfl rfl 14 (by decide) (kw618 Z.1 _ _ hg.1) (fun _ h9 => h9) rfl d_M_at_35 ?_
        refine lv_bipush (v := 6) hx hb d_M_at_38 (by decide) ?_
        refine lv_iload_n hx hb d_M_at_40 rfl (lv_at hl 1 rfl) ?_
        refine lv_imul hx hb d_M_at_41 ?_
        refine lv_topi (fun z8 ez8 => ?_)
        obtain rfl : z8 = (nI (6 * c0)) := by rw [ez8]; exact pk_mul 6 c0
        refine lv_iload_n hx hb d_M_at_42 rfl (lv_at hl 2 rfl) ?_
        refine lv_iadd hx hb d_M_at_43 ?_
        refine lv_topi (fun z9 ez9 => ?_)
        obtain rfl : z9 = (nI (6 * c0 + j)) := by rw [ez9]; exact nI_add _ _
        refine va_lald hx hb hK hP 8 1 rfl rfl (vp_in_nI (n := 6 * c0 + j) (N := 1200) (by omega) (by decide)) d_M_at_44 ?_
        refine lv_topl (fun z10 ez10 => ?_)
        rw [nI_clamp (n := (6 * c0 + j)) (by omega)] at ez10
        obtain rfl : z10 = ((la 14) (6 * c0 + j)) := ez10
        refine lv_goto (tgt := 49) hx hb d_M_at_45 (by decide) ?_
        exact w_lret hx hb hr hlk hP hD hS ((va_up ii 0 0), li, ia, la) rfl (Or.inl ⟨c0, j, hc, rfl, hj, rfl, rfl, rfl⟩) d_M_at_49
set_option maxHeartbeats 4000000 in
set_option maxRecDepth 100000 in
theorem m_M_bad {l : Launch} {s0 : State} {D : va_G} {cA sa : Nat → Nat} (Z : zE l s0 D cA sa) (a : Nat → Nat) (ii : Nat → Int32) (li : Nat → Int64) (ia : Nat → Nat → Int32) (la : Nat → Nat → Int64) (v on : Int32) (hon : on = 0 ∨ on = 1) (n : Nat) (hn : ii 13 = nI n) (hn2 : n ≤ 200) (sz : Nat) : Met l y_M_bad [.code y_M_bad c_M_bad 3 (some .boolean)] ({ frames := 1, cells := 0, slots := 0, locals := 40 }) (wP s0 D [.ref (a 0), .int v, .int on] (w_M a cA ii li ia la) sz) (va_Qi (fun (r : Int32) (u : St) => (∃ c, c < n ∧ v = nI c ∧ r = (if ia 15 c = on then 0 else 1) ∧ u = (va_up ii 0 0, li, va_up ia 15 (upd (ia 15) c on), la)) ∨ (¬ (∃ c, c < n ∧ v = nI c) ∧ u = (va_up ii 0 1, li, ia, la))) (wB D (va_A (w_M a cA ii li ia la) sz) (fun (u : St) => w_M a cA u.1 u.2.1 u.2.2.1 u.2.2.2)) (va_A (w_M a cA ii li ia la) sz)) 0 0 (va_A (w_M a cA ii li ia la) sz) := by
  refine wMet Z (by decide) (Nat.le_of_ble_eq_true rfl) ?_
  intro p e s m below meth c hx hb hr hml hown hlk hin hg hK hsz hP hD hA hlo hS ls hl
  subst hsz
  have hown : s.vm.findClass R_M = some m.cls := hown
  have hnar : vp_nar .boolean on = on := by rcases hon with h | h <;> rw [h] <;> rfl
  refine lv_aload_n hx hb d_M_bad_0 rfl (lv_at hl 0 rfl) ?_
  refine lv_aload_n hx hb d_M_bad_1 rfl (lv_at hl 0 rfl) ?_
  refine lv_iload_n hx hb d_M_bad_2 rfl (lv_at hl 1 rfl) ?_
  refine w_calli (wr := ([] : va_W)) (w_runV (rest := [.ref (a 0)]) hx hb hml hown hl.1 hg hlo hK hP hD hS (m_M_isCopy Z a ii li ia la v n hn (by omega) s.heap.size) (kw788 Z.1) (kw790 Z.1) (kp_M_isCopy Z.1) (kw791 Z.1) (kw6 Z.1) ⟨by decide, by decide, (by decide +kernel : (parseMethodDescriptor y_M_isCopy.desc).map (fun d => d.parameters.length) = some 1)⟩ ⟨Nat.le_of_ble_eq_true rfl, Nat.le_of_ble_eq_true rfl⟩ [0, 1, 2, 3, 4, 5, 6, 7, 8, 9, 10, 11, 12, 13, 14, 15, 16] rfl rfl (ci := 1) (q0 := 0) rfl rfl rfl (Nat.le_of_ble_eq_true rfl) d_M_bad_3 ⟨Nat.le_of_ble_eq_true rfl, Nat.le_of_ble_eq_true rfl⟩) hP hD hS hA [0, 1, 2, 3, 4, 5, 6, 7, 8, 9, 10, 11, 12, 13, 14, 15, 16] [] rfl rfl rfl (by decide) (fun _ => w_M a cA ii li ia la) [0, 1, 2, 3, 4, 5, 6, 7, 8, 9, 10, 11, 12, 13, 14, 15, 16] rfl (fun _ => rfl) (fun r1 u H locs h1 hP hD hS => ?_)
  refine W.widen (k := 0) (n := 0) (Nat.le_of_ble_eq_true rfl) (Nat.le_of_ble_eq_true rfl) ?_
  refine lv_if_eq (tgt := 13) hx hb d_M_bad_6 (by decide) (fun c1 => ?_) (fun c1 => ?_)
  · have hno : ¬ (∃ c, c < n ∧ v = nI c) := by rcases h1 with ⟨z, -⟩ | ⟨-, z⟩; rw [z] at c1; exact absurd c1 (by decide); exact z
    refine lv_iconst (v := 1) hx hb d_M_bad_13 (by decide) ?_
    refine va_put (D := D) (ci := 1) (v := .int 1) (ty := t_M 0) (C := R_M) (T := T_M) (N := 26) hx hb (uw_M Z.1 hg.1) (fun _ h => h) t_M t_M_ok n_M hown hK hP hD hS 0 rfl rfl 0 (by decide) (kw604 Z.1 _ _ hg.1) (fun _ h9 => h9) rfl (by decide +kernel) rfl rfl (Nat.le_of_ble_eq_true rfl) d_M_bad_14 (fun H locs hP hD hS => ?_)
    have hP : va_P D ncl (w_M a cA (va_up ii 0 1) li ia la) H := hP
    have hD : va_D _ (w_M a cA (va_up ii 0 1) li ia la) := hD
    refine lv_aload_n hx hb d_M_bad_17 rfl (lv_at hl 0 rfl) ?_
    refine va_get (D := D) (ci := 1) (v := .int 1) (C := R_M) (T := T_M) (N := 26) hx hb (uw_M Z.1 hg.1) (fun _ h => h) hown hK hP 0 rfl rfl 0 (by decide) (kw604 Z.1 _ _ hg.1) (fun _ h9 => h9) rfl d_M_bad_18 ?_
    refine lv_if_ne (tgt := 34) hx hb d_M_bad_21 (by decide) (fun _ => ?_) (fun k2 => by first | exact absurd (show ¬ (1 : Int32) = 0 by decide) k2 | exact absurd k2 (show ¬ (1 : Int32) = 0 by decide))
    refine lv_iconst (v := 0) hx hb d_M_bad_34 (by decide) ?_
    exact w_zret hx hb hr rfl hlk hP hD hS ((va_up ii 0 1), li, ia, la) rfl (Or.inr ⟨hno, rfl⟩) d_M_bad_35
  · have hc1 : ∃ c, c < n ∧ v = nI c := by rcases h1 with ⟨-, z⟩ | ⟨z, -⟩; exact z; exact absurd z c1
    obtain ⟨c0, hc, rfl⟩ := hc1
    refine lv_iconst (v := 0) hx hb d_M_bad_9 (by decide) ?_
    refine lv_goto (tgt := 14) hx hb d_M_bad_10 (by decide) ?_
    refine va_put (D := D) (ci := 1) (v := .int 0) (ty := t_M 0) (C := R_M) (T := T_M) (N := 26) hx hb (uw_M Z.1 hg.1) (fun _ h => h) t_M t_M_ok n_M hown hK hP hD hS 0 rfl rfl 0 (by decide) (kw604 Z.1 _ _ hg.1) (fun _ h9 => h9) rfl (by decide +kernel) rfl rfl (Nat.le_of_ble_eq_true rfl) d_M_bad_14 (fun H locs hP hD hS => ?_)
    have hP : va_P D ncl (w_M a cA (va_up ii 0 0) li ia la) H := hP
    have hD : va_D _ (w_M a cA (va_up ii 0 0) li ia la) := hD
    refine lv_aload_n hx hb d_M_bad_17 rfl (lv_at hl 0 rfl) ?_
    refine va_get (D := D) (ci := 1) (v := .int 0) (C := R_M) (T := T_M) (N := 26) hx hb (uw_M Z.1 hg.1) (fun _ h => h) hown hK hP 0 rfl rfl 0 (by decide) (kw604 Z.1 _ _ hg.1) (fun _ h9 => h9) rfl d_M_bad_18 ?_
    refine lv_if_ne (tgt := 34) hx hb d_M_bad_21 (by decide) (fun k3 => by first | exact absurd (show (0 : Int32) = 0 from rfl) k3 | exact absurd k3 (show (0 : Int32) = 0 from rfl)) (fun _ => ?_)
    refine lv_aload_n hx hb d_M_bad_24 rfl (lv_at hl 0 rfl) ?_
    refine va_get (D := D) (ci := 1) (v := .ref (a 16)) (C := R_M) (T := T_M) (N := 26) hx hb (uw_M Z.1 hg.1) (fun _ h => h) hown hK hP 0 rfl rfl 15 (by decide) (kw619 Z.1 _ _ hg.1) (fun _ h9 => h9) rfl d_M_bad_25 ?_
    refine lv_iload_n hx hb d_M_bad_28 rfl (lv_at hl 1 rfl) ?_
    refine va_zald hx hb hK hP 9 2 rfl rfl (vp_in_nI (n := c0) (N := 200) (by omega) (by decide)) d_M_bad_29 ?_
    refine lv_topi (fun z4 ez4 => ?_)
    rw [nI_clamp (n := c0) (by omega)] at ez4
    obtain rfl : z4 = ((ia 15) c0) := ez4
    refine lv_iload_n hx hb d_M_bad_30 rfl (lv_at hl 2 rfl) ?_
    refine lv_icmp_ne (tgt := 36) hx hb d_M_bad_31 (by decide) (fun d5 => ?_) (fun d5 => ?_)
    · refine lv_aload_n hx hb d_M_bad_36 rfl (lv_at hl 0 rfl) ?_
      refine va_get (D := D) (ci := 1) (v := .ref (a 16)) (C := R_M) (T := T_M) (N := 26) hx hb (uw_M Z.1 hg.1) (fun _ h => h) hown hK hP 0 rfl rfl 15 (by decide) (kw619 Z.1 _ _ hg.1) (fun _ h9 => h9) rfl d_M_bad_37 ?_
      refine lv_iload_n hx hb d_M_bad_40 rfl (lv_at hl 1 rfl) ?_
      refine lv_iload_n hx hb d_M_bad_41 rfl (lv_at hl 2 rfl) ?_
      refine va_zast hx hb hK hP hD hS 9 2 rfl rfl (vp_in_nI (n := c0) (N := 200) (by omega) (by decide)) d_M_bad_42 (fun H locs hP hD hS => ?_)
      rw [nI_clamp (n := c0) (by omega)] at hP hD
      have hP : va_P D ncl (w_M a cA (va_up ii 0 0) li (va_up ia 15 (upd (ia 15) c0 (vp_nar .boolean on))) la) H := hP
      have hD : va_D _ (w_M a cA (va_up ii 0 0) li (va_up ia 15 (upd (ia 15) c0 (vp_nar .boolean on))) la) := hD
      refine lv_iconst (v := 1) hx hb d_M_bad_43 (by decide) ?_
      exact w_zret hx hb hr rfl hlk hP hD hS ((va_up ii 0 0), li, (va_up ia 15 (upd (ia 15) c0 (vp_nar .boolean on))), la) rfl (Or.inl ⟨c0, hc, rfl, by rw [if_neg d5], by rw [hnar]⟩) d_M_bad_44
    · refine lv_iconst (v := 0) hx hb d_M_bad_34 (by decide) ?_
      exact w_zret hx hb hr rfl hlk hP hD hS ((va_up ii 0 0), li, ia, la) rfl (Or.inl ⟨c0, hc, rfl, by rw [if_pos d5], by rw [upd_id (ia 15) c0 on d5, up_id ia 15 (ia 15) rfl]⟩) d_M_bad_35
set_option maxHeartbeats 4000000 in
set_option maxRecDepth 100000 in
theorem m_M_corner {l : Launch} {s0 : State} {D : va_G} {cA sa : Nat → Nat} (Z : zE l s0 D cA sa) (a : Nat → Nat) (ii : Nat → Int32) (li : Nat → Int64) (ia : Nat → Nat → Int32) (la : Nat → Nat → Int64) (v : Int32) (x y : Int64) (n : Nat) (nc : Nat → Nat) (hn : ii 3 = nI n) (hn2 : n ≤ 4) (hnc : ∀ k, k < 4 → ia 4 k = nI (nc k) ∧ nc k ≤ 12) (sz : Nat) : Met l y_M_corner [.code y_M_corner c_M_corner 6 (some .boolean)] ({ frames := 1, cells := 0, slots := 0, locals := 40 }) (wP s0 D [.ref (a 0), .int v, .long x, .long y] (w_M a cA ii li ia la) sz) (va_Qi (fun (r : Int32) (u : St) => (∃ k, k < n ∧ v = nI k ∧ okL x ∧ okL y ∧ (if nc k < 12 then r = 1 ∧ u = (va_up ii 0 0, li, va_up ia 4 (upd (ia 4) k (nI (nc k + 1))), va_up (va_up la 5 (vp_updL (la 5) (12 * k + nc k) x)) 6 (vp_updL (la 6) (12 * k + nc k) y)) else r = 0 ∧ u = (va_up ii 0 0, li, ia, la))) ∨ (¬ (∃ k, k < n ∧ v = nI k) ∧ u = (va_up ii 0 1, li, ia, la)) ∨ ((∃ k, k < n ∧ v = nI k) ∧ ¬ (okL x ∧ okL y) ∧ u = (va_up ii 0 2, li, ia, la))) (wB D (va_A (w_M a cA ii li ia la) sz) (fun (u : St) => w_M a cA u.1 u.2.1 u.2.2.1 u.2.2.2)) (va_A (w_M a cA ii li ia la) sz)) 0 0 (va_A (w_M a cA ii li ia la) sz) := by
  refine wMet Z (by decide) (Nat.le_of_ble_eq_true rfl) ?_
  intro p e s m below meth c hx hb hr hml hown hlk hin hg hK hsz hP hD hA hlo hS ls hl
  subst hsz
  have hown : s.vm.findClass R_M = some m.cls := hown
  refine lv_aload_n hx hb d_M_corner_0 rfl (lv_at hl 0 rfl) ?_
  refine lv_aload_n hx hb d_M_corner_1 rfl (lv_at hl 0 rfl) ?_
  refine lv_iload_n hx hb d_M_corner_2 rfl (lv_at hl 1 rfl) ?_
  refine w_calli (wr := ([] : va_W)) (w_runV (rest := [.ref (a 0)]) hx hb hml hown hl.1 hg hlo hK hP hD hS (m_M_isBoard Z a ii li ia la v n hn (by omega) s.heap.size) (kw695 Z.1) (kw697 Z.1) (kp_M_isBoard Z.1) (kw698 Z.1) (kw6 Z.1) ⟨by decide, by decide, (by decide +kernel : (parseMethodDescriptor y_M_isBoard.desc).map (fun d => d.parameters.length) = some 1)⟩ ⟨Nat.le_of_ble_eq_true rfl, Nat.le_of_ble_eq_true rfl⟩ [0, 1, 2, 3, 4, 5, 6, 7, 8, 9, 10, 11, 12, 13, 14, 15, 16] rfl rfl (ci := 1) (q0 := 0) rfl rfl rfl (Nat.le_of_ble_eq_true rfl) d_M_corner_3 ⟨Nat.le_of_ble_eq_true rfl, Nat.le_of_ble_eq_true rfl⟩) hP hD hS hA [0, 1, 2, 3, 4, 5, 6, 7, 8, 9, 10, 11, 12, 13, 14, 15, 16] [] rfl rfl rfl (by decide) (fun _ => w_M a cA ii li ia la) [0, 1, 2, 3, 4, 5, 6, 7, 8, 9, 10, 11, 12, 13, 14, 15, 16] rfl (fun _ => rfl) (fun r1 u H locs h1 hP hD hS => ?_)
  refine W.widen (k := 0) (n := 0) (Nat.le_of_ble_eq_true rfl) (Nat.le_of_ble_eq_true rfl) ?_
  refine lv_if_ne (tgt := 13) hx hb d_M_corner_6 (by decide) (fun c1 => ?_) (fun c1 => ?_)
  · have hb0 : ∃ k, k < n ∧ v = nI k := by rcases h1 with ⟨-, z⟩ | ⟨z, -⟩; exact z; exact absurd z c1
    refine lv_lload_n hx hb d_M_corner_13 rfl (lv_at hl 2 rfl) ?_
    refine w_calli (wr := (w_M a cA ii li ia la)) (w_runS (rest := [.ref (a 0)]) hx hb hml hown hl.1 hg hlo hP hD hS (m_M_isSize Z x H.size) (kw699 Z.1) (kw700 Z.1) (kw701 Z.1) (kw6 Z.1) ⟨by decide, by decide, (by decide +kernel : (parseMethodDescriptor y_M_isSize.desc).map (fun d => d.parameters.length) = some 1)⟩ ⟨Nat.le_of_ble_eq_true rfl, Nat.le_of_ble_eq_true rfl⟩ [] rfl rfl rfl (Nat.le_of_ble_eq_true rfl) d_M_corner_14 ⟨Nat.le_of_ble_eq_true rfl, Nat.le_of_ble_eq_true rfl⟩) hP hD hS hA [] [0, 1, 2, 3, 4, 5, 6, 7, 8, 9, 10, 11, 12, 13, 14, 15, 16] rfl rfl rfl (by decide) (fun _ => w_M a cA ii li ia la) [0, 1, 2, 3, 4, 5, 6, 7, 8, 9, 10, 11, 12, 13, 14, 15, 16] rfl (fun _ => rfl) (fun rs1 u H locs hs1 hP hD hS => ?_)
    refine W.widen (k := 0) (n := 0) (Nat.le_of_ble_eq_true rfl) (Nat.le_of_ble_eq_true rfl) ?_
    refine lv_if_eq (tgt := 32) hx hb d_M_corner_17 (by decide) (fun d3 => ?_) (fun d3 => ?_)
    · have hno : ¬ okL x := by rcases hs1 with ⟨z, -⟩ | ⟨-, z⟩; rw [z] at d3; exact absurd d3 (by decide); exact z
      refine lv_iconst (v := 2) hx hb d_M_corner_32 (by decide) ?_
      refine va_put (D := D) (ci := 1) (v := .int 2) (ty := t_M 0) (C := R_M) (T := T_M) (N := 26) hx hb (uw_M Z.1 hg.1) (fun _ h => h) t_M t_M_ok n_M hown hK hP hD hS 0 rfl rfl 0 (by decide) (kw604 Z.1 _ _ hg.1) (fun _ h9 => h9) rfl (by decide +kernel) rfl rfl (Nat.le_of_ble_eq_true rfl) d_M_corner_33 (fun H locs hP hD hS => ?_)
      have hP : va_P D ncl (w_M a cA (va_up ii 0 2) li ia la) H := hP
      have hD : va_D _ (w_M a cA (va_up ii 0 2) li ia la) := hD
      refine lv_aload_n hx hb d_M_corner_36 rfl (lv_at hl 0 rfl) ?_
      refine va_get (D := D) (ci := 1) (v := .int 2) (C := R_M) (T := T_M) (N := 26) hx hb (uw_M Z.1 hg.1) (fun _ h => h) hown hK hP 0 rfl rfl 0 (by decide) (kw604 Z.1 _ _ hg.1) (fun _ h9 => h9) rfl d_M_corner_37 ?_
      refine lv_if_ne (tgt := 54) hx hb d_M_corner_40 (by decide) (fun _ => ?_) (fun k4 => by first | exact absurd (show ¬ (2 : Int32) = 0 by decide) k4 | exact absurd k4 (show ¬ (2 : Int32) = 0 by decide))
      refine lv_iconst (v := 0) hx hb d_M_corner_54 (by decide) ?_
      exact w_zret hx hb hr rfl hlk hP hD hS ((va_up ii 0 2), li, ia, la) rfl (Or.inr (Or.inr ⟨hb0, fun z => hno z.1, rfl⟩)) d_M_corner_55
    · have ho1 : okL x := by rcases hs1 with ⟨-, z⟩ | ⟨z, -⟩; exact z; exact absurd z d3
      refine lv_lload hx hb d_M_corner_20 (lv_at hl 3 rfl) ?_
      refine w_calli (wr := (w_M a cA ii li ia la)) (w_runS (rest := [.ref (a 0)]) hx hb hml hown hl.1 hg hlo hP hD hS (m_M_isSize Z y H.size) (kw699 Z.1) (kw700 Z.1) (kw701 Z.1) (kw6 Z.1) ⟨by decide, by decide, (by decide +kernel : (parseMethodDescriptor y_M_isSize.desc).map (fun d => d.parameters.length) = some 1)⟩ ⟨Nat.le_of_ble_eq_true rfl, Nat.le_of_ble_eq_true rfl⟩ [] rfl rfl rfl (Nat.le_of_ble_eq_true rfl) d_M_corner_22 ⟨Nat.le_of_ble_eq_true rfl, Nat.le_of_ble_eq_true rfl⟩) hP hD hS hA [] [0, 1, 2, 3, 4, 5, 6, 7, 8, 9, 10, 11, 12, 13, 14, 15, 16] rfl rfl rfl (by decide) (fun _ => w_M a cA ii li ia la) [0, 1, 2, 3, 4, 5, 6, 7, 8, 9, 10, 11, 12, 13, 14, 15, 16] rfl (fun _ => rfl) (fun rs2 u H locs hs2 hP hD hS => ?_)
      refine W.widen (k := 0) (n := 0) (Nat.le_of_ble_eq_true rfl) (Nat.le_of_ble_eq_true rfl) ?_
      refine lv_if_eq (tgt := 32) hx hb d_M_corner_25 (by decide) (fun g5 => ?_) (fun g5 => ?_)
      · have hno : ¬ okL y := by rcases hs2 with ⟨z, -⟩ | ⟨-, z⟩; rw [z] at g5; exact absurd g5 (by decide); exact z
        refine lv_iconst (v := 2) hx hb d_M_corner_32 (by decide) ?_
        refine va_put (D := D) (ci := 1) (v := .int 2) (ty := t_M 0) (C := R_M) (T := T_M) (N := 26) hx hb (uw_M Z.1 hg.1) (fun _ h => h) t_M t_M_ok n_M hown hK hP hD hS 0 rfl rfl 0 (by decide) (kw604 Z.1 _ _ hg.1) (fun _ h9 => h9) rfl (by decide +kernel) rfl rfl (Nat.le_of_ble_eq_true rfl) d_M_corner_33 (fun H locs hP hD hS => ?_)
        have hP : va_P D ncl (w_M a cA (va_up ii 0 2) li ia la) H := hP
        have hD : va_D _ (w_M a cA (va_up ii 0 2) li ia la) := hD
        refine lv_aload_n hx hb d_M_corner_36 rfl (lv_at hl 0 rfl) ?_
        refine va_get (D := D) (ci := 1) (v := .int 2) (C := R_M) (T := T_M) (N := 26) hx hb (uw_M Z.1 hg.1) (fun _ h => h) hown hK hP 0 rfl rfl 0 (by decide) (kw604 Z.1 _ _ hg.1) (fun _ h9 => h9) rfl d_M_corner_37 ?_
        refine lv_if_ne (tgt := 54) hx hb d_M_corner_40 (by decide) (fun _ => ?_) (fun k6 => by first | exact absurd (show ¬ (2 : Int32) = 0 by decide) k6 | exact absurd k6 (show ¬ (2 : Int32) = 0 by decide))
        refine lv_iconst (v := 0) hx hb d_M_corner_54 (by decide) ?_
        exact w_zret hx hb hr rfl hlk hP hD hS ((va_up ii 0 2), li, ia, la) rfl (Or.inr (Or.inr ⟨hb0, fun z => hno z.2, rfl⟩)) d_M_corner_55
      · have ho2 : okL y := by rcases hs2 with ⟨-, z⟩ | ⟨z, -⟩; exact z; exact absurd z g5
        obtain ⟨k, hk, rfl⟩ := hb0
        have hck := hnc k (by omega)
        refine lv_iconst (v := 0) hx hb d_M_corner_28 (by decide) ?_
        refine lv_goto (tgt := 33) hx hb d_M_corner_29 (by decide) ?_
        refine va_put (D := D) (ci := 1) (v := .int 0) (ty := t_M 0) (C := R_M) (T := T_M) (N := 26) hx hb (uw_M Z.1 hg.1) (fun _ h => h) t_M t_M_ok n_M hown hK hP hD hS 0 rfl rfl 0 (by decide) (kw604 Z.1 _ _ hg.1) (fun _ h9 => h9) rfl (by decide +kernel) rfl rfl (Nat.le_of_ble_eq_true rfl) d_M_corner_33 (fun H locs hP hD hS => ?_)
        have hP : va_P D ncl (w_M a cA (va_up ii 0 0) li ia la) H := hP
        have hD : va_D _ (w_M a cA (va_up ii 0 0) li ia la) := hD
        refine lv_aload_n hx hb d_M_corner_36 rfl (lv_at hl 0 rfl) ?_
        refine va_get (D := D) (ci := 1) (v := .int 0) (C := R_M) (T := T_M) (N := 26) hx hb (uw_M Z.1 hg.1) (fun _ h => h) hown hK hP 0 rfl rfl 0 (by decide) (kw604 Z.1 _ _ hg.1) (fun _ h9 => h9) rfl d_M_corner_37 ?_
        refine lv_if_ne (tgt := 54) hx hb d_M_corner_40 (by decide) (fun k7 => by first | exact absurd (show (0 : Int32) = 0 from rfl) k7 | exact absurd k7 (show (0 : Int32) = 0 from rfl)) (fun _ => ?_)
        refine lv_aload_n hx hb d_M_corner_43 rfl (lv_at hl 0 rfl) ?_
        refine va_get (D := D) (ci := 1) (v := .ref (a 5)) (C := R_M) (T := T_M) (N := 26) hx hb (uw_M Z.1 hg.1) (fun _ h => h) hown hK hP 0 rfl rfl 4 (by decide) (kw608 Z.1 _ _ hg.1) (fun _ h9 => h9) rfl d_M_corner_44 ?_
        refine lv_iload_n hx hb d_M_corner_47 rfl (lv_at hl 1 rfl) ?_
        refine va_iald hx hb hK hP 1 0 rfl rfl (vp_in_nI (n := k) (N := 4) (by omega) (by decide)) d_M_corner_48 ?_
        refine lv_topi (fun z8 ez8 => ?_)
        rw [nI_clamp (n := k) (by omega)] at ez8
        obtain rfl : z8 = ((ia 4) k) := ez8
        refine lv_topi (fun z9 ez9 => ?_)
        obtain rfl : z9 = (nI (nc k)) := by rw [ez9]; exact hck.1
        refine lv_bipush (v := 12) hx hb d_M_corner_49 (by decide) ?_
        refine lv_icmp_ne (tgt := 56) hx hb d_M_corner_51 (by decide) (fun h10 => ?_) (fun h10 => ?_)
        · have hlt : nc k < 12 := Nat.lt_of_le_of_ne hck.2 (fun z => h10 (by rw [z]; rfl))
          refine lv_aload_n hx hb d_M_corner_56 rfl (lv_at hl 0 rfl) ?_
          refine va_get (D := D) (ci := 1) (v := .ref (a 6)) (C := R_M) (T := T_M) (N := 26) hx hb (uw_M Z.1 hg.1) (fun _ h => h) hown hK hP 0 rfl rfl 5 (by decide) (kw609 Z.1 _ _ hg.1) (fun _ h9 => h9) rfl d_M_corner_57 ?_
          refine lv_bipush (v := 12) hx hb d_M_corner_60 (by decide) ?_
          refine lv_iload_n hx hb d_M_corner_62 rfl (lv_at hl 1 rfl) ?_
          refine lv_imul hx hb d_M_corner_63 ?_
          refine lv_topi (fun z11 ez11 => ?_)
          obtain rfl : z11 = (nI (12 * k)) := by rw [ez11]; exact pk_mul 12 k
          refine lv_aload_n hx hb d_M_corner_64 rfl (lv_at hl 0 rfl) ?_
          refine va_get (D := D) (ci := 1) (v := .ref (a 5)) (C := R_M) (T := T_M) (N := 26) hx hb (uw_M Z.1 hg.1) (fun _ h => h) hown hK hP 0 rfl rfl 4 (by decide) (kw608 Z.1 _ _ hg.1) (fun _ h9 => h9) rfl d_M_corner_65 ?_
          refine lv_iload_n hx hb d_M_corner_68 rfl (lv_at hl 1 rfl) ?_
          refine va_iald hx hb hK hP 1 0 rfl rfl (vp_in_nI (n := k) (N := 4) (by omega) (by decide)) d_M_corner_69 ?_
          refine lv_topi (fun z12 ez12 => ?_)
          rw [nI_clamp (n := k) (by omega)] at ez12
          obtain rfl : z12 = ((ia 4) k) := ez12
          refine lv_topi (fun z13 ez13 => ?_)
          obtain rfl : z13 = (nI (nc k)) := by rw [ez13]; exact hck.1
          refine lv_iadd hx hb d_M_corner_70 ?_
          refine lv_topi (fun z14 ez14 => ?_)
          obtain rfl : z14 = (nI (12 * k + nc k)) := by rw [ez14]; exact nI_add _ _
          refine lv_lload_n hx hb d_M_corner_71 rfl (lv_at hl 2 rfl) ?_
          refine va_last hx hb hK hP hD hS 2 1 rfl rfl (vp_in_nI (n := 12 * k + nc k) (N := 48) (by omega) (by decide)) d_M_corner_72 (fun H locs hP hD hS => ?_)
          rw [nI_clamp (n := (12 * k + nc k)) (by omega)] at hP hD
          have hP : va_P D ncl (w_M a cA (va_up ii 0 0) li ia (va_up la 5 (vp_updL (la 5) (12 * k + nc k) x))) H := hP
          have hD : va_D _ (w_M a cA (va_up ii 0 0) li ia (va_up la 5 (vp_updL (la 5) (12 * k + nc k) x))) := hD
          refine lv_aload_n hx hb d_M_corner_73 rfl (lv_at hl 0 rfl) ?_
          refine va_get (D := D) (ci := 1) (v := .ref (a 7)) (C := R_M) (T := T_M) (N := 26) hx hb (uw_M Z.1 hg.1) (fun _ h => h) hown hK hP 0 rfl rfl 6 (by decide) (kw610 Z.1 _ _ hg.1) (fun _ h9 => h9) rfl d_M_corner_74 ?_
          refine lv_bipush (v := 12) hx hb d_M_corner_77 (by decide) ?_
          refine lv_iload_n hx hb d_M_corner_79 rfl (lv_at hl 1 rfl) ?_
          refine lv_imul hx hb d_M_corner_80 ?_
          refine lv_topi (fun z15 ez15 => ?_)
          obtain rfl : z15 = (nI (12 * k)) := by rw [ez15]; exact pk_mul 12 k
          refine lv_aload_n hx hb d_M_corner_81 rfl (lv_at hl 0 rfl) ?_
          refine va_get (D := D) (ci := 1) (v := .ref (a 5)) (C := R_M) (T := T_M) (N := 26) hx hb (uw_M Z.1 hg.1) (fun _ h => h) hown hK hP 0 rfl rfl 4 (by decide) (kw608 Z.1 _ _ hg.1) (fun _ h9 => h9) rfl d_M_corner_82 ?_
          refine lv_iload_n hx hb d_M_corner_85 rfl (lv_at hl 1 rfl) ?_
          refine va_iald hx hb hK hP 1 0 rfl rfl (vp_in_nI (n := k) (N := 4) (by omega) (by decide)) d_M_corner_86 ?_
          refine lv_topi (fun z16 ez16 => ?_)
          rw [nI_clamp (n := k) (by omega)] at ez16
          obtain rfl : z16 = ((ia 4) k) := ez16
          refine lv_topi (fun z17 ez17 => ?_)
          obtain rfl : z17 = (nI (nc k)) := by rw [ez17]; exact hck.1
          refine lv_iadd hx hb d_M_corner_87 ?_
          refine lv_topi (fun z18 ez18 => ?_)
          obtain rfl : z18 = (nI (12 * k + nc k)) := by rw [ez18]; exact nI_add _ _
          refine lv_lload hx hb d_M_corner_88 (lv_at hl 3 rfl) ?_
          refine va_last hx hb hK hP hD hS 3 1 rfl rfl (vp_in_nI (n := 12 * k + nc k) (N := 48) (by omega) (by decide)) d_M_corner_90 (fun H locs hP hD hS => ?_)
          rw [nI_clamp (n := (12 * k + nc k)) (by omega)] at hP hD
          have hP : va_P D ncl (w_M a cA (va_up ii 0 0) li ia (va_up (va_up la 5 (vp_updL (la 5) (12 * k + nc k) x)) 6 (vp_updL (la 6) (12 * k + nc k) y))) H := hP
          have hD : va_D _ (w_M a cA (va_up ii 0 0) li ia (va_up (va_up la 5 (vp_updL (la 5) (12 * k + nc k) x)) 6 (vp_updL (la 6) (12 * k + nc k) y))) := hD
          refine lv_aload_n hx hb d_M_corner_91 rfl (lv_at hl 0 rfl) ?_
          refine va_get (D := D) (ci := 1) (v := .ref (a 5)) (C := R_M) (T := T_M) (N := 26) hx hb (uw_M Z.1 hg.1) (fun _ h => h) hown hK hP 0 rfl rfl 4 (by decide) (kw608 Z.1 _ _ hg.1) (fun _ h9 => h9) rfl d_M_corner_92 ?_
          refine lv_iload_n hx hb d_M_corner_95 rfl (lv_at hl 1 rfl) ?_
          refine lv_dup2_11 hx hb d_M_corner_96 rfl rfl ?_
          refine va_iald hx hb hK hP 1 0 rfl rfl (vp_in_nI (n := k) (N := 4) (by omega) (by decide)) d_M_corner_97 ?_
          refine lv_topi (fun z19 ez19 => ?_)
          rw [nI_clamp (n := k) (by omega)] at ez19
          obtain rfl : z19 = ((ia 4) k) := ez19
          refine lv_topi (fun z20 ez20 => ?_)
          obtain rfl : z20 = (nI (nc k)) := by rw [ez20]; exact hck.1
          refine lv_iconst (v := 1) hx hb d_M_corner_98 (by decide) ?_
          refine lv_iadd hx hb d_M_corner_99 ?_
          refine lv_topi (fun z21 ez21 => ?_)
          obtain rfl : z21 = (nI (nc k + 1)) := by rw [ez21]; exact nI_1 _
          refine va_iast hx hb hK hP hD hS 1 0 rfl rfl (vp_in_nI (n := k) (N := 4) (by omega) (by decide)) d_M_corner_100 (fun H locs hP hD hS => ?_)
          rw [nI_clamp (n := k) (by omega)] at hP hD
          have hP : va_P D ncl (w_M a cA (va_up ii 0 0) li (va_up ia 4 (upd (ia 4) k (nI (nc k + 1)))) (va_up (va_up la 5 (vp_updL (la 5) (12 * k + nc k) x)) 6 (vp_updL (la 6) (12 * k + nc k) y))) H := hP
          have hD : va_D _ (w_M a cA (va_up ii 0 0) li (va_up ia 4 (upd (ia 4) k (nI (nc k + 1)))) (va_up (va_up la 5 (vp_updL (la 5) (12 * k + nc k) x)) 6 (vp_updL (la 6) (12 * k + nc k) y))) := hD
          refine lv_iconst (v := 1) hx hb d_M_corner_101 (by decide) ?_
          exact w_zret hx hb hr rfl hlk hP hD hS ((va_up ii 0 0), li, (va_up ia 4 (upd (ia 4) k (nI (nc k + 1)))), (va_up (va_up la 5 (vp_updL (la 5) (12 * k + nc k) x)) 6 (vp_updL (la 6) (12 * k + nc k) y))) rfl (Or.inl ⟨k, hk, rfl, ho1, ho2, by rw [if_pos hlt]; exact ⟨rfl, rfl⟩⟩) d_M_corner_102
        · have he : nc k = 12 := (nI_eq (b := 12) (by omega) (by decide)).mp h10
          refine lv_iconst (v := 0) hx hb d_M_corner_54 (by decide) ?_
          exact w_zret hx hb hr rfl hlk hP hD hS ((va_up ii 0 0), li, ia, la) rfl (Or.inl ⟨k, hk, rfl, ho1, ho2, by rw [if_neg (by omega)]; exact ⟨rfl, rfl⟩⟩) d_M_corner_55
  · have hno : ¬ (∃ k, k < n ∧ v = nI k) := by rcases h1 with ⟨z, -⟩ | ⟨-, z⟩; rw [z] at c1; exact absurd c1 (by decide); exact z
    refine lv_iconst (v := 1) hx hb d_M_corner_9 (by decide) ?_
    refine lv_goto (tgt := 33) hx hb d_M_corner_10 (by decide) ?_
    refine va_put (D := D) (ci := 1) (v := .int 1) (ty := t_M 0) (C := R_M) (T := T_M) (N := 26) hx hb (uw_M Z.1 hg.1) (fun _ h => h) t_M t_M_ok n_M hown hK hP hD hS 0 rfl rfl 0 (by decide) (kw604 Z.1 _ _ hg.1) (fun _ h9 => h9) rfl (by decide +kernel) rfl rfl (Nat.le_of_ble_eq_true rfl) d_M_corner_33 (fun H locs hP hD hS => ?_)
    have hP : va_P D ncl (w_M a cA (va_up ii 0 1) li ia la) H := hP
    have hD : va_D _ (w_M a cA (va_up ii 0 1) li ia la) := hD
    refine lv_aload_n hx hb d_M_corner_36 rfl (lv_at hl 0 rfl) ?_
    refine va_get (D := D) (ci := 1) (v := .int 1) (C := R_M) (T := T_M) (N := 26) hx hb (uw_M Z.1 hg.1) (fun _ h => h) hown hK hP 0 rfl rfl 0 (by decide) (kw604 Z.1 _ _ hg.1) (fun _ h9 => h9) rfl d_M_corner_37 ?_
    refine lv_if_ne (tgt := 54) hx hb d_M_corner_40 (by decide) (fun _ => ?_) (fun k2 => by first | exact absurd (show ¬ (1 : Int32) = 0 by decide) k2 | exact absurd k2 (show ¬ (1 : Int32) = 0 by decide))
    refine lv_iconst (v := 0) hx hb d_M_corner_54 (by decide) ?_
    exact w_zret hx hb hr rfl hlk hP hD hS ((va_up ii 0 1), li, ia, la) rfl (Or.inr (Or.inl ⟨hno, rfl⟩)) d_M_corner_55
theorem r_pos {r : Int64} : (okL r ∧ r ≠ 0) ↔ (1 ≤ r ∧ r ≤ 65536) := by
  rw [okL, Int64.le_iff_toInt_le, Int64.le_iff_toInt_le, Int64.le_iff_toInt_le, show (0 : Int64).toInt = 0 from rfl, show (1 : Int64).toInt = 1 from rfl, show (65536 : Int64).toInt = 65536 from rfl]
  have h : r ≠ 0 ↔ r.toInt ≠ 0 := not_congr (Int64.toInt_inj (x := r) (y := 0)).symm
  rw [h]; omega
set_option maxHeartbeats 4000000 in
set_option maxRecDepth 100000 in
theorem m_M_part {l : Launch} {s0 : State} {D : va_G} {cA sa : Nat → Nat} (Z : zE l s0 D cA sa) (a : Nat → Nat) (ii : Nat → Int32) (li : Nat → Int64) (ia : Nat → Nat → Int32) (la : Nat → Nat → Int64) (v : Int32) (x y r0 : Int64) (n : Nat) (nc : Nat → Nat) (hn : ii 3 = nI n) (hn2 : n ≤ 4) (hnc : ∀ k, k < 4 → ia 8 k = nI (nc k) ∧ nc k ≤ 10) (sz : Nat) : Met l y_M_part [.code y_M_part c_M_part 9 (some .boolean)] ({ frames := 1, cells := 0, slots := 0, locals := 40 }) (wP s0 D [.ref (a 0), .int v, .long x, .long y, .long r0] (w_M a cA ii li ia la) sz) (va_Qi (fun (r : Int32) (u : St) => (∃ k, k < n ∧ v = nI k ∧ (okL x ∧ okL y ∧ okL r0 ∧ r0 ≠ 0) ∧ (if nc k < 10 then r = 1 ∧ u = (va_up ii 0 0, li, va_up ia 8 (upd (ia 8) k (nI (nc k + 1))), va_up la 9 (vp_updL (vp_updL (vp_updL (la 9) (30 * k + 3 * nc k) x) (30 * k + 3 * nc k + 1) y) (30 * k + 3 * nc k + 2) r0)) else r = 0 ∧ u = (va_up ii 0 0, li, ia, la))) ∨ (¬ (∃ k, k < n ∧ v = nI k) ∧ u = (va_up ii 0 1, li, ia, la)) ∨ ((∃ k, k < n ∧ v = nI k) ∧ ¬ (okL x ∧ okL y ∧ okL r0 ∧ r0 ≠ 0) ∧ u = (va_up ii 0 2, li, ia, la))) (wB D (va_A (w_M a cA ii li ia la) sz) (fun (u : St) => w_M a cA u.1 u.2.1 u.2.2.1 u.2.2.2)) (va_A (w_M a cA ii li ia la) sz)) 0 0 (va_A (w_M a cA ii li ia la) sz) := by
  refine wMet Z (by decide) (Nat.le_of_ble_eq_true rfl) ?_
  intro p e s m below meth c hx hb hr hml hown hlk hin hg hK hsz hP hD hA hlo hS ls hl
  subst hsz
  have hown : s.vm.findClass R_M = some m.cls := hown
  refine lv_aload_n hx hb d_M_part_0 rfl (lv_at hl 0 rfl) ?_
  refine lv_aload_n hx hb d_M_part_1 rfl (lv_at hl 0 rfl) ?_
  refine lv_iload_n hx hb d_M_part_2 rfl (lv_at hl 1 rfl) ?_
  refine w_calli (wr := ([] : va_W)) (w_runV (rest := [.ref (a 0)]) hx hb hml hown hl.1 hg hlo hK hP hD hS (m_M_isBoard Z a ii li ia la v n hn (by omega) s.heap.size) (kw695 Z.1) (kw697 Z.1) (kp_M_isBoard Z.1) (kw698 Z.1) (kw6 Z.1) ⟨by decide, by decide, (by decide +kernel : (parseMethodDescriptor y_M_isBoard.desc).map (fun d => d.parameters.length) = some 1)⟩ ⟨Nat.le_of_ble_eq_true rfl, Nat.le_of_ble_eq_true rfl⟩ [0, 1, 2, 3, 4, 5, 6, 7, 8, 9, 10, 11, 12, 13, 14, 15, 16] rfl rfl (ci := 1) (q0 := 0) rfl rfl rfl (Nat.le_of_ble_eq_true rfl) d_M_part_3 ⟨Nat.le_of_ble_eq_true rfl, Nat.le_of_ble_eq_true rfl⟩) hP hD hS hA [0, 1, 2, 3, 4, 5, 6, 7, 8, 9, 10, 11, 12, 13, 14, 15, 16] [] rfl rfl rfl (by decide) (fun _ => w_M a cA ii li ia la) [0, 1, 2, 3, 4, 5, 6, 7, 8, 9, 10, 11, 12, 13, 14, 15, 16] rfl (fun _ => rfl) (fun r1 u H locs h1 hP hD hS => ?_)
  refine W.widen (k := 0) (n := 0) (Nat.le_of_ble_eq_true rfl) (Nat.le_of_ble_eq_true rfl) ?_
  refine lv_if_ne (tgt := 13) hx hb d_M_part_6 (by decide) (fun c1 => ?_) (fun c1 => ?_)
  · have hb0 : ∃ k, k < n ∧ v = nI k := by rcases h1 with ⟨-, z⟩ | ⟨z, -⟩; exact z; exact absurd z c1
    refine lv_lload_n hx hb d_M_part_13 rfl (lv_at hl 2 rfl) ?_
    refine w_calli (wr := (w_M a cA ii li ia la)) (w_runS (rest := [.ref (a 0)]) hx hb hml hown hl.1 hg hlo hP hD hS (m_M_isSize Z x H.size) (kw699 Z.1) (kw700 Z.1) (kw701 Z.1) (kw6 Z.1) ⟨by decide, by decide, (by decide +kernel : (parseMethodDescriptor y_M_isSize.desc).map (fun d => d.parameters.length) = some 1)⟩ ⟨Nat.le_of_ble_eq_true rfl, Nat.le_of_ble_eq_true rfl⟩ [] rfl rfl rfl (Nat.le_of_ble_eq_true rfl) d_M_part_14 ⟨Nat.le_of_ble_eq_true rfl, Nat.le_of_ble_eq_true rfl⟩) hP hD hS hA [] [0, 1, 2, 3, 4, 5, 6, 7, 8, 9, 10, 11, 12, 13, 14, 15, 16] rfl rfl rfl (by decide) (fun _ => w_M a cA ii li ia la) [0, 1, 2, 3, 4, 5, 6, 7, 8, 9, 10, 11, 12, 13, 14, 15, 16] rfl (fun _ => rfl) (fun rs1 u H locs hs1 hP hD hS => ?_)
    refine W.widen (k := 0) (n := 0) (Nat.le_of_ble_eq_true rfl) (Nat.le_of_ble_eq_true rfl) ?_
    refine lv_if_eq (tgt := 48) hx hb d_M_part_17 (by decide) (fun d3 => ?_) (fun d3 => ?_)
    · have hno : ¬ okL x := by rcases hs1 with ⟨z, -⟩ | ⟨-, z⟩; rw [z] at d3; exact absurd d3 (by decide); exact z
      refine lv_iconst (v := 2) hx hb d_M_part_48 (by decide) ?_
      refine va_put (D := D) (ci := 1) (v := .int 2) (ty := t_M 0) (C := R_M) (T := T_M) (N := 26) hx hb (uw_M Z.1 hg.1) (fun _ h => h) t_M t_M_ok n_M hown hK hP hD hS 0 rfl rfl 0 (by decide) (kw604 Z.1 _ _ hg.1) (fun _ h9 => h9) rfl (by decide +kernel) rfl rfl (Nat.le_of_ble_eq_true rfl) d_M_part_49 (fun H locs hP hD hS => ?_)
      have hP : va_P D ncl (w_M a cA (va_up ii 0 2) li ia la) H := hP
      have hD : va_D _ (w_M a cA (va_up ii 0 2) li ia la) := hD
      refine lv_aload_n hx hb d_M_part_52 rfl (lv_at hl 0 rfl) ?_
      refine va_get (D := D) (ci := 1) (v := .int 2) (C := R_M) (T := T_M) (N := 26) hx hb (uw_M Z.1 hg.1) (fun _ h => h) hown hK hP 0 rfl rfl 0 (by decide) (kw604 Z.1 _ _ hg.1) (fun _ h9 => h9) rfl d_M_part_53 ?_
      refine lv_if_ne (tgt := 70) hx hb d_M_part_56 (by decide) (fun _ => ?_) (fun k4 => by first | exact absurd (show ¬ (2 : Int32) = 0 by decide) k4 | exact absurd k4 (show ¬ (2 : Int32) = 0 by decide))
      refine lv_iconst (v := 0) hx hb d_M_part_70 (by decide) ?_
      exact w_zret hx hb hr rfl hlk hP hD hS ((va_up ii 0 2), li, ia, la) rfl (Or.inr (Or.inr ⟨hb0, fun z => hno z.1, rfl⟩)) d_M_part_71
    · have ho1 : okL x := by rcases hs1 with ⟨-, z⟩ | ⟨z, -⟩; exact z; exact absurd z d3
      refine lv_lload hx hb d_M_part_20 (lv_at hl 3 rfl) ?_
      refine w_calli (wr := (w_M a cA ii li ia la)) (w_runS (rest := [.ref (a 0)]) hx hb hml hown hl.1 hg hlo hP hD hS (m_M_isSize Z y H.size) (kw699 Z.1) (kw700 Z.1) (kw701 Z.1) (kw6 Z.1) ⟨by decide, by decide, (by decide +kernel : (parseMethodDescriptor y_M_isSize.desc).map (fun d => d.parameters.length) = some 1)⟩ ⟨Nat.le_of_ble_eq_true rfl, Nat.le_of_ble_eq_true rfl⟩ [] rfl rfl rfl (Nat.le_of_ble_eq_true rfl) d_M_part_22 ⟨Nat.le_of_ble_eq_true rfl, Nat.le_of_ble_eq_true rfl⟩) hP hD hS hA [] [0, 1, 2, 3, 4, 5, 6, 7, 8, 9, 10, 11, 12, 13, 14, 15, 16] rfl rfl rfl (by decide) (fun _ => w_M a cA ii li ia la) [0, 1, 2, 3, 4, 5, 6, 7, 8, 9, 10, 11, 12, 13, 14, 15, 16] rfl (fun _ => rfl) (fun rs2 u H locs hs2 hP hD hS => ?_)
      refine W.widen (k := 0) (n := 0) (Nat.le_of_ble_eq_true rfl) (Nat.le_of_ble_eq_true rfl) ?_
      refine lv_if_eq (tgt := 48) hx hb d_M_part_25 (by decide) (fun g5 => ?_) (fun g5 => ?_)
      · have hno : ¬ okL y := by rcases hs2 with ⟨z, -⟩ | ⟨-, z⟩; rw [z] at g5; exact absurd g5 (by decide); exact z
        refine lv_iconst (v := 2) hx hb d_M_part_48 (by decide) ?_
        refine va_put (D := D) (ci := 1) (v := .int 2) (ty := t_M 0) (C := R_M) (T := T_M) (N := 26) hx hb (uw_M Z.1 hg.1) (fun _ h => h) t_M t_M_ok n_M hown hK hP hD hS 0 rfl rfl 0 (by decide) (kw604 Z.1 _ _ hg.1) (fun _ h9 => h9) rfl (by decide +kernel) rfl rfl (Nat.le_of_ble_eq_true rfl) d_M_part_49 (fun H locs hP hD hS => ?_)
        have hP : va_P D ncl (w_M a cA (va_up ii 0 2) li ia la) H := hP
        have hD : va_D _ (w_M a cA (va_up ii 0 2) li ia la) := hD
        refine lv_aload_n hx hb d_M_part_52 rfl (lv_at hl 0 rfl) ?_
        refine va_get (D := D) (ci := 1) (v := .int 2) (C := R_M) (T := T_M) (N := 26) hx hb (uw_M Z.1 hg.1) (fun _ h => h) hown hK hP 0 rfl rfl 0 (by decide) (kw604 Z.1 _ _ hg.1) (fun _ h9 => h9) rfl d_M_part_53 ?_
        refine lv_if_ne (tgt := 70) hx hb d_M_part_56 (by decide) (fun _ => ?_) (fun k6 => by first | exact absurd (show ¬ (2 : Int32) = 0 by decide) k6 | exact absurd k6 (show ¬ (2 : Int32) = 0 by decide))
        refine lv_iconst (v := 0) hx hb d_M_part_70 (by decide) ?_
        exact w_zret hx hb hr rfl hlk hP hD hS ((va_up ii 0 2), li, ia, la) rfl (Or.inr (Or.inr ⟨hb0, fun z => hno z.2.1, rfl⟩)) d_M_part_71
      · have ho2 : okL y := by rcases hs2 with ⟨-, z⟩ | ⟨z, -⟩; exact z; exact absurd z g5
        refine lv_lload hx hb d_M_part_28 (lv_at hl 4 rfl) ?_
        refine lv_lconst (v := 1) hx hb d_M_part_30 (by decide) ?_
        refine W.lcmp hx hb d_M_part_31 ?_
        refine lv_if_lt (tgt := 48) hx hb d_M_part_32 (by decide) (fun h7 => ?_) (fun h7 => ?_)
        · refine lv_iconst (v := 2) hx hb d_M_part_48 (by decide) ?_
          refine va_put (D := D) (ci := 1) (v := .int 2) (ty := t_M 0) (C := R_M) (T := T_M) (N := 26) hx hb (uw_M Z.1 hg.1) (fun _ h => h) t_M t_M_ok n_M hown hK hP hD hS 0 rfl rfl 0 (by decide) (kw604 Z.1 _ _ hg.1) (fun _ h9 => h9) rfl (by decide +kernel) rfl rfl (Nat.le_of_ble_eq_true rfl) d_M_part_49 (fun H locs hP hD hS => ?_)
          have hP : va_P D ncl (w_M a cA (va_up ii 0 2) li ia la) H := hP
          have hD : va_D _ (w_M a cA (va_up ii 0 2) li ia la) := hD
          refine lv_aload_n hx hb d_M_part_52 rfl (lv_at hl 0 rfl) ?_
          refine va_get (D := D) (ci := 1) (v := .int 2) (C := R_M) (T := T_M) (N := 26) hx hb (uw_M Z.1 hg.1) (fun _ h => h) hown hK hP 0 rfl rfl 0 (by decide) (kw604 Z.1 _ _ hg.1) (fun _ h9 => h9) rfl d_M_part_53 ?_
          refine lv_if_ne (tgt := 70) hx hb d_M_part_56 (by decide) (fun _ => ?_) (fun k8 => by first | exact absurd (show ¬ (2 : Int32) = 0 by decide) k8 | exact absurd k8 (show ¬ (2 : Int32) = 0 by decide))
          refine lv_iconst (v := 0) hx hb d_M_part_70 (by decide) ?_
          exact w_zret hx hb hr rfl hlk hP hD hS ((va_up ii 0 2), li, ia, la) rfl (Or.inr (Or.inr ⟨hb0, fun z => absurd ((lg_cmp_lt _ _).mp h7) (Int64.not_lt.mpr (r_pos.mp z.2.2).1), rfl⟩)) d_M_part_71
        · refine lv_lload hx hb d_M_part_35 (lv_at hl 4 rfl) ?_
          refine lv_ldc2 (v := 65536) hx hb hown (kw603 Z.1 _ _ hg.1) d_M_part_37 ?_
          refine W.lcmp hx hb d_M_part_40 ?_
          refine lv_if_gt (tgt := 48) hx hb d_M_part_41 (by decide) (fun w9 => ?_) (fun w9 => ?_)
          · refine lv_iconst (v := 2) hx hb d_M_part_48 (by decide) ?_
            refine va_put (D := D) (ci := 1) (v := .int 2) (ty := t_M 0) (C := R_M) (T := T_M) (N := 26) hx hb (uw_M Z.1 hg.1) (fun _ h => h) t_M t_M_ok n_M hown hK hP hD hS 0 rfl rfl 0 (by decide) (kw604 Z.1 _ _ hg.1) (fun _ h9 => h9) rfl (by decide +kernel) rfl rfl (Nat.le_of_ble_eq_true rfl) d_M_part_49 (fun H locs hP hD hS => ?_)
            have hP : va_P D ncl (w_M a cA (va_up ii 0 2) li ia la) H := hP
            have hD : va_D _ (w_M a cA (va_up ii 0 2) li ia la) := hD
            refine lv_aload_n hx hb d_M_part_52 rfl (lv_at hl 0 rfl) ?_
            refine va_get (D := D) (ci := 1) (v := .int 2) (C := R_M) (T := T_M) (N := 26) hx hb (uw_M Z.1 hg.1) (fun _ h => h) hown hK hP 0 rfl rfl 0 (by decide) (kw604 Z.1 _ _ hg.1) (fun _ h9 => h9) rfl d_M_part_53 ?_
            refine lv_if_ne (tgt := 70) hx hb d_M_part_56 (by decide) (fun _ => ?_) (fun k10 => by first | exact absurd (show ¬ (2 : Int32) = 0 by decide) k10 | exact absurd k10 (show ¬ (2 : Int32) = 0 by decide))
            refine lv_iconst (v := 0) hx hb d_M_part_70 (by decide) ?_
            exact w_zret hx hb hr rfl hlk hP hD hS ((va_up ii 0 2), li, ia, la) rfl (Or.inr (Or.inr ⟨hb0, fun z => absurd ((lg_cmp_gt _ _).mp w9) (Int64.not_lt.mpr (r_pos.mp z.2.2).2), rfl⟩)) d_M_part_71
          · have hr0 : okL r0 ∧ r0 ≠ 0 := r_pos.mpr ⟨Int64.not_lt.mp (fun z => h7 ((lg_cmp_lt _ _).mpr z)), Int64.not_lt.mp (fun z => w9 ((lg_cmp_gt _ _).mpr z))⟩
            obtain ⟨k, hk, rfl⟩ := hb0
            have hck := hnc k (by omega)
            refine lv_iconst (v := 0) hx hb d_M_part_44 (by decide) ?_
            refine lv_goto (tgt := 49) hx hb d_M_part_45 (by decide) ?_
            refine va_put (D := D) (ci := 1) (v := .int 0) (ty := t_M 0) (C := R_M) (T := T_M) (N := 26) hx hb (uw_M Z.1 hg.1) (fun _ h => h) t_M t_M_ok n_M hown hK hP hD hS 0 rfl rfl 0 (by decide) (kw604 Z.1 _ _ hg.1) (fun _ h9 => h9) rfl (by decide +kernel) rfl rfl (Nat.le_of_ble_eq_true rfl) d_M_part_49 (fun H locs hP hD hS => ?_)
            have hP : va_P D ncl (w_M a cA (va_up ii 0 0) li ia la) H := hP
            have hD : va_D _ (w_M a cA (va_up ii 0 0) li ia la) := hD
            refine lv_aload_n hx hb d_M_part_52 rfl (lv_at hl 0 rfl) ?_
            refine va_get (D := D) (ci := 1) (v := .int 0) (C := R_M) (T := T_M) (N := 26) hx hb (uw_M Z.1 hg.1) (fun _ h => h) hown hK hP 0 rfl rfl 0 (by decide) (kw604 Z.1 _ _ hg.1) (fun _ h9 => h9) rfl d_M_part_53 ?_
            refine lv_if_ne (tgt := 70) hx hb d_M_part_56 (by decide) (fun k11 => by first | exact absurd (show (0 : Int32) = 0 from rfl) k11 | exact absurd k11 (show (0 : Int32) = 0 from rfl)) (fun _ => ?_)
            refine lv_aload_n hx hb d_M_part_59 rfl (lv_at hl 0 rfl) ?_
            refine va_get (D := D) (ci := 1) (v := .ref (a 9)) (C := R_M) (T := T_M) (N := 26) hx hb (uw_M Z.1 hg.1) (fun _ h => h) hown hK hP 0 rfl rfl 8 (by decide) (kw612 Z.1 _ _ hg.1) (fun _ h9 => h9) rfl d_M_part_60 ?_
            refine lv_iload_n hx hb d_M_part_63 rfl (lv_at hl 1 rfl) ?_
            refine va_iald hx hb hK hP 5 0 rfl rfl (vp_in_nI (n := k) (N := 4) (by omega) (by decide)) d_M_part_64 ?_
            refine lv_topi (fun z12 ez12 => ?_)
            rw [nI_clamp (n := k) (by omega)] at ez12
            obtain rfl : z12 = ((ia 8) k) := ez12
            refine lv_topi (fun z13 ez13 => ?_)
            obtain rfl : z13 = (nI (nc k)) := by rw [ez13]; exact hck.1
            refine lv_bipush (v := 10) hx hb d_M_part_65 (by decide) ?_
            refine lv_icmp_ne (tgt := 72) hx hb d_M_part_67 (by decide) (fun h14 => ?_) (fun h14 => ?_)
            · have hlt : nc k < 10 := Nat.lt_of_le_of_ne hck.2 (fun z => h14 (by rw [z]; rfl))
              refine lv_bipush (v := 30) hx hb d_M_part_72 (by decide) ?_
              refine lv_iload_n hx hb d_M_part_74 rfl (lv_at hl 1 rfl) ?_
              refine lv_imul hx hb d_M_part_75 ?_
              refine lv_topi (fun z15 ez15 => ?_)
              obtain rfl : z15 = (nI (30 * k)) := by rw [ez15]; exact pk_mul 30 k
              refine lv_iconst (v := 3) hx hb d_M_part_76 (by decide) ?_
              refine lv_aload_n hx hb d_M_part_77 rfl (lv_at hl 0 rfl) ?_
              refine va_get (D := D) (ci := 1) (v := .ref (a 9)) (C := R_M) (T := T_M) (N := 26) hx hb (uw_M Z.1 hg.1) (fun _ h => h) hown hK hP 0 rfl rfl 8 (by decide) (kw612 Z.1 _ _ hg.1) (fun _ h9 => h9) rfl d_M_part_78 ?_
              refine lv_iload_n hx hb d_M_part_81 rfl (lv_at hl 1 rfl) ?_
              refine va_iald hx hb hK hP 5 0 rfl rfl (vp_in_nI (n := k) (N := 4) (by omega) (by decide)) d_M_part_82 ?_
              refine lv_topi (fun z16 ez16 => ?_)
              rw [nI_clamp (n := k) (by omega)] at ez16
              obtain rfl : z16 = ((ia 8) k) := ez16
              refine lv_topi (fun z17 ez17 => ?_)
              obtain rfl : z17 = (nI (nc k)) := by rw [ez17]; exact hck.1
              refine lv_imul hx hb d_M_part_83 ?_
              refine lv_topi (fun z18 ez18 => ?_)
              obtain rfl : z18 = (nI (3 * nc k)) := by rw [ez18]; exact pk_mul 3 _
              refine lv_iadd hx hb d_M_part_84 ?_
              refine lv_topi (fun z19 ez19 => ?_)
              obtain rfl : z19 = (nI (30 * k + 3 * nc k)) := by rw [ez19]; exact nI_add _ _
              refine lv_istore (lv' := [(8, .int (nI (30 * k + 3 * nc k))), (0, .ref (a 0)), (1, .int (nI k)), (2, .long x), (4, .long y), (6, .long r0)]) hx hb d_M_part_85 hl (by decide) rfl (fun ls hl => ?_)
              refine lv_aload_n hx hb d_M_part_87 rfl (lv_at hl 1 rfl) ?_
              refine va_get (D := D) (ci := 1) (v := .ref (a 10)) (C := R_M) (T := T_M) (N := 26) hx hb (uw_M Z.1 hg.1) (fun _ h => h) hown hK hP 0 rfl rfl 9 (by decide) (kw613 Z.1 _ _ hg.1) (fun _ h9 => h9) rfl d_M_part_88 ?_
              refine lv_iload hx hb d_M_part_91 (lv_at hl 0 rfl) ?_
              refine lv_lload_n hx hb d_M_part_93 rfl (lv_at hl 3 rfl) ?_
              refine va_last hx hb hK hP hD hS 6 1 rfl rfl (vp_in_nI (n := 30 * k + 3 * nc k) (N := 120) (by omega) (by decide)) d_M_part_94 (fun H locs hP hD hS => ?_)
              rw [nI_clamp (n := (30 * k + 3 * nc k)) (by omega)] at hP hD
              have hP : va_P D ncl (w_M a cA (va_up ii 0 0) li ia (va_up la 9 (vp_updL (la 9) (30 * k + 3 * nc k) x))) H := hP
              have hD : va_D _ (w_M a cA (va_up ii 0 0) li ia (va_up la 9 (vp_updL (la 9) (30 * k + 3 * nc k) x))) := hD
              refine lv_aload_n hx hb d_M_part_95 rfl (lv_at hl 1 rfl) ?_
              refine va_get (D := D) (ci := 1) (v := .ref (a 10)) (C := R_M) (T := T_M) (N := 26) hx hb (uw_M Z.1 hg.1) (fun _ h => h) hown hK hP 0 rfl rfl 9 (by decide) (kw613 Z.1 _ _ hg.1) (fun _ h9 => h9) rfl d_M_part_96 ?_
              refine lv_iload hx hb d_M_part_99 (lv_at hl 0 rfl) ?_
              refine lv_iconst (v := 1) hx hb d_M_part_101 (by decide) ?_
              refine lv_iadd hx hb d_M_part_102 ?_
              refine lv_topi (fun z20 ez20 => ?_)
              obtain rfl : z20 = (nI (30 * k + 3 * nc k + 1)) := by rw [ez20]; exact nI_1 _
              refine lv_lload hx hb d_M_part_103 (lv_at hl 4 rfl) ?_
              refine va_last hx hb hK hP hD hS 6 1 rfl rfl (vp_in_nI (n := 30 * k + 3 * nc k + 1) (N := 120) (by omega) (by decide)) d_M_part_105 (fun H locs hP hD hS => ?_)
              rw [nI_clamp (n := (30 * k + 3 * nc k + 1)) (by omega)] at hP hD
              have hP : va_P D ncl (w_M a cA (va_up ii 0 0) li ia (va_up (va_up la 9 (vp_updL (la 9) (30 * k + 3 * nc k) x)) 9 (vp_updL (vp_updL (la 9) (30 * k + 3 * nc k) x) (30 * k + 3 * nc k + 1) y))) H := hP
              have hD : va_D _ (w_M a cA (va_up ii 0 0) li ia (va_up (va_up la 9 (vp_updL (la 9) (30 * k + 3 * nc k) x)) 9 (vp_updL (vp_updL (la 9) (30 * k + 3 * nc k) x) (30 * k + 3 * nc k + 1) y))) := hD
              refine lv_aload_n hx hb d_M_part_106 rfl (lv_at hl 1 rfl) ?_
              refine va_get (D := D) (ci := 1) (v := .ref (a 10)) (C := R_M) (T := T_M) (N := 26) hx hb (uw_M Z.1 hg.1) (fun _ h => h) hown hK hP 0 rfl rfl 9 (by decide) (kw613 Z.1 _ _ hg.1) (fun _ h9 => h9) rfl d_M_part_107 ?_
              refine lv_iload hx hb d_M_part_110 (lv_at hl 0 rfl) ?_
              refine lv_iconst (v := 2) hx hb d_M_part_112 (by decide) ?_
              refine lv_iadd hx hb d_M_part_113 ?_
              refine lv_topi (fun z21 ez21 => ?_)
              obtain rfl : z21 = (nI (30 * k + 3 * nc k + 2)) := by rw [ez21]; exact nI_add _ 2
              refine lv_lload hx hb d_M_part_114 (lv_at hl 5 rfl) ?_
              refine va_last hx hb hK hP hD hS 6 1 rfl rfl (vp_in_nI (n := 30 * k + 3 * nc k + 2) (N := 120) (by omega) (by decide)) d_M_part_116 (fun H locs hP hD hS => ?_)
              rw [nI_clamp (n := (30 * k + 3 * nc k + 2)) (by omega)] at hP hD
              have hP : va_P D ncl (w_M a cA (va_up ii 0 0) li ia (va_up (va_up (va_up la 9 (vp_updL (la 9) (30 * k + 3 * nc k) x)) 9 (vp_updL (vp_updL (la 9) (30 * k + 3 * nc k) x) (30 * k + 3 * nc k + 1) y)) 9 (vp_updL (vp_updL (vp_updL (la 9) (30 * k + 3 * nc k) x) (30 * k + 3 * nc k + 1) y) (30 * k + 3 * nc k + 2) r0))) H := hP
              have hD : va_D _ (w_M a cA (va_up ii 0 0) li ia (va_up (va_up (va_up la 9 (vp_updL (la 9) (30 * k + 3 * nc k) x)) 9 (vp_updL (vp_updL (la 9) (30 * k + 3 * nc k) x) (30 * k + 3 * nc k + 1) y)) 9 (vp_updL (vp_updL (vp_updL (la 9) (30 * k + 3 * nc k) x) (30 * k + 3 * nc k + 1) y) (30 * k + 3 * nc k + 2) r0))) := hD
              refine lv_aload_n hx hb d_M_part_117 rfl (lv_at hl 1 rfl) ?_
              refine va_get (D := D) (ci := 1) (v := .ref (a 9)) (C := R_M) (T := T_M) (N := 26) hx hb (uw_M Z.1 hg.1) (fun _ h => h) hown hK hP 0 rfl rfl 8 (by decide) (kw612 Z.1 _ _ hg.1) (fun _ h9 => h9) rfl d_M_part_118 ?_
              refine lv_iload_n hx hb d_M_part_121 rfl (lv_at hl 2 rfl) ?_
              refine lv_dup2_11 hx hb d_M_part_122 rfl rfl ?_
              refine va_iald hx hb hK hP 5 0 rfl rfl (vp_in_nI (n := k) (N := 4) (by omega) (by decide)) d_M_part_123 ?_
              refine lv_topi (fun z22 ez22 => ?_)
              rw [nI_clamp (n := k) (by omega)] at ez22
              obtain rfl : z22 = ((ia 8) k) := ez22
              refine lv_topi (fun z23 ez23 => ?_)
              obtain rfl : z23 = (nI (nc k)) := by rw [ez23]; exact hck.1
              refine lv_iconst (v := 1) hx hb d_M_part_124 (by decide) ?_
              refine lv_iadd hx hb d_M_part_125 ?_
              refine lv_topi (fun z24 ez24 => ?_)
              obtain rfl : z24 = (nI (nc k + 1)) := by rw [ez24]; exact nI_1 _
              refine va_iast hx hb hK hP hD hS 5 0 rfl rfl (vp_in_nI (n := k) (N := 4) (by omega) (by decide)) d_M_part_126 (fun H locs hP hD hS => ?_)
              rw [nI_clamp (n := k) (by omega)] at hP hD
              have hP : va_P D ncl (w_M a cA (va_up ii 0 0) li (va_up ia 8 (upd (ia 8) k (nI (nc k + 1)))) (va_up (va_up (va_up la 9 (vp_updL (la 9) (30 * k + 3 * nc k) x)) 9 (vp_updL (vp_updL (la 9) (30 * k + 3 * nc k) x) (30 * k + 3 * nc k + 1) y)) 9 (vp_updL (vp_updL (vp_updL (la 9) (30 * k + 3 * nc k) x) (30 * k + 3 * nc k + 1) y) (30 * k + 3 * nc k + 2) r0))) H := hP
              have hD : va_D _ (w_M a cA (va_up ii 0 0) li (va_up ia 8 (upd (ia 8) k (nI (nc k + 1)))) (va_up (va_up (va_up la 9 (vp_updL (la 9) (30 * k + 3 * nc k) x)) 9 (vp_updL (vp_updL (la 9) (30 * k + 3 * nc k) x) (30 * k + 3 * nc k + 1) y)) 9 (vp_updL (vp_updL (vp_updL (la 9) (30 * k + 3 * nc k) x) (30 * k + 3 * nc k + 1) y) (30 * k + 3 * nc k + 2) r0))) := hD
              refine lv_iconst (v := 1) hx hb d_M_part_127 (by decide) ?_
              exact w_zret hx hb hr rfl hlk hP hD hS ((va_up ii 0 0), li, (va_up ia 8 (upd (ia 8) k (nI (nc k + 1)))), (va_up (va_up (va_up la 9 (vp_updL (la 9) (30 * k + 3 * nc k) x)) 9 (vp_updL (vp_updL (la 9) (30 * k + 3 * nc k) x) (30 * k + 3 * nc k + 1) y)) 9 (vp_updL (vp_updL (vp_updL (la 9) (30 * k + 3 * nc k) x) (30 * k + 3 * nc k + 1) y) (30 * k + 3 * nc k + 2) r0))) rfl (Or.inl ⟨k, hk, rfl, ⟨ho1, ho2, hr0⟩, by rw [if_pos hlt]; exact ⟨rfl, by simp only [bx_uu, up_s]⟩⟩) d_M_part_128
            · have he : nc k = 10 := (nI_eq (b := 10) (by omega) (by decide)).mp h14
              refine lv_iconst (v := 0) hx hb d_M_part_70 (by decide) ?_
              exact w_zret hx hb hr rfl hlk hP hD hS ((va_up ii 0 0), li, ia, la) rfl (Or.inl ⟨k, hk, rfl, ⟨ho1, ho2, hr0⟩, by rw [if_neg (by omega)]; exact ⟨rfl, rfl⟩⟩) d_M_part_71
  · have hno : ¬ (∃ k, k < n ∧ v = nI k) := by rcases h1 with ⟨z, -⟩ | ⟨-, z⟩; rw [z] at c1; exact absurd c1 (by decide); exact z
    refine lv_iconst (v := 1) hx hb d_M_part_9 (by decide) ?_
    refine lv_goto (tgt := 49) hx hb d_M_part_10 (by decide) ?_
    refine va_put (D := D) (ci := 1) (v := .int 1) (ty := t_M 0) (C := R_M) (T := T_M) (N := 26) hx hb (uw_M Z.1 hg.1) (fun _ h => h) t_M t_M_ok n_M hown hK hP hD hS 0 rfl rfl 0 (by decide) (kw604 Z.1 _ _ hg.1) (fun _ h9 => h9) rfl (by decide +kernel) rfl rfl (Nat.le_of_ble_eq_true rfl) d_M_part_49 (fun H locs hP hD hS => ?_)
    have hP : va_P D ncl (w_M a cA (va_up ii 0 1) li ia la) H := hP
    have hD : va_D _ (w_M a cA (va_up ii 0 1) li ia la) := hD
    refine lv_aload_n hx hb d_M_part_52 rfl (lv_at hl 0 rfl) ?_
    refine va_get (D := D) (ci := 1) (v := .int 1) (C := R_M) (T := T_M) (N := 26) hx hb (uw_M Z.1 hg.1) (fun _ h => h) hown hK hP 0 rfl rfl 0 (by decide) (kw604 Z.1 _ _ hg.1) (fun _ h9 => h9) rfl d_M_part_53 ?_
    refine lv_if_ne (tgt := 70) hx hb d_M_part_56 (by decide) (fun _ => ?_) (fun k2 => by first | exact absurd (show ¬ (1 : Int32) = 0 by decide) k2 | exact absurd k2 (show ¬ (1 : Int32) = 0 by decide))
    refine lv_iconst (v := 0) hx hb d_M_part_70 (by decide) ?_
    exact w_zret hx hb hr rfl hlk hP hD hS ((va_up ii 0 1), li, ia, la) rfl (Or.inr (Or.inl ⟨hno, rfl⟩)) d_M_part_71
