set_option maxHeartbeats 4000000 in
set_option maxRecDepth 100000 in
theorem m_S_begin {l : Launch} {s0 : State} {D : va_G} {cA sa : Nat → Nat} (Z : zE l s0 D cA sa) (a : Nat → Nat) (ii : Nat → Int32) (li : Nat → Int64) (ia : Nat → Nat → Int32) (la : Nat → Nat → Int64) (g : Int64) (sz : Nat) : Met l y_S_begin [.code y_S_begin c_S_begin 4 none] ({ frames := 0, cells := 0, slots := 0, locals := 0 }) (wP s0 D [.ref (a 0), .long g] (w_S a cA ii li ia la) sz) (va_Qv (fun (u : St) => u.1 = va_up (va_up (va_up ii 7 0) 8 0) 10 0 ∧ u.2.1 = va_up li 11 g ∧ (∀ z, z ≠ 0 → u.2.2.1 z = ia z) ∧ (∀ k, k < 8 → u.2.2.1 0 k = 0) ∧ u.2.2.2 = la) (wB D (va_A (w_S a cA ii li ia la) sz) (fun (u : St) => w_S a cA u.1 u.2.1 u.2.2.1 u.2.2.2)) (va_A (w_S a cA ii li ia la) sz)) 0 0 (va_A (w_S a cA ii li ia la) sz) := by
  refine wMet Z (by decide) (Nat.le_of_ble_eq_true rfl) ?_
  intro p e s m below meth c hx hb hr hml hown hlk hin hg hK hsz hP hD hA hlo hS ls hl
  subst hsz
  have hown : s.vm.findClass R_S = some m.cls := hown
  refine lv_aload_n hx hb d_S_begin_0 rfl (lv_at hl 0 rfl) ?_
  refine lv_lload_n hx hb d_S_begin_1 rfl (lv_at hl 1 rfl) ?_
  refine va_put (D := D) (ci := 4) (v := .long g) (ty := t_S 11) (C := R_S) (T := T_S) (N := 12) hx hb (uw_S Z.1 hg.1) (fun _ h => h) t_S t_S_ok n_S hown hK hP hD hS 0 rfl rfl 11 (by decide) (kw98 Z.1 _ _ hg.1) (fun _ h9 => h9) rfl (by decide +kernel) rfl rfl (Nat.le_of_ble_eq_true rfl) d_S_begin_2 (fun H locs hP hD hS => ?_)
  have hP : va_P D ncl (w_S a cA ii (va_up li 11 g) ia la) H := hP
  have hD : va_D _ (w_S a cA ii (va_up li 11 g) ia la) := hD
  refine lv_aload_n hx hb d_S_begin_5 rfl (lv_at hl 0 rfl) ?_
  refine lv_iconst (v := 0) hx hb d_S_begin_6 (by decide) ?_
  refine va_put (D := D) (ci := 4) (v := .int 0) (ty := t_S 7) (C := R_S) (T := T_S) (N := 12) hx hb (uw_S Z.1 hg.1) (fun _ h => h) t_S t_S_ok n_S hown hK hP hD hS 0 rfl rfl 7 (by decide) (kw93 Z.1 _ _ hg.1) (fun _ h9 => h9) rfl (by decide +kernel) rfl rfl (Nat.le_of_ble_eq_true rfl) d_S_begin_7 (fun H locs hP hD hS => ?_)
  have hP : va_P D ncl (w_S a cA (va_up ii 7 0) (va_up li 11 g) ia la) H := hP
  have hD : va_D _ (w_S a cA (va_up ii 7 0) (va_up li 11 g) ia la) := hD
  refine lv_aload_n hx hb d_S_begin_10 rfl (lv_at hl 0 rfl) ?_
  refine lv_iconst (v := 0) hx hb d_S_begin_11 (by decide) ?_
  refine va_put (D := D) (ci := 4) (v := .int 0) (ty := t_S 8) (C := R_S) (T := T_S) (N := 12) hx hb (uw_S Z.1 hg.1) (fun _ h => h) t_S t_S_ok n_S hown hK hP hD hS 0 rfl rfl 8 (by decide) (kw95 Z.1 _ _ hg.1) (fun _ h9 => h9) rfl (by decide +kernel) rfl rfl (Nat.le_of_ble_eq_true rfl) d_S_begin_12 (fun H locs hP hD hS => ?_)
  have hP : va_P D ncl (w_S a cA (va_up (va_up ii 7 0) 8 0) (va_up li 11 g) ia la) H := hP
  have hD : va_D _ (w_S a cA (va_up (va_up ii 7 0) 8 0) (va_up li 11 g) ia la) := hD
  refine lv_aload_n hx hb d_S_begin_15 rfl (lv_at hl 0 rfl) ?_
  refine lv_iconst (v := 0) hx hb d_S_begin_16 (by decide) ?_
  refine va_put (D := D) (ci := 4) (v := .int 0) (ty := t_S 10) (C := R_S) (T := T_S) (N := 12) hx hb (uw_S Z.1 hg.1) (fun _ h => h) t_S t_S_ok n_S hown hK hP hD hS 0 rfl rfl 10 (by decide) (kw97 Z.1 _ _ hg.1) (fun _ h9 => h9) rfl (by decide +kernel) rfl rfl (Nat.le_of_ble_eq_true rfl) d_S_begin_17 (fun H locs hP hD hS => ?_)
  have hP : va_P D ncl (w_S a cA (va_up (va_up (va_up ii 7 0) 8 0) 10 0) (va_up li 11 g) ia la) H := hP
  have hD : va_D _ (w_S a cA (va_up (va_up (va_up ii 7 0) 8 0) 10 0) (va_up li 11 g) ia la) := hD
  refine lv_iconst (v := 0) hx hb d_S_begin_20 (by decide) ?_
  refine lv_topi (fun z1 ez1 => ?_)
  obtain rfl : z1 = (nI 0) := by rw [ez1]; rfl
  refine lv_istore_n (lv' := [(3, .int (nI 0)), (0, .ref (a 0)), (1, .long g)]) hx hb d_S_begin_21 rfl hl (by decide) rfl (fun ls hl => ?_)
  have loop : ∀ (f : Nat) (k : Nat) (ib : Nat → Nat → Int32), 8 - k < f → k ≤ 8 → (∀ z, z ≠ 0 → ib z = ia z) → (∀ j, j < k → ib 0 j = 0) → ∀ (H : Heap) (locs : List Loc), va_P D ncl (w_S a cA (va_up (va_up (va_up ii 7 0) 8 0) 10 0) (va_up li 11 g) ib la) H → va_D (va_A (w_S a cA ii li ia la) s.heap.size) (w_S a cA (va_up (va_up (va_up ii 7 0) 8 0) 10 0) (va_up li 11 g) ib la) → va_S (va_A (w_S a cA ii li ia la) s.heap.size) s.heap H locs → ∀ (ls : Array Slot), lv_has ls 4 [(0, .ref (a 0)), (3, .int (nI k))] → W p l e ({ frames := 0, cells := 0, slots := 0, locals := 0 }) s m ([.ref (a 0), .long g] : List Value).toArray below meth c H locs 0 0 (MQ below (va_Qv (fun (u : St) => u.1 = va_up (va_up (va_up ii 7 0) 8 0) 10 0 ∧ u.2.1 = va_up li 11 g ∧ (∀ z, z ≠ 0 → u.2.2.1 z = ia z) ∧ (∀ k, k < 8 → u.2.2.1 0 k = 0) ∧ u.2.2.2 = la) (wB D (va_A (w_S a cA ii li ia la) s.heap.size) (fun (u : St) => w_S a cA u.1 u.2.1 u.2.2.1 u.2.2.2)) (va_A (w_S a cA ii li ia la) s.heap.size)) ([.ref (a 0), .long g] : List Value).toArray s 0 0 (va_A (w_S a cA ii li ia la) s.heap.size)) (F0 m 22 ls []) := by
    intro f
    induction f with
    | zero => intro k ib h; exact absurd h (Nat.not_lt_zero _)
    | succ f ih =>
      intro k ib hf hk h5 h6 H locs hP hD hS ls hl
      refine lv_iload_n hx hb d_S_begin_22 rfl (lv_at hl 1 rfl) ?_
      refine lv_bipush (v := 8) hx hb d_S_begin_23 (by decide) ?_
      refine lv_icmp_ge (tgt := 41) hx hb d_S_begin_25 (by decide) (fun c2 => ?_) (fun c2 => ?_)
      · obtain rfl : k = 8 := by have := (nI_leI (a := 8) (by decide) (by omega)).mp c2; omega
        exact w_vret hx hb hr hlk hP hD hS ((va_up (va_up (va_up ii 7 0) 8 0) 10 0), (va_up li 11 g), ib, la) rfl ⟨rfl, rfl, h5, h6, rfl⟩ d_S_begin_41
      · have hkn : k < 8 := Nat.lt_of_not_le (fun z => c2 ((nI_leI (a := 8) (by decide) (by omega)).mpr z))
        refine lv_aload_n hx hb d_S_begin_28 rfl (lv_at hl 0 rfl) ?_
        refine va_get (D := D) (ci := 4) (v := .ref (a 1)) (C := R_S) (T := T_S) (N := 12) hx hb (uw_S Z.1 hg.1) (fun _ h => h) hown hK hP 0 rfl rfl 0 (by decide) (kw83 Z.1 _ _ hg.1) (fun _ h9 => h9) rfl d_S_begin_29 ?_
        refine lv_iload_n hx hb d_S_begin_32 rfl (lv_at hl 1 rfl) ?_
        refine lv_iconst (v := 0) hx hb d_S_begin_33 (by decide) ?_
        refine va_iast hx hb hK hP hD hS 1 0 rfl rfl (vp_in_nI (n := k) (N := 8) (by omega) (by decide)) d_S_begin_34 (fun H locs hP hD hS => ?_)
        rw [nI_clamp (n := k) (by omega)] at hP hD
        have hP : va_P D ncl (w_S a cA (va_up (va_up (va_up ii 7 0) 8 0) 10 0) (va_up li 11 g) (va_up ib 0 (upd (ib 0) k 0)) la) H := hP
        have hD : va_D _ (w_S a cA (va_up (va_up (va_up ii 7 0) 8 0) 10 0) (va_up li 11 g) (va_up ib 0 (upd (ib 0) k 0)) la) := hD
        obtain ⟨v3, ev3⟩ : ∃ y : Int32, y = (nI k) + 1 := ⟨_, rfl⟩
        refine lv_iinc (v := v3) (lv' := [(3, .int v3), (0, .ref (a 0))]) hx hb d_S_begin_35 hl (k := 1) rfl (by rw [ev3]; rfl) (by decide) rfl (fun ls hl => ?_)
        refine lv_goto (tgt := 22) hx hb d_S_begin_38 (by decide) ?_
        obtain rfl : v3 = nI (k + 1) := by rw [ev3]; exact nI_1 k
        exact ih (k + 1) _ (by omega) (by omega) (fun z h1 => by rw [up_n _ _ h1]; exact h5 z h1) (fun j hj => by rw [up_s]; rcases Nat.lt_or_ge j k with q | q; (rw [upd_n _ _ (by omega)]; exact h6 j q); (have : j = k := by omega); subst this; rw [upd_s]) _ _ hP hD hS ls (lv_sub hl [1, 0] rfl)
  exact loop 9 0 ia (by omega) (by omega) (fun _ _ => rfl) lt_0 _ _ hP hD hS ls (lv_sub hl [1, 0] rfl)
set_option maxHeartbeats 4000000 in
set_option maxRecDepth 100000 in
theorem m_S_allowKind {l : Launch} {s0 : State} {D : va_G} {cA sa : Nat → Nat} (Z : zE l s0 D cA sa) (a : Nat → Nat) (ii : Nat → Int32) (li : Nat → Int64) (ia : Nat → Nat → Int32) (la : Nat → Nat → Int64) (k c0 mr : Nat) (h : Int64) (hk : k < 8) (hc : c0 ≤ 20) (hmr : mr ≤ 20) (h10 : ii 10 = nI mr) (sz : Nat) : Met l y_S_allowKind [.code y_S_allowKind c_S_allowKind 5 none] ({ frames := 1, cells := 0, slots := 0, locals := 30 }) (wP s0 D [.ref (a 0), .int (nI k), .int (nI c0), .long h] (w_S a cA ii li ia la) sz) (va_Qv (fun (u : St) => u = (va_up ii 10 (nI (max mr c0)), li, va_up ia 0 (upd (ia 0) k (nI c0)), va_up la 1 (vp_updL (la 1) k h))) (wB D (va_A (w_S a cA ii li ia la) sz) (fun (u : St) => w_S a cA u.1 u.2.1 u.2.2.1 u.2.2.2)) (va_A (w_S a cA ii li ia la) sz)) 0 0 (va_A (w_S a cA ii li ia la) sz) := by
  refine wMet Z (by decide) (Nat.le_of_ble_eq_true rfl) ?_
  intro p e s m below meth c hx hb hr hml hown hlk hin hg hK hsz hP hD hA hlo hS ls hl
  subst hsz
  have hown : s.vm.findClass R_S = some m.cls := hown
  refine lv_aload_n hx hb d_S_allowKind_0 rfl (lv_at hl 0 rfl) ?_
  refine va_get (D := D) (ci := 4) (v := .ref (a 1)) (C := R_S) (T := T_S) (N := 12) hx hb (uw_S Z.1 hg.1) (fun _ h => h) hown hK hP 0 rfl rfl 0 (by decide) (kw83 Z.1 _ _ hg.1) (fun _ h9 => h9) rfl d_S_allowKind_1 ?_
  refine lv_iload_n hx hb d_S_allowKind_4 rfl (lv_at hl 1 rfl) ?_
  refine lv_iload_n hx hb d_S_allowKind_5 rfl (lv_at hl 2 rfl) ?_
  refine va_iast hx hb hK hP hD hS 1 0 rfl rfl (vp_in_nI (n := k) (N := 8) (by omega) (by decide)) d_S_allowKind_6 (fun H locs hP hD hS => ?_)
  rw [nI_clamp (n := k) (by omega)] at hP hD
  have hP : va_P D ncl (w_S a cA ii li (va_up ia 0 (upd (ia 0) k (nI c0))) la) H := hP
  have hD : va_D _ (w_S a cA ii li (va_up ia 0 (upd (ia 0) k (nI c0))) la) := hD
  refine lv_aload_n hx hb d_S_allowKind_7 rfl (lv_at hl 0 rfl) ?_
  refine va_get (D := D) (ci := 4) (v := .ref (a 2)) (C := R_S) (T := T_S) (N := 12) hx hb (uw_S Z.1 hg.1) (fun _ h => h) hown hK hP 0 rfl rfl 1 (by decide) (kw84 Z.1 _ _ hg.1) (fun _ h9 => h9) rfl d_S_allowKind_8 ?_
  refine lv_iload_n hx hb d_S_allowKind_11 rfl (lv_at hl 1 rfl) ?_
  refine lv_lload_n hx hb d_S_allowKind_12 rfl (lv_at hl 3 rfl) ?_
  refine va_last hx hb hK hP hD hS 2 1 rfl rfl (vp_in_nI (n := k) (N := 8) (by omega) (by decide)) d_S_allowKind_13 (fun H locs hP hD hS => ?_)
  rw [nI_clamp (n := k) (by omega)] at hP hD
  have hP : va_P D ncl (w_S a cA ii li (va_up ia 0 (upd (ia 0) k (nI c0))) (va_up la 1 (vp_updL (la 1) k h))) H := hP
  have hD : va_D _ (w_S a cA ii li (va_up ia 0 (upd (ia 0) k (nI c0))) (va_up la 1 (vp_updL (la 1) k h))) := hD
  refine lv_aload_n hx hb d_S_allowKind_14 rfl (lv_at hl 0 rfl) ?_
  refine lv_aload_n hx hb d_S_allowKind_15 rfl (lv_at hl 0 rfl) ?_
  refine va_get (D := D) (ci := 4) (v := .int (ii 10)) (C := R_S) (T := T_S) (N := 12) hx hb (uw_S Z.1 hg.1) (fun _ h => h) hown hK hP 0 rfl rfl 10 (by decide) (kw97 Z.1 _ _ hg.1) (fun _ h9 => h9) rfl d_S_allowKind_16 ?_
  refine lv_iload_n hx hb d_S_allowKind_19 rfl (lv_at hl 2 rfl) ?_
  refine va_mmax hx hb (hml.trans hl.1.symm) hown (kw410 Z.1 _ _ hg.1) (kw411 Z.1 _ _ hg.1) (kw2 Z.1 _ _ hg.1) (kw412 Z.1 _ _ hg.1) (Nat.le_of_ble_eq_true rfl) (Nat.le_of_ble_eq_true rfl) (Nat.le_of_ble_eq_true rfl) (Nat.le_of_ble_eq_true rfl) d_S_allowKind_20 ?_
  refine lv_topi (fun z1 ez1 => ?_)
  refine lv_topi (fun z2 ez2 => ?_)
  obtain rfl : z2 = (nI (max mr c0)) := by rw [ez2, ez1]; rw [h10]; exact mmax_n (a := mr) (b := c0) (by omega) (by omega)
  refine va_put (D := D) (ci := 4) (v := .int (nI (max mr c0))) (ty := t_S 10) (C := R_S) (T := T_S) (N := 12) hx hb (uw_S Z.1 hg.1) (fun _ h => h) t_S t_S_ok n_S hown hK hP hD hS 0 rfl rfl 10 (by decide) (kw97 Z.1 _ _ hg.1) (fun _ h9 => h9) rfl (by decide +kernel) rfl rfl (Nat.le_of_ble_eq_true rfl) d_S_allowKind_23 (fun H locs hP hD hS => ?_)
  have hP : va_P D ncl (w_S a cA (va_up ii 10 (nI (max mr c0))) li (va_up ia 0 (upd (ia 0) k (nI c0))) (va_up la 1 (vp_updL (la 1) k h))) H := hP
  have hD : va_D _ (w_S a cA (va_up ii 10 (nI (max mr c0))) li (va_up ia 0 (upd (ia 0) k (nI c0))) (va_up la 1 (vp_updL (la 1) k h))) := hD
  exact w_vret hx hb hr hlk hP hD hS ((va_up ii 10 (nI (max mr c0))), li, (va_up ia 0 (upd (ia 0) k (nI c0))), (va_up la 1 (vp_updL (la 1) k h))) rfl rfl d_S_allowKind_26
set_option maxHeartbeats 4000000 in
set_option maxRecDepth 100000 in
theorem m_S_look {l : Launch} {s0 : State} {D : va_G} {cA sa : Nat → Nat} (Z : zE l s0 D cA sa) (a : Nat → Nat) (ii : Nat → Int32) (li : Nat → Int64) (ia : Nat → Nat → Int32) (la : Nat → Nat → Int64) (room hi wl : Nat → Nat) (M mr gap : Nat) (best : List (Nat × Nat)) (r : Nat) (free : Int) (hu : sR room hi wl M mr gap [] best (ii, li, ia, la)) (hr9 : r ≤ 9) (hf1 : -200000 ≤ free) (hf2 : free ≤ 65536) (sz : Nat) : Met l y_S_look [.code y_S_look c_S_look 4 none] ({ frames := 12, cells := 0, slots := 0, locals := 500 }) (wP s0 D [.ref (a 0), .int (nI r), .long (lZ free)] (w_S a cA ii li ia la) sz) (va_Qv (fun u => sR room hi wl r mr gap [] (sr_try room (fun k => (hi k : Int)) gap mr r [] 0 free wl best) u) (wB D (va_A (w_S a cA ii li ia la) sz) (fun (u : St) => w_S a cA u.1 u.2.1 u.2.2.1 u.2.2.2)) (va_A (w_S a cA ii li ia la) sz)) 0 0 (va_A (w_S a cA ii li ia la) sz) := by
  refine wMet Z (by decide) (Nat.le_of_ble_eq_true rfl) ?_
  intro p e s m below meth c hx hb hr hml hown hlk hin hg hK hsz hP hD hA hlo hS ls hl
  subst hsz
  have hown : s.vm.findClass R_S = some m.cls := hown
  refine lv_aload_n hx hb d_S_look_0 rfl (lv_at hl 0 rfl) ?_
  refine lv_iload_n hx hb d_S_look_1 rfl (lv_at hl 1 rfl) ?_
  refine lv_bipush (v := 9) hx hb d_S_look_2 (by decide) ?_
  refine va_mmin hx hb (hml.trans hl.1.symm) hown (kw417 Z.1 _ _ hg.1) (kw380 Z.1 _ _ hg.1) (kw2 Z.1 _ _ hg.1) (kw381 Z.1 _ _ hg.1) (Nat.le_of_ble_eq_true rfl) (Nat.le_of_ble_eq_true rfl) (Nat.le_of_ble_eq_true rfl) (Nat.le_of_ble_eq_true rfl) d_S_look_4 ?_
  refine lv_topi (fun z1 ez1 => ?_)
  refine lv_topi (fun z2 ez2 => ?_)
  obtain rfl : z2 = (nI r) := by rw [ez2, ez1]; rw [show (9 : Int32) = nI 9 from rfl, mmin_n (a := r) (b := 9) (by omega) (by decide), Nat.min_eq_left hr9]
  refine va_put (D := D) (ci := 4) (v := .int (nI r)) (ty := t_S 9) (C := R_S) (T := T_S) (N := 12) hx hb (uw_S Z.1 hg.1) (fun _ h => h) t_S t_S_ok n_S hown hK hP hD hS 0 rfl rfl 9 (by decide) (kw96 Z.1 _ _ hg.1) (fun _ h9 => h9) rfl (by decide +kernel) rfl rfl (Nat.le_of_ble_eq_true rfl) d_S_look_7 (fun H locs hP hD hS => ?_)
  have hP : va_P D ncl (w_S a cA (va_up ii 9 (nI r)) li ia la) H := hP
  have hD : va_D _ (w_S a cA (va_up ii 9 (nI r)) li ia la) := hD
  refine lv_aload_n hx hb d_S_look_10 rfl (lv_at hl 0 rfl) ?_
  refine lv_iconst (v := 0) hx hb d_S_look_11 (by decide) ?_
  refine lv_topi (fun z3 ez3 => ?_)
  obtain rfl : z3 = (nI ([] : List (Nat × Nat)).length) := by rw [ez3]; rfl
  refine lv_iconst (v := 0) hx hb d_S_look_12 (by decide) ?_
  refine lv_topi (fun z4 ez4 => ?_)
  obtain rfl : z4 = (nI 0) := by rw [ez4]; rfl
  refine lv_iconst (v := 0) hx hb d_S_look_13 (by decide) ?_
  refine lv_topi (fun z5 ez5 => ?_)
  obtain rfl : z5 = (nI (sr_cop [])) := by rw [ez5]; rfl
  refine lv_lload_n hx hb d_S_look_14 rfl (lv_at hl 2 rfl) ?_
  obtain ⟨u1, u2, u3, ⟨u7, u7a, u7b, u7c, u7d, u7e⟩, u8, u9⟩ := id hu
  refine w_callv (wr := ([] : va_W)) (w_runV (rest := []) hx hb hml hown hl.1 hg hlo hK hP hD hS (m_S_tryRow Z a room hi r mr gap r _ _ _ _ wl [] best 0 free (show sR room hi wl r mr gap [] best ((va_up ii 9 (nI r)), li, ia, la) from ⟨u1, u2, u3, ⟨rfl, hr9, u7b, u7c, u7d, u7e⟩, u8, u9⟩) (by simp) (by omega) (by simp [sr_cop]) hf1 hf2 H.size) (kw418 Z.1) (kw420 Z.1) (kp_S_tryRow Z.1) (kw421 Z.1) (kw4 Z.1) ⟨by decide, by decide, (by decide +kernel : (parseMethodDescriptor y_S_tryRow.desc).map (fun d => d.parameters.length) = some 4)⟩ ⟨by show (r + 1) + 1 ≤ 12; omega, by show 8 + (9 + 11) + (40 * r + 40) ≤ 500; omega⟩ [0, 1, 2, 3, 4, 5, 6, 7] rfl rfl (ci := 4) (q0 := 0) rfl rfl rfl (Nat.le_of_ble_eq_true rfl) d_S_look_15 ⟨Nat.le_of_ble_eq_true rfl, Nat.le_of_ble_eq_true rfl⟩) hP hD hS hA [0, 1, 2, 3, 4, 5, 6, 7] [] rfl rfl rfl (by decide) (fun (u : St) => w_S a cA u.1 u.2.1 u.2.2.1 u.2.2.2) [0, 1, 2, 3, 4, 5, 6, 7] rfl (fun _ => rfl) (fun u5 H locs hq5 hP hD hS => ?_)
  refine W.widen (k := 0) (n := 0) (Nat.le_of_ble_eq_true rfl) (Nat.le_of_ble_eq_true rfl) ?_
  exact w_vret hx hb hr hlk hP hD hS u5 rfl hq5 d_S_look_18
set_option maxHeartbeats 4000000 in
set_option maxRecDepth 100000 in
theorem m_S_findsMore {l : Launch} {s0 : State} {D : va_G} {cA sa : Nat → Nat} (Z : zE l s0 D cA sa) (a : Nat → Nat) (ii : Nat → Int32) (li : Nat → Int64) (ia : Nat → Nat → Int32) (la : Nat → Nat → Int64) (room hi wl : Nat → Nat) (M mr gap : Nat) (best : List (Nat × Nat)) (r : Nat) (free : Int) (hu : sR room hi wl M mr gap [] best (ii, li, ia, la)) (hr9 : r ≤ 9) (hf1 : -200000 ≤ free) (hf2 : free ≤ 65536) (sz : Nat) : Met l y_S_findsMore [.code y_S_findsMore c_S_findsMore 5 (some .boolean)] ({ frames := 13, cells := 0, slots := 0, locals := 540 }) (wP s0 D [.ref (a 0), .int (nI r), .long (lZ free)] (w_S a cA ii li ia la) sz) (va_Qi (fun (z : Int32) (u : St) => z = (if sr_cop best < sr_cop (sr_try room (fun k => (hi k : Int)) gap mr r [] 0 free wl best) then 1 else 0) ∧ sR room hi wl r mr gap [] (sr_try room (fun k => (hi k : Int)) gap mr r [] 0 free wl best) u) (wB D (va_A (w_S a cA ii li ia la) sz) (fun (u : St) => w_S a cA u.1 u.2.1 u.2.2.1 u.2.2.2)) (va_A (w_S a cA ii li ia la) sz)) 0 0 (va_A (w_S a cA ii li ia la) sz) := by
  refine wMet Z (by decide) (Nat.le_of_ble_eq_true rfl) ?_
  intro p e s m below meth c hx hb hr hml hown hlk hin hg hK hsz hP hD hA hlo hS ls hl
  subst hsz
  have hown : s.vm.findClass R_S = some m.cls := hown
  have u4 : ii 8 = nI (sr_cop best) := hu.2.2.1.2.1
  have u6 := hu.2.2.1.2.2.2
  refine lv_aload_n hx hb d_S_findsMore_0 rfl (lv_at hl 0 rfl) ?_
  refine va_get (D := D) (ci := 4) (v := .int (ii 8)) (C := R_S) (T := T_S) (N := 12) hx hb (uw_S Z.1 hg.1) (fun _ h => h) hown hK hP 0 rfl rfl 8 (by decide) (kw95 Z.1 _ _ hg.1) (fun _ h9 => h9) rfl d_S_findsMore_1 ?_
  refine lv_topi (fun z1 ez1 => ?_)
  obtain rfl : z1 = (nI (sr_cop best)) := by rw [ez1]; exact u4
  refine lv_istore (lv' := [(4, .int (nI (sr_cop best))), (0, .ref (a 0)), (1, .int (nI r)), (2, .long (lZ free))]) hx hb d_S_findsMore_4 hl (by decide) rfl (fun ls hl => ?_)
  refine lv_aload_n hx hb d_S_findsMore_6 rfl (lv_at hl 1 rfl) ?_
  refine lv_iload_n hx hb d_S_findsMore_7 rfl (lv_at hl 2 rfl) ?_
  refine lv_lload_n hx hb d_S_findsMore_8 rfl (lv_at hl 3 rfl) ?_
  refine w_callv (wr := ([] : va_W)) (w_runV (rest := []) hx hb hml hown hl.1 hg hlo hK hP hD hS (m_S_look Z a _ _ _ _ room hi wl M mr gap best r free hu hr9 hf1 hf2 s.heap.size) (kw450 Z.1) (kw415 Z.1) (kp_S_look Z.1) (kw416 Z.1) (kw4 Z.1) ⟨by decide, by decide, (by decide +kernel : (parseMethodDescriptor y_S_look.desc).map (fun d => d.parameters.length) = some 2)⟩ ⟨Nat.le_of_ble_eq_true rfl, Nat.le_of_ble_eq_true rfl⟩ [0, 1, 2, 3, 4, 5, 6, 7] rfl rfl (ci := 4) (q0 := 0) rfl rfl rfl (Nat.le_of_ble_eq_true rfl) d_S_findsMore_9 ⟨Nat.le_of_ble_eq_true rfl, Nat.le_of_ble_eq_true rfl⟩) hP hD hS hA [0, 1, 2, 3, 4, 5, 6, 7] [] rfl rfl rfl (by decide) (fun (u : St) => w_S a cA u.1 u.2.1 u.2.2.1 u.2.2.2) [0, 1, 2, 3, 4, 5, 6, 7] rfl (fun _ => rfl) (fun u5 H locs hq5 hP hD hS => ?_)
  refine W.widen (k := 0) (n := 0) (Nat.le_of_ble_eq_true rfl) (Nat.le_of_ble_eq_true rfl) ?_
  have h4 : u5.1 8 = nI (sr_cop (sr_try room (fun k => (hi k : Int)) gap mr r [] 0 free wl best)) := hq5.2.2.1.2.1
  have h6 := hq5.2.2.1.2.2.2
  refine lv_aload_n hx hb d_S_findsMore_12 rfl (lv_at hl 1 rfl) ?_
  refine va_get (D := D) (ci := 4) (v := .int (u5.1 8)) (C := R_S) (T := T_S) (N := 12) hx hb (uw_S Z.1 hg.1) (fun _ h => h) hown hK hP 0 rfl rfl 8 (by decide) (kw95 Z.1 _ _ hg.1) (fun _ h9 => h9) rfl d_S_findsMore_13 ?_
  refine lv_topi (fun z3 ez3 => ?_)
  obtain rfl : z3 = (nI (sr_cop (sr_try room (fun k => (hi k : Int)) gap mr r [] 0 free wl best))) := by rw [ez3]; exact h4
  refine lv_iload hx hb d_S_findsMore_16 (lv_at hl 0 rfl) ?_
  refine lv_icmp_le (tgt := 25) hx hb d_S_findsMore_18 (by decide) (fun c4 => ?_) (fun c4 => ?_)
  · have h7 := (nI_leI (by omega) (by omega)).mp c4
    refine lv_iconst (v := 0) hx hb d_S_findsMore_25 (by decide) ?_
    exact w_zret hx hb hr rfl hlk hP hD hS u5 rfl ⟨by rw [if_neg (by omega)], hq5⟩ d_S_findsMore_26
  · have h7 : sr_cop best < sr_cop (sr_try room (fun k => (hi k : Int)) gap mr r [] 0 free wl best) := Nat.lt_of_not_le (fun z => c4 ((nI_leI (by omega) (by omega)).mpr z))
    refine lv_iconst (v := 1) hx hb d_S_findsMore_21 (by decide) ?_
    refine lv_goto (tgt := 26) hx hb d_S_findsMore_22 (by decide) ?_
    exact w_zret hx hb hr rfl hlk hP hD hS u5 rfl ⟨by rw [if_pos h7], hq5⟩ d_S_findsMore_26
