set_option maxHeartbeats 4000000 in
set_option maxRecDepth 100000 in
theorem m_Y_begin {l : Launch} {s0 : State} {D : va_G} {cA sa : Nat → Nat} (Z : zE l s0 D cA sa) (a : Nat → Nat) (ii : Nat → Int32) (li : Nat → Int64) (ia : Nat → Nat → Int32) (la : Nat → Nat → Int64) (l0 y0 g : Int64) (sz : Nat) : Met l y_Y_begin [.code y_Y_begin c_Y_begin 7 none] ({ frames := 0, cells := 0, slots := 0, locals := 0 }) (wP s0 D [.ref (a 0), .long l0, .long y0, .long g] (w_Y a cA ii li ia la) sz) (va_Qv (fun (u : St) => u = (va_up (va_up (va_up ii 11 0) 12 0) 13 0, va_up (va_up (va_up li 14 l0) 15 y0) 16 g, ia, la)) (wB D (va_A (w_Y a cA ii li ia la) sz) (fun (u : St) => w_Y a cA u.1 u.2.1 u.2.2.1 u.2.2.2)) (va_A (w_Y a cA ii li ia la) sz)) 0 0 (va_A (w_Y a cA ii li ia la) sz) := by
  refine wMet Z (by decide) (Nat.le_of_ble_eq_true rfl) ?_
  intro p e s m below meth c hx hb hr hml hown hlk hin hg hK hsz hP hD hA hlo hS ls hl
  subst hsz
  have hown : s.vm.findClass R_Y = some m.cls := hown
  refine lv_aload_n hx hb d_Y_begin_0 rfl (lv_at hl 0 rfl) ?_
  refine lv_iconst (v := 0) hx hb d_Y_begin_1 (by decide) ?_
  refine va_put (D := D) (ci := 3) (v := .int 0) (ty := t_Y 11) (C := R_Y) (T := T_Y) (N := 17) hx hb (uw_Y Z.1 hg.1) (fun _ h => h) t_Y t_Y_ok n_Y hown hK hP hD hS 0 rfl rfl 11 (by decide) (kw153 Z.1 _ _ hg.1) (fun _ h9 => h9) rfl (by decide +kernel) rfl rfl (Nat.le_of_ble_eq_true rfl) d_Y_begin_2 (fun H locs hP hD hS => ?_)
  have hP : va_P D ncl (w_Y a cA (va_up ii 11 0) li ia la) H := hP
  have hD : va_D _ (w_Y a cA (va_up ii 11 0) li ia la) := hD
  refine lv_aload_n hx hb d_Y_begin_5 rfl (lv_at hl 0 rfl) ?_
  refine lv_iconst (v := 0) hx hb d_Y_begin_6 (by decide) ?_
  refine va_put (D := D) (ci := 3) (v := .int 0) (ty := t_Y 12) (C := R_Y) (T := T_Y) (N := 17) hx hb (uw_Y Z.1 hg.1) (fun _ h => h) t_Y t_Y_ok n_Y hown hK hP hD hS 0 rfl rfl 12 (by decide) (kw155 Z.1 _ _ hg.1) (fun _ h9 => h9) rfl (by decide +kernel) rfl rfl (Nat.le_of_ble_eq_true rfl) d_Y_begin_7 (fun H locs hP hD hS => ?_)
  have hP : va_P D ncl (w_Y a cA (va_up (va_up ii 11 0) 12 0) li ia la) H := hP
  have hD : va_D _ (w_Y a cA (va_up (va_up ii 11 0) 12 0) li ia la) := hD
  refine lv_aload_n hx hb d_Y_begin_10 rfl (lv_at hl 0 rfl) ?_
  refine lv_iconst (v := 0) hx hb d_Y_begin_11 (by decide) ?_
  refine va_put (D := D) (ci := 3) (v := .int 0) (ty := t_Y 13) (C := R_Y) (T := T_Y) (N := 17) hx hb (uw_Y Z.1 hg.1) (fun _ h => h) t_Y t_Y_ok n_Y hown hK hP hD hS 0 rfl rfl 13 (by decide) (kw157 Z.1 _ _ hg.1) (fun _ h9 => h9) rfl (by decide +kernel) rfl rfl (Nat.le_of_ble_eq_true rfl) d_Y_begin_12 (fun H locs hP hD hS => ?_)
  have hP : va_P D ncl (w_Y a cA (va_up (va_up (va_up ii 11 0) 12 0) 13 0) li ia la) H := hP
  have hD : va_D _ (w_Y a cA (va_up (va_up (va_up ii 11 0) 12 0) 13 0) li ia la) := hD
  refine lv_aload_n hx hb d_Y_begin_15 rfl (lv_at hl 0 rfl) ?_
  refine lv_lload_n hx hb d_Y_begin_16 rfl (lv_at hl 1 rfl) ?_
  refine va_put (D := D) (ci := 3) (v := .long l0) (ty := t_Y 14) (C := R_Y) (T := T_Y) (N := 17) hx hb (uw_Y Z.1 hg.1) (fun _ h => h) t_Y t_Y_ok n_Y hown hK hP hD hS 0 rfl rfl 14 (by decide) (kw159 Z.1 _ _ hg.1) (fun _ h9 => h9) rfl (by decide +kernel) rfl rfl (Nat.le_of_ble_eq_true rfl) d_Y_begin_17 (fun H locs hP hD hS => ?_)
  have hP : va_P D ncl (w_Y a cA (va_up (va_up (va_up ii 11 0) 12 0) 13 0) (va_up li 14 l0) ia la) H := hP
  have hD : va_D _ (w_Y a cA (va_up (va_up (va_up ii 11 0) 12 0) 13 0) (va_up li 14 l0) ia la) := hD
  refine lv_aload_n hx hb d_Y_begin_20 rfl (lv_at hl 0 rfl) ?_
  refine lv_lload_n hx hb d_Y_begin_21 rfl (lv_at hl 2 rfl) ?_
  refine va_put (D := D) (ci := 3) (v := .long y0) (ty := t_Y 15) (C := R_Y) (T := T_Y) (N := 17) hx hb (uw_Y Z.1 hg.1) (fun _ h => h) t_Y t_Y_ok n_Y hown hK hP hD hS 0 rfl rfl 15 (by decide) (kw160 Z.1 _ _ hg.1) (fun _ h9 => h9) rfl (by decide +kernel) rfl rfl (Nat.le_of_ble_eq_true rfl) d_Y_begin_22 (fun H locs hP hD hS => ?_)
  have hP : va_P D ncl (w_Y a cA (va_up (va_up (va_up ii 11 0) 12 0) 13 0) (va_up (va_up li 14 l0) 15 y0) ia la) H := hP
  have hD : va_D _ (w_Y a cA (va_up (va_up (va_up ii 11 0) 12 0) 13 0) (va_up (va_up li 14 l0) 15 y0) ia la) := hD
  refine lv_aload_n hx hb d_Y_begin_25 rfl (lv_at hl 0 rfl) ?_
  refine lv_lload hx hb d_Y_begin_26 (lv_at hl 3 rfl) ?_
  refine va_put (D := D) (ci := 3) (v := .long g) (ty := t_Y 16) (C := R_Y) (T := T_Y) (N := 17) hx hb (uw_Y Z.1 hg.1) (fun _ h => h) t_Y t_Y_ok n_Y hown hK hP hD hS 0 rfl rfl 16 (by decide) (kw161 Z.1 _ _ hg.1) (fun _ h9 => h9) rfl (by decide +kernel) rfl rfl (Nat.le_of_ble_eq_true rfl) d_Y_begin_28 (fun H locs hP hD hS => ?_)
  have hP : va_P D ncl (w_Y a cA (va_up (va_up (va_up ii 11 0) 12 0) 13 0) (va_up (va_up (va_up li 14 l0) 15 y0) 16 g) ia la) H := hP
  have hD : va_D _ (w_Y a cA (va_up (va_up (va_up ii 11 0) 12 0) 13 0) (va_up (va_up (va_up li 14 l0) 15 y0) 16 g) ia la) := hD
  exact w_vret hx hb hr hlk hP hD hS ((va_up (va_up (va_up ii 11 0) 12 0) 13 0), (va_up (va_up (va_up li 14 l0) 15 y0) 16 g), ia, la) rfl rfl d_Y_begin_31
set_option maxHeartbeats 4000000 in
set_option maxRecDepth 100000 in
theorem m_Y_addCopies {l : Launch} {s0 : State} {D : va_G} {cA sa : Nat → Nat} (Z : zE l s0 D cA sa) (a : Nat → Nat) (ii : Nat → Int32) (li : Nat → Int64) (ia : Nat → Nat → Int32) (la : Nat → Nat → Int64) (c0 n : Nat) (st : Int64) (h12 : ii 12 = nI n) (hn : n + c0 ≤ 160) (sz : Nat) : Met l y_Y_addCopies [.code y_Y_addCopies c_Y_addCopies 5 none] ({ frames := 0, cells := 0, slots := 0, locals := 0 }) (wP s0 D [.ref (a 0), .int (nI c0), .long st] (w_Y a cA ii li ia la) sz) (va_Qv (fun (u : St) => u.1 = va_up ii 12 (nI (n + c0)) ∧ u.2.1 = li ∧ (∀ z, z ≠ 6 → z ≠ 8 → u.2.2.1 z = ia z) ∧ (∀ z, z ≠ 7 → u.2.2.2 z = la z) ∧ (∀ j, j < n → u.2.2.1 6 j = ia 6 j ∧ u.2.2.1 8 j = ia 8 j ∧ u.2.2.2 7 j = la 7 j) ∧ (∀ i, i < c0 → u.2.2.1 6 (n + i) = ii 11 ∧ u.2.2.1 8 (n + i) = 0 ∧ u.2.2.2 7 (n + i) = li 14 + lZ i * st)) (wB D (va_A (w_Y a cA ii li ia la) sz) (fun (u : St) => w_Y a cA u.1 u.2.1 u.2.2.1 u.2.2.2)) (va_A (w_Y a cA ii li ia la) sz)) 0 0 (va_A (w_Y a cA ii li ia la) sz) := by
  refine wMet Z (by decide) (Nat.le_of_ble_eq_true rfl) ?_
  intro p e s m below meth c hx hb hr hml hown hlk hin hg hK hsz hP hD hA hlo hS ls hl
  subst hsz
  have hown : s.vm.findClass R_Y = some m.cls := hown
  refine lv_iconst (v := 0) hx hb d_Y_addCopies_0 (by decide) ?_
  refine lv_topi (fun z1 ez1 => ?_)
  obtain rfl : z1 = (nI 0) := by rw [ez1]; rfl
  refine lv_istore (lv' := [(4, .int (nI 0)), (0, .ref (a 0)), (1, .int (nI c0)), (2, .long st)]) hx hb d_Y_addCopies_1 hl (by decide) rfl (fun ls hl => ?_)
  have loop : ∀ (f : Nat) (k : Nat) (v : St), c0 - k < f → k ≤ c0 → v.1 = va_up ii 12 (nI (n + k)) → v.2.1 = li → (∀ z, z ≠ 6 → z ≠ 8 → v.2.2.1 z = ia z) → (∀ z, z ≠ 7 → v.2.2.2 z = la z) → (∀ j, j < n → v.2.2.1 6 j = ia 6 j ∧ v.2.2.1 8 j = ia 8 j ∧ v.2.2.2 7 j = la 7 j) → (∀ i, i < k → v.2.2.1 6 (n + i) = ii 11 ∧ v.2.2.1 8 (n + i) = 0 ∧ v.2.2.2 7 (n + i) = li 14 + lZ i * st) → ∀ (H : Heap) (locs : List Loc), va_P D ncl (w_Y a cA v.1 v.2.1 v.2.2.1 v.2.2.2) H → va_D (va_A (w_Y a cA ii li ia la) s.heap.size) (w_Y a cA v.1 v.2.1 v.2.2.1 v.2.2.2) → va_S (va_A (w_Y a cA ii li ia la) s.heap.size) s.heap H locs → ∀ (ls : Array Slot), lv_has ls 5 [(0, .ref (a 0)), (1, .int (nI c0)), (2, .long st), (4, .int (nI k))] → W p l e ({ frames := 0, cells := 0, slots := 0, locals := 0 }) s m ([.ref (a 0), .int (nI c0), .long st] : List Value).toArray below meth c H locs 0 0 (MQ below (va_Qv (fun (u : St) => u.1 = va_up ii 12 (nI (n + c0)) ∧ u.2.1 = li ∧ (∀ z, z ≠ 6 → z ≠ 8 → u.2.2.1 z = ia z) ∧ (∀ z, z ≠ 7 → u.2.2.2 z = la z) ∧ (∀ j, j < n → u.2.2.1 6 j = ia 6 j ∧ u.2.2.1 8 j = ia 8 j ∧ u.2.2.2 7 j = la 7 j) ∧ (∀ i, i < c0 → u.2.2.1 6 (n + i) = ii 11 ∧ u.2.2.1 8 (n + i) = 0 ∧ u.2.2.2 7 (n + i) = li 14 + lZ i * st)) (wB D (va_A (w_Y a cA ii li ia la) s.heap.size) (fun (u : St) => w_Y a cA u.1 u.2.1 u.2.2.1 u.2.2.2)) (va_A (w_Y a cA ii li ia la) s.heap.size)) ([.ref (a 0), .int (nI c0), .long st] : List Value).toArray s 0 0 (va_A (w_Y a cA ii li ia la) s.heap.size)) (F0 m 3 ls []) := by
    intro f
    induction f with
    | zero => intro k v h; exact absurd h (Nat.not_lt_zero _)
    | succ f ih =>
      intro k v hf hk h1 h2 h3 h4 h5 h6 H locs hP hD hS ls hl
      refine lv_iload hx hb d_Y_addCopies_3 (lv_at hl 3 rfl) ?_
      refine lv_iload_n hx hb d_Y_addCopies_5 rfl (lv_at hl 1 rfl) ?_
      refine lv_icmp_ge (tgt := 77) hx hb d_Y_addCopies_6 (by decide) (fun c2 => ?_) (fun c2 => ?_)
      · obtain rfl : k = c0 := by have := (nI_leI (by omega) (by omega)).mp c2; omega
        exact w_vret hx hb hr hlk hP hD hS v rfl ⟨h1, h2, h3, h4, h5, h6⟩ d_Y_addCopies_77
      · have hkn : k < c0 := Nat.lt_of_not_le (fun z => c2 ((nI_leI (by omega) (by omega)).mpr z))
        have hc2 : v.1 12 = nI (n + k) := by rw [h1, up_s]
        have hr2 : v.1 11 = ii 11 := by rw [h1, up_n _ _ (by decide)]
        refine lv_aload_n hx hb d_Y_addCopies_9 rfl (lv_at hl 0 rfl) ?_
        refine va_get (D := D) (ci := 3) (v := .int (v.1 12)) (C := R_Y) (T := T_Y) (N := 17) hx hb (uw_Y Z.1 hg.1) (fun _ h => h) hown hK hP 0 rfl rfl 12 (by decide) (kw155 Z.1 _ _ hg.1) (fun _ h9 => h9) rfl d_Y_addCopies_10 ?_
        refine lv_sipush (v := 160) hx hb d_Y_addCopies_13 (by decide) ?_
        refine lv_icmp_ge (tgt := 77) hx hb d_Y_addCopies_16 (by decide) (fun k3 => by first | exact absurd (show ¬ (160 : Int32) ≤ v.1 12 by rw [hc2]; exact nI_ge (b := 160) (by omega) (by decide)) k3 | exact absurd k3 (show ¬ (160 : Int32) ≤ v.1 12 by rw [hc2]; exact nI_ge (b := 160) (by omega) (by decide))) (fun _ => ?_)
        have hcl : (v.1 12).toNatClampNeg = n + k := by rw [hc2]; exact nI_clamp (by omega)
        refine lv_aload_n hx hb d_Y_addCopies_19 rfl (lv_at hl 0 rfl) ?_
        refine va_get (D := D) (ci := 3) (v := .ref (a 7)) (C := R_Y) (T := T_Y) (N := 17) hx hb (uw_Y Z.1 hg.1) (fun _ h => h) hown hK hP 0 rfl rfl 6 (by decide) (kw143 Z.1 _ _ hg.1) (fun _ h9 => h9) rfl d_Y_addCopies_20 ?_
        refine lv_aload_n hx hb d_Y_addCopies_23 rfl (lv_at hl 0 rfl) ?_
        refine va_get (D := D) (ci := 3) (v := .int (v.1 12)) (C := R_Y) (T := T_Y) (N := 17) hx hb (uw_Y Z.1 hg.1) (fun _ h => h) hown hK hP 0 rfl rfl 12 (by decide) (kw155 Z.1 _ _ hg.1) (fun _ h9 => h9) rfl d_Y_addCopies_24 ?_
        refine lv_aload_n hx hb d_Y_addCopies_27 rfl (lv_at hl 0 rfl) ?_
        refine va_get (D := D) (ci := 3) (v := .int (v.1 11)) (C := R_Y) (T := T_Y) (N := 17) hx hb (uw_Y Z.1 hg.1) (fun _ h => h) hown hK hP 0 rfl rfl 11 (by decide) (kw153 Z.1 _ _ hg.1) (fun _ h9 => h9) rfl d_Y_addCopies_28 ?_
        refine va_iast hx hb hK hP hD hS 7 0 rfl rfl (by rw [hc2]; exact vp_in_nI (N := 160) (by omega) (by decide)) d_Y_addCopies_31 (fun H locs hP hD hS => ?_)
        have hP : va_P D ncl (w_Y a cA v.1 v.2.1 (va_up v.2.2.1 6 (upd (v.2.2.1 6) (Int32.toNatClampNeg (v.1 12)) (v.1 11))) v.2.2.2) H := hP
        have hD : va_D _ (w_Y a cA v.1 v.2.1 (va_up v.2.2.1 6 (upd (v.2.2.1 6) (Int32.toNatClampNeg (v.1 12)) (v.1 11))) v.2.2.2) := hD
        refine lv_aload_n hx hb d_Y_addCopies_32 rfl (lv_at hl 0 rfl) ?_
        refine va_get (D := D) (ci := 3) (v := .ref (a 8)) (C := R_Y) (T := T_Y) (N := 17) hx hb (uw_Y Z.1 hg.1) (fun _ h => h) hown hK hP 0 rfl rfl 7 (by decide) (kw145 Z.1 _ _ hg.1) (fun _ h9 => h9) rfl d_Y_addCopies_33 ?_
        refine lv_aload_n hx hb d_Y_addCopies_36 rfl (lv_at hl 0 rfl) ?_
        refine va_get (D := D) (ci := 3) (v := .int (v.1 12)) (C := R_Y) (T := T_Y) (N := 17) hx hb (uw_Y Z.1 hg.1) (fun _ h => h) hown hK hP 0 rfl rfl 12 (by decide) (kw155 Z.1 _ _ hg.1) (fun _ h9 => h9) rfl d_Y_addCopies_37 ?_
        refine lv_aload_n hx hb d_Y_addCopies_40 rfl (lv_at hl 0 rfl) ?_
        refine va_get (D := D) (ci := 3) (v := .long (v.2.1 14)) (C := R_Y) (T := T_Y) (N := 17) hx hb (uw_Y Z.1 hg.1) (fun _ h => h) hown hK hP 0 rfl rfl 14 (by decide) (kw159 Z.1 _ _ hg.1) (fun _ h9 => h9) rfl d_Y_addCopies_41 ?_
        refine lv_iload hx hb d_Y_addCopies_44 (lv_at hl 3 rfl) ?_
        refine lv_i2l hx hb d_Y_addCopies_46 rfl ?_
        refine lv_lload_n hx hb d_Y_addCopies_47 rfl (lv_at hl 2 rfl) ?_
        refine lv_lmul hx hb d_Y_addCopies_48 ?_
        refine lv_topl (fun z4 ez4 => ?_)
        obtain rfl : z4 = (lZ k * st) := by rw [ez4]; rw [iN_i2l (by omega)]
        refine lv_ladd hx hb d_Y_addCopies_49 ?_
        refine va_last hx hb hK hP hD hS 8 1 rfl rfl (by rw [hc2]; exact vp_in_nI (N := 160) (by omega) (by decide)) d_Y_addCopies_50 (fun H locs hP hD hS => ?_)
        have hP : va_P D ncl (w_Y a cA v.1 v.2.1 (va_up v.2.2.1 6 (upd (v.2.2.1 6) (Int32.toNatClampNeg (v.1 12)) (v.1 11))) (va_up v.2.2.2 7 (vp_updL (v.2.2.2 7) (Int32.toNatClampNeg (v.1 12)) ((v.2.1 14) + (lZ k * st))))) H := hP
        have hD : va_D _ (w_Y a cA v.1 v.2.1 (va_up v.2.2.1 6 (upd (v.2.2.1 6) (Int32.toNatClampNeg (v.1 12)) (v.1 11))) (va_up v.2.2.2 7 (vp_updL (v.2.2.2 7) (Int32.toNatClampNeg (v.1 12)) ((v.2.1 14) + (lZ k * st))))) := hD
        refine lv_aload_n hx hb d_Y_addCopies_51 rfl (lv_at hl 0 rfl) ?_
        refine va_get (D := D) (ci := 3) (v := .ref (a 9)) (C := R_Y) (T := T_Y) (N := 17) hx hb (uw_Y Z.1 hg.1) (fun _ h => h) hown hK hP 0 rfl rfl 8 (by decide) (kw147 Z.1 _ _ hg.1) (fun _ h9 => h9) rfl d_Y_addCopies_52 ?_
        refine lv_aload_n hx hb d_Y_addCopies_55 rfl (lv_at hl 0 rfl) ?_
        refine va_get (D := D) (ci := 3) (v := .int (v.1 12)) (C := R_Y) (T := T_Y) (N := 17) hx hb (uw_Y Z.1 hg.1) (fun _ h => h) hown hK hP 0 rfl rfl 12 (by decide) (kw155 Z.1 _ _ hg.1) (fun _ h9 => h9) rfl d_Y_addCopies_56 ?_
        refine lv_iconst (v := 0) hx hb d_Y_addCopies_59 (by decide) ?_
        refine va_zast hx hb hK hP hD hS 9 2 rfl rfl (by rw [hc2]; exact vp_in_nI (N := 160) (by omega) (by decide)) d_Y_addCopies_60 (fun H locs hP hD hS => ?_)
        have hP : va_P D ncl (w_Y a cA v.1 v.2.1 (va_up (va_up v.2.2.1 6 (upd (v.2.2.1 6) (Int32.toNatClampNeg (v.1 12)) (v.1 11))) 8 (upd (v.2.2.1 8) (Int32.toNatClampNeg (v.1 12)) (vp_nar .boolean 0))) (va_up v.2.2.2 7 (vp_updL (v.2.2.2 7) (Int32.toNatClampNeg (v.1 12)) ((v.2.1 14) + (lZ k * st))))) H := hP
        have hD : va_D _ (w_Y a cA v.1 v.2.1 (va_up (va_up v.2.2.1 6 (upd (v.2.2.1 6) (Int32.toNatClampNeg (v.1 12)) (v.1 11))) 8 (upd (v.2.2.1 8) (Int32.toNatClampNeg (v.1 12)) (vp_nar .boolean 0))) (va_up v.2.2.2 7 (vp_updL (v.2.2.2 7) (Int32.toNatClampNeg (v.1 12)) ((v.2.1 14) + (lZ k * st))))) := hD
        refine lv_aload_n hx hb d_Y_addCopies_61 rfl (lv_at hl 0 rfl) ?_
        refine lv_dup hx hb d_Y_addCopies_62 rfl ?_
        refine va_get (D := D) (ci := 3) (v := .int (v.1 12)) (C := R_Y) (T := T_Y) (N := 17) hx hb (uw_Y Z.1 hg.1) (fun _ h => h) hown hK hP 0 rfl rfl 12 (by decide) (kw155 Z.1 _ _ hg.1) (fun _ h9 => h9) rfl d_Y_addCopies_63 ?_
        refine lv_iconst (v := 1) hx hb d_Y_addCopies_66 (by decide) ?_
        refine lv_iadd hx hb d_Y_addCopies_67 ?_
        refine va_put (D := D) (ci := 3) (v := .int ((v.1 12) + 1)) (ty := t_Y 12) (C := R_Y) (T := T_Y) (N := 17) hx hb (uw_Y Z.1 hg.1) (fun _ h => h) t_Y t_Y_ok n_Y hown hK hP hD hS 0 rfl rfl 12 (by decide) (kw155 Z.1 _ _ hg.1) (fun _ h9 => h9) rfl (by decide +kernel) rfl rfl (Nat.le_of_ble_eq_true rfl) d_Y_addCopies_68 (fun H locs hP hD hS => ?_)
        have hP : va_P D ncl (w_Y a cA (va_up v.1 12 ((v.1 12) + 1)) v.2.1 (va_up (va_up v.2.2.1 6 (upd (v.2.2.1 6) (Int32.toNatClampNeg (v.1 12)) (v.1 11))) 8 (upd (v.2.2.1 8) (Int32.toNatClampNeg (v.1 12)) (vp_nar .boolean 0))) (va_up v.2.2.2 7 (vp_updL (v.2.2.2 7) (Int32.toNatClampNeg (v.1 12)) ((v.2.1 14) + (lZ k * st))))) H := hP
        have hD : va_D _ (w_Y a cA (va_up v.1 12 ((v.1 12) + 1)) v.2.1 (va_up (va_up v.2.2.1 6 (upd (v.2.2.1 6) (Int32.toNatClampNeg (v.1 12)) (v.1 11))) 8 (upd (v.2.2.1 8) (Int32.toNatClampNeg (v.1 12)) (vp_nar .boolean 0))) (va_up v.2.2.2 7 (vp_updL (v.2.2.2 7) (Int32.toNatClampNeg (v.1 12)) ((v.2.1 14) + (lZ k * st))))) := hD
        obtain ⟨v5, ev5⟩ : ∃ y : Int32, y = (nI k) + 1 := ⟨_, rfl⟩
        refine lv_iinc (v := v5) (lv' := [(4, .int v5), (0, .ref (a 0)), (1, .int (nI c0)), (2, .long st)]) hx hb d_Y_addCopies_71 hl (k := 3) rfl (by rw [ev5]; rfl) (by decide) rfl (fun ls hl => ?_)
        refine lv_goto (tgt := 3) hx hb d_Y_addCopies_74 (by decide) ?_
        obtain rfl : v5 = nI (k + 1) := by rw [ev5]; exact nI_1 k
        have e6 : (va_up (va_up v.2.2.1 6 (upd (v.2.2.1 6) (Int32.toNatClampNeg (v.1 12)) (v.1 11))) 8 (upd (v.2.2.1 8) (Int32.toNatClampNeg (v.1 12)) (vp_nar .boolean 0))) 6 = upd (v.2.2.1 6) (n + k) (ii 11) := by rw [up_n _ _ (by decide), up_s, hcl, hr2]
        have e8 : (va_up (va_up v.2.2.1 6 (upd (v.2.2.1 6) (Int32.toNatClampNeg (v.1 12)) (v.1 11))) 8 (upd (v.2.2.1 8) (Int32.toNatClampNeg (v.1 12)) (vp_nar .boolean 0))) 8 = upd (v.2.2.1 8) (n + k) 0 := by rw [up_s, hcl]; rfl
        have e7 : (va_up v.2.2.2 7 (vp_updL (v.2.2.2 7) (Int32.toNatClampNeg (v.1 12)) ((v.2.1 14) + (lZ k * st)))) 7 = vp_updL (v.2.2.2 7) (n + k) (li 14 + lZ k * st) := by rw [up_s, hcl, h2]
        refine ih (k + 1) ((va_up v.1 12 ((v.1 12) + 1)), v.2.1, (va_up (va_up v.2.2.1 6 (upd (v.2.2.1 6) (Int32.toNatClampNeg (v.1 12)) (v.1 11))) 8 (upd (v.2.2.1 8) (Int32.toNatClampNeg (v.1 12)) (vp_nar .boolean 0))), (va_up v.2.2.2 7 (vp_updL (v.2.2.2 7) (Int32.toNatClampNeg (v.1 12)) ((v.2.1 14) + (lZ k * st))))) (by omega) (by omega) ?_ h2 ?_ ?_ ?_ ?_ _ _ hP hD hS ls (lv_sub hl [1, 2, 3, 0] rfl)
        · show (va_up v.1 12 ((v.1 12) + 1)) = _
          rw [hc2, nI_1, h1]; exact bx_uu _ _ _ _
        · intro z z1 z2
          show (va_up (va_up v.2.2.1 6 (upd (v.2.2.1 6) (Int32.toNatClampNeg (v.1 12)) (v.1 11))) 8 (upd (v.2.2.1 8) (Int32.toNatClampNeg (v.1 12)) (vp_nar .boolean 0))) z = _
          rw [up_n _ _ z2, up_n _ _ z1]; exact h3 z z1 z2
        · intro z z1
          show (va_up v.2.2.2 7 (vp_updL (v.2.2.2 7) (Int32.toNatClampNeg (v.1 12)) ((v.2.1 14) + (lZ k * st)))) z = _
          rw [up_n _ _ z1]; exact h4 z z1
        · intro j hj
          show (va_up (va_up v.2.2.1 6 (upd (v.2.2.1 6) (Int32.toNatClampNeg (v.1 12)) (v.1 11))) 8 (upd (v.2.2.1 8) (Int32.toNatClampNeg (v.1 12)) (vp_nar .boolean 0))) 6 j = _ ∧ (va_up (va_up v.2.2.1 6 (upd (v.2.2.1 6) (Int32.toNatClampNeg (v.1 12)) (v.1 11))) 8 (upd (v.2.2.1 8) (Int32.toNatClampNeg (v.1 12)) (vp_nar .boolean 0))) 8 j = _ ∧ (va_up v.2.2.2 7 (vp_updL (v.2.2.2 7) (Int32.toNatClampNeg (v.1 12)) ((v.2.1 14) + (lZ k * st)))) 7 j = _
          rw [e6, e8, e7, upd_n _ _ (by omega), upd_n _ _ (by omega), updL_n _ _ (by omega)]; exact h5 j hj
        · intro i hi
          show (va_up (va_up v.2.2.1 6 (upd (v.2.2.1 6) (Int32.toNatClampNeg (v.1 12)) (v.1 11))) 8 (upd (v.2.2.1 8) (Int32.toNatClampNeg (v.1 12)) (vp_nar .boolean 0))) 6 (n + i) = _ ∧ (va_up (va_up v.2.2.1 6 (upd (v.2.2.1 6) (Int32.toNatClampNeg (v.1 12)) (v.1 11))) 8 (upd (v.2.2.1 8) (Int32.toNatClampNeg (v.1 12)) (vp_nar .boolean 0))) 8 (n + i) = _ ∧ (va_up v.2.2.2 7 (vp_updL (v.2.2.2 7) (Int32.toNatClampNeg (v.1 12)) ((v.2.1 14) + (lZ k * st)))) 7 (n + i) = _
          rw [e6, e8, e7]
          rcases Nat.lt_or_ge i k with q | q
          · rw [upd_n _ _ (by omega), upd_n _ _ (by omega), updL_n _ _ (by omega)]; exact h6 i q
          · obtain rfl : i = k := by omega
            rw [upd_s, upd_s, updL_s]; exact ⟨rfl, rfl, rfl⟩
  exact loop (c0 + 1) 0 (ii, li, ia, la) (by omega) (by omega) (by show ii = _; rw [Nat.add_zero, ← h12]; funext z; by_cases hz : z = 12; (subst hz; rw [up_s]); rw [up_n _ _ hz]) rfl (fun _ _ _ => rfl) (fun _ _ => rfl) (fun _ _ => ⟨rfl, rfl, rfl⟩) (fun _ h => absurd h (Nat.not_lt_zero _)) _ _ hP hD hS ls (lv_sub hl [1, 2, 3, 0] rfl)
