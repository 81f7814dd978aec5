theorem sc_keep {P : Prop} [Decidable P] {u : St} {ii : Nat → Int32} {li : Nat → Int64} {ia : Nat → Nat → Int32} {la : Nat → Nat → Int64} {X X2 : Nat → Int32} {w : Int32} {V : Nat → Int64} (hu : u = if P then (ii, li, va_up ia 10 X, la) else (va_up ii 13 w, li, va_up ia 10 X2, va_up la 9 V)) :
    (∀ z, z ≠ 13 → u.1 z = ii z) ∧ u.2.1 = li ∧ (∀ z, z ≠ 10 → u.2.2.1 z = ia z) ∧ (∀ z, z ≠ 9 → u.2.2.2 z = la z) := by
  rw [hu]
  split
  · exact ⟨fun _ _ => rfl, rfl, fun z hz => up_n _ _ hz, fun _ _ => rfl⟩
  · exact ⟨fun z hz => up_n _ _ hz, rfl, fun z hz => up_n _ _ hz, fun z hz => up_n _ _ hz⟩
theorem ly_off : ∀ (rw : List Rw) (r : Nat), r < rw.length → ly_n (rw.take r) + (rw.getD r rw0).2.2.1 ≤ ly_n rw := by
  intro rw
  induction rw with
  | nil => intro r h; simp at h
  | cons q rw ih =>
    intro r h
    cases r with
    | zero => simp [ly_n]
    | succ r =>
      have := ih r (by simp at h; omega)
      simp only [ly_n, List.take_succ_cons, List.map_cons, List.sum_cons, List.getD_cons_succ] at this ⊢
      omega
set_option maxHeartbeats 4000000 in
set_option maxRecDepth 100000 in
theorem m_Y_addRow {l : Launch} {s0 : State} {D : va_G} {cA sa : Nat → Nat} (Z : zE l s0 D cA sa) (a : Nat → Nat) (ii : Nat → Int32) (li : Nat → Int64) (ia : Nat → Nat → Int32) (la : Nat → Nat → Int64) (l0 y0 g : Nat) (rw : List Rw) (q : Rw) (hy : yR l0 y0 g rw (fun _ => false) (ii, li, ia, la)) (hok : okR l0 y0 g (rw ++ [q])) (sz : Nat) : Met l y_Y_addRow [.code y_Y_addRow c_Y_addRow 8 none] ({ frames := 1, cells := 0, slots := 0, locals := 40 }) (wP s0 D [.ref (a 0), .int (nI q.1), .int (nI q.2.1), .long (lN q.2.2.2.1), .long (lN q.2.2.2.2), .int (nI q.2.2.1)] (w_Y a cA ii li ia la) sz) (va_Qv (fun (u : St) => yR l0 y0 g (rw ++ [q]) (fun _ => false) u) (wB D (va_A (w_Y a cA ii li ia la) sz) (fun (u : St) => w_Y a cA u.1 u.2.1 u.2.2.1 u.2.2.2)) (va_A (w_Y a cA ii li ia la) sz)) 0 0 (va_A (w_Y a cA ii li ia la) sz) := by
  refine wMet Z (by decide) (Nat.le_of_ble_eq_true rfl) ?_
  intro p e s m below meth c hx hb hr hml hown hlk hin hg hK hsz hP hD hA hlo hS ls hl
  subst hsz
  have hown : s.vm.findClass R_Y = some m.cls := hown
  obtain ⟨⟨h11, h12⟩, ⟨h14, h15, h16⟩, hrf, hbad, hsc, hsl, hsb⟩ := id hy
  dsimp only at h11 h12 h14 h15 h16
  obtain ⟨ok1, ok2, ok3, ok4, ok5⟩ := id hok
  obtain ⟨q1, q2, q3, q4, q5, q6, q7, q8⟩ := ok5 q (List.mem_append_right _ List.mem_cons_self)
  have hN : rw.length ≤ 7 := by simp at ok4; omega
  have hn : ly_n rw ≤ 140 := Nat.le_trans (ok_n (fun z hz => (ok5 z (List.mem_append_left _ hz)).2.2.2.1)) (by omega)
  have hYb : ly_y y0 g rw ≤ 1000000 := Nat.le_trans (ok_y ok3 (fun z hz => (ok5 z (List.mem_append_left _ hz)).2.2.2.2.2.2.2)) (by omega)
  refine lv_aload_n hx hb d_Y_addRow_0 rfl (lv_at hl 0 rfl) ?_
  refine va_get (D := D) (ci := 3) (v := .int (ii 11)) (C := R_Y) (T := T_Y) (N := 17) hx hb (uw_Y Z.1 hg.1) (fun _ h => h) hown hK hP 0 rfl rfl 11 (by decide) (kw153 Z.1 _ _ hg.1) (fun _ h9 => h9) rfl d_Y_addRow_1 ?_
  refine lv_bipush (v := 8) hx hb d_Y_addRow_4 (by decide) ?_
  refine lv_icmp_lt (tgt := 10) hx hb d_Y_addRow_6 (by decide) (fun _ => ?_) (fun k1 => by first | exact absurd (show ii 11 < (8 : Int32) by rw [h11]; exact nI_lt (b := 8) (by omega) (by decide)) k1 | exact absurd k1 (show ii 11 < (8 : Int32) by rw [h11]; exact nI_lt (b := 8) (by omega) (by decide)))
  refine lv_aload_n hx hb d_Y_addRow_10 rfl (lv_at hl 0 rfl) ?_
  refine va_get (D := D) (ci := 3) (v := .ref (a 1)) (C := R_Y) (T := T_Y) (N := 17) hx hb (uw_Y Z.1 hg.1) (fun _ h => h) hown hK hP 0 rfl rfl 0 (by decide) (kw131 Z.1 _ _ hg.1) (fun _ h9 => h9) rfl d_Y_addRow_11 ?_
  refine lv_aload_n hx hb d_Y_addRow_14 rfl (lv_at hl 0 rfl) ?_
  refine va_get (D := D) (ci := 3) (v := .int (ii 11)) (C := R_Y) (T := T_Y) (N := 17) hx hb (uw_Y Z.1 hg.1) (fun _ h => h) hown hK hP 0 rfl rfl 11 (by decide) (kw153 Z.1 _ _ hg.1) (fun _ h9 => h9) rfl d_Y_addRow_15 ?_
  refine lv_topi (fun z2 ez2 => ?_)
  obtain rfl : z2 = (nI rw.length) := by rw [ez2]; exact h11
  refine lv_iload_n hx hb d_Y_addRow_18 rfl (lv_at hl 1 rfl) ?_
  refine va_iast hx hb hK hP hD hS 1 0 rfl rfl (vp_in_nI (n := rw.length) (N := 8) (by omega) (by decide)) d_Y_addRow_19 (fun H locs hP hD hS => ?_)
  rw [nI_clamp (n := rw.length) (by omega)] at hP hD
  have hP : va_P D ncl (w_Y a cA ii li (va_up ia 0 (upd (ia 0) rw.length (nI q.1))) la) H := hP
  have hD : va_D _ (w_Y a cA ii li (va_up ia 0 (upd (ia 0) rw.length (nI q.1))) la) := hD
  refine lv_aload_n hx hb d_Y_addRow_20 rfl (lv_at hl 0 rfl) ?_
  refine va_get (D := D) (ci := 3) (v := .ref (a 2)) (C := R_Y) (T := T_Y) (N := 17) hx hb (uw_Y Z.1 hg.1) (fun _ h => h) hown hK hP 0 rfl rfl 1 (by decide) (kw133 Z.1 _ _ hg.1) (fun _ h9 => h9) rfl d_Y_addRow_21 ?_
  refine lv_aload_n hx hb d_Y_addRow_24 rfl (lv_at hl 0 rfl) ?_
  refine va_get (D := D) (ci := 3) (v := .int (ii 11)) (C := R_Y) (T := T_Y) (N := 17) hx hb (uw_Y Z.1 hg.1) (fun _ h => h) hown hK hP 0 rfl rfl 11 (by decide) (kw153 Z.1 _ _ hg.1) (fun _ h9 => h9) rfl d_Y_addRow_25 ?_
  refine lv_topi (fun z3 ez3 => ?_)
  obtain rfl : z3 = (nI rw.length) := by rw [ez3]; exact h11
  refine lv_iload_n hx hb d_Y_addRow_28 rfl (lv_at hl 2 rfl) ?_
  refine va_iast hx hb hK hP hD hS 2 0 rfl rfl (vp_in_nI (n := rw.length) (N := 8) (by omega) (by decide)) d_Y_addRow_29 (fun H locs hP hD hS => ?_)
  rw [nI_clamp (n := rw.length) (by omega)] at hP hD
  have hP : va_P D ncl (w_Y a cA ii li (va_up (va_up ia 0 (upd (ia 0) rw.length (nI q.1))) 1 (upd (ia 1) rw.length (nI q.2.1))) la) H := hP
  have hD : va_D _ (w_Y a cA ii li (va_up (va_up ia 0 (upd (ia 0) rw.length (nI q.1))) 1 (upd (ia 1) rw.length (nI q.2.1))) la) := hD
  refine lv_aload_n hx hb d_Y_addRow_30 rfl (lv_at hl 0 rfl) ?_
  refine va_get (D := D) (ci := 3) (v := .ref (a 3)) (C := R_Y) (T := T_Y) (N := 17) hx hb (uw_Y Z.1 hg.1) (fun _ h => h) hown hK hP 0 rfl rfl 2 (by decide) (kw135 Z.1 _ _ hg.1) (fun _ h9 => h9) rfl d_Y_addRow_31 ?_
  refine lv_aload_n hx hb d_Y_addRow_34 rfl (lv_at hl 0 rfl) ?_
  refine va_get (D := D) (ci := 3) (v := .int (ii 11)) (C := R_Y) (T := T_Y) (N := 17) hx hb (uw_Y Z.1 hg.1) (fun _ h => h) hown hK hP 0 rfl rfl 11 (by decide) (kw153 Z.1 _ _ hg.1) (fun _ h9 => h9) rfl d_Y_addRow_35 ?_
  refine lv_topi (fun z4 ez4 => ?_)
  obtain rfl : z4 = (nI rw.length) := by rw [ez4]; exact h11
  refine lv_iload hx hb d_Y_addRow_38 (lv_at hl 5 rfl) ?_
  refine va_iast hx hb hK hP hD hS 3 0 rfl rfl (vp_in_nI (n := rw.length) (N := 8) (by omega) (by decide)) d_Y_addRow_40 (fun H locs hP hD hS => ?_)
  rw [nI_clamp (n := rw.length) (by omega)] at hP hD
  have hP : va_P D ncl (w_Y a cA ii li (va_up (va_up (va_up ia 0 (upd (ia 0) rw.length (nI q.1))) 1 (upd (ia 1) rw.length (nI q.2.1))) 2 (upd (ia 2) rw.length (nI q.2.2.1))) la) H := hP
  have hD : va_D _ (w_Y a cA ii li (va_up (va_up (va_up ia 0 (upd (ia 0) rw.length (nI q.1))) 1 (upd (ia 1) rw.length (nI q.2.1))) 2 (upd (ia 2) rw.length (nI q.2.2.1))) la) := hD
  refine lv_aload_n hx hb d_Y_addRow_41 rfl (lv_at hl 0 rfl) ?_
  refine va_get (D := D) (ci := 3) (v := .ref (a 4)) (C := R_Y) (T := T_Y) (N := 17) hx hb (uw_Y Z.1 hg.1) (fun _ h => h) hown hK hP 0 rfl rfl 3 (by decide) (kw137 Z.1 _ _ hg.1) (fun _ h9 => h9) rfl d_Y_addRow_42 ?_
  refine lv_aload_n hx hb d_Y_addRow_45 rfl (lv_at hl 0 rfl) ?_
  refine va_get (D := D) (ci := 3) (v := .int (ii 11)) (C := R_Y) (T := T_Y) (N := 17) hx hb (uw_Y Z.1 hg.1) (fun _ h => h) hown hK hP 0 rfl rfl 11 (by decide) (kw153 Z.1 _ _ hg.1) (fun _ h9 => h9) rfl d_Y_addRow_46 ?_
  refine lv_topi (fun z5 ez5 => ?_)
  obtain rfl : z5 = (nI rw.length) := by rw [ez5]; exact h11
  refine lv_aload_n hx hb d_Y_addRow_49 rfl (lv_at hl 0 rfl) ?_
  refine va_get (D := D) (ci := 3) (v := .long (li 15)) (C := R_Y) (T := T_Y) (N := 17) hx hb (uw_Y Z.1 hg.1) (fun _ h => h) hown hK hP 0 rfl rfl 15 (by decide) (kw160 Z.1 _ _ hg.1) (fun _ h9 => h9) rfl d_Y_addRow_50 ?_
  refine lv_topl (fun z6 ez6 => ?_)
  obtain rfl : z6 = (lN (ly_y y0 g rw)) := by rw [ez6]; exact h15
  refine va_last hx hb hK hP hD hS 4 1 rfl rfl (vp_in_nI (n := rw.length) (N := 8) (by omega) (by decide)) d_Y_addRow_53 (fun H locs hP hD hS => ?_)
  rw [nI_clamp (n := rw.length) (by omega)] at hP hD
  have hP : va_P D ncl (w_Y a cA ii li (va_up (va_up (va_up ia 0 (upd (ia 0) rw.length (nI q.1))) 1 (upd (ia 1) rw.length (nI q.2.1))) 2 (upd (ia 2) rw.length (nI q.2.2.1))) (va_up la 3 (vp_updL (la 3) rw.length (lN (ly_y y0 g rw))))) H := hP
  have hD : va_D _ (w_Y a cA ii li (va_up (va_up (va_up ia 0 (upd (ia 0) rw.length (nI q.1))) 1 (upd (ia 1) rw.length (nI q.2.1))) 2 (upd (ia 2) rw.length (nI q.2.2.1))) (va_up la 3 (vp_updL (la 3) rw.length (lN (ly_y y0 g rw))))) := hD
  refine lv_aload_n hx hb d_Y_addRow_54 rfl (lv_at hl 0 rfl) ?_
  refine va_get (D := D) (ci := 3) (v := .ref (a 5)) (C := R_Y) (T := T_Y) (N := 17) hx hb (uw_Y Z.1 hg.1) (fun _ h => h) hown hK hP 0 rfl rfl 4 (by decide) (kw139 Z.1 _ _ hg.1) (fun _ h9 => h9) rfl d_Y_addRow_55 ?_
  refine lv_aload_n hx hb d_Y_addRow_58 rfl (lv_at hl 0 rfl) ?_
  refine va_get (D := D) (ci := 3) (v := .int (ii 11)) (C := R_Y) (T := T_Y) (N := 17) hx hb (uw_Y Z.1 hg.1) (fun _ h => h) hown hK hP 0 rfl rfl 11 (by decide) (kw153 Z.1 _ _ hg.1) (fun _ h9 => h9) rfl d_Y_addRow_59 ?_
  refine lv_topi (fun z7 ez7 => ?_)
  obtain rfl : z7 = (nI rw.length) := by rw [ez7]; exact h11
  refine lv_lload_n hx hb d_Y_addRow_62 rfl (lv_at hl 3 rfl) ?_
  refine va_last hx hb hK hP hD hS 5 1 rfl rfl (vp_in_nI (n := rw.length) (N := 8) (by omega) (by decide)) d_Y_addRow_63 (fun H locs hP hD hS => ?_)
  rw [nI_clamp (n := rw.length) (by omega)] at hP hD
  have hP : va_P D ncl (w_Y a cA ii li (va_up (va_up (va_up ia 0 (upd (ia 0) rw.length (nI q.1))) 1 (upd (ia 1) rw.length (nI q.2.1))) 2 (upd (ia 2) rw.length (nI q.2.2.1))) (va_up (va_up la 3 (vp_updL (la 3) rw.length (lN (ly_y y0 g rw)))) 4 (vp_updL (la 4) rw.length (lN q.2.2.2.1)))) H := hP
  have hD : va_D _ (w_Y a cA ii li (va_up (va_up (va_up ia 0 (upd (ia 0) rw.length (nI q.1))) 1 (upd (ia 1) rw.length (nI q.2.1))) 2 (upd (ia 2) rw.length (nI q.2.2.1))) (va_up (va_up la 3 (vp_updL (la 3) rw.length (lN (ly_y y0 g rw)))) 4 (vp_updL (la 4) rw.length (lN q.2.2.2.1)))) := hD
  refine lv_aload_n hx hb d_Y_addRow_64 rfl (lv_at hl 0 rfl) ?_
  refine va_get (D := D) (ci := 3) (v := .ref (a 6)) (C := R_Y) (T := T_Y) (N := 17) hx hb (uw_Y Z.1 hg.1) (fun _ h => h) hown hK hP 0 rfl rfl 5 (by decide) (kw141 Z.1 _ _ hg.1) (fun _ h9 => h9) rfl d_Y_addRow_65 ?_
  refine lv_aload_n hx hb d_Y_addRow_68 rfl (lv_at hl 0 rfl) ?_
  refine va_get (D := D) (ci := 3) (v := .int (ii 11)) (C := R_Y) (T := T_Y) (N := 17) hx hb (uw_Y Z.1 hg.1) (fun _ h => h) hown hK hP 0 rfl rfl 11 (by decide) (kw153 Z.1 _ _ hg.1) (fun _ h9 => h9) rfl d_Y_addRow_69 ?_
  refine lv_topi (fun z8 ez8 => ?_)
  obtain rfl : z8 = (nI rw.length) := by rw [ez8]; exact h11
  refine lv_lload hx hb d_Y_addRow_72 (lv_at hl 4 rfl) ?_
  refine va_last hx hb hK hP hD hS 6 1 rfl rfl (vp_in_nI (n := rw.length) (N := 8) (by omega) (by decide)) d_Y_addRow_74 (fun H locs hP hD hS => ?_)
  rw [nI_clamp (n := rw.length) (by omega)] at hP hD
  have hP : va_P D ncl (w_Y a cA ii li (va_up (va_up (va_up ia 0 (upd (ia 0) rw.length (nI q.1))) 1 (upd (ia 1) rw.length (nI q.2.1))) 2 (upd (ia 2) rw.length (nI q.2.2.1))) (va_up (va_up (va_up la 3 (vp_updL (la 3) rw.length (lN (ly_y y0 g rw)))) 4 (vp_updL (la 4) rw.length (lN q.2.2.2.1))) 5 (vp_updL (la 5) rw.length (lN q.2.2.2.2)))) H := hP
  have hD : va_D _ (w_Y a cA ii li (va_up (va_up (va_up ia 0 (upd (ia 0) rw.length (nI q.1))) 1 (upd (ia 1) rw.length (nI q.2.1))) 2 (upd (ia 2) rw.length (nI q.2.2.1))) (va_up (va_up (va_up la 3 (vp_updL (la 3) rw.length (lN (ly_y y0 g rw)))) 4 (vp_updL (la 4) rw.length (lN q.2.2.2.1))) 5 (vp_updL (la 5) rw.length (lN q.2.2.2.2)))) := hD
  refine lv_aload_n hx hb d_Y_addRow_75 rfl (lv_at hl 0 rfl) ?_
  refine lv_iload hx hb d_Y_addRow_76 (lv_at hl 5 rfl) ?_
  refine lv_lload_n hx hb d_Y_addRow_78 rfl (lv_at hl 3 rfl) ?_
  refine lv_aload_n hx hb d_Y_addRow_79 rfl (lv_at hl 0 rfl) ?_
  refine va_get (D := D) (ci := 3) (v := .long (li 16)) (C := R_Y) (T := T_Y) (N := 17) hx hb (uw_Y Z.1 hg.1) (fun _ h => h) hown hK hP 0 rfl rfl 16 (by decide) (kw161 Z.1 _ _ hg.1) (fun _ h9 => h9) rfl d_Y_addRow_80 ?_
  rw [h16]
  refine lv_ladd hx hb d_Y_addRow_83 ?_
  refine lv_topl (fun z9 ez9 => ?_)
  obtain rfl : z9 = (lN (q.2.2.2.1 + g)) := by rw [ez9]; exact lN_add _ _
  refine w_callv (wr := ([] : va_W)) (w_runV (rest := []) hx hb hml hown hl.1 hg hlo hK hP hD hS (m_Y_addCopies Z a ii li (va_up (va_up (va_up ia 0 (upd (ia 0) rw.length (nI q.1))) 1 (upd (ia 1) rw.length (nI q.2.1))) 2 (upd (ia 2) rw.length (nI q.2.2.1))) (va_up (va_up (va_up la 3 (vp_updL (la 3) rw.length (lN (ly_y y0 g rw)))) 4 (vp_updL (la 4) rw.length (lN q.2.2.2.1))) 5 (vp_updL (la 5) rw.length (lN q.2.2.2.2))) q.2.2.1 (ly_n rw) (lN (q.2.2.2.1 + g)) h12 (by omega) H.size) (kw438 Z.1) (kw440 Z.1) (kp_Y_addCopies Z.1) (kw441 Z.1) (kw5 Z.1) ⟨by decide, by decide, (by decide +kernel : (parseMethodDescriptor y_Y_addCopies.desc).map (fun d => d.parameters.length) = some 2)⟩ ⟨Nat.le_of_ble_eq_true rfl, Nat.le_of_ble_eq_true rfl⟩ [0, 1, 2, 3, 4, 5, 6, 7, 8, 9, 10, 11] rfl rfl (ci := 3) (q0 := 0) rfl rfl rfl (Nat.le_of_ble_eq_true rfl) d_Y_addRow_84 ⟨Nat.le_of_ble_eq_true rfl, Nat.le_of_ble_eq_true rfl⟩) hP hD hS hA [0, 1, 2, 3, 4, 5, 6, 7, 8, 9, 10, 11] [] rfl rfl rfl (by decide) (fun (u : St) => w_Y a cA u.1 u.2.1 u.2.2.1 u.2.2.2) [0, 1, 2, 3, 4, 5, 6, 7, 8, 9, 10, 11] rfl (fun _ => rfl) (fun u1 H locs hq1 hP hD hS => ?_)
  refine W.widen (k := 0) (n := 0) (Nat.le_of_ble_eq_true rfl) (Nat.le_of_ble_eq_true rfl) ?_
  obtain ⟨a1, a2, a3, a4, a5, a6⟩ := hq1
  have b15 : u1.2.1 15 = lN (ly_y y0 g rw) := by rw [a2]; exact h15
  have b16 : u1.2.1 16 = lN g := by rw [a2]; exact h16
  have hs1 : scR (ly_s y0 g rw) (u1.1, u1.2.1, u1.2.2.1, u1.2.2.2) := ⟨by show u1.1 13 = _; rw [a1, up_n _ _ (by decide)]; exact hsc.1, fun j hj => by show u1.2.2.2 9 j = _ ∧ u1.2.2.1 10 j = _; rw [a4 9 (by decide), a3 10 (by decide) (by decide)]; exact hsc.2 j hj⟩
  refine lv_aload_n hx hb d_Y_addRow_87 rfl (lv_at hl 0 rfl) ?_
  refine lv_aload_n hx hb d_Y_addRow_88 rfl (lv_at hl 0 rfl) ?_
  refine va_get (D := D) (ci := 3) (v := .long (u1.2.1 15)) (C := R_Y) (T := T_Y) (N := 17) hx hb (uw_Y Z.1 hg.1) (fun _ h => h) hown hK hP 0 rfl rfl 15 (by decide) (kw160 Z.1 _ _ hg.1) (fun _ h9 => h9) rfl d_Y_addRow_89 ?_
  refine lv_topl (fun z11 ez11 => ?_)
  obtain rfl : z11 = (lN (ly_y y0 g rw)) := by rw [ez11]; exact b15
  refine lv_iload hx hb d_Y_addRow_92 (lv_at hl 5 rfl) ?_
  refine w_callv (wr := ([] : va_W)) (w_runV (rest := []) hx hb hml hown hl.1 hg hlo hK hP hD hS (m_Y_addScore Z a u1.1 u1.2.1 u1.2.2.1 u1.2.2.2 (lN (ly_y y0 g rw)) (nI q.2.2.1) (ly_s y0 g rw).length hs1.1 (by omega) H.size) (kw442 Z.1) (kw444 Z.1) (kp_Y_addScore Z.1) (kw445 Z.1) (kw5 Z.1) ⟨by decide, by decide, (by decide +kernel : (parseMethodDescriptor y_Y_addScore.desc).map (fun d => d.parameters.length) = some 2)⟩ ⟨Nat.le_of_ble_eq_true rfl, Nat.le_of_ble_eq_true rfl⟩ [0, 1, 2, 3, 4, 5, 6, 7, 8, 9, 10, 11] rfl rfl (ci := 3) (q0 := 0) rfl rfl rfl (Nat.le_of_ble_eq_true rfl) d_Y_addRow_94 ⟨Nat.le_of_ble_eq_true rfl, Nat.le_of_ble_eq_true rfl⟩) hP hD hS hA [0, 1, 2, 3, 4, 5, 6, 7, 8, 9, 10, 11] [] rfl rfl rfl (by decide) (fun (u : St) => w_Y a cA u.1 u.2.1 u.2.2.1 u.2.2.2) [0, 1, 2, 3, 4, 5, 6, 7, 8, 9, 10, 11] rfl (fun _ => rfl) (fun u2 H locs hq2 hP hD hS => ?_)
  refine W.widen (k := 0) (n := 0) (Nat.le_of_ble_eq_true rfl) (Nat.le_of_ble_eq_true rfl) ?_
  have hs2 := sc_step hs1 (fun z hz => Nat.le_trans (hsb z hz) (by omega)) (show ly_y y0 g rw ≤ 4000000 by omega) rfl hq2
  obtain ⟨c1, c2, c3, c4⟩ := sc_keep hq2
  have hl2 := sc_len (ly_s y0 g rw) (ly_y y0 g rw) q.2.2.1
  have hb2 := sc_bd (n := q.2.2.1) hsb (Nat.le_refl (ly_y y0 g rw))
  refine lv_aload_n hx hb d_Y_addRow_97 rfl (lv_at hl 0 rfl) ?_
  refine lv_aload_n hx hb d_Y_addRow_98 rfl (lv_at hl 0 rfl) ?_
  refine va_get (D := D) (ci := 3) (v := .long (u2.2.1 15)) (C := R_Y) (T := T_Y) (N := 17) hx hb (uw_Y Z.1 hg.1) (fun _ h => h) hown hK hP 0 rfl rfl 15 (by decide) (kw160 Z.1 _ _ hg.1) (fun _ h9 => h9) rfl d_Y_addRow_99 ?_
  rw [c2, b15]
  refine lv_lload hx hb d_Y_addRow_102 (lv_at hl 4 rfl) ?_
  refine lv_ladd hx hb d_Y_addRow_104 ?_
  refine lv_topl (fun z13 ez13 => ?_)
  obtain rfl : z13 = (lN (ly_y y0 g rw + q.2.2.2.2)) := by rw [ez13]; exact lN_add _ _
  refine lv_iload hx hb d_Y_addRow_105 (lv_at hl 5 rfl) ?_
  refine w_callv (wr := ([] : va_W)) (w_runV (rest := []) hx hb hml hown hl.1 hg hlo hK hP hD hS (m_Y_addScore Z a u2.1 u2.2.1 u2.2.2.1 u2.2.2.2 (lN (ly_y y0 g rw + q.2.2.2.2)) (nI q.2.2.1) (sc_add (ly_s y0 g rw) (ly_y y0 g rw) q.2.2.1).length hs2.1 (by omega) H.size) (kw442 Z.1) (kw444 Z.1) (kp_Y_addScore Z.1) (kw445 Z.1) (kw5 Z.1) ⟨by decide, by decide, (by decide +kernel : (parseMethodDescriptor y_Y_addScore.desc).map (fun d => d.parameters.length) = some 2)⟩ ⟨Nat.le_of_ble_eq_true rfl, Nat.le_of_ble_eq_true rfl⟩ [0, 1, 2, 3, 4, 5, 6, 7, 8, 9, 10, 11] rfl rfl (ci := 3) (q0 := 0) rfl rfl rfl (Nat.le_of_ble_eq_true rfl) d_Y_addRow_107 ⟨Nat.le_of_ble_eq_true rfl, Nat.le_of_ble_eq_true rfl⟩) hP hD hS hA [0, 1, 2, 3, 4, 5, 6, 7, 8, 9, 10, 11] [] rfl rfl rfl (by decide) (fun (u : St) => w_Y a cA u.1 u.2.1 u.2.2.1 u.2.2.2) [0, 1, 2, 3, 4, 5, 6, 7, 8, 9, 10, 11] rfl (fun _ => rfl) (fun u3 H locs hq3 hP hD hS => ?_)
  refine W.widen (k := 0) (n := 0) (Nat.le_of_ble_eq_true rfl) (Nat.le_of_ble_eq_true rfl) ?_
  have hs3 := sc_step (ii := u2.1) (li := u2.2.1) (ia := u2.2.2.1) (la := u2.2.2.2) hs2 (fun z hz => Nat.le_trans (hb2 z hz) (by omega)) (show ly_y y0 g rw + q.2.2.2.2 ≤ 4000000 by omega) rfl hq3
  obtain ⟨e1, e2, e3, e4⟩ := sc_keep hq3
  have hl3 := sc_len (sc_add (ly_s y0 g rw) (ly_y y0 g rw) q.2.2.1) (ly_y y0 g rw + q.2.2.2.2) q.2.2.1
  have hb3 := sc_bd (n := q.2.2.1) (B := ly_y y0 g rw + q.2.2.2.2) (y := ly_y y0 g rw + q.2.2.2.2) (fun z hz => Nat.le_trans (hb2 z hz) (Nat.le_add_right _ _)) (Nat.le_refl _)
  refine lv_aload_n hx hb d_Y_addRow_110 rfl (lv_at hl 0 rfl) ?_
  refine lv_dup hx hb d_Y_addRow_111 rfl ?_
  refine va_get (D := D) (ci := 3) (v := .long (u3.2.1 15)) (C := R_Y) (T := T_Y) (N := 17) hx hb (uw_Y Z.1 hg.1) (fun _ h => h) hown hK hP 0 rfl rfl 15 (by decide) (kw160 Z.1 _ _ hg.1) (fun _ h9 => h9) rfl d_Y_addRow_112 ?_
  rw [e2, c2, b15]
  refine lv_lload hx hb d_Y_addRow_115 (lv_at hl 4 rfl) ?_
  refine lv_aload_n hx hb d_Y_addRow_117 rfl (lv_at hl 0 rfl) ?_
  refine va_get (D := D) (ci := 3) (v := .long (u3.2.1 16)) (C := R_Y) (T := T_Y) (N := 17) hx hb (uw_Y Z.1 hg.1) (fun _ h => h) hown hK hP 0 rfl rfl 16 (by decide) (kw161 Z.1 _ _ hg.1) (fun _ h9 => h9) rfl d_Y_addRow_118 ?_
  rw [e2, c2, b16]
  refine lv_ladd hx hb d_Y_addRow_121 ?_
  refine lv_topl (fun z15 ez15 => ?_)
  obtain rfl : z15 = (lN (q.2.2.2.2 + g)) := by rw [ez15]; exact lN_add _ _
  refine lv_ladd hx hb d_Y_addRow_122 ?_
  refine lv_topl (fun z16 ez16 => ?_)
  obtain rfl : z16 = (lN (ly_y y0 g rw + (q.2.2.2.2 + g))) := by rw [ez16]; exact lN_add _ _
  refine va_put (D := D) (ci := 3) (v := .long (lN (ly_y y0 g rw + (q.2.2.2.2 + g)))) (ty := t_Y 15) (C := R_Y) (T := T_Y) (N := 17) hx hb (uw_Y Z.1 hg.1) (fun _ h => h) t_Y t_Y_ok n_Y hown hK hP hD hS 0 rfl rfl 15 (by decide) (kw160 Z.1 _ _ hg.1) (fun _ h9 => h9) rfl (by decide +kernel) rfl rfl (Nat.le_of_ble_eq_true rfl) d_Y_addRow_123 (fun H locs hP hD hS => ?_)
  have hP : va_P D ncl (w_Y a cA u3.1 (va_up u3.2.1 15 (lN (ly_y y0 g rw + (q.2.2.2.2 + g)))) u3.2.2.1 u3.2.2.2) H := hP
  have hD : va_D _ (w_Y a cA u3.1 (va_up u3.2.1 15 (lN (ly_y y0 g rw + (q.2.2.2.2 + g)))) u3.2.2.1 u3.2.2.2) := hD
  refine lv_aload_n hx hb d_Y_addRow_126 rfl (lv_at hl 0 rfl) ?_
  refine lv_dup hx hb d_Y_addRow_127 rfl ?_
  refine va_get (D := D) (ci := 3) (v := .int (u3.1 11)) (C := R_Y) (T := T_Y) (N := 17) hx hb (uw_Y Z.1 hg.1) (fun _ h => h) hown hK hP 0 rfl rfl 11 (by decide) (kw153 Z.1 _ _ hg.1) (fun _ h9 => h9) rfl d_Y_addRow_128 ?_
  refine lv_iconst (v := 1) hx hb d_Y_addRow_131 (by decide) ?_
  rw [e1 11 (by decide), c1 11 (by decide), a1, up_n _ _ (by decide), h11]
  refine lv_iadd hx hb d_Y_addRow_132 ?_
  refine lv_topi (fun z17 ez17 => ?_)
  obtain rfl : z17 = (nI (rw.length + 1)) := by rw [ez17]; exact nI_1 _
  refine va_put (D := D) (ci := 3) (v := .int (nI (rw.length + 1))) (ty := t_Y 11) (C := R_Y) (T := T_Y) (N := 17) hx hb (uw_Y Z.1 hg.1) (fun _ h => h) t_Y t_Y_ok n_Y hown hK hP hD hS 0 rfl rfl 11 (by decide) (kw153 Z.1 _ _ hg.1) (fun _ h9 => h9) rfl (by decide +kernel) rfl rfl (Nat.le_of_ble_eq_true rfl) d_Y_addRow_133 (fun H locs hP hD hS => ?_)
  have hP : va_P D ncl (w_Y a cA (va_up u3.1 11 (nI (rw.length + 1))) (va_up u3.2.1 15 (lN (ly_y y0 g rw + (q.2.2.2.2 + g)))) u3.2.2.1 u3.2.2.2) H := hP
  have hD : va_D _ (w_Y a cA (va_up u3.1 11 (nI (rw.length + 1))) (va_up u3.2.1 15 (lN (ly_y y0 g rw + (q.2.2.2.2 + g)))) u3.2.2.1 u3.2.2.2) := hD
  have k0 : u3.2.2.1 0 = upd (ia 0) rw.length (nI q.1) := by rw [e3 0 (by decide), c3 0 (by decide), a3 0 (by decide) (by decide)]; rfl
  have k1 : u3.2.2.1 1 = upd (ia 1) rw.length (nI q.2.1) := by rw [e3 1 (by decide), c3 1 (by decide), a3 1 (by decide) (by decide)]; rfl
  have k2 : u3.2.2.1 2 = upd (ia 2) rw.length (nI q.2.2.1) := by rw [e3 2 (by decide), c3 2 (by decide), a3 2 (by decide) (by decide)]; rfl
  have k3 : u3.2.2.2 3 = vp_updL (la 3) rw.length (lN (ly_y y0 g rw)) := by rw [e4 3 (by decide), c4 3 (by decide), a4 3 (by decide)]; rfl
  have k4 : u3.2.2.2 4 = vp_updL (la 4) rw.length (lN q.2.2.2.1) := by rw [e4 4 (by decide), c4 4 (by decide), a4 4 (by decide)]; rfl
  have k5 : u3.2.2.2 5 = vp_updL (la 5) rw.length (lN q.2.2.2.2) := by rw [e4 5 (by decide), c4 5 (by decide), a4 5 (by decide)]; rfl
  have k6 : u3.2.2.1 6 = u1.2.2.1 6 := by rw [e3 6 (by decide), c3 6 (by decide)]
  have k8 : u3.2.2.1 8 = u1.2.2.1 8 := by rw [e3 8 (by decide), c3 8 (by decide)]
  have k7 : u3.2.2.2 7 = u1.2.2.2 7 := by rw [e4 7 (by decide), c4 7 (by decide)]
  refine w_vret hx hb hr hlk hP hD hS ((va_up u3.1 11 (nI (rw.length + 1))), (va_up u3.2.1 15 (lN (ly_y y0 g rw + (q.2.2.2.2 + g)))), u3.2.2.1, u3.2.2.2) rfl ?_ d_Y_addRow_136
  refine ⟨⟨?_, ?_⟩, ⟨?_, ?_, ?_⟩, ?_, ?_, ⟨?_, ?_⟩, ?_, ?_⟩
  · show va_up u3.1 11 (nI (rw.length + 1)) 11 = _
    rw [up_s]; simp
  · show va_up u3.1 11 (nI (rw.length + 1)) 12 = _
    rw [up_n _ _ (by decide), e1 12 (by decide), c1 12 (by decide), a1, up_s, ly_n_snoc]
  · show va_up u3.2.1 15 (lN (ly_y y0 g rw + (q.2.2.2.2 + g))) 14 = _
    rw [up_n _ _ (by decide), e2, c2, a2]; exact h14
  · show va_up u3.2.1 15 (lN (ly_y y0 g rw + (q.2.2.2.2 + g))) 15 = _
    rw [up_s, ly_y_snoc]
  · show va_up u3.2.1 15 (lN (ly_y y0 g rw + (q.2.2.2.2 + g))) 16 = _
    rw [up_n _ _ (by decide), e2, c2, a2]; exact h16
  · intro r hr2
    unfold rF
    show u3.2.2.1 0 r = _ ∧ u3.2.2.1 1 r = _ ∧ u3.2.2.1 2 r = _ ∧ u3.2.2.2 3 r = _ ∧ u3.2.2.2 4 r = _ ∧ u3.2.2.2 5 r = _ ∧ ∀ i, _ → u3.2.2.1 6 _ = _ ∧ u3.2.2.2 7 _ = _
    rw [k0, k1, k2, k3, k4, k5, k6, k7]
    rcases Nat.lt_or_ge r rw.length with z | z
    · rw [gd_l _ _ _ z, List.take_append_of_le_length (Nat.le_of_lt z), upd_n _ _ (by omega), upd_n _ _ (by omega), upd_n _ _ (by omega), updL_n _ _ (by omega), updL_n _ _ (by omega), updL_n _ _ (by omega)]
      obtain ⟨f1, f2, f3, f4, f5, f6, f7⟩ := hrf r z
      refine ⟨f1, f2, f3, f4, f5, f6, fun i hi => ?_⟩
      have ho := ly_off rw r z
      have a5i := a5 (ly_n (rw.take r) + i) (by omega)
      rw [a5i.1, a5i.2.2]
      exact f7 i hi
    · obtain rfl : r = rw.length := by simp at hr2; omega
      rw [gd_r, List.take_append_of_le_length (Nat.le_refl _), List.take_length, upd_s, upd_s, upd_s, updL_s, updL_s, updL_s]
      refine ⟨rfl, rfl, rfl, rfl, rfl, rfl, fun i hi => ?_⟩
      have a6i := a6 i hi
      rw [a6i.1, a6i.2.2, h14, h11]
      refine ⟨rfl, ?_⟩
      rw [lZ_nat, lN_mul, lN_add]
  · intro z hz
    show u3.2.2.1 8 z = _
    rw [k8, ly_n_snoc] at *
    rcases Nat.lt_or_ge z (ly_n rw) with y | y
    · rw [(a5 z y).2.1]; exact hbad z y
    · obtain ⟨i, rfl⟩ : ∃ i, z = ly_n rw + i := ⟨z - ly_n rw, by omega⟩
      rw [(a6 i (by omega)).2.1]; rfl
  · show va_up u3.1 11 (nI (rw.length + 1)) 13 = _
    rw [up_n _ _ (by decide), ly_s_snoc]; exact hs3.1
  · intro j hj
    rw [ly_s_snoc] at hj ⊢
    exact hs3.2 j hj
  · rw [ly_s_snoc]; simp; omega
  · intro z hz
    rw [ly_s_snoc] at hz
    rw [ly_y_snoc]
    have := hb3 z hz
    omega
