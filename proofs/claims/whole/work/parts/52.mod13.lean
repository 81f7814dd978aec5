theorem rg_1 (a A t : Int64) : (a + A - (a + t)) * (a + A - (a + t)) = (t - A) * (t - A) := by grind
theorem l0_iff {n : Nat} (h : n < 2) : lN n = 0 ↔ nI n = 0 := by
  rw [lN_0 (by omega)]
  exact (nI_eq (b := 0) (by omega) (by decide)).symm
/-- what tab leaves untouched of the longs: all but the boxes of board b -/
def tbI (b : Nat) (la u : Nat → Nat → Int64) : Prop := (∀ z, z ≠ 17 → z ≠ 18 → z ≠ 19 → z ≠ 20 → u z = la z) ∧ (∀ j, j ≠ b → u 19 j = la 19 j ∧ u 20 j = la 20 j)
set_option maxHeartbeats 4000000 in
set_option maxRecDepth 100000 in
theorem m_M_tab {l : Launch} {s0 : State} {D : va_G} {cA sa : Nat → Nat} (Z : zE l s0 D cA sa) (a : Nat → Nat) (ii : Nat → Int32) (li : Nat → Int64) (ia : Nat → Nat → Int32) (la : Nat → Nat → Int64) (v k wt : Int32) (b n np : Nat) (fx fy : Nat → Int64) (kb : Nat → Nat → Int64) (lb : Nat → Int64) (dn : List Cp) (hdn : rwQ dn ii la) (hdl : dn.length ≤ 200) (hb4 : b < 4) (hbq : ∀ c, c < dn.length → v = nI c → cpk (dn.getD c cp0) 0 = b ∧ 0 < n) (ht3 : ∀ c, c < dn.length → cpk (dn.getD c cp0) 3 < 2) (hn : ia 4 b = nI n) (hn2 : n ≤ 12) (hnp : ia 8 b = nI np) (hnp2 : np ≤ 10) (hfx : ∀ j, j < n → la 5 (12 * b + j) = fx j) (hfy : ∀ j, j < n → la 6 (12 * b + j) = fy j) (hpt : ∀ j, j < np → la 9 (30 * b + 3 * j) = kb 2 j ∧ la 9 (30 * b + 3 * j + 1) = kb 3 j ∧ la 9 (30 * b + 3 * j + 2) = kb 4 j) (hl7 : lb 7 = mnF fx n) (hl8 : lb 8 = mnF fy n) (hl10 : lb 10 = mxF fy n) (sz : Nat) : Met l y_M_tab [.code y_M_tab c_M_tab 20 (some .long)] ({ frames := 1, cells := 0, slots := 0, locals := 60 }) (wP s0 D [.ref (a 0), .int v, .int k, .int wt] (w_M a cA ii li ia la) sz) (va_Ql (fun (r : Int64) (u : St) => (∃ c sd wh, c < dn.length ∧ v = nI c ∧ sd < 4 ∧ k = nI sd ∧ wh < 2 ∧ wt = nI wh ∧ u.2.1 = li ∧ u.2.2.1 = ia ∧ tbI b la u.2.2.2 ∧ u.2.2.2 19 b = mxF fx n - mnF fx n ∧ u.2.2.2 20 b = mxF fy n - mnF fy n ∧ (((List.range np).any (bn kb lb (tb_x (dn.getD c cp0) sd) (tb_y (dn.getD c cp0) sd) (nI (cpk (dn.getD c cp0) 3))) = true ∧ u.1 = va_up ii 0 2) ∨ ((List.range np).any (bn kb lb (tb_x (dn.getD c cp0) sd) (tb_y (dn.getD c cp0) sd) (nI (cpk (dn.getD c cp0) 3))) = false ∧ u.1 = va_up ii 0 0 ∧ r = if wh = 0 then lN (cpk (dn.getD c cp0) 1) + tb_x (dn.getD c cp0) sd else lN (cpk (dn.getD c cp0) 2) + tb_y (dn.getD c cp0) sd))) ∨ (¬ ((∃ c, c < dn.length ∧ v = nI c) ∧ (∃ sd, sd < 4 ∧ k = nI sd) ∧ ∃ wh, wh < 2 ∧ wt = nI wh) ∧ u = (va_up ii 0 1, li, ia, la))) (wB D (va_A (w_M a cA ii li ia la) sz) (fun (u : St) => w_M a cA u.1 u.2.1 u.2.2.1 u.2.2.2)) (va_A (w_M a cA ii li ia la) sz)) 0 0 (va_A (w_M a cA ii li ia la) sz) := by
  refine wMet Z (by decide) (Nat.le_of_ble_eq_true rfl) ?_
  intro p e s m below meth c hx hb hr hml hown hlk hin hg hK hsz hP hD hA hlo hS ls hl
  subst hsz
  have hown : s.vm.findClass R_M = some m.cls := hown
  refine lv_aload_n hx hb d_M_tab_0 rfl (lv_at hl 0 rfl) ?_
  refine lv_iload_n hx hb d_M_tab_1 rfl (lv_at hl 1 rfl) ?_
  refine w_calli (wr := ([] : va_W)) (w_runV (rest := []) hx hb hml hown hl.1 hg hlo hK hP hD hS (m_M_isCopy Z a ii li ia la v dn.length hdn.1 (by omega) s.heap.size) (kw788 Z.1) (kw790 Z.1) (kp_M_isCopy Z.1) (kw791 Z.1) (kw6 Z.1) ⟨by decide, by decide, (by decide +kernel : (parseMethodDescriptor y_M_isCopy.desc).map (fun d => d.parameters.length) = some 1)⟩ ⟨Nat.le_of_ble_eq_true rfl, Nat.le_of_ble_eq_true rfl⟩ [0, 1, 2, 3, 4, 5, 6, 7, 8, 9, 10, 11, 12, 13, 14, 15, 16] rfl rfl (ci := 1) (q0 := 0) rfl rfl rfl (Nat.le_of_ble_eq_true rfl) d_M_tab_2 ⟨Nat.le_of_ble_eq_true rfl, Nat.le_of_ble_eq_true rfl⟩) hP hD hS hA [0, 1, 2, 3, 4, 5, 6, 7, 8, 9, 10, 11, 12, 13, 14, 15, 16] [] rfl rfl rfl (by decide) (fun _ => w_M a cA ii li ia la) [0, 1, 2, 3, 4, 5, 6, 7, 8, 9, 10, 11, 12, 13, 14, 15, 16] rfl (fun _ => rfl) (fun r1 u H locs h1 hP hD hS => ?_)
  refine W.widen (k := 0) (n := 0) (Nat.le_of_ble_eq_true rfl) (Nat.le_of_ble_eq_true rfl) ?_
  refine lv_if_eq (tgt := 30) hx hb d_M_tab_5 (by decide) (fun c1 => ?_) (fun c1 => ?_)
  · have hno : ¬ (∃ c, c < dn.length ∧ v = nI c) := by rcases h1 with ⟨z, -⟩ | ⟨-, z⟩; rw [z] at c1; exact absurd c1 (by decide); exact z
    refine lv_iconst (v := 0) hx hb d_M_tab_30 (by decide) ?_
    refine lv_istore (lv' := [(4, .int 0), (0, .ref (a 0)), (1, .int v), (2, .int k), (3, .int wt)]) hx hb d_M_tab_31 hl (by decide) rfl (fun ls hl => ?_)
    refine lv_aload_n hx hb d_M_tab_33 rfl (lv_at hl 1 rfl) ?_
    refine lv_iload hx hb d_M_tab_34 (lv_at hl 0 rfl) ?_
    refine lv_if_eq (tgt := 43) hx hb d_M_tab_36 (by decide) (fun _ => ?_) (fun k2 => by first | exact absurd (show (0 : Int32) = 0 from rfl) k2 | exact absurd k2 (show (0 : Int32) = 0 from rfl))
    refine lv_iconst (v := 1) hx hb d_M_tab_43 (by decide) ?_
    refine va_put (D := D) (ci := 1) (v := .int 1) (ty := t_M 0) (C := R_M) (T := T_M) (N := 26) hx hb (uw_M Z.1 hg.1) (fun _ h => h) t_M t_M_ok n_M hown hK hP hD hS 0 rfl rfl 0 (by decide) (kw604 Z.1 _ _ hg.1) (fun _ h9 => h9) rfl (by decide +kernel) rfl rfl (Nat.le_of_ble_eq_true rfl) d_M_tab_44 (fun H locs hP hD hS => ?_)
    have hP : va_P D ncl (w_M a cA (va_up ii 0 1) li ia la) H := hP
    have hD : va_D _ (w_M a cA (va_up ii 0 1) li ia la) := hD
    refine lv_aload_n hx hb d_M_tab_47 rfl (lv_at hl 1 rfl) ?_
    refine va_get (D := D) (ci := 1) (v := .int 1) (C := R_M) (T := T_M) (N := 26) hx hb (uw_M Z.1 hg.1) (fun _ h => h) hown hK hP 0 rfl rfl 0 (by decide) (kw604 Z.1 _ _ hg.1) (fun _ h9 => h9) rfl d_M_tab_48 ?_
    refine lv_if_eq (tgt := 56) hx hb d_M_tab_51 (by decide) (fun k3 => by first | exact absurd (show ¬ (1 : Int32) = 0 by decide) k3 | exact absurd k3 (show ¬ (1 : Int32) = 0 by decide)) (fun _ => ?_)
    refine lv_lconst (v := 0) hx hb d_M_tab_54 (by decide) ?_
    exact w_lret hx hb hr hlk hP hD hS ((va_up ii 0 1), li, ia, la) rfl (Or.inr ⟨fun z => hno z.1, rfl⟩) d_M_tab_55
  · have hc1 : ∃ c, c < dn.length ∧ v = nI c := by rcases h1 with ⟨-, z⟩ | ⟨z, -⟩; exact z; exact absurd z c1
    refine lv_iload_n hx hb d_M_tab_8 rfl (lv_at hl 2 rfl) ?_
    refine lv_if_lt (tgt := 30) hx hb d_M_tab_9 (by decide) (fun d4 => ?_) (fun d4 => ?_)
    · refine lv_iconst (v := 0) hx hb d_M_tab_30 (by decide) ?_
      refine lv_istore (lv' := [(4, .int 0), (0, .ref (a 0)), (1, .int v), (2, .int k), (3, .int wt)]) hx hb d_M_tab_31 hl (by decide) rfl (fun ls hl => ?_)
      refine lv_aload_n hx hb d_M_tab_33 rfl (lv_at hl 1 rfl) ?_
      refine lv_iload hx hb d_M_tab_34 (lv_at hl 0 rfl) ?_
      refine lv_if_eq (tgt := 43) hx hb d_M_tab_36 (by decide) (fun _ => ?_) (fun k5 => by first | exact absurd (show (0 : Int32) = 0 from rfl) k5 | exact absurd k5 (show (0 : Int32) = 0 from rfl))
      refine lv_iconst (v := 1) hx hb d_M_tab_43 (by decide) ?_
      refine va_put (D := D) (ci := 1) (v := .int 1) (ty := t_M 0) (C := R_M) (T := T_M) (N := 26) hx hb (uw_M Z.1 hg.1) (fun _ h => h) t_M t_M_ok n_M hown hK hP hD hS 0 rfl rfl 0 (by decide) (kw604 Z.1 _ _ hg.1) (fun _ h9 => h9) rfl (by decide +kernel) rfl rfl (Nat.le_of_ble_eq_true rfl) d_M_tab_44 (fun H locs hP hD hS => ?_)
      have hP : va_P D ncl (w_M a cA (va_up ii 0 1) li ia la) H := hP
      have hD : va_D _ (w_M a cA (va_up ii 0 1) li ia la) := hD
      refine lv_aload_n hx hb d_M_tab_47 rfl (lv_at hl 1 rfl) ?_
      refine va_get (D := D) (ci := 1) (v := .int 1) (C := R_M) (T := T_M) (N := 26) hx hb (uw_M Z.1 hg.1) (fun _ h => h) hown hK hP 0 rfl rfl 0 (by decide) (kw604 Z.1 _ _ hg.1) (fun _ h9 => h9) rfl d_M_tab_48 ?_
      refine lv_if_eq (tgt := 56) hx hb d_M_tab_51 (by decide) (fun k6 => by first | exact absurd (show ¬ (1 : Int32) = 0 by decide) k6 | exact absurd k6 (show ¬ (1 : Int32) = 0 by decide)) (fun _ => ?_)
      refine lv_lconst (v := 0) hx hb d_M_tab_54 (by decide) ?_
      exact w_lret hx hb hr hlk hP hD hS ((va_up ii 0 1), li, ia, la) rfl (Or.inr ⟨fun z => bk_no0 (by decide) d4 z.2.1, rfl⟩) d_M_tab_55
    · refine lv_iload_n hx hb d_M_tab_12 rfl (lv_at hl 2 rfl) ?_
      refine lv_iconst (v := 4) hx hb d_M_tab_13 (by decide) ?_
      refine lv_icmp_ge (tgt := 30) hx hb d_M_tab_14 (by decide) (fun e7 => ?_) (fun e7 => ?_)
      · refine lv_iconst (v := 0) hx hb d_M_tab_30 (by decide) ?_
        refine lv_istore (lv' := [(4, .int 0), (0, .ref (a 0)), (1, .int v), (2, .int k), (3, .int wt)]) hx hb d_M_tab_31 hl (by decide) rfl (fun ls hl => ?_)
        refine lv_aload_n hx hb d_M_tab_33 rfl (lv_at hl 1 rfl) ?_
        refine lv_iload hx hb d_M_tab_34 (lv_at hl 0 rfl) ?_
        refine lv_if_eq (tgt := 43) hx hb d_M_tab_36 (by decide) (fun _ => ?_) (fun k8 => by first | exact absurd (show (0 : Int32) = 0 from rfl) k8 | exact absurd k8 (show (0 : Int32) = 0 from rfl))
        refine lv_iconst (v := 1) hx hb d_M_tab_43 (by decide) ?_
        refine va_put (D := D) (ci := 1) (v := .int 1) (ty := t_M 0) (C := R_M) (T := T_M) (N := 26) hx hb (uw_M Z.1 hg.1) (fun _ h => h) t_M t_M_ok n_M hown hK hP hD hS 0 rfl rfl 0 (by decide) (kw604 Z.1 _ _ hg.1) (fun _ h9 => h9) rfl (by decide +kernel) rfl rfl (Nat.le_of_ble_eq_true rfl) d_M_tab_44 (fun H locs hP hD hS => ?_)
        have hP : va_P D ncl (w_M a cA (va_up ii 0 1) li ia la) H := hP
        have hD : va_D _ (w_M a cA (va_up ii 0 1) li ia la) := hD
        refine lv_aload_n hx hb d_M_tab_47 rfl (lv_at hl 1 rfl) ?_
        refine va_get (D := D) (ci := 1) (v := .int 1) (C := R_M) (T := T_M) (N := 26) hx hb (uw_M Z.1 hg.1) (fun _ h => h) hown hK hP 0 rfl rfl 0 (by decide) (kw604 Z.1 _ _ hg.1) (fun _ h9 => h9) rfl d_M_tab_48 ?_
        refine lv_if_eq (tgt := 56) hx hb d_M_tab_51 (by decide) (fun k9 => by first | exact absurd (show ¬ (1 : Int32) = 0 by decide) k9 | exact absurd k9 (show ¬ (1 : Int32) = 0 by decide)) (fun _ => ?_)
        refine lv_lconst (v := 0) hx hb d_M_tab_54 (by decide) ?_
        exact w_lret hx hb hr hlk hP hD hS ((va_up ii 0 1), li, ia, la) rfl (Or.inr ⟨fun z => bk_no1 (n := 4) (by decide) e7 z.2.1, rfl⟩) d_M_tab_55
      · obtain ⟨sd, hsd, hkq⟩ := bk_lt (n := 4) (by decide) d4 e7
        obtain ⟨c0, hc0, hvq⟩ := hc1
        obtain ⟨hb0, hn0⟩ := hbq c0 hc0 hvq
        rw [hkq, hvq] at hl
        have h3 := ht3 c0 hc0
        have hq1 := hdn.2 c0 hc0
        obtain ⟨qq, hqq⟩ : ∃ z, z = dn.getD c0 cp0 := ⟨_, rfl⟩
        rw [← hqq] at h3 hq1 hb0
        refine lv_iload_n hx hb d_M_tab_17 rfl (lv_at hl 3 rfl) ?_
        refine lv_if_eq (tgt := 26) hx hb d_M_tab_18 (by decide) (fun w10 => ?_) (fun w10 => ?_)
        · have hv0 : wt = nI 0 := w10
          refine lv_iconst (v := 1) hx hb d_M_tab_26 (by decide) ?_
          refine lv_goto (tgt := 31) hx hb d_M_tab_27 (by decide) ?_
          refine lv_istore (lv' := [(4, .int 1), (0, .ref (a 0)), (1, .int (nI c0)), (2, .int (nI sd)), (3, .int wt)]) hx hb d_M_tab_31 hl (by decide) rfl (fun ls hl => ?_)
          refine lv_aload_n hx hb d_M_tab_33 rfl (lv_at hl 1 rfl) ?_
          refine lv_iload hx hb d_M_tab_34 (lv_at hl 0 rfl) ?_
          refine lv_if_eq (tgt := 43) hx hb d_M_tab_36 (by decide) (fun k11 => by first | exact absurd (show ¬ (1 : Int32) = 0 by decide) k11 | exact absurd k11 (show ¬ (1 : Int32) = 0 by decide)) (fun _ => ?_)
          refine lv_iconst (v := 0) hx hb d_M_tab_39 (by decide) ?_
          refine lv_goto (tgt := 44) hx hb d_M_tab_40 (by decide) ?_
          refine va_put (D := D) (ci := 1) (v := .int 0) (ty := t_M 0) (C := R_M) (T := T_M) (N := 26) hx hb (uw_M Z.1 hg.1) (fun _ h => h) t_M t_M_ok n_M hown hK hP hD hS 0 rfl rfl 0 (by decide) (kw604 Z.1 _ _ hg.1) (fun _ h9 => h9) rfl (by decide +kernel) rfl rfl (Nat.le_of_ble_eq_true rfl) d_M_tab_44 (fun H locs hP hD hS => ?_)
          have hP : va_P D ncl (w_M a cA (va_up ii 0 0) li ia la) H := hP
          have hD : va_D _ (w_M a cA (va_up ii 0 0) li ia la) := hD
          refine lv_aload_n hx hb d_M_tab_47 rfl (lv_at hl 1 rfl) ?_
          refine va_get (D := D) (ci := 1) (v := .int 0) (C := R_M) (T := T_M) (N := 26) hx hb (uw_M Z.1 hg.1) (fun _ h => h) hown hK hP 0 rfl rfl 0 (by decide) (kw604 Z.1 _ _ hg.1) (fun _ h9 => h9) rfl d_M_tab_48 ?_
          refine lv_if_eq (tgt := 56) hx hb d_M_tab_51 (by decide) (fun _ => ?_) (fun k12 => by first | exact absurd (show (0 : Int32) = 0 from rfl) k12 | exact absurd k12 (show (0 : Int32) = 0 from rfl))
          refine lv_bipush (v := 6) hx hb d_M_tab_56 (by decide) ?_
          refine lv_iload_n hx hb d_M_tab_58 rfl (lv_at hl 2 rfl) ?_
          refine lv_imul hx hb d_M_tab_59 ?_
          refine lv_topi (fun z13 ez13 => ?_)
          obtain rfl : z13 = (nI (6 * c0 + 0)) := by rw [ez13]; exact pk_mul 6 c0
          refine lv_istore (lv' := [(5, .int (nI (6 * c0 + 0))), (4, .int 1), (0, .ref (a 0)), (1, .int (nI c0)), (2, .int (nI sd)), (3, .int wt)]) hx hb d_M_tab_60 hl (by decide) rfl (fun ls hl => ?_)
          refine lv_aload_n hx hb d_M_tab_62 rfl (lv_at hl 2 rfl) ?_
          refine va_get (D := D) (ci := 1) (v := .ref (a 15)) (C := R_M) (T := T_M) (N := 26) hx hb (uw_M Z.1 hg.1) (fun _ h => h) hown hK hP 0 rfl rfl 14 (by decide) (kw618 Z.1 _ _ hg.1) (fun _ h9 => h9) rfl d_M_tab_63 ?_
          refine lv_iload hx hb d_M_tab_66 (lv_at hl 0 rfl) ?_
          refine lv_iconst (v := 1) hx hb d_M_tab_68 (by decide) ?_
          refine lv_iadd hx hb d_M_tab_69 ?_
          refine lv_topi (fun z14 ez14 => ?_)
          obtain rfl : z14 = (nI (6 * c0 + 1)) := by rw [ez14]; exact nI_add _ 1
          refine va_lald hx hb hK hP 8 1 rfl rfl (vp_in_nI (n := 6 * c0 + 1) (N := 1200) (by omega) (by decide)) d_M_tab_70 ?_
          refine lv_topl (fun z15 ez15 => ?_)
          rw [nI_clamp (n := (6 * c0 + 1)) (by omega)] at ez15
          obtain rfl : z15 = ((la 14) (6 * c0 + 1)) := ez15
          refine lv_topl (fun z16 ez16 => ?_)
          obtain rfl : z16 = (lN (cpk qq 1)) := by rw [ez16]; exact hq1 1 (by decide)
          have jn17 : ∀ tx : Int64, tx = tb_x qq sd → W p l e ({ frames := 1, cells := 0, slots := 0, locals := 60 }) s m ([.ref (a 0), .int v, .int k, .int wt] : List Value).toArray below meth c H locs 0 0 (MQ below (va_Ql (fun (r : Int64) (u : St) => (∃ c sd wh, c < dn.length ∧ v = nI c ∧ sd < 4 ∧ k = nI sd ∧ wh < 2 ∧ wt = nI wh ∧ u.2.1 = li ∧ u.2.2.1 = ia ∧ tbI b la u.2.2.2 ∧ u.2.2.2 19 b = mxF fx n - mnF fx n ∧ u.2.2.2 20 b = mxF fy n - mnF fy n ∧ (((List.range np).any (bn kb lb (tb_x (dn.getD c cp0) sd) (tb_y (dn.getD c cp0) sd) (nI (cpk (dn.getD c cp0) 3))) = true ∧ u.1 = va_up ii 0 2) ∨ ((List.range np).any (bn kb lb (tb_x (dn.getD c cp0) sd) (tb_y (dn.getD c cp0) sd) (nI (cpk (dn.getD c cp0) 3))) = false ∧ u.1 = va_up ii 0 0 ∧ r = if wh = 0 then lN (cpk (dn.getD c cp0) 1) + tb_x (dn.getD c cp0) sd else lN (cpk (dn.getD c cp0) 2) + tb_y (dn.getD c cp0) sd))) ∨ (¬ ((∃ c, c < dn.length ∧ v = nI c) ∧ (∃ sd, sd < 4 ∧ k = nI sd) ∧ ∃ wh, wh < 2 ∧ wt = nI wh) ∧ u = (va_up ii 0 1, li, ia, la))) (wB D (va_A (w_M a cA ii li ia la) s.heap.size) (fun (u : St) => w_M a cA u.1 u.2.1 u.2.2.1 u.2.2.2)) (va_A (w_M a cA ii li ia la) s.heap.size)) ([.ref (a 0), .int v, .int k, .int wt] : List Value).toArray s 0 0 (va_A (w_M a cA ii li ia la) s.heap.size)) (F0 m 109 ls (.long tx :: [.long (lN (cpk qq 1))])) := by
            intro tx htx
            refine lv_ladd hx hb d_M_tab_109 ?_
            refine lv_topl (fun xx exx => ?_)
            have hxx : xx = lN (cpk qq 1) + tx := by rw [exx]; skip
            clear exx
            refine lv_lstore (lv' := [(6, .long xx), (5, .int (nI (6 * c0 + 0))), (4, .int 1), (0, .ref (a 0)), (1, .int (nI c0)), (2, .int (nI sd)), (3, .int wt)]) hx hb d_M_tab_110 hl (by decide) rfl (fun ls hl => ?_)
            refine lv_aload_n hx hb d_M_tab_112 rfl (lv_at hl 3 rfl) ?_
            refine va_get (D := D) (ci := 1) (v := .ref (a 15)) (C := R_M) (T := T_M) (N := 26) hx hb (uw_M Z.1 hg.1) (fun _ h => h) hown hK hP 0 rfl rfl 14 (by decide) (kw618 Z.1 _ _ hg.1) (fun _ h9 => h9) rfl d_M_tab_113 ?_
            refine lv_iload hx hb d_M_tab_116 (lv_at hl 1 rfl) ?_
            refine lv_iconst (v := 2) hx hb d_M_tab_118 (by decide) ?_
            refine lv_iadd hx hb d_M_tab_119 ?_
            refine lv_topi (fun z26 ez26 => ?_)
            obtain rfl : z26 = (nI (6 * c0 + 2)) := by rw [ez26]; exact nI_add _ 2
            refine va_lald hx hb hK hP 8 1 rfl rfl (vp_in_nI (n := 6 * c0 + 2) (N := 1200) (by omega) (by decide)) d_M_tab_120 ?_
            refine lv_topl (fun z27 ez27 => ?_)
            rw [nI_clamp (n := (6 * c0 + 2)) (by omega)] at ez27
            obtain rfl : z27 = ((la 14) (6 * c0 + 2)) := ez27
            refine lv_topl (fun z28 ez28 => ?_)
            obtain rfl : z28 = (lN (cpk qq 2)) := by rw [ez28]; exact hq1 2 (by decide)
            have jn29 : ∀ ty : Int64, ty = tb_y qq sd → W p l e ({ frames := 1, cells := 0, slots := 0, locals := 60 }) s m ([.ref (a 0), .int v, .int k, .int wt] : List Value).toArray below meth c H locs 0 0 (MQ below (va_Ql (fun (r : Int64) (u : St) => (∃ c sd wh, c < dn.length ∧ v = nI c ∧ sd < 4 ∧ k = nI sd ∧ wh < 2 ∧ wt = nI wh ∧ u.2.1 = li ∧ u.2.2.1 = ia ∧ tbI b la u.2.2.2 ∧ u.2.2.2 19 b = mxF fx n - mnF fx n ∧ u.2.2.2 20 b = mxF fy n - mnF fy n ∧ (((List.range np).any (bn kb lb (tb_x (dn.getD c cp0) sd) (tb_y (dn.getD c cp0) sd) (nI (cpk (dn.getD c cp0) 3))) = true ∧ u.1 = va_up ii 0 2) ∨ ((List.range np).any (bn kb lb (tb_x (dn.getD c cp0) sd) (tb_y (dn.getD c cp0) sd) (nI (cpk (dn.getD c cp0) 3))) = false ∧ u.1 = va_up ii 0 0 ∧ r = if wh = 0 then lN (cpk (dn.getD c cp0) 1) + tb_x (dn.getD c cp0) sd else lN (cpk (dn.getD c cp0) 2) + tb_y (dn.getD c cp0) sd))) ∨ (¬ ((∃ c, c < dn.length ∧ v = nI c) ∧ (∃ sd, sd < 4 ∧ k = nI sd) ∧ ∃ wh, wh < 2 ∧ wt = nI wh) ∧ u = (va_up ii 0 1, li, ia, la))) (wB D (va_A (w_M a cA ii li ia la) s.heap.size) (fun (u : St) => w_M a cA u.1 u.2.1 u.2.2.1 u.2.2.2)) (va_A (w_M a cA ii li ia la) s.heap.size)) ([.ref (a 0), .int v, .int k, .int wt] : List Value).toArray s 0 0 (va_A (w_M a cA ii li ia la) s.heap.size)) (F0 m 160 ls (.long ty :: [.long (lN (cpk qq 2))])) := by
              intro ty hty
              refine lv_ladd hx hb d_M_tab_160 ?_
              refine lv_topl (fun yy eyy => ?_)
              have hyy : yy = lN (cpk qq 2) + ty := by rw [eyy]; skip
              clear eyy
              refine lv_lstore (lv' := [(8, .long yy), (6, .long xx), (5, .int (nI (6 * c0 + 0))), (4, .int 1), (0, .ref (a 0)), (1, .int (nI c0)), (2, .int (nI sd)), (3, .int wt)]) hx hb d_M_tab_161 hl (by decide) rfl (fun ls hl => ?_)
              refine lv_aload_n hx hb d_M_tab_163 rfl (lv_at hl 4 rfl) ?_
              refine va_get (D := D) (ci := 1) (v := .ref (a 15)) (C := R_M) (T := T_M) (N := 26) hx hb (uw_M Z.1 hg.1) (fun _ h => h) hown hK hP 0 rfl rfl 14 (by decide) (kw618 Z.1 _ _ hg.1) (fun _ h9 => h9) rfl d_M_tab_164 ?_
              refine lv_iload hx hb d_M_tab_167 (lv_at hl 2 rfl) ?_
              refine va_lald hx hb hK hP 8 1 rfl rfl (vp_in_nI (n := 6 * c0 + 0) (N := 1200) (by omega) (by decide)) d_M_tab_169 ?_
              refine lv_topl (fun z38 ez38 => ?_)
              rw [nI_clamp (n := (6 * c0 + 0)) (by omega)] at ez38
              obtain rfl : z38 = ((la 14) (6 * c0 + 0)) := ez38
              refine lv_topl (fun z39 ez39 => ?_)
              obtain rfl : z39 = (lN b) := by rw [ez39]; rw [← hb0]; exact hq1 0 (by decide)
              refine lv_l2i hx hb d_M_tab_170 rfl ?_
              refine lv_topi (fun z40 ez40 => ?_)
              obtain rfl : z40 = (nI b) := by rw [ez40]; exact lN_i _
              refine lv_istore (lv' := [(10, .int (nI b)), (8, .long yy), (6, .long xx), (5, .int (nI (6 * c0 + 0))), (4, .int 1), (0, .ref (a 0)), (1, .int (nI c0)), (2, .int (nI sd)), (3, .int wt)]) hx hb d_M_tab_171 hl (by decide) rfl (fun ls hl => ?_)
              refine lv_aload_n hx hb d_M_tab_173 rfl (lv_at hl 5 rfl) ?_
              refine lv_iload hx hb d_M_tab_174 (lv_at hl 0 rfl) ?_
              refine w_callv (wr := ([] : va_W)) (w_runV (rest := []) hx hb hml hown hl.1 hg hlo hK hP hD hS (m_M_findBox Z a (va_up ii 0 0) li ia la b n fx fy hb4 hn hn2 hfx hfy H.size) (kw727 Z.1) (kw729 Z.1) (kp_M_findBox Z.1) (kw730 Z.1) (kw6 Z.1) ⟨by decide, by decide, (by decide +kernel : (parseMethodDescriptor y_M_findBox.desc).map (fun d => d.parameters.length) = some 1)⟩ ⟨Nat.le_of_ble_eq_true rfl, Nat.le_of_ble_eq_true rfl⟩ [0, 1, 2, 3, 4, 5, 6, 7, 8, 9, 10, 11, 12, 13, 14, 15, 16] rfl rfl (ci := 1) (q0 := 0) rfl rfl rfl (Nat.le_of_ble_eq_true rfl) d_M_tab_176 ⟨Nat.le_of_ble_eq_true rfl, Nat.le_of_ble_eq_true rfl⟩) hP hD hS hA [0, 1, 2, 3, 4, 5, 6, 7, 8, 9, 10, 11, 12, 13, 14, 15, 16] [] rfl rfl rfl (by decide) (fun z => w_M a cA (va_up ii 0 0) li ia z) [0, 1, 2, 3, 4, 5, 6, 7, 8, 9, 10, 11, 12, 13, 14, 15, 16] rfl (fun _ => rfl) (fun u1 H locs hq hP hD hS => ?_)
              refine W.widen (k := 0) (n := 0) (Nat.le_of_ble_eq_true rfl) (Nat.le_of_ble_eq_true rfl) ?_
              obtain ⟨p1, p2, p3, p4, p5⟩ := hq
              obtain ⟨p5, p6⟩ := p5 hn0
              have u9 : u1 9 = la 9 := p1 9 (by decide) (by decide) (by decide) (by decide)
              have u14 : u1 14 = la 14 := p1 14 (by decide) (by decide) (by decide) (by decide)
              refine lv_bipush (v := 30) hx hb d_M_tab_179 (by decide) ?_
              refine lv_iload hx hb d_M_tab_181 (lv_at hl 0 rfl) ?_
              refine lv_imul hx hb d_M_tab_183 ?_
              refine lv_topi (fun z42 ez42 => ?_)
              obtain rfl : z42 = (nI (30 * b + 3 * 0)) := by rw [ez42]; exact pk_mul 30 b
              refine lv_istore (lv' := [(11, .int (nI (30 * b + 3 * 0))), (10, .int (nI b)), (8, .long yy), (6, .long xx), (5, .int (nI (6 * c0 + 0))), (4, .int 1), (0, .ref (a 0)), (1, .int (nI c0)), (2, .int (nI sd)), (3, .int wt)]) hx hb d_M_tab_184 hl (by decide) rfl (fun ls hl => ?_)
              obtain ⟨tt, htt⟩ : ∃ z, z = bn kb lb tx ty (nI (cpk qq 3)) := ⟨_, rfl⟩
              have loop : ∀ (f : Nat) (j : Nat) (ib : Nat → Int32), np - j < f → j ≤ np → (ib = if (List.range j).any tt = true then va_up ii 0 2 else va_up ii 0 0) → ∀ (H : Heap) (locs : List Loc), va_P D ncl (w_M a cA ib li ia u1) H → va_D (va_A (w_M a cA ii li ia la) s.heap.size) (w_M a cA ib li ia u1) → va_S (va_A (w_M a cA ii li ia la) s.heap.size) s.heap H locs → ∀ (ls : Array Slot), lv_has ls 20 [(0, .ref (a 0)), (1, .int (nI c0)), (2, .int (nI sd)), (3, .int wt), (5, .int (nI (6 * c0 + 0))), (6, .long xx), (8, .long yy), (10, .int (nI b)), (11, .int (nI (30 * b + 3 * j)))] → W p l e ({ frames := 1, cells := 0, slots := 0, locals := 60 }) s m ([.ref (a 0), .int v, .int k, .int wt] : List Value).toArray below meth c H locs 0 0 (MQ below (va_Ql (fun (r : Int64) (u : St) => (∃ c sd wh, c < dn.length ∧ v = nI c ∧ sd < 4 ∧ k = nI sd ∧ wh < 2 ∧ wt = nI wh ∧ u.2.1 = li ∧ u.2.2.1 = ia ∧ tbI b la u.2.2.2 ∧ u.2.2.2 19 b = mxF fx n - mnF fx n ∧ u.2.2.2 20 b = mxF fy n - mnF fy n ∧ (((List.range np).any (bn kb lb (tb_x (dn.getD c cp0) sd) (tb_y (dn.getD c cp0) sd) (nI (cpk (dn.getD c cp0) 3))) = true ∧ u.1 = va_up ii 0 2) ∨ ((List.range np).any (bn kb lb (tb_x (dn.getD c cp0) sd) (tb_y (dn.getD c cp0) sd) (nI (cpk (dn.getD c cp0) 3))) = false ∧ u.1 = va_up ii 0 0 ∧ r = if wh = 0 then lN (cpk (dn.getD c cp0) 1) + tb_x (dn.getD c cp0) sd else lN (cpk (dn.getD c cp0) 2) + tb_y (dn.getD c cp0) sd))) ∨ (¬ ((∃ c, c < dn.length ∧ v = nI c) ∧ (∃ sd, sd < 4 ∧ k = nI sd) ∧ ∃ wh, wh < 2 ∧ wt = nI wh) ∧ u = (va_up ii 0 1, li, ia, la))) (wB D (va_A (w_M a cA ii li ia la) s.heap.size) (fun (u : St) => w_M a cA u.1 u.2.1 u.2.2.1 u.2.2.2)) (va_A (w_M a cA ii li ia la) s.heap.size)) ([.ref (a 0), .int v, .int k, .int wt] : List Value).toArray s 0 0 (va_A (w_M a cA ii li ia la) s.heap.size)) (F0 m 186 ls []) := by
                intro f
                induction f with
                | zero => intro j ib h; exact absurd h (Nat.not_lt_zero _)
                | succ f ih =>
                  intro j ib hf hj hib H locs hP hD hS ls hl
                  refine lv_iload hx hb d_M_tab_186 (lv_at hl 8 rfl) ?_
                  refine lv_bipush (v := 30) hx hb d_M_tab_188 (by decide) ?_
                  refine lv_iload hx hb d_M_tab_190 (lv_at hl 7 rfl) ?_
                  refine lv_imul hx hb d_M_tab_192 ?_
                  refine lv_topi (fun z43 ez43 => ?_)
                  obtain rfl : z43 = (nI (30 * b)) := by rw [ez43]; exact pk_mul 30 b
                  refine lv_iconst (v := 3) hx hb d_M_tab_193 (by decide) ?_
                  refine lv_aload_n hx hb d_M_tab_194 rfl (lv_at hl 0 rfl) ?_
                  refine va_get (D := D) (ci := 1) (v := .ref (a 9)) (C := R_M) (T := T_M) (N := 26) hx hb (uw_M Z.1 hg.1) (fun _ h => h) hown hK hP 0 rfl rfl 8 (by decide) (kw612 Z.1 _ _ hg.1) (fun _ h9 => h9) rfl d_M_tab_195 ?_
                  refine lv_iload hx hb d_M_tab_198 (lv_at hl 7 rfl) ?_
                  refine va_iald hx hb hK hP 5 0 rfl rfl (vp_in_nI (n := b) (N := 4) (by omega) (by decide)) d_M_tab_200 ?_
                  refine lv_topi (fun z44 ez44 => ?_)
                  rw [nI_clamp (n := b) (by omega)] at ez44
                  obtain rfl : z44 = ((ia 8) b) := ez44
                  refine lv_topi (fun z45 ez45 => ?_)
                  obtain rfl : z45 = (nI np) := by rw [ez45]; exact hnp
                  refine lv_imul hx hb d_M_tab_201 ?_
                  refine lv_topi (fun z46 ez46 => ?_)
                  obtain rfl : z46 = (nI (3 * np)) := by rw [ez46]; exact pk_mul 3 _
                  refine lv_iadd hx hb d_M_tab_202 ?_
                  refine lv_topi (fun z47 ez47 => ?_)
                  obtain rfl : z47 = (nI (30 * b + 3 * np)) := by rw [ez47]; exact nI_add _ _
                  refine lv_icmp_ge (tgt := 373) hx hb d_M_tab_203 (by decide) (fun c48 => ?_) (fun c48 => ?_)
                  · obtain rfl : j = np := by have := (nI_leI (by omega) (by omega)).mp c48; omega
                    have hpost : tbI b la u1 ∧ u1 19 b = mxF fx n - mnF fx n ∧ u1 20 b = mxF fy n - mnF fy n := ⟨⟨p1, fun j hj => ⟨(p2 j hj).2.2.1, (p2 j hj).2.2.2⟩⟩, p3, p4⟩
                    cases hany : (List.range j).any tt with
                    | false =>
                      rw [hany, if_neg (by decide)] at hib
                      have hi0 : ib 0 = 0 := by rw [hib, up_s]
                      refine lv_aload_n hx hb d_M_tab_373 rfl (lv_at hl 0 rfl) ?_
                      refine va_get (D := D) (ci := 1) (v := .int (ib 0)) (C := R_M) (T := T_M) (N := 26) hx hb (uw_M Z.1 hg.1) (fun _ h => h) hown hK hP 0 rfl rfl 0 (by decide) (kw604 Z.1 _ _ hg.1) (fun _ h9 => h9) rfl d_M_tab_374 ?_
                      refine lv_topi (fun z49 ez49 => ?_)
                      obtain rfl : z49 = 0 := by rw [ez49]; exact hi0
                      refine lv_if_eq (tgt := 384) hx hb d_M_tab_377 (by decide) (fun _ => ?_) (fun k50 => by first | exact absurd (show (0 : Int32) = 0 from rfl) k50 | exact absurd k50 (show (0 : Int32) = 0 from rfl))
                      refine lv_iload_n hx hb d_M_tab_384 rfl (lv_at hl 3 rfl) ?_
                      refine lv_if_ne (tgt := 393) hx hb d_M_tab_385 (by decide) (fun k51 => by first | exact absurd (show wt = 0 from hv0) k51 | exact absurd k51 (show wt = 0 from hv0)) (fun _ => ?_)
                      refine lv_lload hx hb d_M_tab_388 (lv_at hl 5 rfl) ?_
                      refine lv_goto (tgt := 395) hx hb d_M_tab_390 (by decide) ?_
                      exact w_lret hx hb hr hlk hP hD hS (ib, li, ia, u1) rfl (Or.inl ⟨c0, sd, 0, hc0, hvq, hsd, hkq, by decide, hv0, rfl, rfl, hpost.1, hpost.2.1, hpost.2.2, Or.inr ⟨by rw [← hqq, ← htx, ← hty, ← htt]; exact hany, hib, by rw [if_pos rfl, ← hqq, ← htx]; exact hxx⟩⟩) d_M_tab_395
                    | true =>
                      rw [hany, if_pos rfl] at hib
                      have hi0 : ib 0 = 2 := by rw [hib, up_s]
                      refine lv_aload_n hx hb d_M_tab_373 rfl (lv_at hl 0 rfl) ?_
                      refine va_get (D := D) (ci := 1) (v := .int (ib 0)) (C := R_M) (T := T_M) (N := 26) hx hb (uw_M Z.1 hg.1) (fun _ h => h) hown hK hP 0 rfl rfl 0 (by decide) (kw604 Z.1 _ _ hg.1) (fun _ h9 => h9) rfl d_M_tab_374 ?_
                      refine lv_topi (fun z52 ez52 => ?_)
                      obtain rfl : z52 = 2 := by rw [ez52]; exact hi0
                      refine lv_if_eq (tgt := 384) hx hb d_M_tab_377 (by decide) (fun k53 => by first | exact absurd (show ¬ (2 : Int32) = 0 by decide) k53 | exact absurd k53 (show ¬ (2 : Int32) = 0 by decide)) (fun _ => ?_)
                      refine lv_lconst (v := 0) hx hb d_M_tab_380 (by decide) ?_
                      refine lv_goto (tgt := 395) hx hb d_M_tab_381 (by decide) ?_
                      exact w_lret hx hb hr hlk hP hD hS (ib, li, ia, u1) rfl (Or.inl ⟨c0, sd, 0, hc0, hvq, hsd, hkq, by decide, hv0, rfl, rfl, hpost.1, hpost.2.1, hpost.2.2, Or.inl ⟨by rw [← hqq, ← htx, ← hty, ← htt]; exact hany, hib⟩⟩) d_M_tab_395
                  · have hjn : j < np := Nat.lt_of_not_le (fun z => c48 ((nI_leI (by omega) (by omega)).mpr (by omega)))
                    obtain ⟨k1, k2, k3⟩ := hpt j hjn
                    refine lv_aload_n hx hb d_M_tab_206 rfl (lv_at hl 0 rfl) ?_
                    refine va_get (D := D) (ci := 1) (v := .ref (a 10)) (C := R_M) (T := T_M) (N := 26) hx hb (uw_M Z.1 hg.1) (fun _ h => h) hown hK hP 0 rfl rfl 9 (by decide) (kw613 Z.1 _ _ hg.1) (fun _ h9 => h9) rfl d_M_tab_207 ?_
                    refine lv_iload hx hb d_M_tab_210 (lv_at hl 8 rfl) ?_
                    refine va_lald hx hb hK hP 6 1 rfl rfl (vp_in_nI (n := 30 * b + 3 * j) (N := 120) (by omega) (by decide)) d_M_tab_212 ?_
                    refine lv_topl (fun z54 ez54 => ?_)
                    rw [nI_clamp (n := (30 * b + 3 * j)) (by omega)] at ez54
                    obtain rfl : z54 = ((u1 9) (30 * b + 3 * j)) := ez54
                    refine lv_topl (fun pa epa => ?_)
                    have hpa : pa = kb 2 j := by rw [epa]; rw [u9]; exact k1
                    clear epa
                    refine lv_aload_n hx hb d_M_tab_213 rfl (lv_at hl 0 rfl) ?_
                    refine va_get (D := D) (ci := 1) (v := .ref (a 18)) (C := R_M) (T := T_M) (N := 26) hx hb (uw_M Z.1 hg.1) (fun _ h => h) hown hK hP 0 rfl rfl 17 (by decide) (kw621 Z.1 _ _ hg.1) (fun _ h9 => h9) rfl d_M_tab_214 ?_
                    refine lv_iload hx hb d_M_tab_217 (lv_at hl 7 rfl) ?_
                    refine va_lald hx hb hK hP 10 1 rfl rfl (vp_in_nI (n := b) (N := 4) (by omega) (by decide)) d_M_tab_219 ?_
                    refine lv_topl (fun z55 ez55 => ?_)
                    rw [nI_clamp (n := b) (by omega)] at ez55
                    obtain rfl : z55 = ((u1 17) b) := ez55
                    refine lv_topl (fun pb epb => ?_)
                    have hpb : pb = lb 7 := by rw [epb]; rw [hl7]; exact p5
                    clear epb
                    refine lv_lsub hx hb d_M_tab_220 ?_
                    refine lv_topl (fun uu euu => ?_)
                    have huu : uu = kb 2 j - lb 7 := by rw [euu]; rw [hpa, hpb]
                    clear euu
                    refine lv_lstore (lv' := [(12, .long uu), (0, .ref (a 0)), (1, .int (nI c0)), (2, .int (nI sd)), (3, .int wt), (5, .int (nI (6 * c0 + 0))), (6, .long xx), (8, .long yy), (10, .int (nI b)), (11, .int (nI (30 * b + 3 * j)))]) hx hb d_M_tab_221 hl (by decide) rfl (fun ls hl => ?_)
                    refine lv_aload_n hx hb d_M_tab_223 rfl (lv_at hl 1 rfl) ?_
                    refine va_get (D := D) (ci := 1) (v := .ref (a 10)) (C := R_M) (T := T_M) (N := 26) hx hb (uw_M Z.1 hg.1) (fun _ h => h) hown hK hP 0 rfl rfl 9 (by decide) (kw613 Z.1 _ _ hg.1) (fun _ h9 => h9) rfl d_M_tab_224 ?_
                    refine lv_iload hx hb d_M_tab_227 (lv_at hl 9 rfl) ?_
                    refine lv_iconst (v := 1) hx hb d_M_tab_229 (by decide) ?_
                    refine lv_iadd hx hb d_M_tab_230 ?_
                    refine lv_topi (fun z56 ez56 => ?_)
                    obtain rfl : z56 = (nI (30 * b + 3 * j + 1)) := by rw [ez56]; exact nI_add _ 1
                    refine va_lald hx hb hK hP 6 1 rfl rfl (vp_in_nI (n := 30 * b + 3 * j + 1) (N := 120) (by omega) (by decide)) d_M_tab_231 ?_
                    refine lv_topl (fun z57 ez57 => ?_)
                    rw [nI_clamp (n := (30 * b + 3 * j + 1)) (by omega)] at ez57
                    obtain rfl : z57 = ((u1 9) (30 * b + 3 * j + 1)) := ez57
                    refine lv_topl (fun pc1 epc1 => ?_)
                    have hpc1 : pc1 = kb 3 j := by rw [epc1]; rw [u9]; exact k2
                    clear epc1
                    refine lv_aload_n hx hb d_M_tab_232 rfl (lv_at hl 1 rfl) ?_
                    refine va_get (D := D) (ci := 1) (v := .ref (a 19)) (C := R_M) (T := T_M) (N := 26) hx hb (uw_M Z.1 hg.1) (fun _ h => h) hown hK hP 0 rfl rfl 18 (by decide) (kw622 Z.1 _ _ hg.1) (fun _ h9 => h9) rfl d_M_tab_233 ?_
                    refine lv_iload hx hb d_M_tab_236 (lv_at hl 8 rfl) ?_
                    refine va_lald hx hb hK hP 11 1 rfl rfl (vp_in_nI (n := b) (N := 4) (by omega) (by decide)) d_M_tab_238 ?_
                    refine lv_topl (fun z58 ez58 => ?_)
                    rw [nI_clamp (n := b) (by omega)] at ez58
                    obtain rfl : z58 = ((u1 18) b) := ez58
                    refine lv_topl (fun pd epd => ?_)
                    have hpd : pd = lb 8 := by rw [epd]; rw [hl8]; exact p6
                    clear epd
                    refine lv_lsub hx hb d_M_tab_239 ?_
                    refine lv_topl (fun vv1 evv1 => ?_)
                    have hvv1 : vv1 = kb 3 j - lb 8 := by rw [evv1]; rw [hpc1, hpd]
                    clear evv1
                    refine lv_lstore (lv' := [(14, .long vv1), (12, .long uu), (0, .ref (a 0)), (1, .int (nI c0)), (2, .int (nI sd)), (3, .int wt), (5, .int (nI (6 * c0 + 0))), (6, .long xx), (8, .long yy), (10, .int (nI b)), (11, .int (nI (30 * b + 3 * j)))]) hx hb d_M_tab_240 hl (by decide) rfl (fun ls hl => ?_)
                    refine lv_aload_n hx hb d_M_tab_242 rfl (lv_at hl 2 rfl) ?_
                    refine va_get (D := D) (ci := 1) (v := .ref (a 15)) (C := R_M) (T := T_M) (N := 26) hx hb (uw_M Z.1 hg.1) (fun _ h => h) hown hK hP 0 rfl rfl 14 (by decide) (kw618 Z.1 _ _ hg.1) (fun _ h9 => h9) rfl d_M_tab_243 ?_
                    refine lv_iload hx hb d_M_tab_246 (lv_at hl 6 rfl) ?_
                    refine lv_iconst (v := 1) hx hb d_M_tab_248 (by decide) ?_
                    refine lv_iadd hx hb d_M_tab_249 ?_
                    refine lv_topi (fun z59 ez59 => ?_)
                    obtain rfl : z59 = (nI (6 * c0 + 1)) := by rw [ez59]; exact nI_add _ 1
                    refine va_lald hx hb hK hP 8 1 rfl rfl (vp_in_nI (n := 6 * c0 + 1) (N := 1200) (by omega) (by decide)) d_M_tab_250 ?_
                    refine lv_topl (fun z60 ez60 => ?_)
                    rw [nI_clamp (n := (6 * c0 + 1)) (by omega)] at ez60
                    obtain rfl : z60 = ((u1 14) (6 * c0 + 1)) := ez60
                    refine lv_topl (fun z61 ez61 => ?_)
                    obtain rfl : z61 = (lN (cpk qq 1)) := by rw [ez61]; rw [u14]; exact hq1 1 (by decide)
                    have jn62 : ∀ ta : Int64, ta = (if nI (cpk qq 3) = 0 then kb 2 j - lb 7 else (lb 10 - lb 8) - (kb 3 j - lb 8)) → W p l e ({ frames := 1, cells := 0, slots := 0, locals := 60 }) s m ([.ref (a 0), .int v, .int k, .int wt] : List Value).toArray below meth c H locs 0 0 (MQ below (va_Ql (fun (r : Int64) (u : St) => (∃ c sd wh, c < dn.length ∧ v = nI c ∧ sd < 4 ∧ k = nI sd ∧ wh < 2 ∧ wt = nI wh ∧ u.2.1 = li ∧ u.2.2.1 = ia ∧ tbI b la u.2.2.2 ∧ u.2.2.2 19 b = mxF fx n - mnF fx n ∧ u.2.2.2 20 b = mxF fy n - mnF fy n ∧ (((List.range np).any (bn kb lb (tb_x (dn.getD c cp0) sd) (tb_y (dn.getD c cp0) sd) (nI (cpk (dn.getD c cp0) 3))) = true ∧ u.1 = va_up ii 0 2) ∨ ((List.range np).any (bn kb lb (tb_x (dn.getD c cp0) sd) (tb_y (dn.getD c cp0) sd) (nI (cpk (dn.getD c cp0) 3))) = false ∧ u.1 = va_up ii 0 0 ∧ r = if wh = 0 then lN (cpk (dn.getD c cp0) 1) + tb_x (dn.getD c cp0) sd else lN (cpk (dn.getD c cp0) 2) + tb_y (dn.getD c cp0) sd))) ∨ (¬ ((∃ c, c < dn.length ∧ v = nI c) ∧ (∃ sd, sd < 4 ∧ k = nI sd) ∧ ∃ wh, wh < 2 ∧ wt = nI wh) ∧ u = (va_up ii 0 1, li, ia, la))) (wB D (va_A (w_M a cA ii li ia la) s.heap.size) (fun (u : St) => w_M a cA u.1 u.2.1 u.2.2.1 u.2.2.2)) (va_A (w_M a cA ii li ia la) s.heap.size)) ([.ref (a 0), .int v, .int k, .int wt] : List Value).toArray s 0 0 (va_A (w_M a cA ii li ia la) s.heap.size)) (F0 m 280 ls (.long ta :: [.long (lN (cpk qq 1))])) := by
                      intro ta hta
                      refine lv_ladd hx hb d_M_tab_280 ?_
                      refine lv_topl (fun px epx => ?_)
                      have hpx : px = lN (cpk qq 1) + ta := by rw [epx]; skip
                      clear epx
                      refine lv_lstore (lv' := [(16, .long px), (14, .long vv1), (12, .long uu), (0, .ref (a 0)), (1, .int (nI c0)), (2, .int (nI sd)), (3, .int wt), (5, .int (nI (6 * c0 + 0))), (6, .long xx), (8, .long yy), (10, .int (nI b)), (11, .int (nI (30 * b + 3 * j)))]) hx hb d_M_tab_281 hl (by decide) rfl (fun ls hl => ?_)
                      refine lv_aload_n hx hb d_M_tab_283 rfl (lv_at hl 3 rfl) ?_
                      refine va_get (D := D) (ci := 1) (v := .ref (a 15)) (C := R_M) (T := T_M) (N := 26) hx hb (uw_M Z.1 hg.1) (fun _ h => h) hown hK hP 0 rfl rfl 14 (by decide) (kw618 Z.1 _ _ hg.1) (fun _ h9 => h9) rfl d_M_tab_284 ?_
                      refine lv_iload hx hb d_M_tab_287 (lv_at hl 7 rfl) ?_
                      refine lv_iconst (v := 2) hx hb d_M_tab_289 (by decide) ?_
                      refine lv_iadd hx hb d_M_tab_290 ?_
                      refine lv_topi (fun z68 ez68 => ?_)
                      obtain rfl : z68 = (nI (6 * c0 + 2)) := by rw [ez68]; exact nI_add _ 2
                      refine va_lald hx hb hK hP 8 1 rfl rfl (vp_in_nI (n := 6 * c0 + 2) (N := 1200) (by omega) (by decide)) d_M_tab_291 ?_
                      refine lv_topl (fun z69 ez69 => ?_)
                      rw [nI_clamp (n := (6 * c0 + 2)) (by omega)] at ez69
                      obtain rfl : z69 = ((u1 14) (6 * c0 + 2)) := ez69
                      refine lv_topl (fun z70 ez70 => ?_)
                      obtain rfl : z70 = (lN (cpk qq 2)) := by rw [ez70]; rw [u14]; exact hq1 2 (by decide)
                      have jn71 : ∀ tc : Int64, tc = (if nI (cpk qq 3) = 0 then kb 3 j - lb 8 else kb 2 j - lb 7) → W p l e ({ frames := 1, cells := 0, slots := 0, locals := 60 }) s m ([.ref (a 0), .int v, .int k, .int wt] : List Value).toArray below meth c H locs 0 0 (MQ below (va_Ql (fun (r : Int64) (u : St) => (∃ c sd wh, c < dn.length ∧ v = nI c ∧ sd < 4 ∧ k = nI sd ∧ wh < 2 ∧ wt = nI wh ∧ u.2.1 = li ∧ u.2.2.1 = ia ∧ tbI b la u.2.2.2 ∧ u.2.2.2 19 b = mxF fx n - mnF fx n ∧ u.2.2.2 20 b = mxF fy n - mnF fy n ∧ (((List.range np).any (bn kb lb (tb_x (dn.getD c cp0) sd) (tb_y (dn.getD c cp0) sd) (nI (cpk (dn.getD c cp0) 3))) = true ∧ u.1 = va_up ii 0 2) ∨ ((List.range np).any (bn kb lb (tb_x (dn.getD c cp0) sd) (tb_y (dn.getD c cp0) sd) (nI (cpk (dn.getD c cp0) 3))) = false ∧ u.1 = va_up ii 0 0 ∧ r = if wh = 0 then lN (cpk (dn.getD c cp0) 1) + tb_x (dn.getD c cp0) sd else lN (cpk (dn.getD c cp0) 2) + tb_y (dn.getD c cp0) sd))) ∨ (¬ ((∃ c, c < dn.length ∧ v = nI c) ∧ (∃ sd, sd < 4 ∧ k = nI sd) ∧ ∃ wh, wh < 2 ∧ wt = nI wh) ∧ u = (va_up ii 0 1, li, ia, la))) (wB D (va_A (w_M a cA ii li ia la) s.heap.size) (fun (u : St) => w_M a cA u.1 u.2.1 u.2.2.1 u.2.2.2)) (va_A (w_M a cA ii li ia la) s.heap.size)) ([.ref (a 0), .int v, .int k, .int wt] : List Value).toArray s 0 0 (va_A (w_M a cA ii li ia la) s.heap.size)) (F0 m 313 ls (.long tc :: [.long (lN (cpk qq 2))])) := by
                        intro tc htc
                        refine lv_ladd hx hb d_M_tab_313 ?_
                        refine lv_topl (fun py epy => ?_)
                        have hpy : py = lN (cpk qq 2) + tc := by rw [epy]; skip
                        clear epy
                        refine lv_lstore (lv' := [(18, .long py), (16, .long px), (14, .long vv1), (12, .long uu), (0, .ref (a 0)), (1, .int (nI c0)), (2, .int (nI sd)), (3, .int wt), (5, .int (nI (6 * c0 + 0))), (6, .long xx), (8, .long yy), (10, .int (nI b)), (11, .int (nI (30 * b + 3 * j)))]) hx hb d_M_tab_314 hl (by decide) rfl (fun ls hl => ?_)
                        refine lv_lload hx hb d_M_tab_316 (lv_at hl 1 rfl) ?_
                        refine lv_lload hx hb d_M_tab_318 (lv_at hl 9 rfl) ?_
                        refine lv_lsub hx hb d_M_tab_320 ?_
                        refine lv_lload hx hb d_M_tab_321 (lv_at hl 1 rfl) ?_
                        refine lv_lload hx hb d_M_tab_323 (lv_at hl 9 rfl) ?_
                        refine lv_lsub hx hb d_M_tab_325 ?_
                        refine lv_lmul hx hb d_M_tab_326 ?_
                        refine lv_topl (fun s1 es1 => ?_)
                        have hs1 : s1 = (tx - ta) * (tx - ta) := by rw [es1]; rw [hpx, hxx]; exact rg_1 _ _ _
                        clear es1
                        refine lv_lload hx hb d_M_tab_327 (lv_at hl 0 rfl) ?_
                        refine lv_lload hx hb d_M_tab_329 (lv_at hl 10 rfl) ?_
                        refine lv_lsub hx hb d_M_tab_331 ?_
                        refine lv_lload hx hb d_M_tab_332 (lv_at hl 0 rfl) ?_
                        refine lv_lload hx hb d_M_tab_334 (lv_at hl 10 rfl) ?_
                        refine lv_lsub hx hb d_M_tab_336 ?_
                        refine lv_lmul hx hb d_M_tab_337 ?_
                        refine lv_topl (fun s2 es2 => ?_)
                        have hs2 : s2 = (ty - tc) * (ty - tc) := by rw [es2]; rw [hpy, hyy]; exact rg_1 _ _ _
                        clear es2
                        refine lv_ladd hx hb d_M_tab_338 ?_
                        refine lv_topl (fun s3 es3 => ?_)
                        have hs3 : s3 = s1 + s2 := by rw [es3]; skip
                        clear es3
                        refine lv_aload_n hx hb d_M_tab_339 rfl (lv_at hl 4 rfl) ?_
                        refine va_get (D := D) (ci := 1) (v := .ref (a 10)) (C := R_M) (T := T_M) (N := 26) hx hb (uw_M Z.1 hg.1) (fun _ h => h) hown hK hP 0 rfl rfl 9 (by decide) (kw613 Z.1 _ _ hg.1) (fun _ h9 => h9) rfl d_M_tab_340 ?_
                        refine lv_iload hx hb d_M_tab_343 (lv_at hl 12 rfl) ?_
                        refine lv_iconst (v := 2) hx hb d_M_tab_345 (by decide) ?_
                        refine lv_iadd hx hb d_M_tab_346 ?_
                        refine lv_topi (fun z76 ez76 => ?_)
                        obtain rfl : z76 = (nI (30 * b + 3 * j + 2)) := by rw [ez76]; exact nI_add _ 2
                        refine va_lald hx hb hK hP 6 1 rfl rfl (vp_in_nI (n := 30 * b + 3 * j + 2) (N := 120) (by omega) (by decide)) d_M_tab_347 ?_
                        refine lv_topl (fun z77 ez77 => ?_)
                        rw [nI_clamp (n := (30 * b + 3 * j + 2)) (by omega)] at ez77
                        obtain rfl : z77 = ((u1 9) (30 * b + 3 * j + 2)) := ez77
                        refine lv_topl (fun r1 er1 => ?_)
                        have hr1 : r1 = kb 4 j := by rw [er1]; rw [u9]; exact k3
                        clear er1
                        refine lv_aload_n hx hb d_M_tab_348 rfl (lv_at hl 4 rfl) ?_
                        refine va_get (D := D) (ci := 1) (v := .ref (a 10)) (C := R_M) (T := T_M) (N := 26) hx hb (uw_M Z.1 hg.1) (fun _ h => h) hown hK hP 0 rfl rfl 9 (by decide) (kw613 Z.1 _ _ hg.1) (fun _ h9 => h9) rfl d_M_tab_349 ?_
                        refine lv_iload hx hb d_M_tab_352 (lv_at hl 12 rfl) ?_
                        refine lv_iconst (v := 2) hx hb d_M_tab_354 (by decide) ?_
                        refine lv_iadd hx hb d_M_tab_355 ?_
                        refine lv_topi (fun z78 ez78 => ?_)
                        obtain rfl : z78 = (nI (30 * b + 3 * j + 2)) := by rw [ez78]; exact nI_add _ 2
                        refine va_lald hx hb hK hP 6 1 rfl rfl (vp_in_nI (n := 30 * b + 3 * j + 2) (N := 120) (by omega) (by decide)) d_M_tab_356 ?_
                        refine lv_topl (fun z79 ez79 => ?_)
                        rw [nI_clamp (n := (30 * b + 3 * j + 2)) (by omega)] at ez79
                        obtain rfl : z79 = ((u1 9) (30 * b + 3 * j + 2)) := ez79
                        refine lv_topl (fun r2 er2 => ?_)
                        have hr2 : r2 = kb 4 j := by rw [er2]; rw [u9]; exact k3
                        clear er2
                        refine lv_lmul hx hb d_M_tab_357 ?_
                        refine lv_topl (fun r3 er3 => ?_)
                        have hr3 : r3 = kb 4 j * kb 4 j := by rw [er3]; rw [hr1, hr2]
                        clear er3
                        have hbn : tt j = decide (s3 < r3) := by rw [htt, hs3, hs1, hs2, hr3, hta, htc]; rfl
                        refine W.lcmp hx hb d_M_tab_358 ?_
                        refine lv_if_ge (tgt := 367) hx hb d_M_tab_359 (by decide) (fun g80 => ?_) (fun g80 => ?_)
                        · have ht0 : tt j = false := by rw [hbn]; exact decide_eq_false (fun z => absurd ((lg_cmp_ge _ _).mp g80) (Int64.not_le.mpr z))
                          have hay : (List.range (j + 1)).any tt = (List.range j).any tt := by rw [List.range_succ, List.any_append]; simp [ht0]
                          obtain ⟨v81, ev81⟩ : ∃ y : Int32, y = (nI (30 * b + 3 * j)) + 3 := ⟨_, rfl⟩
                          refine lv_iinc (v := v81) (lv' := [(11, .int v81), (18, .long py), (16, .long px), (14, .long vv1), (12, .long uu), (0, .ref (a 0)), (1, .int (nI c0)), (2, .int (nI sd)), (3, .int wt), (5, .int (nI (6 * c0 + 0))), (6, .long xx), (8, .long yy), (10, .int (nI b))]) hx hb d_M_tab_367 hl (k := 12) rfl (by rw [ev81]; rfl) (by decide) rfl (fun ls hl => ?_)
                          refine lv_goto (tgt := 186) hx hb d_M_tab_370 (by decide) ?_
                          obtain rfl : v81 = nI (30 * b + 3 * (j + 1)) := by rw [ev81]; exact nI_add (30 * b + 3 * j) 3
                          exact ih (j + 1) ib (by omega) hjn (by rw [hay]; exact hib) _ _ hP hD hS ls (lv_sub hl [5, 6, 7, 8, 9, 10, 11, 12, 0] rfl)
                        · have ht0 : tt j = true := by rw [hbn]; exact decide_eq_true (Int64.not_le.mp (fun z => g80 ((lg_cmp_ge _ _).mpr z)))
                          have hay : (List.range (j + 1)).any tt = true := by rw [List.range_succ, List.any_append]; simp [ht0]
                          refine lv_aload_n hx hb d_M_tab_362 rfl (lv_at hl 4 rfl) ?_
                          refine lv_iconst (v := 2) hx hb d_M_tab_363 (by decide) ?_
                          refine va_put (D := D) (ci := 1) (v := .int 2) (ty := t_M 0) (C := R_M) (T := T_M) (N := 26) hx hb (uw_M Z.1 hg.1) (fun _ h => h) t_M t_M_ok n_M hown hK hP hD hS 0 rfl rfl 0 (by decide) (kw604 Z.1 _ _ hg.1) (fun _ h9 => h9) rfl (by decide +kernel) rfl rfl (Nat.le_of_ble_eq_true rfl) d_M_tab_364 (fun H locs hP hD hS => ?_)
                          have hP : va_P D ncl (w_M a cA (va_up ib 0 2) li ia u1) H := hP
                          have hD : va_D _ (w_M a cA (va_up ib 0 2) li ia u1) := hD
                          obtain ⟨v82, ev82⟩ : ∃ y : Int32, y = (nI (30 * b + 3 * j)) + 3 := ⟨_, rfl⟩
                          refine lv_iinc (v := v82) (lv' := [(11, .int v82), (18, .long py), (16, .long px), (14, .long vv1), (12, .long uu), (0, .ref (a 0)), (1, .int (nI c0)), (2, .int (nI sd)), (3, .int wt), (5, .int (nI (6 * c0 + 0))), (6, .long xx), (8, .long yy), (10, .int (nI b))]) hx hb d_M_tab_367 hl (k := 12) rfl (by rw [ev82]; rfl) (by decide) rfl (fun ls hl => ?_)
                          refine lv_goto (tgt := 186) hx hb d_M_tab_370 (by decide) ?_
                          obtain rfl : v82 = nI (30 * b + 3 * (j + 1)) := by rw [ev82]; exact nI_add (30 * b + 3 * j) 3
                          exact ih (j + 1) (va_up ib 0 2) (by omega) hjn (by rw [hay, if_pos rfl, hib]; split <;> exact bx_uu _ _ _ _) _ _ hP hD hS ls (lv_sub hl [5, 6, 7, 8, 9, 10, 11, 12, 0] rfl)
                      refine lv_aload_n hx hb d_M_tab_292 rfl (lv_at hl 3 rfl) ?_
                      refine va_get (D := D) (ci := 1) (v := .ref (a 15)) (C := R_M) (T := T_M) (N := 26) hx hb (uw_M Z.1 hg.1) (fun _ h => h) hown hK hP 0 rfl rfl 14 (by decide) (kw618 Z.1 _ _ hg.1) (fun _ h9 => h9) rfl d_M_tab_293 ?_
                      refine lv_iload hx hb d_M_tab_296 (lv_at hl 7 rfl) ?_
                      refine lv_iconst (v := 3) hx hb d_M_tab_298 (by decide) ?_
                      refine lv_iadd hx hb d_M_tab_299 ?_
                      refine lv_topi (fun z72 ez72 => ?_)
                      obtain rfl : z72 = (nI (6 * c0 + 3)) := by rw [ez72]; exact nI_add _ 3
                      refine va_lald hx hb hK hP 8 1 rfl rfl (vp_in_nI (n := 6 * c0 + 3) (N := 1200) (by omega) (by decide)) d_M_tab_300 ?_
                      refine lv_topl (fun z73 ez73 => ?_)
                      rw [nI_clamp (n := (6 * c0 + 3)) (by omega)] at ez73
                      obtain rfl : z73 = ((u1 14) (6 * c0 + 3)) := ez73
                      refine lv_topl (fun z74 ez74 => ?_)
                      obtain rfl : z74 = (lN (cpk qq 3)) := by rw [ez74]; rw [u14]; exact hq1 3 (by decide)
                      refine lv_lconst (v := 0) hx hb d_M_tab_301 (by decide) ?_
                      refine W.lcmp hx hb d_M_tab_302 ?_
                      refine lv_if_ne (tgt := 311) hx hb d_M_tab_303 (by decide) (fun e75 => ?_) (fun e75 => ?_)
                      · have hz3 : ¬ nI (cpk qq 3) = 0 := fun z => e75 ((lg_cmp_eq _ _).mpr ((l0_iff h3).mpr z))
                        refine lv_lload hx hb d_M_tab_311 (lv_at hl 2 rfl) ?_
                        exact jn71 _ (by rw [if_neg hz3]; exact huu)
                      · have hz3 := (l0_iff h3).mp ((lg_cmp_eq _ _).mp e75)
                        refine lv_lload hx hb d_M_tab_306 (lv_at hl 1 rfl) ?_
                        refine lv_goto (tgt := 313) hx hb d_M_tab_308 (by decide) ?_
                        exact jn71 _ (by rw [if_pos hz3]; exact hvv1)
                    refine lv_aload_n hx hb d_M_tab_251 rfl (lv_at hl 2 rfl) ?_
                    refine va_get (D := D) (ci := 1) (v := .ref (a 15)) (C := R_M) (T := T_M) (N := 26) hx hb (uw_M Z.1 hg.1) (fun _ h => h) hown hK hP 0 rfl rfl 14 (by decide) (kw618 Z.1 _ _ hg.1) (fun _ h9 => h9) rfl d_M_tab_252 ?_
                    refine lv_iload hx hb d_M_tab_255 (lv_at hl 6 rfl) ?_
                    refine lv_iconst (v := 3) hx hb d_M_tab_257 (by decide) ?_
                    refine lv_iadd hx hb d_M_tab_258 ?_
                    refine lv_topi (fun z63 ez63 => ?_)
                    obtain rfl : z63 = (nI (6 * c0 + 3)) := by rw [ez63]; exact nI_add _ 3
                    refine va_lald hx hb hK hP 8 1 rfl rfl (vp_in_nI (n := 6 * c0 + 3) (N := 1200) (by omega) (by decide)) d_M_tab_259 ?_
                    refine lv_topl (fun z64 ez64 => ?_)
                    rw [nI_clamp (n := (6 * c0 + 3)) (by omega)] at ez64
                    obtain rfl : z64 = ((u1 14) (6 * c0 + 3)) := ez64
                    refine lv_topl (fun z65 ez65 => ?_)
                    obtain rfl : z65 = (lN (cpk qq 3)) := by rw [ez65]; rw [u14]; exact hq1 3 (by decide)
                    refine lv_lconst (v := 0) hx hb d_M_tab_260 (by decide) ?_
                    refine W.lcmp hx hb d_M_tab_261 ?_
                    refine lv_if_ne (tgt := 270) hx hb d_M_tab_262 (by decide) (fun e66 => ?_) (fun e66 => ?_)
                    · have hz3 : ¬ nI (cpk qq 3) = 0 := fun z => e66 ((lg_cmp_eq _ _).mpr ((l0_iff h3).mpr z))
                      refine lv_aload_n hx hb d_M_tab_270 rfl (lv_at hl 2 rfl) ?_
                      refine va_get (D := D) (ci := 1) (v := .ref (a 21)) (C := R_M) (T := T_M) (N := 26) hx hb (uw_M Z.1 hg.1) (fun _ h => h) hown hK hP 0 rfl rfl 20 (by decide) (kw624 Z.1 _ _ hg.1) (fun _ h9 => h9) rfl d_M_tab_271 ?_
                      refine lv_iload hx hb d_M_tab_274 (lv_at hl 9 rfl) ?_
                      refine va_lald hx hb hK hP 13 1 rfl rfl (vp_in_nI (n := b) (N := 4) (by omega) (by decide)) d_M_tab_276 ?_
                      refine lv_topl (fun z67 ez67 => ?_)
                      rw [nI_clamp (n := b) (by omega)] at ez67
                      obtain rfl : z67 = ((u1 20) b) := ez67
                      refine lv_topl (fun pe epe => ?_)
                      have hpe : pe = lb 10 - lb 8 := by rw [epe]; rw [hl10, hl8]; exact p4
                      clear epe
                      refine lv_lload hx hb d_M_tab_277 (lv_at hl 0 rfl) ?_
                      refine lv_lsub hx hb d_M_tab_279 ?_
                      exact jn62 _ (by rw [if_neg hz3, hpe, hvv1])
                    · have hz3 := (l0_iff h3).mp ((lg_cmp_eq _ _).mp e66)
                      refine lv_lload hx hb d_M_tab_265 (lv_at hl 1 rfl) ?_
                      refine lv_goto (tgt := 280) hx hb d_M_tab_267 (by decide) ?_
                      exact jn62 _ (by rw [if_pos hz3]; exact huu)
              exact loop (np + 1) 0 (va_up ii 0 0) (by omega) (Nat.zero_le _) rfl _ _ hP hD hS ls (lv_sub hl [6, 7, 8, 9, 4, 3, 2, 1, 0] rfl)
            refine lv_iload_n hx hb d_M_tab_121 rfl (lv_at hl 5 rfl) ?_
            refine lv_iconst (v := 1) hx hb d_M_tab_122 (by decide) ?_
            refine lv_icmp_ne (tgt := 130) hx hb d_M_tab_123 (by decide) (fun g30 => ?_) (fun g30 => ?_)
            · have hs : ¬ sd = 1 := fun z => g30 (by rw [z]; rfl)
              refine lv_iload_n hx hb d_M_tab_130 rfl (lv_at hl 5 rfl) ?_
              refine lv_iconst (v := 3) hx hb d_M_tab_131 (by decide) ?_
              refine lv_icmp_ne (tgt := 147) hx hb d_M_tab_132 (by decide) (fun h31 => ?_) (fun h31 => ?_)
              · have hs2 : ¬ sd = 3 := fun z => h31 (by rw [z]; rfl)
                refine lv_aload_n hx hb d_M_tab_147 rfl (lv_at hl 3 rfl) ?_
                refine va_get (D := D) (ci := 1) (v := .ref (a 15)) (C := R_M) (T := T_M) (N := 26) hx hb (uw_M Z.1 hg.1) (fun _ h => h) hown hK hP 0 rfl rfl 14 (by decide) (kw618 Z.1 _ _ hg.1) (fun _ h9 => h9) rfl d_M_tab_148 ?_
                refine lv_iload hx hb d_M_tab_151 (lv_at hl 1 rfl) ?_
                refine lv_iconst (v := 5) hx hb d_M_tab_153 (by decide) ?_
                refine lv_iadd hx hb d_M_tab_154 ?_
                refine lv_topi (fun z35 ez35 => ?_)
                obtain rfl : z35 = (nI (6 * c0 + 5)) := by rw [ez35]; exact nI_add _ 5
                refine va_lald hx hb hK hP 8 1 rfl rfl (vp_in_nI (n := 6 * c0 + 5) (N := 1200) (by omega) (by decide)) d_M_tab_155 ?_
                refine lv_topl (fun z36 ez36 => ?_)
                rw [nI_clamp (n := (6 * c0 + 5)) (by omega)] at ez36
                obtain rfl : z36 = ((la 14) (6 * c0 + 5)) := ez36
                refine lv_topl (fun z37 ez37 => ?_)
                obtain rfl : z37 = (lN (cpk qq 5)) := by rw [ez37]; exact hq1 5 (by decide)
                refine lv_ldc2 (v := 2) hx hb hown (kw796 Z.1 _ _ hg.1) d_M_tab_156 ?_
                refine lv_ldiv hx hb d_M_tab_159 (by decide) ?_
                exact jn29 _ (by rw [tb_y, if_neg hs, if_neg hs2])
              · have hs2 : sd = 3 := (nI_eq (b := 3) (by omega) (by decide)).mp h31
                refine lv_aload_n hx hb d_M_tab_135 rfl (lv_at hl 3 rfl) ?_
                refine va_get (D := D) (ci := 1) (v := .ref (a 15)) (C := R_M) (T := T_M) (N := 26) hx hb (uw_M Z.1 hg.1) (fun _ h => h) hown hK hP 0 rfl rfl 14 (by decide) (kw618 Z.1 _ _ hg.1) (fun _ h9 => h9) rfl d_M_tab_136 ?_
                refine lv_iload hx hb d_M_tab_139 (lv_at hl 1 rfl) ?_
                refine lv_iconst (v := 5) hx hb d_M_tab_141 (by decide) ?_
                refine lv_iadd hx hb d_M_tab_142 ?_
                refine lv_topi (fun z32 ez32 => ?_)
                obtain rfl : z32 = (nI (6 * c0 + 5)) := by rw [ez32]; exact nI_add _ 5
                refine va_lald hx hb hK hP 8 1 rfl rfl (vp_in_nI (n := 6 * c0 + 5) (N := 1200) (by omega) (by decide)) d_M_tab_143 ?_
                refine lv_topl (fun z33 ez33 => ?_)
                rw [nI_clamp (n := (6 * c0 + 5)) (by omega)] at ez33
                obtain rfl : z33 = ((la 14) (6 * c0 + 5)) := ez33
                refine lv_topl (fun z34 ez34 => ?_)
                obtain rfl : z34 = (lN (cpk qq 5)) := by rw [ez34]; exact hq1 5 (by decide)
                refine lv_goto (tgt := 160) hx hb d_M_tab_144 (by decide) ?_
                exact jn29 _ (by rw [tb_y, if_neg hs, if_pos hs2])
            · have hs : sd = 1 := (nI_eq (b := 1) (by omega) (by decide)).mp g30
              refine lv_lconst (v := 0) hx hb d_M_tab_126 (by decide) ?_
              refine lv_goto (tgt := 160) hx hb d_M_tab_127 (by decide) ?_
              exact jn29 _ (by rw [tb_y, if_pos hs])
          refine lv_iload_n hx hb d_M_tab_71 rfl (lv_at hl 4 rfl) ?_
          refine lv_if_ne (tgt := 79) hx hb d_M_tab_72 (by decide) (fun g18 => ?_) (fun g18 => ?_)
          · have hs : ¬ sd = 0 := fun z => g18 (by rw [z]; rfl)
            refine lv_iload_n hx hb d_M_tab_79 rfl (lv_at hl 4 rfl) ?_
            refine lv_iconst (v := 2) hx hb d_M_tab_80 (by decide) ?_
            refine lv_icmp_ne (tgt := 96) hx hb d_M_tab_81 (by decide) (fun h19 => ?_) (fun h19 => ?_)
            · have hs2 : ¬ sd = 2 := fun z => h19 (by rw [z]; rfl)
              refine lv_aload_n hx hb d_M_tab_96 rfl (lv_at hl 2 rfl) ?_
              refine va_get (D := D) (ci := 1) (v := .ref (a 15)) (C := R_M) (T := T_M) (N := 26) hx hb (uw_M Z.1 hg.1) (fun _ h => h) hown hK hP 0 rfl rfl 14 (by decide) (kw618 Z.1 _ _ hg.1) (fun _ h9 => h9) rfl d_M_tab_97 ?_
              refine lv_iload hx hb d_M_tab_100 (lv_at hl 0 rfl) ?_
              refine lv_iconst (v := 4) hx hb d_M_tab_102 (by decide) ?_
              refine lv_iadd hx hb d_M_tab_103 ?_
              refine lv_topi (fun z23 ez23 => ?_)
              obtain rfl : z23 = (nI (6 * c0 + 4)) := by rw [ez23]; exact nI_add _ 4
              refine va_lald hx hb hK hP 8 1 rfl rfl (vp_in_nI (n := 6 * c0 + 4) (N := 1200) (by omega) (by decide)) d_M_tab_104 ?_
              refine lv_topl (fun z24 ez24 => ?_)
              rw [nI_clamp (n := (6 * c0 + 4)) (by omega)] at ez24
              obtain rfl : z24 = ((la 14) (6 * c0 + 4)) := ez24
              refine lv_topl (fun z25 ez25 => ?_)
              obtain rfl : z25 = (lN (cpk qq 4)) := by rw [ez25]; exact hq1 4 (by decide)
              refine lv_ldc2 (v := 2) hx hb hown (kw796 Z.1 _ _ hg.1) d_M_tab_105 ?_
              refine lv_ldiv hx hb d_M_tab_108 (by decide) ?_
              exact jn17 _ (by rw [tb_x, if_neg hs, if_neg hs2])
            · have hs2 : sd = 2 := (nI_eq (b := 2) (by omega) (by decide)).mp h19
              refine lv_aload_n hx hb d_M_tab_84 rfl (lv_at hl 2 rfl) ?_
              refine va_get (D := D) (ci := 1) (v := .ref (a 15)) (C := R_M) (T := T_M) (N := 26) hx hb (uw_M Z.1 hg.1) (fun _ h => h) hown hK hP 0 rfl rfl 14 (by decide) (kw618 Z.1 _ _ hg.1) (fun _ h9 => h9) rfl d_M_tab_85 ?_
              refine lv_iload hx hb d_M_tab_88 (lv_at hl 0 rfl) ?_
              refine lv_iconst (v := 4) hx hb d_M_tab_90 (by decide) ?_
              refine lv_iadd hx hb d_M_tab_91 ?_
              refine lv_topi (fun z20 ez20 => ?_)
              obtain rfl : z20 = (nI (6 * c0 + 4)) := by rw [ez20]; exact nI_add _ 4
              refine va_lald hx hb hK hP 8 1 rfl rfl (vp_in_nI (n := 6 * c0 + 4) (N := 1200) (by omega) (by decide)) d_M_tab_92 ?_
              refine lv_topl (fun z21 ez21 => ?_)
              rw [nI_clamp (n := (6 * c0 + 4)) (by omega)] at ez21
              obtain rfl : z21 = ((la 14) (6 * c0 + 4)) := ez21
              refine lv_topl (fun z22 ez22 => ?_)
              obtain rfl : z22 = (lN (cpk qq 4)) := by rw [ez22]; exact hq1 4 (by decide)
              refine lv_goto (tgt := 109) hx hb d_M_tab_93 (by decide) ?_
              exact jn17 _ (by rw [tb_x, if_neg hs, if_pos hs2])
          · have hs : sd = 0 := (nI_eq (b := 0) (by omega) (by decide)).mp g18
            refine lv_lconst (v := 0) hx hb d_M_tab_75 (by decide) ?_
            refine lv_goto (tgt := 109) hx hb d_M_tab_76 (by decide) ?_
            exact jn17 _ (by rw [tb_x, if_pos hs])
        · refine lv_iload_n hx hb d_M_tab_21 rfl (lv_at hl 3 rfl) ?_
          refine lv_iconst (v := 1) hx hb d_M_tab_22 (by decide) ?_
          refine lv_icmp_ne (tgt := 30) hx hb d_M_tab_23 (by decide) (fun w83 => ?_) (fun w83 => ?_)
          · refine lv_iconst (v := 0) hx hb d_M_tab_30 (by decide) ?_
            refine lv_istore (lv' := [(4, .int 0), (0, .ref (a 0)), (1, .int (nI c0)), (2, .int (nI sd)), (3, .int wt)]) hx hb d_M_tab_31 hl (by decide) rfl (fun ls hl => ?_)
            refine lv_aload_n hx hb d_M_tab_33 rfl (lv_at hl 1 rfl) ?_
            refine lv_iload hx hb d_M_tab_34 (lv_at hl 0 rfl) ?_
            refine lv_if_eq (tgt := 43) hx hb d_M_tab_36 (by decide) (fun _ => ?_) (fun k156 => by first | exact absurd (show (0 : Int32) = 0 from rfl) k156 | exact absurd k156 (show (0 : Int32) = 0 from rfl))
            refine lv_iconst (v := 1) hx hb d_M_tab_43 (by decide) ?_
            refine va_put (D := D) (ci := 1) (v := .int 1) (ty := t_M 0) (C := R_M) (T := T_M) (N := 26) hx hb (uw_M Z.1 hg.1) (fun _ h => h) t_M t_M_ok n_M hown hK hP hD hS 0 rfl rfl 0 (by decide) (kw604 Z.1 _ _ hg.1) (fun _ h9 => h9) rfl (by decide +kernel) rfl rfl (Nat.le_of_ble_eq_true rfl) d_M_tab_44 (fun H locs hP hD hS => ?_)
            have hP : va_P D ncl (w_M a cA (va_up ii 0 1) li ia la) H := hP
            have hD : va_D _ (w_M a cA (va_up ii 0 1) li ia la) := hD
            refine lv_aload_n hx hb d_M_tab_47 rfl (lv_at hl 1 rfl) ?_
            refine va_get (D := D) (ci := 1) (v := .int 1) (C := R_M) (T := T_M) (N := 26) hx hb (uw_M Z.1 hg.1) (fun _ h => h) hown hK hP 0 rfl rfl 0 (by decide) (kw604 Z.1 _ _ hg.1) (fun _ h9 => h9) rfl d_M_tab_48 ?_
            refine lv_if_eq (tgt := 56) hx hb d_M_tab_51 (by decide) (fun k157 => by first | exact absurd (show ¬ (1 : Int32) = 0 by decide) k157 | exact absurd k157 (show ¬ (1 : Int32) = 0 by decide)) (fun _ => ?_)
            refine lv_lconst (v := 0) hx hb d_M_tab_54 (by decide) ?_
            exact w_lret hx hb hr hlk hP hD hS ((va_up ii 0 1), li, ia, la) rfl (Or.inr ⟨fun z => by obtain ⟨-, -, wh, z1, z2⟩ := z; rcases (by omega : wh = 0 ∨ wh = 1) with y | y; exact w10 (by rw [z2, y]; rfl); exact w83 (by rw [z2, y]; rfl), rfl⟩) d_M_tab_55
          · have hv0 : wt = nI 1 := w83
            refine lv_iconst (v := 1) hx hb d_M_tab_26 (by decide) ?_
            refine lv_goto (tgt := 31) hx hb d_M_tab_27 (by decide) ?_
            refine lv_istore (lv' := [(4, .int 1), (0, .ref (a 0)), (1, .int (nI c0)), (2, .int (nI sd)), (3, .int wt)]) hx hb d_M_tab_31 hl (by decide) rfl (fun ls hl => ?_)
            refine lv_aload_n hx hb d_M_tab_33 rfl (lv_at hl 1 rfl) ?_
            refine lv_iload hx hb d_M_tab_34 (lv_at hl 0 rfl) ?_
            refine lv_if_eq (tgt := 43) hx hb d_M_tab_36 (by decide) (fun k84 => by first | exact absurd (show ¬ (1 : Int32) = 0 by decide) k84 | exact absurd k84 (show ¬ (1 : Int32) = 0 by decide)) (fun _ => ?_)
            refine lv_iconst (v := 0) hx hb d_M_tab_39 (by decide) ?_
            refine lv_goto (tgt := 44) hx hb d_M_tab_40 (by decide) ?_
            refine va_put (D := D) (ci := 1) (v := .int 0) (ty := t_M 0) (C := R_M) (T := T_M) (N := 26) hx hb (uw_M Z.1 hg.1) (fun _ h => h) t_M t_M_ok n_M hown hK hP hD hS 0 rfl rfl 0 (by decide) (kw604 Z.1 _ _ hg.1) (fun _ h9 => h9) rfl (by decide +kernel) rfl rfl (Nat.le_of_ble_eq_true rfl) d_M_tab_44 (fun H locs hP hD hS => ?_)
            have hP : va_P D ncl (w_M a cA (va_up ii 0 0) li ia la) H := hP
            have hD : va_D _ (w_M a cA (va_up ii 0 0) li ia la) := hD
            refine lv_aload_n hx hb d_M_tab_47 rfl (lv_at hl 1 rfl) ?_
            refine va_get (D := D) (ci := 1) (v := .int 0) (C := R_M) (T := T_M) (N := 26) hx hb (uw_M Z.1 hg.1) (fun _ h => h) hown hK hP 0 rfl rfl 0 (by decide) (kw604 Z.1 _ _ hg.1) (fun _ h9 => h9) rfl d_M_tab_48 ?_
            refine lv_if_eq (tgt := 56) hx hb d_M_tab_51 (by decide) (fun _ => ?_) (fun k85 => by first | exact absurd (show (0 : Int32) = 0 from rfl) k85 | exact absurd k85 (show (0 : Int32) = 0 from rfl))
            refine lv_bipush (v := 6) hx hb d_M_tab_56 (by decide) ?_
            refine lv_iload_n hx hb d_M_tab_58 rfl (lv_at hl 2 rfl) ?_
            refine lv_imul hx hb d_M_tab_59 ?_
            refine lv_topi (fun z86 ez86 => ?_)
            obtain rfl : z86 = (nI (6 * c0 + 0)) := by rw [ez86]; exact pk_mul 6 c0
            refine lv_istore (lv' := [(5, .int (nI (6 * c0 + 0))), (4, .int 1), (0, .ref (a 0)), (1, .int (nI c0)), (2, .int (nI sd)), (3, .int wt)]) hx hb d_M_tab_60 hl (by decide) rfl (fun ls hl => ?_)
            refine lv_aload_n hx hb d_M_tab_62 rfl (lv_at hl 2 rfl) ?_
            refine va_get (D := D) (ci := 1) (v := .ref (a 15)) (C := R_M) (T := T_M) (N := 26) hx hb (uw_M Z.1 hg.1) (fun _ h => h) hown hK hP 0 rfl rfl 14 (by decide) (kw618 Z.1 _ _ hg.1) (fun _ h9 => h9) rfl d_M_tab_63 ?_
            refine lv_iload hx hb d_M_tab_66 (lv_at hl 0 rfl) ?_
            refine lv_iconst (v := 1) hx hb d_M_tab_68 (by decide) ?_
            refine lv_iadd hx hb d_M_tab_69 ?_
            refine lv_topi (fun z87 ez87 => ?_)
            obtain rfl : z87 = (nI (6 * c0 + 1)) := by rw [ez87]; exact nI_add _ 1
            refine va_lald hx hb hK hP 8 1 rfl rfl (vp_in_nI (n := 6 * c0 + 1) (N := 1200) (by omega) (by decide)) d_M_tab_70 ?_
            refine lv_topl (fun z88 ez88 => ?_)
            rw [nI_clamp (n := (6 * c0 + 1)) (by omega)] at ez88
            obtain rfl : z88 = ((la 14) (6 * c0 + 1)) := ez88
            refine lv_topl (fun z89 ez89 => ?_)
            obtain rfl : z89 = (lN (cpk qq 1)) := by rw [ez89]; exact hq1 1 (by decide)
            have jn90 : ∀ tx : Int64, tx = tb_x qq sd → W p l e ({ frames := 1, cells := 0, slots := 0, locals := 60 }) s m ([.ref (a 0), .int v, .int k, .int wt] : List Value).toArray below meth c H locs 0 0 (MQ below (va_Ql (fun (r : Int64) (u : St) => (∃ c sd wh, c < dn.length ∧ v = nI c ∧ sd < 4 ∧ k = nI sd ∧ wh < 2 ∧ wt = nI wh ∧ u.2.1 = li ∧ u.2.2.1 = ia ∧ tbI b la u.2.2.2 ∧ u.2.2.2 19 b = mxF fx n - mnF fx n ∧ u.2.2.2 20 b = mxF fy n - mnF fy n ∧ (((List.range np).any (bn kb lb (tb_x (dn.getD c cp0) sd) (tb_y (dn.getD c cp0) sd) (nI (cpk (dn.getD c cp0) 3))) = true ∧ u.1 = va_up ii 0 2) ∨ ((List.range np).any (bn kb lb (tb_x (dn.getD c cp0) sd) (tb_y (dn.getD c cp0) sd) (nI (cpk (dn.getD c cp0) 3))) = false ∧ u.1 = va_up ii 0 0 ∧ r = if wh = 0 then lN (cpk (dn.getD c cp0) 1) + tb_x (dn.getD c cp0) sd else lN (cpk (dn.getD c cp0) 2) + tb_y (dn.getD c cp0) sd))) ∨ (¬ ((∃ c, c < dn.length ∧ v = nI c) ∧ (∃ sd, sd < 4 ∧ k = nI sd) ∧ ∃ wh, wh < 2 ∧ wt = nI wh) ∧ u = (va_up ii 0 1, li, ia, la))) (wB D (va_A (w_M a cA ii li ia la) s.heap.size) (fun (u : St) => w_M a cA u.1 u.2.1 u.2.2.1 u.2.2.2)) (va_A (w_M a cA ii li ia la) s.heap.size)) ([.ref (a 0), .int v, .int k, .int wt] : List Value).toArray s 0 0 (va_A (w_M a cA ii li ia la) s.heap.size)) (F0 m 109 ls (.long tx :: [.long (lN (cpk qq 1))])) := by
              intro tx htx
              refine lv_ladd hx hb d_M_tab_109 ?_
              refine lv_topl (fun xx exx => ?_)
              have hxx : xx = lN (cpk qq 1) + tx := by rw [exx]; skip
              clear exx
              refine lv_lstore (lv' := [(6, .long xx), (5, .int (nI (6 * c0 + 0))), (4, .int 1), (0, .ref (a 0)), (1, .int (nI c0)), (2, .int (nI sd)), (3, .int wt)]) hx hb d_M_tab_110 hl (by decide) rfl (fun ls hl => ?_)
              refine lv_aload_n hx hb d_M_tab_112 rfl (lv_at hl 3 rfl) ?_
              refine va_get (D := D) (ci := 1) (v := .ref (a 15)) (C := R_M) (T := T_M) (N := 26) hx hb (uw_M Z.1 hg.1) (fun _ h => h) hown hK hP 0 rfl rfl 14 (by decide) (kw618 Z.1 _ _ hg.1) (fun _ h9 => h9) rfl d_M_tab_113 ?_
              refine lv_iload hx hb d_M_tab_116 (lv_at hl 1 rfl) ?_
              refine lv_iconst (v := 2) hx hb d_M_tab_118 (by decide) ?_
              refine lv_iadd hx hb d_M_tab_119 ?_
              refine lv_topi (fun z99 ez99 => ?_)
              obtain rfl : z99 = (nI (6 * c0 + 2)) := by rw [ez99]; exact nI_add _ 2
              refine va_lald hx hb hK hP 8 1 rfl rfl (vp_in_nI (n := 6 * c0 + 2) (N := 1200) (by omega) (by decide)) d_M_tab_120 ?_
              refine lv_topl (fun z100 ez100 => ?_)
              rw [nI_clamp (n := (6 * c0 + 2)) (by omega)] at ez100
              obtain rfl : z100 = ((la 14) (6 * c0 + 2)) := ez100
              refine lv_topl (fun z101 ez101 => ?_)
              obtain rfl : z101 = (lN (cpk qq 2)) := by rw [ez101]; exact hq1 2 (by decide)
              have jn102 : ∀ ty : Int64, ty = tb_y qq sd → W p l e ({ frames := 1, cells := 0, slots := 0, locals := 60 }) s m ([.ref (a 0), .int v, .int k, .int wt] : List Value).toArray below meth c H locs 0 0 (MQ below (va_Ql (fun (r : Int64) (u : St) => (∃ c sd wh, c < dn.length ∧ v = nI c ∧ sd < 4 ∧ k = nI sd ∧ wh < 2 ∧ wt = nI wh ∧ u.2.1 = li ∧ u.2.2.1 = ia ∧ tbI b la u.2.2.2 ∧ u.2.2.2 19 b = mxF fx n - mnF fx n ∧ u.2.2.2 20 b = mxF fy n - mnF fy n ∧ (((List.range np).any (bn kb lb (tb_x (dn.getD c cp0) sd) (tb_y (dn.getD c cp0) sd) (nI (cpk (dn.getD c cp0) 3))) = true ∧ u.1 = va_up ii 0 2) ∨ ((List.range np).any (bn kb lb (tb_x (dn.getD c cp0) sd) (tb_y (dn.getD c cp0) sd) (nI (cpk (dn.getD c cp0) 3))) = false ∧ u.1 = va_up ii 0 0 ∧ r = if wh = 0 then lN (cpk (dn.getD c cp0) 1) + tb_x (dn.getD c cp0) sd else lN (cpk (dn.getD c cp0) 2) + tb_y (dn.getD c cp0) sd))) ∨ (¬ ((∃ c, c < dn.length ∧ v = nI c) ∧ (∃ sd, sd < 4 ∧ k = nI sd) ∧ ∃ wh, wh < 2 ∧ wt = nI wh) ∧ u = (va_up ii 0 1, li, ia, la))) (wB D (va_A (w_M a cA ii li ia la) s.heap.size) (fun (u : St) => w_M a cA u.1 u.2.1 u.2.2.1 u.2.2.2)) (va_A (w_M a cA ii li ia la) s.heap.size)) ([.ref (a 0), .int v, .int k, .int wt] : List Value).toArray s 0 0 (va_A (w_M a cA ii li ia la) s.heap.size)) (F0 m 160 ls (.long ty :: [.long (lN (cpk qq 2))])) := by
                intro ty hty
                refine lv_ladd hx hb d_M_tab_160 ?_
                refine lv_topl (fun yy eyy => ?_)
                have hyy : yy = lN (cpk qq 2) + ty := by rw [eyy]; skip
                clear eyy
                refine lv_lstore (lv' := [(8, .long yy), (6, .long xx), (5, .int (nI (6 * c0 + 0))), (4, .int 1), (0, .ref (a 0)), (1, .int (nI c0)), (2, .int (nI sd)), (3, .int wt)]) hx hb d_M_tab_161 hl (by decide) rfl (fun ls hl => ?_)
                refine lv_aload_n hx hb d_M_tab_163 rfl (lv_at hl 4 rfl) ?_
                refine va_get (D := D) (ci := 1) (v := .ref (a 15)) (C := R_M) (T := T_M) (N := 26) hx hb (uw_M Z.1 hg.1) (fun _ h => h) hown hK hP 0 rfl rfl 14 (by decide) (kw618 Z.1 _ _ hg.1) (fun _ h9 => h9) rfl d_M_tab_164 ?_
                refine lv_iload hx hb d_M_tab_167 (lv_at hl 2 rfl) ?_
                refine va_lald hx hb hK hP 8 1 rfl rfl (vp_in_nI (n := 6 * c0 + 0) (N := 1200) (by omega) (by decide)) d_M_tab_169 ?_
                refine lv_topl (fun z111 ez111 => ?_)
                rw [nI_clamp (n := (6 * c0 + 0)) (by omega)] at ez111
                obtain rfl : z111 = ((la 14) (6 * c0 + 0)) := ez111
                refine lv_topl (fun z112 ez112 => ?_)
                obtain rfl : z112 = (lN b) := by rw [ez112]; rw [← hb0]; exact hq1 0 (by decide)
                refine lv_l2i hx hb d_M_tab_170 rfl ?_
                refine lv_topi (fun z113 ez113 => ?_)
                obtain rfl : z113 = (nI b) := by rw [ez113]; exact lN_i _
                refine lv_istore (lv' := [(10, .int (nI b)), (8, .long yy), (6, .long xx), (5, .int (nI (6 * c0 + 0))), (4, .int 1), (0, .ref (a 0)), (1, .int (nI c0)), (2, .int (nI sd)), (3, .int wt)]) hx hb d_M_tab_171 hl (by decide) rfl (fun ls hl => ?_)
                refine lv_aload_n hx hb d_M_tab_173 rfl (lv_at hl 5 rfl) ?_
                refine lv_iload hx hb d_M_tab_174 (lv_at hl 0 rfl) ?_
                refine w_callv (wr := ([] : va_W)) (w_runV (rest := []) hx hb hml hown hl.1 hg hlo hK hP hD hS (m_M_findBox Z a (va_up ii 0 0) li ia la b n fx fy hb4 hn hn2 hfx hfy H.size) (kw727 Z.1) (kw729 Z.1) (kp_M_findBox Z.1) (kw730 Z.1) (kw6 Z.1) ⟨by decide, by decide, (by decide +kernel : (parseMethodDescriptor y_M_findBox.desc).map (fun d => d.parameters.length) = some 1)⟩ ⟨Nat.le_of_ble_eq_true rfl, Nat.le_of_ble_eq_true rfl⟩ [0, 1, 2, 3, 4, 5, 6, 7, 8, 9, 10, 11, 12, 13, 14, 15, 16] rfl rfl (ci := 1) (q0 := 0) rfl rfl rfl (Nat.le_of_ble_eq_true rfl) d_M_tab_176 ⟨Nat.le_of_ble_eq_true rfl, Nat.le_of_ble_eq_true rfl⟩) hP hD hS hA [0, 1, 2, 3, 4, 5, 6, 7, 8, 9, 10, 11, 12, 13, 14, 15, 16] [] rfl rfl rfl (by decide) (fun z => w_M a cA (va_up ii 0 0) li ia z) [0, 1, 2, 3, 4, 5, 6, 7, 8, 9, 10, 11, 12, 13, 14, 15, 16] rfl (fun _ => rfl) (fun u1 H locs hq hP hD hS => ?_)
                refine W.widen (k := 0) (n := 0) (Nat.le_of_ble_eq_true rfl) (Nat.le_of_ble_eq_true rfl) ?_
                obtain ⟨p1, p2, p3, p4, p5⟩ := hq
                obtain ⟨p5, p6⟩ := p5 hn0
                have u9 : u1 9 = la 9 := p1 9 (by decide) (by decide) (by decide) (by decide)
                have u14 : u1 14 = la 14 := p1 14 (by decide) (by decide) (by decide) (by decide)
                refine lv_bipush (v := 30) hx hb d_M_tab_179 (by decide) ?_
                refine lv_iload hx hb d_M_tab_181 (lv_at hl 0 rfl) ?_
                refine lv_imul hx hb d_M_tab_183 ?_
                refine lv_topi (fun z115 ez115 => ?_)
                obtain rfl : z115 = (nI (30 * b + 3 * 0)) := by rw [ez115]; exact pk_mul 30 b
                refine lv_istore (lv' := [(11, .int (nI (30 * b + 3 * 0))), (10, .int (nI b)), (8, .long yy), (6, .long xx), (5, .int (nI (6 * c0 + 0))), (4, .int 1), (0, .ref (a 0)), (1, .int (nI c0)), (2, .int (nI sd)), (3, .int wt)]) hx hb d_M_tab_184 hl (by decide) rfl (fun ls hl => ?_)
                obtain ⟨tt, htt⟩ : ∃ z, z = bn kb lb tx ty (nI (cpk qq 3)) := ⟨_, rfl⟩
                have loop : ∀ (f : Nat) (j : Nat) (ib : Nat → Int32), np - j < f → j ≤ np → (ib = if (List.range j).any tt = true then va_up ii 0 2 else va_up ii 0 0) → ∀ (H : Heap) (locs : List Loc), va_P D ncl (w_M a cA ib li ia u1) H → va_D (va_A (w_M a cA ii li ia la) s.heap.size) (w_M a cA ib li ia u1) → va_S (va_A (w_M a cA ii li ia la) s.heap.size) s.heap H locs → ∀ (ls : Array Slot), lv_has ls 20 [(0, .ref (a 0)), (1, .int (nI c0)), (2, .int (nI sd)), (3, .int wt), (5, .int (nI (6 * c0 + 0))), (6, .long xx), (8, .long yy), (10, .int (nI b)), (11, .int (nI (30 * b + 3 * j)))] → W p l e ({ frames := 1, cells := 0, slots := 0, locals := 60 }) s m ([.ref (a 0), .int v, .int k, .int wt] : List Value).toArray below meth c H locs 0 0 (MQ below (va_Ql (fun (r : Int64) (u : St) => (∃ c sd wh, c < dn.length ∧ v = nI c ∧ sd < 4 ∧ k = nI sd ∧ wh < 2 ∧ wt = nI wh ∧ u.2.1 = li ∧ u.2.2.1 = ia ∧ tbI b la u.2.2.2 ∧ u.2.2.2 19 b = mxF fx n - mnF fx n ∧ u.2.2.2 20 b = mxF fy n - mnF fy n ∧ (((List.range np).any (bn kb lb (tb_x (dn.getD c cp0) sd) (tb_y (dn.getD c cp0) sd) (nI (cpk (dn.getD c cp0) 3))) = true ∧ u.1 = va_up ii 0 2) ∨ ((List.range np).any (bn kb lb (tb_x (dn.getD c cp0) sd) (tb_y (dn.getD c cp0) sd) (nI (cpk (dn.getD c cp0) 3))) = false ∧ u.1 = va_up ii 0 0 ∧ r = if wh = 0 then lN (cpk (dn.getD c cp0) 1) + tb_x (dn.getD c cp0) sd else lN (cpk (dn.getD c cp0) 2) + tb_y (dn.getD c cp0) sd))) ∨ (¬ ((∃ c, c < dn.length ∧ v = nI c) ∧ (∃ sd, sd < 4 ∧ k = nI sd) ∧ ∃ wh, wh < 2 ∧ wt = nI wh) ∧ u = (va_up ii 0 1, li, ia, la))) (wB D (va_A (w_M a cA ii li ia la) s.heap.size) (fun (u : St) => w_M a cA u.1 u.2.1 u.2.2.1 u.2.2.2)) (va_A (w_M a cA ii li ia la) s.heap.size)) ([.ref (a 0), .int v, .int k, .int wt] : List Value).toArray s 0 0 (va_A (w_M a cA ii li ia la) s.heap.size)) (F0 m 186 ls []) := by
                  intro f
                  induction f with
                  | zero => intro j ib h; exact absurd h (Nat.not_lt_zero _)
                  | succ f ih =>
                    intro j ib hf hj hib H locs hP hD hS ls hl
                    refine lv_iload hx hb d_M_tab_186 (lv_at hl 8 rfl) ?_
                    refine lv_bipush (v := 30) hx hb d_M_tab_188 (by decide) ?_
                    refine lv_iload hx hb d_M_tab_190 (lv_at hl 7 rfl) ?_
                    refine lv_imul hx hb d_M_tab_192 ?_
                    refine lv_topi (fun z116 ez116 => ?_)
                    obtain rfl : z116 = (nI (30 * b)) := by rw [ez116]; exact pk_mul 30 b
                    refine lv_iconst (v := 3) hx hb d_M_tab_193 (by decide) ?_
                    refine lv_aload_n hx hb d_M_tab_194 rfl (lv_at hl 0 rfl) ?_
                    refine va_get (D := D) (ci := 1) (v := .ref (a 9)) (C := R_M) (T := T_M) (N := 26) hx hb (uw_M Z.1 hg.1) (fun _ h => h) hown hK hP 0 rfl rfl 8 (by decide) (kw612 Z.1 _ _ hg.1) (fun _ h9 => h9) rfl d_M_tab_195 ?_
                    refine lv_iload hx hb d_M_tab_198 (lv_at hl 7 rfl) ?_
                    refine va_iald hx hb hK hP 5 0 rfl rfl (vp_in_nI (n := b) (N := 4) (by omega) (by decide)) d_M_tab_200 ?_
                    refine lv_topi (fun z117 ez117 => ?_)
                    rw [nI_clamp (n := b) (by omega)] at ez117
                    obtain rfl : z117 = ((ia 8) b) := ez117
                    refine lv_topi (fun z118 ez118 => ?_)
                    obtain rfl : z118 = (nI np) := by rw [ez118]; exact hnp
                    refine lv_imul hx hb d_M_tab_201 ?_
                    refine lv_topi (fun z119 ez119 => ?_)
                    obtain rfl : z119 = (nI (3 * np)) := by rw [ez119]; exact pk_mul 3 _
                    refine lv_iadd hx hb d_M_tab_202 ?_
                    refine lv_topi (fun z120 ez120 => ?_)
                    obtain rfl : z120 = (nI (30 * b + 3 * np)) := by rw [ez120]; exact nI_add _ _
                    refine lv_icmp_ge (tgt := 373) hx hb d_M_tab_203 (by decide) (fun c121 => ?_) (fun c121 => ?_)
                    · obtain rfl : j = np := by have := (nI_leI (by omega) (by omega)).mp c121; omega
                      have hpost : tbI b la u1 ∧ u1 19 b = mxF fx n - mnF fx n ∧ u1 20 b = mxF fy n - mnF fy n := ⟨⟨p1, fun j hj => ⟨(p2 j hj).2.2.1, (p2 j hj).2.2.2⟩⟩, p3, p4⟩
                      cases hany : (List.range j).any tt with
                      | false =>
                        rw [hany, if_neg (by decide)] at hib
                        have hi0 : ib 0 = 0 := by rw [hib, up_s]
                        refine lv_aload_n hx hb d_M_tab_373 rfl (lv_at hl 0 rfl) ?_
                        refine va_get (D := D) (ci := 1) (v := .int (ib 0)) (C := R_M) (T := T_M) (N := 26) hx hb (uw_M Z.1 hg.1) (fun _ h => h) hown hK hP 0 rfl rfl 0 (by decide) (kw604 Z.1 _ _ hg.1) (fun _ h9 => h9) rfl d_M_tab_374 ?_
                        refine lv_topi (fun z122 ez122 => ?_)
                        obtain rfl : z122 = 0 := by rw [ez122]; exact hi0
                        refine lv_if_eq (tgt := 384) hx hb d_M_tab_377 (by decide) (fun _ => ?_) (fun k123 => by first | exact absurd (show (0 : Int32) = 0 from rfl) k123 | exact absurd k123 (show (0 : Int32) = 0 from rfl))
                        refine lv_iload_n hx hb d_M_tab_384 rfl (lv_at hl 3 rfl) ?_
                        refine lv_if_ne (tgt := 393) hx hb d_M_tab_385 (by decide) (fun _ => ?_) (fun k124 => by first | exact absurd (show ¬ wt = 0 from fun z => absurd (hv0.symm.trans z) (by decide)) k124 | exact absurd k124 (show ¬ wt = 0 from fun z => absurd (hv0.symm.trans z) (by decide)))
                        refine lv_lload hx hb d_M_tab_393 (lv_at hl 6 rfl) ?_
                        exact w_lret hx hb hr hlk hP hD hS (ib, li, ia, u1) rfl (Or.inl ⟨c0, sd, 1, hc0, hvq, hsd, hkq, by decide, hv0, rfl, rfl, hpost.1, hpost.2.1, hpost.2.2, Or.inr ⟨by rw [← hqq, ← htx, ← hty, ← htt]; exact hany, hib, by rw [if_neg (by decide), ← hqq, ← hty]; exact hyy⟩⟩) d_M_tab_395
                      | true =>
                        rw [hany, if_pos rfl] at hib
                        have hi0 : ib 0 = 2 := by rw [hib, up_s]
                        refine lv_aload_n hx hb d_M_tab_373 rfl (lv_at hl 0 rfl) ?_
                        refine va_get (D := D) (ci := 1) (v := .int (ib 0)) (C := R_M) (T := T_M) (N := 26) hx hb (uw_M Z.1 hg.1) (fun _ h => h) hown hK hP 0 rfl rfl 0 (by decide) (kw604 Z.1 _ _ hg.1) (fun _ h9 => h9) rfl d_M_tab_374 ?_
                        refine lv_topi (fun z125 ez125 => ?_)
                        obtain rfl : z125 = 2 := by rw [ez125]; exact hi0
                        refine lv_if_eq (tgt := 384) hx hb d_M_tab_377 (by decide) (fun k126 => by first | exact absurd (show ¬ (2 : Int32) = 0 by decide) k126 | exact absurd k126 (show ¬ (2 : Int32) = 0 by decide)) (fun _ => ?_)
                        refine lv_lconst (v := 0) hx hb d_M_tab_380 (by decide) ?_
                        refine lv_goto (tgt := 395) hx hb d_M_tab_381 (by decide) ?_
                        exact w_lret hx hb hr hlk hP hD hS (ib, li, ia, u1) rfl (Or.inl ⟨c0, sd, 1, hc0, hvq, hsd, hkq, by decide, hv0, rfl, rfl, hpost.1, hpost.2.1, hpost.2.2, Or.inl ⟨by rw [← hqq, ← htx, ← hty, ← htt]; exact hany, hib⟩⟩) d_M_tab_395
                    · have hjn : j < np := Nat.lt_of_not_le (fun z => c121 ((nI_leI (by omega) (by omega)).mpr (by omega)))
                      obtain ⟨k1, k2, k3⟩ := hpt j hjn
                      refine lv_aload_n hx hb d_M_tab_206 rfl (lv_at hl 0 rfl) ?_
                      refine va_get (D := D) (ci := 1) (v := .ref (a 10)) (C := R_M) (T := T_M) (N := 26) hx hb (uw_M Z.1 hg.1) (fun _ h => h) hown hK hP 0 rfl rfl 9 (by decide) (kw613 Z.1 _ _ hg.1) (fun _ h9 => h9) rfl d_M_tab_207 ?_
                      refine lv_iload hx hb d_M_tab_210 (lv_at hl 8 rfl) ?_
                      refine va_lald hx hb hK hP 6 1 rfl rfl (vp_in_nI (n := 30 * b + 3 * j) (N := 120) (by omega) (by decide)) d_M_tab_212 ?_
                      refine lv_topl (fun z127 ez127 => ?_)
                      rw [nI_clamp (n := (30 * b + 3 * j)) (by omega)] at ez127
                      obtain rfl : z127 = ((u1 9) (30 * b + 3 * j)) := ez127
                      refine lv_topl (fun pa epa => ?_)
                      have hpa : pa = kb 2 j := by rw [epa]; rw [u9]; exact k1
                      clear epa
                      refine lv_aload_n hx hb d_M_tab_213 rfl (lv_at hl 0 rfl) ?_
                      refine va_get (D := D) (ci := 1) (v := .ref (a 18)) (C := R_M) (T := T_M) (N := 26) hx hb (uw_M Z.1 hg.1) (fun _ h => h) hown hK hP 0 rfl rfl 17 (by decide) (kw621 Z.1 _ _ hg.1) (fun _ h9 => h9) rfl d_M_tab_214 ?_
                      refine lv_iload hx hb d_M_tab_217 (lv_at hl 7 rfl) ?_
                      refine va_lald hx hb hK hP 10 1 rfl rfl (vp_in_nI (n := b) (N := 4) (by omega) (by decide)) d_M_tab_219 ?_
                      refine lv_topl (fun z128 ez128 => ?_)
                      rw [nI_clamp (n := b) (by omega)] at ez128
                      obtain rfl : z128 = ((u1 17) b) := ez128
                      refine lv_topl (fun pb epb => ?_)
                      have hpb : pb = lb 7 := by rw [epb]; rw [hl7]; exact p5
                      clear epb
                      refine lv_lsub hx hb d_M_tab_220 ?_
                      refine lv_topl (fun uu euu => ?_)
                      have huu : uu = kb 2 j - lb 7 := by rw [euu]; rw [hpa, hpb]
                      clear euu
                      refine lv_lstore (lv' := [(12, .long uu), (0, .ref (a 0)), (1, .int (nI c0)), (2, .int (nI sd)), (3, .int wt), (5, .int (nI (6 * c0 + 0))), (6, .long xx), (8, .long yy), (10, .int (nI b)), (11, .int (nI (30 * b + 3 * j)))]) hx hb d_M_tab_221 hl (by decide) rfl (fun ls hl => ?_)
                      refine lv_aload_n hx hb d_M_tab_223 rfl (lv_at hl 1 rfl) ?_
                      refine va_get (D := D) (ci := 1) (v := .ref (a 10)) (C := R_M) (T := T_M) (N := 26) hx hb (uw_M Z.1 hg.1) (fun _ h => h) hown hK hP 0 rfl rfl 9 (by decide) (kw613 Z.1 _ _ hg.1) (fun _ h9 => h9) rfl d_M_tab_224 ?_
                      refine lv_iload hx hb d_M_tab_227 (lv_at hl 9 rfl) ?_
                      refine lv_iconst (v := 1) hx hb d_M_tab_229 (by decide) ?_
                      refine lv_iadd hx hb d_M_tab_230 ?_
                      refine lv_topi (fun z129 ez129 => ?_)
                      obtain rfl : z129 = (nI (30 * b + 3 * j + 1)) := by rw [ez129]; exact nI_add _ 1
                      refine va_lald hx hb hK hP 6 1 rfl rfl (vp_in_nI (n := 30 * b + 3 * j + 1) (N := 120) (by omega) (by decide)) d_M_tab_231 ?_
                      refine lv_topl (fun z130 ez130 => ?_)
                      rw [nI_clamp (n := (30 * b + 3 * j + 1)) (by omega)] at ez130
                      obtain rfl : z130 = ((u1 9) (30 * b + 3 * j + 1)) := ez130
                      refine lv_topl (fun pc1 epc1 => ?_)
                      have hpc1 : pc1 = kb 3 j := by rw [epc1]; rw [u9]; exact k2
                      clear epc1
                      refine lv_aload_n hx hb d_M_tab_232 rfl (lv_at hl 1 rfl) ?_
                      refine va_get (D := D) (ci := 1) (v := .ref (a 19)) (C := R_M) (T := T_M) (N := 26) hx hb (uw_M Z.1 hg.1) (fun _ h => h) hown hK hP 0 rfl rfl 18 (by decide) (kw622 Z.1 _ _ hg.1) (fun _ h9 => h9) rfl d_M_tab_233 ?_
                      refine lv_iload hx hb d_M_tab_236 (lv_at hl 8 rfl) ?_
                      refine va_lald hx hb hK hP 11 1 rfl rfl (vp_in_nI (n := b) (N := 4) (by omega) (by decide)) d_M_tab_238 ?_
                      refine lv_topl (fun z131 ez131 => ?_)
                      rw [nI_clamp (n := b) (by omega)] at ez131
                      obtain rfl : z131 = ((u1 18) b) := ez131
                      refine lv_topl (fun pd epd => ?_)
                      have hpd : pd = lb 8 := by rw [epd]; rw [hl8]; exact p6
                      clear epd
                      refine lv_lsub hx hb d_M_tab_239 ?_
                      refine lv_topl (fun vv1 evv1 => ?_)
                      have hvv1 : vv1 = kb 3 j - lb 8 := by rw [evv1]; rw [hpc1, hpd]
                      clear evv1
                      refine lv_lstore (lv' := [(14, .long vv1), (12, .long uu), (0, .ref (a 0)), (1, .int (nI c0)), (2, .int (nI sd)), (3, .int wt), (5, .int (nI (6 * c0 + 0))), (6, .long xx), (8, .long yy), (10, .int (nI b)), (11, .int (nI (30 * b + 3 * j)))]) hx hb d_M_tab_240 hl (by decide) rfl (fun ls hl => ?_)
                      refine lv_aload_n hx hb d_M_tab_242 rfl (lv_at hl 2 rfl) ?_
                      refine va_get (D := D) (ci := 1) (v := .ref (a 15)) (C := R_M) (T := T_M) (N := 26) hx hb (uw_M Z.1 hg.1) (fun _ h => h) hown hK hP 0 rfl rfl 14 (by decide) (kw618 Z.1 _ _ hg.1) (fun _ h9 => h9) rfl d_M_tab_243 ?_
                      refine lv_iload hx hb d_M_tab_246 (lv_at hl 6 rfl) ?_
                      refine lv_iconst (v := 1) hx hb d_M_tab_248 (by decide) ?_
                      refine lv_iadd hx hb d_M_tab_249 ?_
                      refine lv_topi (fun z132 ez132 => ?_)
                      obtain rfl : z132 = (nI (6 * c0 + 1)) := by rw [ez132]; exact nI_add _ 1
                      refine va_lald hx hb hK hP 8 1 rfl rfl (vp_in_nI (n := 6 * c0 + 1) (N := 1200) (by omega) (by decide)) d_M_tab_250 ?_
                      refine lv_topl (fun z133 ez133 => ?_)
                      rw [nI_clamp (n := (6 * c0 + 1)) (by omega)] at ez133
                      obtain rfl : z133 = ((u1 14) (6 * c0 + 1)) := ez133
                      refine lv_topl (fun z134 ez134 => ?_)
                      obtain rfl : z134 = (lN (cpk qq 1)) := by rw [ez134]; rw [u14]; exact hq1 1 (by decide)
                      have jn135 : ∀ ta : Int64, ta = (if nI (cpk qq 3) = 0 then kb 2 j - lb 7 else (lb 10 - lb 8) - (kb 3 j - lb 8)) → W p l e ({ frames := 1, cells := 0, slots := 0, locals := 60 }) s m ([.ref (a 0), .int v, .int k, .int wt] : List Value).toArray below meth c H locs 0 0 (MQ below (va_Ql (fun (r : Int64) (u : St) => (∃ c sd wh, c < dn.length ∧ v = nI c ∧ sd < 4 ∧ k = nI sd ∧ wh < 2 ∧ wt = nI wh ∧ u.2.1 = li ∧ u.2.2.1 = ia ∧ tbI b la u.2.2.2 ∧ u.2.2.2 19 b = mxF fx n - mnF fx n ∧ u.2.2.2 20 b = mxF fy n - mnF fy n ∧ (((List.range np).any (bn kb lb (tb_x (dn.getD c cp0) sd) (tb_y (dn.getD c cp0) sd) (nI (cpk (dn.getD c cp0) 3))) = true ∧ u.1 = va_up ii 0 2) ∨ ((List.range np).any (bn kb lb (tb_x (dn.getD c cp0) sd) (tb_y (dn.getD c cp0) sd) (nI (cpk (dn.getD c cp0) 3))) = false ∧ u.1 = va_up ii 0 0 ∧ r = if wh = 0 then lN (cpk (dn.getD c cp0) 1) + tb_x (dn.getD c cp0) sd else lN (cpk (dn.getD c cp0) 2) + tb_y (dn.getD c cp0) sd))) ∨ (¬ ((∃ c, c < dn.length ∧ v = nI c) ∧ (∃ sd, sd < 4 ∧ k = nI sd) ∧ ∃ wh, wh < 2 ∧ wt = nI wh) ∧ u = (va_up ii 0 1, li, ia, la))) (wB D (va_A (w_M a cA ii li ia la) s.heap.size) (fun (u : St) => w_M a cA u.1 u.2.1 u.2.2.1 u.2.2.2)) (va_A (w_M a cA ii li ia la) s.heap.size)) ([.ref (a 0), .int v, .int k, .int wt] : List Value).toArray s 0 0 (va_A (w_M a cA ii li ia la) s.heap.size)) (F0 m 280 ls (.long ta :: [.long (lN (cpk qq 1))])) := by
                        intro ta hta
                        refine lv_ladd hx hb d_M_tab_280 ?_
                        refine lv_topl (fun px epx => ?_)
                        have hpx : px = lN (cpk qq 1) + ta := by rw [epx]; skip
                        clear epx
                        refine lv_lstore (lv' := [(16, .long px), (14, .long vv1), (12, .long uu), (0, .ref (a 0)), (1, .int (nI c0)), (2, .int (nI sd)), (3, .int wt), (5, .int (nI (6 * c0 + 0))), (6, .long xx), (8, .long yy), (10, .int (nI b)), (11, .int (nI (30 * b + 3 * j)))]) hx hb d_M_tab_281 hl (by decide) rfl (fun ls hl => ?_)
                        refine lv_aload_n hx hb d_M_tab_283 rfl (lv_at hl 3 rfl) ?_
                        refine va_get (D := D) (ci := 1) (v := .ref (a 15)) (C := R_M) (T := T_M) (N := 26) hx hb (uw_M Z.1 hg.1) (fun _ h => h) hown hK hP 0 rfl rfl 14 (by decide) (kw618 Z.1 _ _ hg.1) (fun _ h9 => h9) rfl d_M_tab_284 ?_
                        refine lv_iload hx hb d_M_tab_287 (lv_at hl 7 rfl) ?_
                        refine lv_iconst (v := 2) hx hb d_M_tab_289 (by decide) ?_
                        refine lv_iadd hx hb d_M_tab_290 ?_
                        refine lv_topi (fun z141 ez141 => ?_)
                        obtain rfl : z141 = (nI (6 * c0 + 2)) := by rw [ez141]; exact nI_add _ 2
                        refine va_lald hx hb hK hP 8 1 rfl rfl (vp_in_nI (n := 6 * c0 + 2) (N := 1200) (by omega) (by decide)) d_M_tab_291 ?_
                        refine lv_topl (fun z142 ez142 => ?_)
                        rw [nI_clamp (n := (6 * c0 + 2)) (by omega)] at ez142
                        obtain rfl : z142 = ((u1 14) (6 * c0 + 2)) := ez142
                        refine lv_topl (fun z143 ez143 => ?_)
                        obtain rfl : z143 = (lN (cpk qq 2)) := by rw [ez143]; rw [u14]; exact hq1 2 (by decide)
                        have jn144 : ∀ tc : Int64, tc = (if nI (cpk qq 3) = 0 then kb 3 j - lb 8 else kb 2 j - lb 7) → W p l e ({ frames := 1, cells := 0, slots := 0, locals := 60 }) s m ([.ref (a 0), .int v, .int k, .int wt] : List Value).toArray below meth c H locs 0 0 (MQ below (va_Ql (fun (r : Int64) (u : St) => (∃ c sd wh, c < dn.length ∧ v = nI c ∧ sd < 4 ∧ k = nI sd ∧ wh < 2 ∧ wt = nI wh ∧ u.2.1 = li ∧ u.2.2.1 = ia ∧ tbI b la u.2.2.2 ∧ u.2.2.2 19 b = mxF fx n - mnF fx n ∧ u.2.2.2 20 b = mxF fy n - mnF fy n ∧ (((List.range np).any (bn kb lb (tb_x (dn.getD c cp0) sd) (tb_y (dn.getD c cp0) sd) (nI (cpk (dn.getD c cp0) 3))) = true ∧ u.1 = va_up ii 0 2) ∨ ((List.range np).any (bn kb lb (tb_x (dn.getD c cp0) sd) (tb_y (dn.getD c cp0) sd) (nI (cpk (dn.getD c cp0) 3))) = false ∧ u.1 = va_up ii 0 0 ∧ r = if wh = 0 then lN (cpk (dn.getD c cp0) 1) + tb_x (dn.getD c cp0) sd else lN (cpk (dn.getD c cp0) 2) + tb_y (dn.getD c cp0) sd))) ∨ (¬ ((∃ c, c < dn.length ∧ v = nI c) ∧ (∃ sd, sd < 4 ∧ k = nI sd) ∧ ∃ wh, wh < 2 ∧ wt = nI wh) ∧ u = (va_up ii 0 1, li, ia, la))) (wB D (va_A (w_M a cA ii li ia la) s.heap.size) (fun (u : St) => w_M a cA u.1 u.2.1 u.2.2.1 u.2.2.2)) (va_A (w_M a cA ii li ia la) s.heap.size)) ([.ref (a 0), .int v, .int k, .int wt] : List Value).toArray s 0 0 (va_A (w_M a cA ii li ia la) s.heap.size)) (F0 m 313 ls (.long tc :: [.long (lN (cpk qq 2))])) := by
                          intro tc htc
                          refine lv_ladd hx hb d_M_tab_313 ?_
                          refine lv_topl (fun py epy => ?_)
                          have hpy : py = lN (cpk qq 2) + tc := by rw [epy]; skip
                          clear epy
                          refine lv_lstore (lv' := [(18, .long py), (16, .long px), (14, .long vv1), (12, .long uu), (0, .ref (a 0)), (1, .int (nI c0)), (2, .int (nI sd)), (3, .int wt), (5, .int (nI (6 * c0 + 0))), (6, .long xx), (8, .long yy), (10, .int (nI b)), (11, .int (nI (30 * b + 3 * j)))]) hx hb d_M_tab_314 hl (by decide) rfl (fun ls hl => ?_)
                          refine lv_lload hx hb d_M_tab_316 (lv_at hl 1 rfl) ?_
                          refine lv_lload hx hb d_M_tab_318 (lv_at hl 9 rfl) ?_
                          refine lv_lsub hx hb d_M_tab_320 ?_
                          refine lv_lload hx hb d_M_tab_321 (lv_at hl 1 rfl) ?_
                          refine lv_lload hx hb d_M_tab_323 (lv_at hl 9 rfl) ?_
                          refine lv_lsub hx hb d_M_tab_325 ?_
                          refine lv_lmul hx hb d_M_tab_326 ?_
                          refine lv_topl (fun s1 es1 => ?_)
                          have hs1 : s1 = (tx - ta) * (tx - ta) := by rw [es1]; rw [hpx, hxx]; exact rg_1 _ _ _
                          clear es1
                          refine lv_lload hx hb d_M_tab_327 (lv_at hl 0 rfl) ?_
                          refine lv_lload hx hb d_M_tab_329 (lv_at hl 10 rfl) ?_
                          refine lv_lsub hx hb d_M_tab_331 ?_
                          refine lv_lload hx hb d_M_tab_332 (lv_at hl 0 rfl) ?_
                          refine lv_lload hx hb d_M_tab_334 (lv_at hl 10 rfl) ?_
                          refine lv_lsub hx hb d_M_tab_336 ?_
                          refine lv_lmul hx hb d_M_tab_337 ?_
                          refine lv_topl (fun s2 es2 => ?_)
                          have hs2 : s2 = (ty - tc) * (ty - tc) := by rw [es2]; rw [hpy, hyy]; exact rg_1 _ _ _
                          clear es2
                          refine lv_ladd hx hb d_M_tab_338 ?_
                          refine lv_topl (fun s3 es3 => ?_)
                          have hs3 : s3 = s1 + s2 := by rw [es3]; skip
                          clear es3
                          refine lv_aload_n hx hb d_M_tab_339 rfl (lv_at hl 4 rfl) ?_
                          refine va_get (D := D) (ci := 1) (v := .ref (a 10)) (C := R_M) (T := T_M) (N := 26) hx hb (uw_M Z.1 hg.1) (fun _ h => h) hown hK hP 0 rfl rfl 9 (by decide) (kw613 Z.1 _ _ hg.1) (fun _ h9 => h9) rfl d_M_tab_340 ?_
                          refine lv_iload hx hb d_M_tab_343 (lv_at hl 12 rfl) ?_
                          refine lv_iconst (v := 2) hx hb d_M_tab_345 (by decide) ?_
                          refine lv_iadd hx hb d_M_tab_346 ?_
                          refine lv_topi (fun z149 ez149 => ?_)
                          obtain rfl : z149 = (nI (30 * b + 3 * j + 2)) := by rw [ez149]; exact nI_add _ 2
                          refine va_lald hx hb hK hP 6 1 rfl rfl (vp_in_nI (n := 30 * b + 3 * j + 2) (N := 120) (by omega) (by decide)) d_M_tab_347 ?_
                          refine lv_topl (fun z150 ez150 => ?_)
                          rw [nI_clamp (n := (30 * b + 3 * j + 2)) (by omega)] at ez150
                          obtain rfl : z150 = ((u1 9) (30 * b + 3 * j + 2)) := ez150
                          refine lv_topl (fun r1 er1 => ?_)
                          have hr1 : r1 = kb 4 j := by rw [er1]; rw [u9]; exact k3
                          clear er1
                          refine lv_aload_n hx hb d_M_tab_348 rfl (lv_at hl 4 rfl) ?_
                          refine va_get (D := D) (ci := 1) (v := .ref (a 10)) (C := R_M) (T := T_M) (N := 26) hx hb (uw_M Z.1 hg.1) (fun _ h => h) hown hK hP 0 rfl rfl 9 (by decide) (kw613 Z.1 _ _ hg.1) (fun _ h9 => h9) rfl d_M_tab_349 ?_
                          refine lv_iload hx hb d_M_tab_352 (lv_at hl 12 rfl) ?_
                          refine lv_iconst (v := 2) hx hb d_M_tab_354 (by decide) ?_
                          refine lv_iadd hx hb d_M_tab_355 ?_
                          refine lv_topi (fun z151 ez151 => ?_)
                          obtain rfl : z151 = (nI (30 * b + 3 * j + 2)) := by rw [ez151]; exact nI_add _ 2
                          refine va_lald hx hb hK hP 6 1 rfl rfl (vp_in_nI (n := 30 * b + 3 * j + 2) (N := 120) (by omega) (by decide)) d_M_tab_356 ?_
                          refine lv_topl (fun z152 ez152 => ?_)
                          rw [nI_clamp (n := (30 * b + 3 * j + 2)) (by omega)] at ez152
                          obtain rfl : z152 = ((u1 9) (30 * b + 3 * j + 2)) := ez152
                          refine lv_topl (fun r2 er2 => ?_)
                          have hr2 : r2 = kb 4 j := by rw [er2]; rw [u9]; exact k3
                          clear er2
                          refine lv_lmul hx hb d_M_tab_357 ?_
                          refine lv_topl (fun r3 er3 => ?_)
                          have hr3 : r3 = kb 4 j * kb 4 j := by rw [er3]; rw [hr1, hr2]
                          clear er3
                          have hbn : tt j = decide (s3 < r3) := by rw [htt, hs3, hs1, hs2, hr3, hta, htc]; rfl
                          refine W.lcmp hx hb d_M_tab_358 ?_
                          refine lv_if_ge (tgt := 367) hx hb d_M_tab_359 (by decide) (fun g153 => ?_) (fun g153 => ?_)
                          · have ht0 : tt j = false := by rw [hbn]; exact decide_eq_false (fun z => absurd ((lg_cmp_ge _ _).mp g153) (Int64.not_le.mpr z))
                            have hay : (List.range (j + 1)).any tt = (List.range j).any tt := by rw [List.range_succ, List.any_append]; simp [ht0]
                            obtain ⟨v154, ev154⟩ : ∃ y : Int32, y = (nI (30 * b + 3 * j)) + 3 := ⟨_, rfl⟩
                            refine lv_iinc (v := v154) (lv' := [(11, .int v154), (18, .long py), (16, .long px), (14, .long vv1), (12, .long uu), (0, .ref (a 0)), (1, .int (nI c0)), (2, .int (nI sd)), (3, .int wt), (5, .int (nI (6 * c0 + 0))), (6, .long xx), (8, .long yy), (10, .int (nI b))]) hx hb d_M_tab_367 hl (k := 12) rfl (by rw [ev154]; rfl) (by decide) rfl (fun ls hl => ?_)
                            refine lv_goto (tgt := 186) hx hb d_M_tab_370 (by decide) ?_
                            obtain rfl : v154 = nI (30 * b + 3 * (j + 1)) := by rw [ev154]; exact nI_add (30 * b + 3 * j) 3
                            exact ih (j + 1) ib (by omega) hjn (by rw [hay]; exact hib) _ _ hP hD hS ls (lv_sub hl [5, 6, 7, 8, 9, 10, 11, 12, 0] rfl)
                          · have ht0 : tt j = true := by rw [hbn]; exact decide_eq_true (Int64.not_le.mp (fun z => g153 ((lg_cmp_ge _ _).mpr z)))
                            have hay : (List.range (j + 1)).any tt = true := by rw [List.range_succ, List.any_append]; simp [ht0]
                            refine lv_aload_n hx hb d_M_tab_362 rfl (lv_at hl 4 rfl) ?_
                            refine lv_iconst (v := 2) hx hb d_M_tab_363 (by decide) ?_
                            refine va_put (D := D) (ci := 1) (v := .int 2) (ty := t_M 0) (C := R_M) (T := T_M) (N := 26) hx hb (uw_M Z.1 hg.1) (fun _ h => h) t_M t_M_ok n_M hown hK hP hD hS 0 rfl rfl 0 (by decide) (kw604 Z.1 _ _ hg.1) (fun _ h9 => h9) rfl (by decide +kernel) rfl rfl (Nat.le_of_ble_eq_true rfl) d_M_tab_364 (fun H locs hP hD hS => ?_)
                            have hP : va_P D ncl (w_M a cA (va_up ib 0 2) li ia u1) H := hP
                            have hD : va_D _ (w_M a cA (va_up ib 0 2) li ia u1) := hD
                            obtain ⟨v155, ev155⟩ : ∃ y : Int32, y = (nI (30 * b + 3 * j)) + 3 := ⟨_, rfl⟩
                            refine lv_iinc (v := v155) (lv' := [(11, .int v155), (18, .long py), (16, .long px), (14, .long vv1), (12, .long uu), (0, .ref (a 0)), (1, .int (nI c0)), (2, .int (nI sd)), (3, .int wt), (5, .int (nI (6 * c0 + 0))), (6, .long xx), (8, .long yy), (10, .int (nI b))]) hx hb d_M_tab_367 hl (k := 12) rfl (by rw [ev155]; rfl) (by decide) rfl (fun ls hl => ?_)
                            refine lv_goto (tgt := 186) hx hb d_M_tab_370 (by decide) ?_
                            obtain rfl : v155 = nI (30 * b + 3 * (j + 1)) := by rw [ev155]; exact nI_add (30 * b + 3 * j) 3
                            exact ih (j + 1) (va_up ib 0 2) (by omega) hjn (by rw [hay, if_pos rfl, hib]; split <;> exact bx_uu _ _ _ _) _ _ hP hD hS ls (lv_sub hl [5, 6, 7, 8, 9, 10, 11, 12, 0] rfl)
                        refine lv_aload_n hx hb d_M_tab_292 rfl (lv_at hl 3 rfl) ?_
                        refine va_get (D := D) (ci := 1) (v := .ref (a 15)) (C := R_M) (T := T_M) (N := 26) hx hb (uw_M Z.1 hg.1) (fun _ h => h) hown hK hP 0 rfl rfl 14 (by decide) (kw618 Z.1 _ _ hg.1) (fun _ h9 => h9) rfl d_M_tab_293 ?_
                        refine lv_iload hx hb d_M_tab_296 (lv_at hl 7 rfl) ?_
                        refine lv_iconst (v := 3) hx hb d_M_tab_298 (by decide) ?_
                        refine lv_iadd hx hb d_M_tab_299 ?_
                        refine lv_topi (fun z145 ez145 => ?_)
                        obtain rfl : z145 = (nI (6 * c0 + 3)) := by rw [ez145]; exact nI_add _ 3
                        refine va_lald hx hb hK hP 8 1 rfl rfl (vp_in_nI (n := 6 * c0 + 3) (N := 1200) (by omega) (by decide)) d_M_tab_300 ?_
                        refine lv_topl (fun z146 ez146 => ?_)
                        rw [nI_clamp (n := (6 * c0 + 3)) (by omega)] at ez146
                        obtain rfl : z146 = ((u1 14) (6 * c0 + 3)) := ez146
                        refine lv_topl (fun z147 ez147 => ?_)
                        obtain rfl : z147 = (lN (cpk qq 3)) := by rw [ez147]; rw [u14]; exact hq1 3 (by decide)
                        refine lv_lconst (v := 0) hx hb d_M_tab_301 (by decide) ?_
                        refine W.lcmp hx hb d_M_tab_302 ?_
                        refine lv_if_ne (tgt := 311) hx hb d_M_tab_303 (by decide) (fun e148 => ?_) (fun e148 => ?_)
                        · have hz3 : ¬ nI (cpk qq 3) = 0 := fun z => e148 ((lg_cmp_eq _ _).mpr ((l0_iff h3).mpr z))
                          refine lv_lload hx hb d_M_tab_311 (lv_at hl 2 rfl) ?_
                          exact jn144 _ (by rw [if_neg hz3]; exact huu)
                        · have hz3 := (l0_iff h3).mp ((lg_cmp_eq _ _).mp e148)
                          refine lv_lload hx hb d_M_tab_306 (lv_at hl 1 rfl) ?_
                          refine lv_goto (tgt := 313) hx hb d_M_tab_308 (by decide) ?_
                          exact jn144 _ (by rw [if_pos hz3]; exact hvv1)
                      refine lv_aload_n hx hb d_M_tab_251 rfl (lv_at hl 2 rfl) ?_
                      refine va_get (D := D) (ci := 1) (v := .ref (a 15)) (C := R_M) (T := T_M) (N := 26) hx hb (uw_M Z.1 hg.1) (fun _ h => h) hown hK hP 0 rfl rfl 14 (by decide) (kw618 Z.1 _ _ hg.1) (fun _ h9 => h9) rfl d_M_tab_252 ?_
                      refine lv_iload hx hb d_M_tab_255 (lv_at hl 6 rfl) ?_
                      refine lv_iconst (v := 3) hx hb d_M_tab_257 (by decide) ?_
                      refine lv_iadd hx hb d_M_tab_258 ?_
                      refine lv_topi (fun z136 ez136 => ?_)
                      obtain rfl : z136 = (nI (6 * c0 + 3)) := by rw [ez136]; exact nI_add _ 3
                      refine va_lald hx hb hK hP 8 1 rfl rfl (vp_in_nI (n := 6 * c0 + 3) (N := 1200) (by omega) (by decide)) d_M_tab_259 ?_
                      refine lv_topl (fun z137 ez137 => ?_)
                      rw [nI_clamp (n := (6 * c0 + 3)) (by omega)] at ez137
                      obtain rfl : z137 = ((u1 14) (6 * c0 + 3)) := ez137
                      refine lv_topl (fun z138 ez138 => ?_)
                      obtain rfl : z138 = (lN (cpk qq 3)) := by rw [ez138]; rw [u14]; exact hq1 3 (by decide)
                      refine lv_lconst (v := 0) hx hb d_M_tab_260 (by decide) ?_
                      refine W.lcmp hx hb d_M_tab_261 ?_
                      refine lv_if_ne (tgt := 270) hx hb d_M_tab_262 (by decide) (fun e139 => ?_) (fun e139 => ?_)
                      · have hz3 : ¬ nI (cpk qq 3) = 0 := fun z => e139 ((lg_cmp_eq _ _).mpr ((l0_iff h3).mpr z))
                        refine lv_aload_n hx hb d_M_tab_270 rfl (lv_at hl 2 rfl) ?_
                        refine va_get (D := D) (ci := 1) (v := .ref (a 21)) (C := R_M) (T := T_M) (N := 26) hx hb (uw_M Z.1 hg.1) (fun _ h => h) hown hK hP 0 rfl rfl 20 (by decide) (kw624 Z.1 _ _ hg.1) (fun _ h9 => h9) rfl d_M_tab_271 ?_
                        refine lv_iload hx hb d_M_tab_274 (lv_at hl 9 rfl) ?_
                        refine va_lald hx hb hK hP 13 1 rfl rfl (vp_in_nI (n := b) (N := 4) (by omega) (by decide)) d_M_tab_276 ?_
                        refine lv_topl (fun z140 ez140 => ?_)
                        rw [nI_clamp (n := b) (by omega)] at ez140
                        obtain rfl : z140 = ((u1 20) b) := ez140
                        refine lv_topl (fun pe epe => ?_)
                        have hpe : pe = lb 10 - lb 8 := by rw [epe]; rw [hl10, hl8]; exact p4
                        clear epe
                        refine lv_lload hx hb d_M_tab_277 (lv_at hl 0 rfl) ?_
                        refine lv_lsub hx hb d_M_tab_279 ?_
                        exact jn135 _ (by rw [if_neg hz3, hpe, hvv1])
                      · have hz3 := (l0_iff h3).mp ((lg_cmp_eq _ _).mp e139)
                        refine lv_lload hx hb d_M_tab_265 (lv_at hl 1 rfl) ?_
                        refine lv_goto (tgt := 280) hx hb d_M_tab_267 (by decide) ?_
                        exact jn135 _ (by rw [if_pos hz3]; exact huu)
                exact loop (np + 1) 0 (va_up ii 0 0) (by omega) (Nat.zero_le _) rfl _ _ hP hD hS ls (lv_sub hl [6, 7, 8, 9, 4, 3, 2, 1, 0] rfl)
              refine lv_iload_n hx hb d_M_tab_121 rfl (lv_at hl 5 rfl) ?_
              refine lv_iconst (v := 1) hx hb d_M_tab_122 (by decide) ?_
              refine lv_icmp_ne (tgt := 130) hx hb d_M_tab_123 (by decide) (fun g103 => ?_) (fun g103 => ?_)
              · have hs : ¬ sd = 1 := fun z => g103 (by rw [z]; rfl)
                refine lv_iload_n hx hb d_M_tab_130 rfl (lv_at hl 5 rfl) ?_
                refine lv_iconst (v := 3) hx hb d_M_tab_131 (by decide) ?_
                refine lv_icmp_ne (tgt := 147) hx hb d_M_tab_132 (by decide) (fun h104 => ?_) (fun h104 => ?_)
                · have hs2 : ¬ sd = 3 := fun z => h104 (by rw [z]; rfl)
                  refine lv_aload_n hx hb d_M_tab_147 rfl (lv_at hl 3 rfl) ?_
                  refine va_get (D := D) (ci := 1) (v := .ref (a 15)) (C := R_M) (T := T_M) (N := 26) hx hb (uw_M Z.1 hg.1) (fun _ h => h) hown hK hP 0 rfl rfl 14 (by decide) (kw618 Z.1 _ _ hg.1) (fun _ h9 => h9) rfl d_M_tab_148 ?_
                  refine lv_iload hx hb d_M_tab_151 (lv_at hl 1 rfl) ?_
                  refine lv_iconst (v := 5) hx hb d_M_tab_153 (by decide) ?_
                  refine lv_iadd hx hb d_M_tab_154 ?_
                  refine lv_topi (fun z108 ez108 => ?_)
                  obtain rfl : z108 = (nI (6 * c0 + 5)) := by rw [ez108]; exact nI_add _ 5
                  refine va_lald hx hb hK hP 8 1 rfl rfl (vp_in_nI (n := 6 * c0 + 5) (N := 1200) (by omega) (by decide)) d_M_tab_155 ?_
                  refine lv_topl (fun z109 ez109 => ?_)
                  rw [nI_clamp (n := (6 * c0 + 5)) (by omega)] at ez109
                  obtain rfl : z109 = ((la 14) (6 * c0 + 5)) := ez109
                  refine lv_topl (fun z110 ez110 => ?_)
                  obtain rfl : z110 = (lN (cpk qq 5)) := by rw [ez110]; exact hq1 5 (by decide)
                  refine lv_ldc2 (v := 2) hx hb hown (kw796 Z.1 _ _ hg.1) d_M_tab_156 ?_
                  refine lv_ldiv hx hb d_M_tab_159 (by decide) ?_
                  exact jn102 _ (by rw [tb_y, if_neg hs, if_neg hs2])
                · have hs2 : sd = 3 := (nI_eq (b := 3) (by omega) (by decide)).mp h104
                  refine lv_aload_n hx hb d_M_tab_135 rfl (lv_at hl 3 rfl) ?_
                  refine va_get (D := D) (ci := 1) (v := .ref (a 15)) (C := R_M) (T := T_M) (N := 26) hx hb (uw_M Z.1 hg.1) (fun _ h => h) hown hK hP 0 rfl rfl 14 (by decide) (kw618 Z.1 _ _ hg.1) (fun _ h9 => h9) rfl d_M_tab_136 ?_
                  refine lv_iload hx hb d_M_tab_139 (lv_at hl 1 rfl) ?_
                  refine lv_iconst (v := 5) hx hb d_M_tab_141 (by decide) ?_
                  refine lv_iadd hx hb d_M_tab_142 ?_
                  refine lv_topi (fun z105 ez105 => ?_)
                  obtain rfl : z105 = (nI (6 * c0 + 5)) := by rw [ez105]; exact nI_add _ 5
                  refine va_lald hx hb hK hP 8 1 rfl rfl (vp_in_nI (n := 6 * c0 + 5) (N := 1200) (by omega) (by decide)) d_M_tab_143 ?_
                  refine lv_topl (fun z106 ez106 => ?_)
                  rw [nI_clamp (n := (6 * c0 + 5)) (by omega)] at ez106
                  obtain rfl : z106 = ((la 14) (6 * c0 + 5)) := ez106
                  refine lv_topl (fun z107 ez107 => ?_)
                  obtain rfl : z107 = (lN (cpk qq 5)) := by rw [ez107]; exact hq1 5 (by decide)
                  refine lv_goto (tgt := 160) hx hb d_M_tab_144 (by decide) ?_
                  exact jn102 _ (by rw [tb_y, if_neg hs, if_pos hs2])
              · have hs : sd = 1 := (nI_eq (b := 1) (by omega) (by decide)).mp g103
                refine lv_lconst (v := 0) hx hb d_M_tab_126 (by decide) ?_
                refine lv_goto (tgt := 160) hx hb d_M_tab_127 (by decide) ?_
                exact jn102 _ (by rw [tb_y, if_pos hs])
            refine lv_iload_n hx hb d_M_tab_71 rfl (lv_at hl 4 rfl) ?_
            refine lv_if_ne (tgt := 79) hx hb d_M_tab_72 (by decide) (fun g91 => ?_) (fun g91 => ?_)
            · have hs : ¬ sd = 0 := fun z => g91 (by rw [z]; rfl)
              refine lv_iload_n hx hb d_M_tab_79 rfl (lv_at hl 4 rfl) ?_
              refine lv_iconst (v := 2) hx hb d_M_tab_80 (by decide) ?_
              refine lv_icmp_ne (tgt := 96) hx hb d_M_tab_81 (by decide) (fun h92 => ?_) (fun h92 => ?_)
              · have hs2 : ¬ sd = 2 := fun z => h92 (by rw [z]; rfl)
                refine lv_aload_n hx hb d_M_tab_96 rfl (lv_at hl 2 rfl) ?_
                refine va_get (D := D) (ci := 1) (v := .ref (a 15)) (C := R_M) (T := T_M) (N := 26) hx hb (uw_M Z.1 hg.1) (fun _ h => h) hown hK hP 0 rfl rfl 14 (by decide) (kw618 Z.1 _ _ hg.1) (fun _ h9 => h9) rfl d_M_tab_97 ?_
                refine lv_iload hx hb d_M_tab_100 (lv_at hl 0 rfl) ?_
                refine lv_iconst (v := 4) hx hb d_M_tab_102 (by decide) ?_
                refine lv_iadd hx hb d_M_tab_103 ?_
                refine lv_topi (fun z96 ez96 => ?_)
                obtain rfl : z96 = (nI (6 * c0 + 4)) := by rw [ez96]; exact nI_add _ 4
                refine va_lald hx hb hK hP 8 1 rfl rfl (vp_in_nI (n := 6 * c0 + 4) (N := 1200) (by omega) (by decide)) d_M_tab_104 ?_
                refine lv_topl (fun z97 ez97 => ?_)
                rw [nI_clamp (n := (6 * c0 + 4)) (by omega)] at ez97
                obtain rfl : z97 = ((la 14) (6 * c0 + 4)) := ez97
                refine lv_topl (fun z98 ez98 => ?_)
                obtain rfl : z98 = (lN (cpk qq 4)) := by rw [ez98]; exact hq1 4 (by decide)
                refine lv_ldc2 (v := 2) hx hb hown (kw796 Z.1 _ _ hg.1) d_M_tab_105 ?_
                refine lv_ldiv hx hb d_M_tab_108 (by decide) ?_
                exact jn90 _ (by rw [tb_x, if_neg hs, if_neg hs2])
              · have hs2 : sd = 2 := (nI_eq (b := 2) (by omega) (by decide)).mp h92
                refine lv_aload_n hx hb d_M_tab_84 rfl (lv_at hl 2 rfl) ?_
                refine va_get (D := D) (ci := 1) (v := .ref (a 15)) (C := R_M) (T := T_M) (N := 26) hx hb (uw_M Z.1 hg.1) (fun _ h => h) hown hK hP 0 rfl rfl 14 (by decide) (kw618 Z.1 _ _ hg.1) (fun _ h9 => h9) rfl d_M_tab_85 ?_
                refine lv_iload hx hb d_M_tab_88 (lv_at hl 0 rfl) ?_
                refine lv_iconst (v := 4) hx hb d_M_tab_90 (by decide) ?_
                refine lv_iadd hx hb d_M_tab_91 ?_
                refine lv_topi (fun z93 ez93 => ?_)
                obtain rfl : z93 = (nI (6 * c0 + 4)) := by rw [ez93]; exact nI_add _ 4
                refine va_lald hx hb hK hP 8 1 rfl rfl (vp_in_nI (n := 6 * c0 + 4) (N := 1200) (by omega) (by decide)) d_M_tab_92 ?_
                refine lv_topl (fun z94 ez94 => ?_)
                rw [nI_clamp (n := (6 * c0 + 4)) (by omega)] at ez94
                obtain rfl : z94 = ((la 14) (6 * c0 + 4)) := ez94
                refine lv_topl (fun z95 ez95 => ?_)
                obtain rfl : z95 = (lN (cpk qq 4)) := by rw [ez95]; exact hq1 4 (by decide)
                refine lv_goto (tgt := 109) hx hb d_M_tab_93 (by decide) ?_
                exact jn90 _ (by rw [tb_x, if_neg hs, if_pos hs2])
            · have hs : sd = 0 := (nI_eq (b := 0) (by omega) (by decide)).mp g91
              refine lv_lconst (v := 0) hx hb d_M_tab_75 (by decide) ?_
              refine lv_goto (tgt := 109) hx hb d_M_tab_76 (by decide) ?_
              exact jn90 _ (by rw [tb_x, if_pos hs])
