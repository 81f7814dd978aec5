def mnF (f : Nat → Int64) : Nat → Int64
  | 0 => 0
  | n + 1 => if n = 0 then f 0 else if f n < mnF f n then f n else mnF f n
def mxF (f : Nat → Int64) : Nat → Int64
  | 0 => 0
  | n + 1 => if n = 0 then f 0 else if mxF f n < f n then f n else mxF f n
def mm_v (q : Nat → Int64) (rad : Int64) (cn ax : Nat) : Int64 := if ax = 0 then (if cn = 1 ∨ cn = 2 then q 1 + q 4 + rad else q 1 - rad) else (if cn = 2 ∨ cn = 3 then q 2 + q 5 + rad else q 2 - rad)
theorem yo_no2 {f : Nat → Int32} {n c : Nat} {k : Int32} (hn : n ≤ 200) (hc : c < n) (h : yo f n k (-1)) : ¬ yo f n k (nI c) := by
  have hm : ∀ j, j < 200 → ¬ (-1 : Int32) = nI j := fun j hj z => by
    have := congrArg Int32.toInt z
    rw [nI_toInt (by omega), show (-1 : Int32).toInt = -1 from rfl] at this
    omega
  intro h2
  rcases h2 with ⟨-, z⟩ | ⟨mm, j, h3, h4, h5, h6, -⟩
  · exact hm c (by omega) z.symm
  · rcases h with ⟨z, -⟩ | ⟨mm', j', -, -, z, y, -⟩
    · rw [h3] at z
      rcases z with z | z
      · exact nI_pos (by omega) z
      · exact nI_ge h4 (by omega) z
    · exact hm j' (by omega) y
set_option maxHeartbeats 4000000 in
set_option maxRecDepth 100000 in
theorem m_M_mill {l : Launch} {s0 : State} {D : va_G} {cA sa : Nat → Nat} (Z : zE l s0 D cA sa) (a : Nat → Nat) (ii : Nat → Int32) (li : Nat → Int64) (ia : Nat → Nat → Int32) (la : Nat → Nat → Int64) (k v : Int32) (n : Nat) (hn : ii 13 = nI n) (hn2 : n ≤ 200) (h01 : ∀ j, j < n → ia 15 j = 0 ∨ ia 15 j = 1) (sz : Nat) : Met l y_M_mill [.code y_M_mill c_M_mill 6 (some .long)] ({ frames := 1, cells := 0, slots := 0, locals := 40 }) (wP s0 D [.ref (a 0), .int k, .int v] (w_M a cA ii li ia la) sz) (va_Ql (fun (r : Int64) (u : St) => (∃ kk c ax, kk < 2 ^ 31 ∧ k = nI kk ∧ c < n ∧ yo (ia 15) n (nI (kk / 4)) (nI c) ∧ ax < 2 ∧ v = nI ax ∧ r = mm_v (fun z => la 14 (6 * c + z)) (li 12) (kk % 4) ax ∧ u = (va_up ii 0 0, li, ia, la)) ∨ (¬ ((∃ kk c, kk < 2 ^ 31 ∧ k = nI kk ∧ c < n ∧ yo (ia 15) n (nI (kk / 4)) (nI c)) ∧ ∃ ax, ax < 2 ∧ v = nI ax) ∧ u = (va_up ii 0 1, li, ia, la))) (wB D (va_A (w_M a cA ii li ia la) sz) (fun (u : St) => w_M a cA u.1 u.2.1 u.2.2.1 u.2.2.2)) (va_A (w_M a cA ii li ia la) sz)) 0 0 (va_A (w_M a cA ii li ia la) sz) := by
  refine wMet Z (by decide) (Nat.le_of_ble_eq_true rfl) ?_
  intro p e s m below meth c hx hb hr hml hown hlk hin hg hK hsz hP hD hA hlo hS ls hl
  subst hsz
  have hown : s.vm.findClass R_M = some m.cls := hown
  refine lv_iload_n hx hb d_M_mill_0 rfl (lv_at hl 1 rfl) ?_
  refine lv_if_ge (tgt := 8) hx hb d_M_mill_1 (by decide) (fun c1 => ?_) (fun c1 => ?_)
  · obtain ⟨kk, hkk, rfl⟩ := nI_of (x := k) (Int32.not_lt.mpr c1)
    refine lv_aload_n hx hb d_M_mill_8 rfl (lv_at hl 0 rfl) ?_
    refine lv_iload_n hx hb d_M_mill_9 rfl (lv_at hl 1 rfl) ?_
    refine lv_iconst (v := 4) hx hb d_M_mill_10 (by decide) ?_
    refine lv_idiv hx hb d_M_mill_11 (by decide) ?_
    refine lv_topi (fun z4 ez4 => ?_)
    obtain rfl : z4 = (nI (kk / 4)) := by rw [ez4]; exact pk_div (d := 4) hkk (by decide) (by decide)
    refine w_calli (wr := ([] : va_W)) (w_runV (rest := []) hx hb hml hown hl.1 hg hlo hK hP hD hS (m_M_orderOf Z a ii li ia la (nI (kk / 4)) n hn hn2 h01 s.heap.size) (kw818 Z.1) (kw820 Z.1) (kp_M_orderOf Z.1) (kw821 Z.1) (kw6 Z.1) ⟨by decide, by decide, (by decide +kernel : (parseMethodDescriptor y_M_orderOf.desc).map (fun d => d.parameters.length) = some 1)⟩ ⟨Nat.le_of_ble_eq_true rfl, Nat.le_of_ble_eq_true rfl⟩ [0, 1, 2, 3, 4, 5, 6, 7, 8, 9, 10, 11, 12, 13, 14, 15, 16] rfl rfl (ci := 1) (q0 := 0) rfl rfl rfl (Nat.le_of_ble_eq_true rfl) d_M_mill_12 ⟨Nat.le_of_ble_eq_true rfl, Nat.le_of_ble_eq_true rfl⟩) hP hD hS hA [0, 1, 2, 3, 4, 5, 6, 7, 8, 9, 10, 11, 12, 13, 14, 15, 16] [] rfl rfl rfl (by decide) (fun _ => w_M a cA ii li ia la) [0, 1, 2, 3, 4, 5, 6, 7, 8, 9, 10, 11, 12, 13, 14, 15, 16] rfl (fun _ => rfl) (fun rc u H locs hrc hP hD hS => ?_)
    refine W.widen (k := 0) (n := 0) (Nat.le_of_ble_eq_true rfl) (Nat.le_of_ble_eq_true rfl) ?_
    refine lv_istore_n (lv' := [(3, .int rc), (0, .ref (a 0)), (1, .int (nI kk)), (2, .int v)]) hx hb d_M_mill_15 rfl hl (by decide) rfl (fun ls hl => ?_)
    refine lv_aload_n hx hb d_M_mill_16 rfl (lv_at hl 1 rfl) ?_
    refine lv_iload_n hx hb d_M_mill_17 rfl (lv_at hl 0 rfl) ?_
    refine lv_iconst (v := (-1)) hx hb d_M_mill_18 (by decide) ?_
    refine lv_icmp_eq (tgt := 35) hx hb d_M_mill_19 (by decide) (fun d5 => ?_) (fun d5 => ?_)
    · rw [d5] at hrc
      refine lv_iconst (v := 1) hx hb d_M_mill_35 (by decide) ?_
      refine va_put (D := D) (ci := 1) (v := .int 1) (ty := t_M 0) (C := R_M) (T := T_M) (N := 26) hx hb (uw_M Z.1 hg.1) (fun _ h => h) t_M t_M_ok n_M hown hK hP hD hS 0 rfl rfl 0 (by decide) (kw604 Z.1 _ _ hg.1) (fun _ h9 => h9) rfl (by decide +kernel) rfl rfl (Nat.le_of_ble_eq_true rfl) d_M_mill_36 (fun H locs hP hD hS => ?_)
      have hP : va_P D ncl (w_M a cA (va_up ii 0 1) li ia la) H := hP
      have hD : va_D _ (w_M a cA (va_up ii 0 1) li ia la) := hD
      refine lv_aload_n hx hb d_M_mill_39 rfl (lv_at hl 1 rfl) ?_
      refine va_get (D := D) (ci := 1) (v := .int 1) (C := R_M) (T := T_M) (N := 26) hx hb (uw_M Z.1 hg.1) (fun _ h => h) hown hK hP 0 rfl rfl 0 (by decide) (kw604 Z.1 _ _ hg.1) (fun _ h9 => h9) rfl d_M_mill_40 ?_
      refine lv_if_eq (tgt := 48) hx hb d_M_mill_43 (by decide) (fun k6 => by first | exact absurd (show ¬ (1 : Int32) = 0 by decide) k6 | exact absurd k6 (show ¬ (1 : Int32) = 0 by decide)) (fun _ => ?_)
      refine lv_lconst (v := 0) hx hb d_M_mill_46 (by decide) ?_
      exact w_lret hx hb hr hlk hP hD hS ((va_up ii 0 1), li, ia, la) rfl (Or.inr ⟨fun z => by obtain ⟨⟨k2, c, z1, z2, z3, z4⟩, -⟩ := z; obtain rfl := (nI_eq hkk z1).mp z2; exact yo_no2 hn2 z3 hrc z4, rfl⟩) d_M_mill_47
    · obtain ⟨c0, hc, rfl⟩ : ∃ j, j < n ∧ rc = nI j := by rcases hrc with ⟨-, z⟩ | ⟨mm, j, -, -, z, y, -⟩; exact absurd z d5; exact ⟨j, z, y⟩
      refine lv_iload_n hx hb d_M_mill_22 rfl (lv_at hl 3 rfl) ?_
      refine lv_if_eq (tgt := 31) hx hb d_M_mill_23 (by decide) (fun w7 => ?_) (fun w7 => ?_)
      · subst w7
        refine lv_iconst (v := 0) hx hb d_M_mill_31 (by decide) ?_
        refine lv_goto (tgt := 36) hx hb d_M_mill_32 (by decide) ?_
        refine va_put (D := D) (ci := 1) (v := .int 0) (ty := t_M 0) (C := R_M) (T := T_M) (N := 26) hx hb (uw_M Z.1 hg.1) (fun _ h => h) t_M t_M_ok n_M hown hK hP hD hS 0 rfl rfl 0 (by decide) (kw604 Z.1 _ _ hg.1) (fun _ h9 => h9) rfl (by decide +kernel) rfl rfl (Nat.le_of_ble_eq_true rfl) d_M_mill_36 (fun H locs hP hD hS => ?_)
        have hP : va_P D ncl (w_M a cA (va_up ii 0 0) li ia la) H := hP
        have hD : va_D _ (w_M a cA (va_up ii 0 0) li ia la) := hD
        refine lv_aload_n hx hb d_M_mill_39 rfl (lv_at hl 1 rfl) ?_
        refine va_get (D := D) (ci := 1) (v := .int 0) (C := R_M) (T := T_M) (N := 26) hx hb (uw_M Z.1 hg.1) (fun _ h => h) hown hK hP 0 rfl rfl 0 (by decide) (kw604 Z.1 _ _ hg.1) (fun _ h9 => h9) rfl d_M_mill_40 ?_
        refine lv_if_eq (tgt := 48) hx hb d_M_mill_43 (by decide) (fun _ => ?_) (fun k8 => by first | exact absurd (show (0 : Int32) = 0 from rfl) k8 | exact absurd k8 (show (0 : Int32) = 0 from rfl))
        refine lv_bipush (v := 6) hx hb d_M_mill_48 (by decide) ?_
        refine lv_iload_n hx hb d_M_mill_50 rfl (lv_at hl 0 rfl) ?_
        refine lv_imul hx hb d_M_mill_51 ?_
        refine lv_topi (fun z9 ez9 => ?_)
        obtain rfl : z9 = (nI (6 * c0)) := by rw [ez9]; exact pk_mul 6 c0
        refine lv_istore (lv' := [(4, .int (nI (6 * c0))), (3, .int (nI c0)), (0, .ref (a 0)), (1, .int (nI kk)), (2, .int 0)]) hx hb d_M_mill_52 hl (by decide) rfl (fun ls hl => ?_)
        refine lv_iload_n hx hb d_M_mill_54 rfl (lv_at hl 3 rfl) ?_
        refine lv_iconst (v := 4) hx hb d_M_mill_55 (by decide) ?_
        refine lv_irem hx hb d_M_mill_56 (by decide) ?_
        refine lv_topi (fun z10 ez10 => ?_)
        obtain rfl : z10 = (nI (kk % 4)) := by rw [ez10]; exact pk_rem (d := 4) hkk (by decide) (by decide)
        refine lv_istore (lv' := [(5, .int (nI (kk % 4))), (4, .int (nI (6 * c0))), (3, .int (nI c0)), (0, .ref (a 0)), (1, .int (nI kk)), (2, .int 0)]) hx hb d_M_mill_57 hl (by decide) rfl (fun ls hl => ?_)
        refine lv_iload_n hx hb d_M_mill_59 rfl (lv_at hl 5 rfl) ?_
        refine lv_if_ne (tgt := 116) hx hb d_M_mill_60 (by decide) (fun k11 => by first | exact absurd (show (0 : Int32) = 0 from rfl) k11 | exact absurd k11 (show (0 : Int32) = 0 from rfl)) (fun _ => ?_)
        refine lv_iload hx hb d_M_mill_63 (lv_at hl 0 rfl) ?_
        refine lv_if_eq (tgt := 74) hx hb d_M_mill_65 (by decide) (fun e12 => ?_) (fun e12 => ?_)
        · have h4 : kk % 4 = 0 := (nI_eq (b := 0) (by omega) (by decide)).mp e12
          refine lv_aload_n hx hb d_M_mill_74 rfl (lv_at hl 3 rfl) ?_
          refine va_get (D := D) (ci := 1) (v := .ref (a 15)) (C := R_M) (T := T_M) (N := 26) hx hb (uw_M Z.1 hg.1) (fun _ h => h) hown hK hP 0 rfl rfl 14 (by decide) (kw618 Z.1 _ _ hg.1) (fun _ h9 => h9) rfl d_M_mill_75 ?_
          refine lv_iload hx hb d_M_mill_78 (lv_at hl 1 rfl) ?_
          refine lv_iconst (v := 1) hx hb d_M_mill_80 (by decide) ?_
          refine lv_iadd hx hb d_M_mill_81 ?_
          refine lv_topi (fun z13 ez13 => ?_)
          obtain rfl : z13 = (nI (6 * c0 + 1)) := by rw [ez13]; exact nI_add _ 1
          refine va_lald hx hb hK hP 8 1 rfl rfl (vp_in_nI (n := 6 * c0 + 1) (N := 1200) (by omega) (by decide)) d_M_mill_82 ?_
          refine lv_topl (fun z14 ez14 => ?_)
          rw [nI_clamp (n := (6 * c0 + 1)) (by omega)] at ez14
          obtain rfl : z14 = ((la 14) (6 * c0 + 1)) := ez14
          refine lv_aload_n hx hb d_M_mill_83 rfl (lv_at hl 3 rfl) ?_
          refine va_get (D := D) (ci := 1) (v := .long (li 12)) (C := R_M) (T := T_M) (N := 26) hx hb (uw_M Z.1 hg.1) (fun _ h => h) hown hK hP 0 rfl rfl 12 (by decide) (kw616 Z.1 _ _ hg.1) (fun _ h9 => h9) rfl d_M_mill_84 ?_
          refine lv_lsub hx hb d_M_mill_87 ?_
          refine lv_goto (tgt := 115) hx hb d_M_mill_88 (by decide) ?_
          exact w_lret hx hb hr hlk hP hD hS ((va_up ii 0 0), li, ia, la) rfl (Or.inl ⟨kk, c0, 0, hkk, rfl, hc, hrc, by decide, rfl, by unfold mm_v; rw [if_pos rfl, if_neg (by omega)], rfl⟩) d_M_mill_115
        · have h4 : ¬ kk % 4 = 0 := fun y => e12 (by rw [y]; rfl)
          refine lv_iload hx hb d_M_mill_68 (lv_at hl 0 rfl) ?_
          refine lv_iconst (v := 3) hx hb d_M_mill_70 (by decide) ?_
          refine lv_icmp_ne (tgt := 91) hx hb d_M_mill_71 (by decide) (fun g15 => ?_) (fun g15 => ?_)
          · have h5 : ¬ kk % 4 = 3 := fun y => g15 (by rw [y]; rfl)
            refine lv_aload_n hx hb d_M_mill_91 rfl (lv_at hl 3 rfl) ?_
            refine va_get (D := D) (ci := 1) (v := .ref (a 15)) (C := R_M) (T := T_M) (N := 26) hx hb (uw_M Z.1 hg.1) (fun _ h => h) hown hK hP 0 rfl rfl 14 (by decide) (kw618 Z.1 _ _ hg.1) (fun _ h9 => h9) rfl d_M_mill_92 ?_
            refine lv_iload hx hb d_M_mill_95 (lv_at hl 1 rfl) ?_
            refine lv_iconst (v := 1) hx hb d_M_mill_97 (by decide) ?_
            refine lv_iadd hx hb d_M_mill_98 ?_
            refine lv_topi (fun z18 ez18 => ?_)
            obtain rfl : z18 = (nI (6 * c0 + 1)) := by rw [ez18]; exact nI_add _ 1
            refine va_lald hx hb hK hP 8 1 rfl rfl (vp_in_nI (n := 6 * c0 + 1) (N := 1200) (by omega) (by decide)) d_M_mill_99 ?_
            refine lv_topl (fun z19 ez19 => ?_)
            rw [nI_clamp (n := (6 * c0 + 1)) (by omega)] at ez19
            obtain rfl : z19 = ((la 14) (6 * c0 + 1)) := ez19
            refine lv_aload_n hx hb d_M_mill_100 rfl (lv_at hl 3 rfl) ?_
            refine va_get (D := D) (ci := 1) (v := .ref (a 15)) (C := R_M) (T := T_M) (N := 26) hx hb (uw_M Z.1 hg.1) (fun _ h => h) hown hK hP 0 rfl rfl 14 (by decide) (kw618 Z.1 _ _ hg.1) (fun _ h9 => h9) rfl d_M_mill_101 ?_
            refine lv_iload hx hb d_M_mill_104 (lv_at hl 1 rfl) ?_
            refine lv_iconst (v := 4) hx hb d_M_mill_106 (by decide) ?_
            refine lv_iadd hx hb d_M_mill_107 ?_
            refine lv_topi (fun z20 ez20 => ?_)
            obtain rfl : z20 = (nI (6 * c0 + 4)) := by rw [ez20]; exact nI_add _ 4
            refine va_lald hx hb hK hP 8 1 rfl rfl (vp_in_nI (n := 6 * c0 + 4) (N := 1200) (by omega) (by decide)) d_M_mill_108 ?_
            refine lv_topl (fun z21 ez21 => ?_)
            rw [nI_clamp (n := (6 * c0 + 4)) (by omega)] at ez21
            obtain rfl : z21 = ((la 14) (6 * c0 + 4)) := ez21
            refine lv_ladd hx hb d_M_mill_109 ?_
            refine lv_aload_n hx hb d_M_mill_110 rfl (lv_at hl 3 rfl) ?_
            refine va_get (D := D) (ci := 1) (v := .long (li 12)) (C := R_M) (T := T_M) (N := 26) hx hb (uw_M Z.1 hg.1) (fun _ h => h) hown hK hP 0 rfl rfl 12 (by decide) (kw616 Z.1 _ _ hg.1) (fun _ h9 => h9) rfl d_M_mill_111 ?_
            refine lv_ladd hx hb d_M_mill_114 ?_
            exact w_lret hx hb hr hlk hP hD hS ((va_up ii 0 0), li, ia, la) rfl (Or.inl ⟨kk, c0, 0, hkk, rfl, hc, hrc, by decide, rfl, by unfold mm_v; rw [if_pos rfl, if_pos (by omega)], rfl⟩) d_M_mill_115
          · have h5 : kk % 4 = 3 := (nI_eq (b := 3) (by omega) (by decide)).mp g15
            refine lv_aload_n hx hb d_M_mill_74 rfl (lv_at hl 3 rfl) ?_
            refine va_get (D := D) (ci := 1) (v := .ref (a 15)) (C := R_M) (T := T_M) (N := 26) hx hb (uw_M Z.1 hg.1) (fun _ h => h) hown hK hP 0 rfl rfl 14 (by decide) (kw618 Z.1 _ _ hg.1) (fun _ h9 => h9) rfl d_M_mill_75 ?_
            refine lv_iload hx hb d_M_mill_78 (lv_at hl 1 rfl) ?_
            refine lv_iconst (v := 1) hx hb d_M_mill_80 (by decide) ?_
            refine lv_iadd hx hb d_M_mill_81 ?_
            refine lv_topi (fun z16 ez16 => ?_)
            obtain rfl : z16 = (nI (6 * c0 + 1)) := by rw [ez16]; exact nI_add _ 1
            refine va_lald hx hb hK hP 8 1 rfl rfl (vp_in_nI (n := 6 * c0 + 1) (N := 1200) (by omega) (by decide)) d_M_mill_82 ?_
            refine lv_topl (fun z17 ez17 => ?_)
            rw [nI_clamp (n := (6 * c0 + 1)) (by omega)] at ez17
            obtain rfl : z17 = ((la 14) (6 * c0 + 1)) := ez17
            refine lv_aload_n hx hb d_M_mill_83 rfl (lv_at hl 3 rfl) ?_
            refine va_get (D := D) (ci := 1) (v := .long (li 12)) (C := R_M) (T := T_M) (N := 26) hx hb (uw_M Z.1 hg.1) (fun _ h => h) hown hK hP 0 rfl rfl 12 (by decide) (kw616 Z.1 _ _ hg.1) (fun _ h9 => h9) rfl d_M_mill_84 ?_
            refine lv_lsub hx hb d_M_mill_87 ?_
            refine lv_goto (tgt := 115) hx hb d_M_mill_88 (by decide) ?_
            exact w_lret hx hb hr hlk hP hD hS ((va_up ii 0 0), li, ia, la) rfl (Or.inl ⟨kk, c0, 0, hkk, rfl, hc, hrc, by decide, rfl, by unfold mm_v; rw [if_pos rfl, if_neg (by omega)], rfl⟩) d_M_mill_115
      · refine lv_iload_n hx hb d_M_mill_26 rfl (lv_at hl 3 rfl) ?_
        refine lv_iconst (v := 1) hx hb d_M_mill_27 (by decide) ?_
        refine lv_icmp_ne (tgt := 35) hx hb d_M_mill_28 (by decide) (fun w22 => ?_) (fun w22 => ?_)
        · refine lv_iconst (v := 1) hx hb d_M_mill_35 (by decide) ?_
          refine va_put (D := D) (ci := 1) (v := .int 1) (ty := t_M 0) (C := R_M) (T := T_M) (N := 26) hx hb (uw_M Z.1 hg.1) (fun _ h => h) t_M t_M_ok n_M hown hK hP hD hS 0 rfl rfl 0 (by decide) (kw604 Z.1 _ _ hg.1) (fun _ h9 => h9) rfl (by decide +kernel) rfl rfl (Nat.le_of_ble_eq_true rfl) d_M_mill_36 (fun H locs hP hD hS => ?_)
          have hP : va_P D ncl (w_M a cA (va_up ii 0 1) li ia la) H := hP
          have hD : va_D _ (w_M a cA (va_up ii 0 1) li ia la) := hD
          refine lv_aload_n hx hb d_M_mill_39 rfl (lv_at hl 1 rfl) ?_
          refine va_get (D := D) (ci := 1) (v := .int 1) (C := R_M) (T := T_M) (N := 26) hx hb (uw_M Z.1 hg.1) (fun _ h => h) hown hK hP 0 rfl rfl 0 (by decide) (kw604 Z.1 _ _ hg.1) (fun _ h9 => h9) rfl d_M_mill_40 ?_
          refine lv_if_eq (tgt := 48) hx hb d_M_mill_43 (by decide) (fun k34 => by first | exact absurd (show ¬ (1 : Int32) = 0 by decide) k34 | exact absurd k34 (show ¬ (1 : Int32) = 0 by decide)) (fun _ => ?_)
          refine lv_lconst (v := 0) hx hb d_M_mill_46 (by decide) ?_
          exact w_lret hx hb hr hlk hP hD hS ((va_up ii 0 1), li, ia, la) rfl (Or.inr ⟨fun z => by obtain ⟨-, ax, z1, z2⟩ := z; rcases (by omega : ax = 0 ∨ ax = 1) with y | y; exact w7 (by rw [z2, y]; rfl); exact w22 (by rw [z2, y]; rfl), rfl⟩) d_M_mill_47
        · subst w22
          refine lv_iconst (v := 0) hx hb d_M_mill_31 (by decide) ?_
          refine lv_goto (tgt := 36) hx hb d_M_mill_32 (by decide) ?_
          refine va_put (D := D) (ci := 1) (v := .int 0) (ty := t_M 0) (C := R_M) (T := T_M) (N := 26) hx hb (uw_M Z.1 hg.1) (fun _ h => h) t_M t_M_ok n_M hown hK hP hD hS 0 rfl rfl 0 (by decide) (kw604 Z.1 _ _ hg.1) (fun _ h9 => h9) rfl (by decide +kernel) rfl rfl (Nat.le_of_ble_eq_true rfl) d_M_mill_36 (fun H locs hP hD hS => ?_)
          have hP : va_P D ncl (w_M a cA (va_up ii 0 0) li ia la) H := hP
          have hD : va_D _ (w_M a cA (va_up ii 0 0) li ia la) := hD
          refine lv_aload_n hx hb d_M_mill_39 rfl (lv_at hl 1 rfl) ?_
          refine va_get (D := D) (ci := 1) (v := .int 0) (C := R_M) (T := T_M) (N := 26) hx hb (uw_M Z.1 hg.1) (fun _ h => h) hown hK hP 0 rfl rfl 0 (by decide) (kw604 Z.1 _ _ hg.1) (fun _ h9 => h9) rfl d_M_mill_40 ?_
          refine lv_if_eq (tgt := 48) hx hb d_M_mill_43 (by decide) (fun _ => ?_) (fun k23 => by first | exact absurd (show (0 : Int32) = 0 from rfl) k23 | exact absurd k23 (show (0 : Int32) = 0 from rfl))
          refine lv_bipush (v := 6) hx hb d_M_mill_48 (by decide) ?_
          refine lv_iload_n hx hb d_M_mill_50 rfl (lv_at hl 0 rfl) ?_
          refine lv_imul hx hb d_M_mill_51 ?_
          refine lv_topi (fun z24 ez24 => ?_)
          obtain rfl : z24 = (nI (6 * c0)) := by rw [ez24]; exact pk_mul 6 c0
          refine lv_istore (lv' := [(4, .int (nI (6 * c0))), (3, .int (nI c0)), (0, .ref (a 0)), (1, .int (nI kk)), (2, .int 1)]) hx hb d_M_mill_52 hl (by decide) rfl (fun ls hl => ?_)
          refine lv_iload_n hx hb d_M_mill_54 rfl (lv_at hl 3 rfl) ?_
          refine lv_iconst (v := 4) hx hb d_M_mill_55 (by decide) ?_
          refine lv_irem hx hb d_M_mill_56 (by decide) ?_
          refine lv_topi (fun z25 ez25 => ?_)
          obtain rfl : z25 = (nI (kk % 4)) := by rw [ez25]; exact pk_rem (d := 4) hkk (by decide) (by decide)
          refine lv_istore (lv' := [(5, .int (nI (kk % 4))), (4, .int (nI (6 * c0))), (3, .int (nI c0)), (0, .ref (a 0)), (1, .int (nI kk)), (2, .int 1)]) hx hb d_M_mill_57 hl (by decide) rfl (fun ls hl => ?_)
          refine lv_iload_n hx hb d_M_mill_59 rfl (lv_at hl 5 rfl) ?_
          refine lv_if_ne (tgt := 116) hx hb d_M_mill_60 (by decide) (fun _ => ?_) (fun k26 => by first | exact absurd (show ¬ (1 : Int32) = 0 by decide) k26 | exact absurd k26 (show ¬ (1 : Int32) = 0 by decide))
          refine lv_iload hx hb d_M_mill_116 (lv_at hl 0 rfl) ?_
          refine lv_iconst (v := 2) hx hb d_M_mill_118 (by decide) ?_
          refine lv_icmp_ge (tgt := 139) hx hb d_M_mill_119 (by decide) (fun e27 => ?_) (fun e27 => ?_)
          · have h4 : 2 ≤ kk % 4 := (nI_leI (a := 2) (by decide) (by omega)).mp e27
            refine lv_aload_n hx hb d_M_mill_139 rfl (lv_at hl 3 rfl) ?_
            refine va_get (D := D) (ci := 1) (v := .ref (a 15)) (C := R_M) (T := T_M) (N := 26) hx hb (uw_M Z.1 hg.1) (fun _ h => h) hown hK hP 0 rfl rfl 14 (by decide) (kw618 Z.1 _ _ hg.1) (fun _ h9 => h9) rfl d_M_mill_140 ?_
            refine lv_iload hx hb d_M_mill_143 (lv_at hl 1 rfl) ?_
            refine lv_iconst (v := 2) hx hb d_M_mill_145 (by decide) ?_
            refine lv_iadd hx hb d_M_mill_146 ?_
            refine lv_topi (fun z30 ez30 => ?_)
            obtain rfl : z30 = (nI (6 * c0 + 2)) := by rw [ez30]; exact nI_add _ 2
            refine va_lald hx hb hK hP 8 1 rfl rfl (vp_in_nI (n := 6 * c0 + 2) (N := 1200) (by omega) (by decide)) d_M_mill_147 ?_
            refine lv_topl (fun z31 ez31 => ?_)
            rw [nI_clamp (n := (6 * c0 + 2)) (by omega)] at ez31
            obtain rfl : z31 = ((la 14) (6 * c0 + 2)) := ez31
            refine lv_aload_n hx hb d_M_mill_148 rfl (lv_at hl 3 rfl) ?_
            refine va_get (D := D) (ci := 1) (v := .ref (a 15)) (C := R_M) (T := T_M) (N := 26) hx hb (uw_M Z.1 hg.1) (fun _ h => h) hown hK hP 0 rfl rfl 14 (by decide) (kw618 Z.1 _ _ hg.1) (fun _ h9 => h9) rfl d_M_mill_149 ?_
            refine lv_iload hx hb d_M_mill_152 (lv_at hl 1 rfl) ?_
            refine lv_iconst (v := 5) hx hb d_M_mill_154 (by decide) ?_
            refine lv_iadd hx hb d_M_mill_155 ?_
            refine lv_topi (fun z32 ez32 => ?_)
            obtain rfl : z32 = (nI (6 * c0 + 5)) := by rw [ez32]; exact nI_add _ 5
            refine va_lald hx hb hK hP 8 1 rfl rfl (vp_in_nI (n := 6 * c0 + 5) (N := 1200) (by omega) (by decide)) d_M_mill_156 ?_
            refine lv_topl (fun z33 ez33 => ?_)
            rw [nI_clamp (n := (6 * c0 + 5)) (by omega)] at ez33
            obtain rfl : z33 = ((la 14) (6 * c0 + 5)) := ez33
            refine lv_ladd hx hb d_M_mill_157 ?_
            refine lv_aload_n hx hb d_M_mill_158 rfl (lv_at hl 3 rfl) ?_
            refine va_get (D := D) (ci := 1) (v := .long (li 12)) (C := R_M) (T := T_M) (N := 26) hx hb (uw_M Z.1 hg.1) (fun _ h => h) hown hK hP 0 rfl rfl 12 (by decide) (kw616 Z.1 _ _ hg.1) (fun _ h9 => h9) rfl d_M_mill_159 ?_
            refine lv_ladd hx hb d_M_mill_162 ?_
            exact w_lret hx hb hr hlk hP hD hS ((va_up ii 0 0), li, ia, la) rfl (Or.inl ⟨kk, c0, 1, hkk, rfl, hc, hrc, by decide, rfl, by unfold mm_v; rw [if_neg (by decide), if_pos (by omega)], rfl⟩) d_M_mill_163
          · have h4 : kk % 4 < 2 := Nat.lt_of_not_le (fun y => e27 ((nI_leI (a := 2) (by decide) (by omega)).mpr y))
            refine lv_aload_n hx hb d_M_mill_122 rfl (lv_at hl 3 rfl) ?_
            refine va_get (D := D) (ci := 1) (v := .ref (a 15)) (C := R_M) (T := T_M) (N := 26) hx hb (uw_M Z.1 hg.1) (fun _ h => h) hown hK hP 0 rfl rfl 14 (by decide) (kw618 Z.1 _ _ hg.1) (fun _ h9 => h9) rfl d_M_mill_123 ?_
            refine lv_iload hx hb d_M_mill_126 (lv_at hl 1 rfl) ?_
            refine lv_iconst (v := 2) hx hb d_M_mill_128 (by decide) ?_
            refine lv_iadd hx hb d_M_mill_129 ?_
            refine lv_topi (fun z28 ez28 => ?_)
            obtain rfl : z28 = (nI (6 * c0 + 2)) := by rw [ez28]; exact nI_add _ 2
            refine va_lald hx hb hK hP 8 1 rfl rfl (vp_in_nI (n := 6 * c0 + 2) (N := 1200) (by omega) (by decide)) d_M_mill_130 ?_
            refine lv_topl (fun z29 ez29 => ?_)
            rw [nI_clamp (n := (6 * c0 + 2)) (by omega)] at ez29
            obtain rfl : z29 = ((la 14) (6 * c0 + 2)) := ez29
            refine lv_aload_n hx hb d_M_mill_131 rfl (lv_at hl 3 rfl) ?_
            refine va_get (D := D) (ci := 1) (v := .long (li 12)) (C := R_M) (T := T_M) (N := 26) hx hb (uw_M Z.1 hg.1) (fun _ h => h) hown hK hP 0 rfl rfl 12 (by decide) (kw616 Z.1 _ _ hg.1) (fun _ h9 => h9) rfl d_M_mill_132 ?_
            refine lv_lsub hx hb d_M_mill_135 ?_
            refine lv_goto (tgt := 163) hx hb d_M_mill_136 (by decide) ?_
            exact w_lret hx hb hr hlk hP hD hS ((va_up ii 0 0), li, ia, la) rfl (Or.inl ⟨kk, c0, 1, hkk, rfl, hc, hrc, by decide, rfl, by unfold mm_v; rw [if_neg (by decide), if_neg (by omega)], rfl⟩) d_M_mill_163
  · have hk0 : k < 0 := Int32.not_le.mp c1
    refine lv_iconst (v := (-1)) hx hb d_M_mill_4 (by decide) ?_
    refine lv_goto (tgt := 15) hx hb d_M_mill_5 (by decide) ?_
    refine lv_istore_n (lv' := [(3, .int (-1)), (0, .ref (a 0)), (1, .int k), (2, .int v)]) hx hb d_M_mill_15 rfl hl (by decide) rfl (fun ls hl => ?_)
    refine lv_aload_n hx hb d_M_mill_16 rfl (lv_at hl 1 rfl) ?_
    refine lv_iload_n hx hb d_M_mill_17 rfl (lv_at hl 0 rfl) ?_
    refine lv_iconst (v := (-1)) hx hb d_M_mill_18 (by decide) ?_
    refine lv_icmp_eq (tgt := 35) hx hb d_M_mill_19 (by decide) (fun _ => ?_) (fun k2 => by first | exact absurd (show (-1 : Int32) = -1 from rfl) k2 | exact absurd k2 (show (-1 : Int32) = -1 from rfl))
    refine lv_iconst (v := 1) hx hb d_M_mill_35 (by decide) ?_
    refine va_put (D := D) (ci := 1) (v := .int 1) (ty := t_M 0) (C := R_M) (T := T_M) (N := 26) hx hb (uw_M Z.1 hg.1) (fun _ h => h) t_M t_M_ok n_M hown hK hP hD hS 0 rfl rfl 0 (by decide) (kw604 Z.1 _ _ hg.1) (fun _ h9 => h9) rfl (by decide +kernel) rfl rfl (Nat.le_of_ble_eq_true rfl) d_M_mill_36 (fun H locs hP hD hS => ?_)
    have hP : va_P D ncl (w_M a cA (va_up ii 0 1) li ia la) H := hP
    have hD : va_D _ (w_M a cA (va_up ii 0 1) li ia la) := hD
    refine lv_aload_n hx hb d_M_mill_39 rfl (lv_at hl 1 rfl) ?_
    refine va_get (D := D) (ci := 1) (v := .int 1) (C := R_M) (T := T_M) (N := 26) hx hb (uw_M Z.1 hg.1) (fun _ h => h) hown hK hP 0 rfl rfl 0 (by decide) (kw604 Z.1 _ _ hg.1) (fun _ h9 => h9) rfl d_M_mill_40 ?_
    refine lv_if_eq (tgt := 48) hx hb d_M_mill_43 (by decide) (fun k3 => by first | exact absurd (show ¬ (1 : Int32) = 0 by decide) k3 | exact absurd k3 (show ¬ (1 : Int32) = 0 by decide)) (fun _ => ?_)
    refine lv_lconst (v := 0) hx hb d_M_mill_46 (by decide) ?_
    exact w_lret hx hb hr hlk hP hD hS ((va_up ii 0 1), li, ia, la) rfl (Or.inr ⟨fun z => by obtain ⟨⟨kk, c, z1, z2, -⟩, -⟩ := z; rw [z2] at hk0; exact nI_pos z1 hk0, rfl⟩) d_M_mill_47
