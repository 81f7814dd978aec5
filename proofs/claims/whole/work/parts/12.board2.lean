def ba_nx (n k : Nat) : Nat := if k + 1 < n then k + 1 else 0
def ba_sum (la : Nat → Nat → Int64) (n : Nat) : Nat → Int64
  | 0 => 0
  | k + 1 => ba_sum la n k + (la 0 k * la 1 (ba_nx n k) - la 0 (ba_nx n k) * la 1 k)
set_option maxHeartbeats 4000000 in
set_option maxRecDepth 100000 in
theorem m_B_twiceArea {l : Launch} {s0 : State} {D : va_G} {cA sa : Nat → Nat} (Z : zE l s0 D cA sa) (a : Nat → Nat) (ii : Nat → Int32) (li : Nat → Int64) (ia : Nat → Nat → Int32) (la : Nat → Nat → Int64) (n : Nat) (hn : ii 5 = nI n) (hn2 : n ≤ 12) (sz : Nat) : Met l y_B_twiceArea [.code y_B_twiceArea c_B_twiceArea 5 (some .long)] ({ frames := 1, cells := 0, slots := 0, locals := 30 }) (wP s0 D [.ref (a 0)] (w_B a cA ii li ia la) sz) (va_Ql (fun r (_ : Unit) => r = if 0 < ba_sum la n n then ba_sum la n n else -ba_sum la n n) (wB D (va_A (w_B a cA ii li ia la) sz) (fun _ => w_B a cA ii li ia la)) (va_A (w_B a cA ii li ia la) sz)) 0 0 (va_A (w_B a cA ii li ia la) sz) := by
  refine wMet Z (by decide) (Nat.le_of_ble_eq_true rfl) ?_
  intro p e s m below meth c hx hb hr hml hown hlk hin hg hK hsz hP hD hA hlo hS ls hl
  subst hsz
  have hown : s.vm.findClass R_B = some m.cls := hown
  refine lv_lconst (v := 0) hx hb d_B_twiceArea_0 (by decide) ?_
  refine lv_lstore_n (lv' := [(1, .long 0), (0, .ref (a 0))]) hx hb d_B_twiceArea_1 rfl hl (by decide) rfl (fun ls hl => ?_)
  refine lv_iconst (v := 0) hx hb d_B_twiceArea_2 (by decide) ?_
  refine lv_istore_n (lv' := [(3, .int 0), (1, .long 0), (0, .ref (a 0))]) hx hb d_B_twiceArea_3 rfl hl (by decide) rfl (fun ls hl => ?_)
  have loop : ∀ (f : Nat) (k : Nat) (sm : Int64), n - k < f → k ≤ n → sm = ba_sum la n k → ∀ (H : Heap) (locs : List Loc), va_P D ncl (w_B a cA ii li ia la) H → va_D (va_A (w_B a cA ii li ia la) s.heap.size) (w_B a cA ii li ia la) → va_S (va_A (w_B a cA ii li ia la) s.heap.size) s.heap H locs → ∀ (ls : Array Slot), lv_has ls 5 [(0, .ref (a 0)), (1, .long sm), (3, .int (nI k))] → W p l e ({ frames := 1, cells := 0, slots := 0, locals := 30 }) s m ([.ref (a 0)] : List Value).toArray below meth c H locs 0 0 (MQ below (va_Ql (fun r (_ : Unit) => r = if 0 < ba_sum la n n then ba_sum la n n else -ba_sum la n n) (wB D (va_A (w_B a cA ii li ia la) s.heap.size) (fun _ => w_B a cA ii li ia la)) (va_A (w_B a cA ii li ia la) s.heap.size)) ([.ref (a 0)] : List Value).toArray s 0 0 (va_A (w_B a cA ii li ia la) s.heap.size)) (F0 m 4 ls []) := by
    intro f
    induction f with
    | zero => intro k sm h; exact absurd h (Nat.not_lt_zero _)
    | succ f ih =>
      intro k sm hf hk hsm H locs hP hD hS ls hl
      refine lv_iload_n hx hb d_B_twiceArea_4 rfl (lv_at hl 2 rfl) ?_
      refine lv_aload_n hx hb d_B_twiceArea_5 rfl (lv_at hl 0 rfl) ?_
      refine va_get (D := D) (ci := 2) (v := .int (ii 5)) (C := R_B) (T := T_B) (N := 12) hx hb (uw_B Z.1 hg.1) (fun _ h => h) hown hK hP 0 rfl rfl 5 (by decide) (kw43 Z.1 _ _ hg.1) (fun _ h9 => h9) rfl d_B_twiceArea_6 ?_
      refine lv_icmp_ge (tgt := 69) hx hb d_B_twiceArea_9 (by decide) (fun c1 => ?_) (fun c1 => ?_)
      · have hkn : k = n := by rw [hn] at c1; have := (nI_leI (by omega) (by omega)).mp c1; omega
        refine lv_lload_n hx hb d_B_twiceArea_69 rfl (lv_at hl 1 rfl) ?_
        refine va_mabs_long hx hb (hml.trans hl.1.symm) hown (kw548 Z.1 _ _ hg.1) (kw549 Z.1 _ _ hg.1) (kw2 Z.1 _ _ hg.1) (kw550 Z.1 _ _ hg.1) (Nat.le_of_ble_eq_true rfl) (Nat.le_of_ble_eq_true rfl) (Nat.le_of_ble_eq_true rfl) (Nat.le_of_ble_eq_true rfl) d_B_twiceArea_70 ?_
        refine lv_topl (fun z2 ez2 => ?_)
        exact w_lret hx hb hr hlk hP hD hS () rfl (by rw [ez2, hsm, hkn]) d_B_twiceArea_73
      · have hkn : k < n := by rw [hn] at c1; exact Nat.lt_of_not_le (fun q => c1 ((nI_leI (by omega) (by omega)).mpr q))
        refine lv_iload_n hx hb d_B_twiceArea_12 rfl (lv_at hl 2 rfl) ?_
        refine lv_iconst (v := 1) hx hb d_B_twiceArea_13 (by decide) ?_
        refine lv_iadd hx hb d_B_twiceArea_14 ?_
        refine lv_topi (fun z3 ez3 => ?_)
        obtain rfl : z3 = (nI (k + 1)) := by rw [ez3]; exact nI_1 k
        refine lv_aload_n hx hb d_B_twiceArea_15 rfl (lv_at hl 0 rfl) ?_
        refine va_get (D := D) (ci := 2) (v := .int (ii 5)) (C := R_B) (T := T_B) (N := 12) hx hb (uw_B Z.1 hg.1) (fun _ h => h) hown hK hP 0 rfl rfl 5 (by decide) (kw43 Z.1 _ _ hg.1) (fun _ h9 => h9) rfl d_B_twiceArea_16 ?_
        refine lv_icmp_ge (tgt := 28) hx hb d_B_twiceArea_19 (by decide) (fun d4 => ?_) (fun d4 => ?_)
        · have hx2 : ba_nx n k = 0 := if_neg (fun z => by rw [hn] at d4; exact absurd ((nI_leI (by omega) (by omega)).mp d4) (Nat.not_le.mpr z))
          refine lv_iconst (v := 0) hx hb d_B_twiceArea_28 (by decide) ?_
          refine lv_topi (fun z5 ez5 => ?_)
          obtain rfl : z5 = (nI 0) := by rw [ez5]; rfl
          refine lv_istore (lv' := [(4, .int (nI 0)), (0, .ref (a 0)), (1, .long sm), (3, .int (nI k))]) hx hb d_B_twiceArea_29 hl (by decide) rfl (fun ls hl => ?_)
          refine lv_lload_n hx hb d_B_twiceArea_31 rfl (lv_at hl 2 rfl) ?_
          refine lv_aload_n hx hb d_B_twiceArea_32 rfl (lv_at hl 1 rfl) ?_
          refine va_get (D := D) (ci := 2) (v := .ref (a 1)) (C := R_B) (T := T_B) (N := 12) hx hb (uw_B Z.1 hg.1) (fun _ h => h) hown hK hP 0 rfl rfl 0 (by decide) (kw38 Z.1 _ _ hg.1) (fun _ h9 => h9) rfl d_B_twiceArea_33 ?_
          refine lv_iload_n hx hb d_B_twiceArea_36 rfl (lv_at hl 3 rfl) ?_
          refine va_lald hx hb hK hP 1 1 rfl rfl (vp_in_nI (n := k) (N := 12) (by omega) (by decide)) d_B_twiceArea_37 ?_
          refine lv_topl (fun z6 ez6 => ?_)
          obtain rfl : z6 = ((la 0) k) := by rw [ez6, nI_clamp (by omega)]
          refine lv_aload_n hx hb d_B_twiceArea_38 rfl (lv_at hl 1 rfl) ?_
          refine va_get (D := D) (ci := 2) (v := .ref (a 2)) (C := R_B) (T := T_B) (N := 12) hx hb (uw_B Z.1 hg.1) (fun _ h => h) hown hK hP 0 rfl rfl 1 (by decide) (kw39 Z.1 _ _ hg.1) (fun _ h9 => h9) rfl d_B_twiceArea_39 ?_
          refine lv_iload hx hb d_B_twiceArea_42 (lv_at hl 0 rfl) ?_
          refine va_lald hx hb hK hP 2 1 rfl rfl (vp_in_nI (N := 12) (by omega) (by decide)) d_B_twiceArea_44 ?_
          refine lv_topl (fun z7 ez7 => ?_)
          obtain rfl : z7 = ((la 1) 0) := by rw [ez7, nI_clamp (by omega)]
          refine lv_lmul hx hb d_B_twiceArea_45 ?_
          refine lv_aload_n hx hb d_B_twiceArea_46 rfl (lv_at hl 1 rfl) ?_
          refine va_get (D := D) (ci := 2) (v := .ref (a 1)) (C := R_B) (T := T_B) (N := 12) hx hb (uw_B Z.1 hg.1) (fun _ h => h) hown hK hP 0 rfl rfl 0 (by decide) (kw38 Z.1 _ _ hg.1) (fun _ h9 => h9) rfl d_B_twiceArea_47 ?_
          refine lv_iload hx hb d_B_twiceArea_50 (lv_at hl 0 rfl) ?_
          refine va_lald hx hb hK hP 1 1 rfl rfl (vp_in_nI (N := 12) (by omega) (by decide)) d_B_twiceArea_52 ?_
          refine lv_topl (fun z8 ez8 => ?_)
          obtain rfl : z8 = ((la 0) 0) := by rw [ez8, nI_clamp (by omega)]
          refine lv_aload_n hx hb d_B_twiceArea_53 rfl (lv_at hl 1 rfl) ?_
          refine va_get (D := D) (ci := 2) (v := .ref (a 2)) (C := R_B) (T := T_B) (N := 12) hx hb (uw_B Z.1 hg.1) (fun _ h => h) hown hK hP 0 rfl rfl 1 (by decide) (kw39 Z.1 _ _ hg.1) (fun _ h9 => h9) rfl d_B_twiceArea_54 ?_
          refine lv_iload_n hx hb d_B_twiceArea_57 rfl (lv_at hl 3 rfl) ?_
          refine va_lald hx hb hK hP 2 1 rfl rfl (vp_in_nI (n := k) (N := 12) (by omega) (by decide)) d_B_twiceArea_58 ?_
          refine lv_topl (fun z9 ez9 => ?_)
          obtain rfl : z9 = ((la 1) k) := by rw [ez9, nI_clamp (by omega)]
          refine lv_lmul hx hb d_B_twiceArea_59 ?_
          refine lv_lsub hx hb d_B_twiceArea_60 ?_
          refine lv_ladd hx hb d_B_twiceArea_61 ?_
          refine lv_topl (fun y10 ey10 => ?_)
          refine lv_lstore_n (lv' := [(1, .long y10), (4, .int (nI 0)), (0, .ref (a 0)), (3, .int (nI k))]) hx hb d_B_twiceArea_62 rfl hl (by decide) rfl (fun ls hl => ?_)
          obtain ⟨v11, ev11⟩ : ∃ y : Int32, y = (nI k) + 1 := ⟨_, rfl⟩
          refine lv_iinc (v := v11) (lv' := [(3, .int v11), (1, .long y10), (4, .int (nI 0)), (0, .ref (a 0))]) hx hb d_B_twiceArea_63 hl (k := 3) rfl (by rw [ev11]; rfl) (by decide) rfl (fun ls hl => ?_)
          refine lv_goto (tgt := 4) hx hb d_B_twiceArea_66 (by decide) ?_
          obtain rfl : v11 = nI (k + 1) := by rw [ev11]; exact nI_1 k
          exact ih (k + 1) y10 (by omega) (by omega) (by rw [ey10, hsm]; show _ = ba_sum la n k + (la 0 k * la 1 (ba_nx n k) - la 0 (ba_nx n k) * la 1 k); rw [hx2]) _ _ hP hD hS ls (lv_sub hl [3, 1, 0] rfl)
        · have hx2 : ba_nx n k = k + 1 := if_pos (Nat.lt_of_not_le (fun z => d4 (by rw [hn]; exact (nI_leI (by omega) (by omega)).mpr z)))
          have hx3 : k + 1 < n := Nat.lt_of_not_le (fun z => d4 (by rw [hn]; exact (nI_leI (by omega) (by omega)).mpr z))
          refine lv_iload_n hx hb d_B_twiceArea_22 rfl (lv_at hl 2 rfl) ?_
          refine lv_iconst (v := 1) hx hb d_B_twiceArea_23 (by decide) ?_
          refine lv_iadd hx hb d_B_twiceArea_24 ?_
          refine lv_topi (fun z12 ez12 => ?_)
          obtain rfl : z12 = (nI (k + 1)) := by rw [ez12]; exact nI_1 k
          refine lv_goto (tgt := 29) hx hb d_B_twiceArea_25 (by decide) ?_
          refine lv_istore (lv' := [(4, .int (nI (k + 1))), (0, .ref (a 0)), (1, .long sm), (3, .int (nI k))]) hx hb d_B_twiceArea_29 hl (by decide) rfl (fun ls hl => ?_)
          refine lv_lload_n hx hb d_B_twiceArea_31 rfl (lv_at hl 2 rfl) ?_
          refine lv_aload_n hx hb d_B_twiceArea_32 rfl (lv_at hl 1 rfl) ?_
          refine va_get (D := D) (ci := 2) (v := .ref (a 1)) (C := R_B) (T := T_B) (N := 12) hx hb (uw_B Z.1 hg.1) (fun _ h => h) hown hK hP 0 rfl rfl 0 (by decide) (kw38 Z.1 _ _ hg.1) (fun _ h9 => h9) rfl d_B_twiceArea_33 ?_
          refine lv_iload_n hx hb d_B_twiceArea_36 rfl (lv_at hl 3 rfl) ?_
          refine va_lald hx hb hK hP 1 1 rfl rfl (vp_in_nI (n := k) (N := 12) (by omega) (by decide)) d_B_twiceArea_37 ?_
          refine lv_topl (fun z13 ez13 => ?_)
          obtain rfl : z13 = ((la 0) k) := by rw [ez13, nI_clamp (by omega)]
          refine lv_aload_n hx hb d_B_twiceArea_38 rfl (lv_at hl 1 rfl) ?_
          refine va_get (D := D) (ci := 2) (v := .ref (a 2)) (C := R_B) (T := T_B) (N := 12) hx hb (uw_B Z.1 hg.1) (fun _ h => h) hown hK hP 0 rfl rfl 1 (by decide) (kw39 Z.1 _ _ hg.1) (fun _ h9 => h9) rfl d_B_twiceArea_39 ?_
          refine lv_iload hx hb d_B_twiceArea_42 (lv_at hl 0 rfl) ?_
          refine va_lald hx hb hK hP 2 1 rfl rfl (vp_in_nI (N := 12) (by omega) (by decide)) d_B_twiceArea_44 ?_
          refine lv_topl (fun z14 ez14 => ?_)
          obtain rfl : z14 = ((la 1) (k + 1)) := by rw [ez14, nI_clamp (by omega)]
          refine lv_lmul hx hb d_B_twiceArea_45 ?_
          refine lv_aload_n hx hb d_B_twiceArea_46 rfl (lv_at hl 1 rfl) ?_
          refine va_get (D := D) (ci := 2) (v := .ref (a 1)) (C := R_B) (T := T_B) (N := 12) hx hb (uw_B Z.1 hg.1) (fun _ h => h) hown hK hP 0 rfl rfl 0 (by decide) (kw38 Z.1 _ _ hg.1) (fun _ h9 => h9) rfl d_B_twiceArea_47 ?_
          refine lv_iload hx hb d_B_twiceArea_50 (lv_at hl 0 rfl) ?_
          refine va_lald hx hb hK hP 1 1 rfl rfl (vp_in_nI (N := 12) (by omega) (by decide)) d_B_twiceArea_52 ?_
          refine lv_topl (fun z15 ez15 => ?_)
          obtain rfl : z15 = ((la 0) (k + 1)) := by rw [ez15, nI_clamp (by omega)]
          refine lv_aload_n hx hb d_B_twiceArea_53 rfl (lv_at hl 1 rfl) ?_
          refine va_get (D := D) (ci := 2) (v := .ref (a 2)) (C := R_B) (T := T_B) (N := 12) hx hb (uw_B Z.1 hg.1) (fun _ h => h) hown hK hP 0 rfl rfl 1 (by decide) (kw39 Z.1 _ _ hg.1) (fun _ h9 => h9) rfl d_B_twiceArea_54 ?_
          refine lv_iload_n hx hb d_B_twiceArea_57 rfl (lv_at hl 3 rfl) ?_
          refine va_lald hx hb hK hP 2 1 rfl rfl (vp_in_nI (n := k) (N := 12) (by omega) (by decide)) d_B_twiceArea_58 ?_
          refine lv_topl (fun z16 ez16 => ?_)
          obtain rfl : z16 = ((la 1) k) := by rw [ez16, nI_clamp (by omega)]
          refine lv_lmul hx hb d_B_twiceArea_59 ?_
          refine lv_lsub hx hb d_B_twiceArea_60 ?_
          refine lv_ladd hx hb d_B_twiceArea_61 ?_
          refine lv_topl (fun y17 ey17 => ?_)
          refine lv_lstore_n (lv' := [(1, .long y17), (4, .int (nI (k + 1))), (0, .ref (a 0)), (3, .int (nI k))]) hx hb d_B_twiceArea_62 rfl hl (by decide) rfl (fun ls hl => ?_)
          obtain ⟨v18, ev18⟩ : ∃ y : Int32, y = (nI k) + 1 := ⟨_, rfl⟩
          refine lv_iinc (v := v18) (lv' := [(3, .int v18), (1, .long y17), (4, .int (nI (k + 1))), (0, .ref (a 0))]) hx hb d_B_twiceArea_63 hl (k := 3) rfl (by rw [ev18]; rfl) (by decide) rfl (fun ls hl => ?_)
          refine lv_goto (tgt := 4) hx hb d_B_twiceArea_66 (by decide) ?_
          obtain rfl : v18 = nI (k + 1) := by rw [ev18]; exact nI_1 k
          exact ih (k + 1) y17 (by omega) (by omega) (by rw [ey17, hsm]; show _ = ba_sum la n k + (la 0 k * la 1 (ba_nx n k) - la 0 (ba_nx n k) * la 1 k); rw [hx2]) _ _ hP hD hS ls (lv_sub hl [3, 1, 0] rfl)
  exact loop (n + 1) 0 0 (by omega) (by omega) rfl _ _ hP hD hS ls (lv_sub hl [2, 1, 0] rfl)
