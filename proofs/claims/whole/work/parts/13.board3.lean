def bn_x (la : Nat → Nat → Int64) (li : Nat → Int64) (x : Int64) (tn : Int32) (j : Nat) : Int64 := x - (if tn = 0 then la 2 j - li 7 else (li 10 - li 8) - (la 3 j - li 8))
def bn_y (la : Nat → Nat → Int64) (li : Nat → Int64) (y : Int64) (tn : Int32) (j : Nat) : Int64 := y - (if tn = 0 then la 3 j - li 8 else la 2 j - li 7)
def bn (la : Nat → Nat → Int64) (li : Nat → Int64) (x y : Int64) (tn : Int32) (j : Nat) : Bool := decide (bn_x la li x tn j * bn_x la li x tn j + bn_y la li y tn j * bn_y la li y tn j < la 4 j * la 4 j)
set_option maxHeartbeats 4000000 in
set_option maxRecDepth 100000 in
theorem m_B_hasPartNear {l : Launch} {s0 : State} {D : va_G} {cA sa : Nat → Nat} (Z : zE l s0 D cA sa) (a : Nat → Nat) (ii : Nat → Int32) (li : Nat → Int64) (ia : Nat → Nat → Int32) (la : Nat → Nat → Int64) (x y : Int64) (tn : Int32) (n : Nat) (hn : ii 6 = nI n) (hn2 : n ≤ 10) (sz : Nat) : Met l y_B_hasPartNear [.code y_B_hasPartNear c_B_hasPartNear 15 (some .boolean)] ({ frames := 1, cells := 0, slots := 0, locals := 30 }) (wP s0 D [.ref (a 0), .long x, .long y, .int tn] (w_B a cA ii li ia la) sz) (va_Qi (fun r (_ : Unit) => r = if (List.range n).any (bn la li x y tn) = true then 1 else 0) (wB D (va_A (w_B a cA ii li ia la) sz) (fun _ => w_B a cA ii li ia la)) (va_A (w_B a cA ii li ia la) sz)) 0 0 (va_A (w_B a cA ii li ia la) sz) := by
  refine wMet Z (by decide) (Nat.le_of_ble_eq_true rfl) ?_
  intro p e s m below meth c hx hb hr hml hown hlk hin hg hK hsz hP hD hA hlo hS ls hl
  subst hsz
  have hown : s.vm.findClass R_B = some m.cls := hown
  refine lv_iconst (v := 0) hx hb d_B_hasPartNear_0 (by decide) ?_
  refine lv_topi (fun z1 ez1 => ?_)
  obtain rfl : z1 = (nI 0) := by rw [ez1]; rfl
  refine lv_istore (lv' := [(6, .int (nI 0)), (0, .ref (a 0)), (1, .long x), (3, .long y), (5, .int tn)]) hx hb d_B_hasPartNear_1 hl (by decide) rfl (fun ls hl => ?_)
  have loop : ∀ (f : Nat) (k : Nat), n - k < f → k ≤ n → (∀ j, j < k → bn la li x y tn j = false) → ∀ (H : Heap) (locs : List Loc), va_P D ncl (w_B a cA ii li ia la) H → va_D (va_A (w_B a cA ii li ia la) s.heap.size) (w_B a cA ii li ia la) → va_S (va_A (w_B a cA ii li ia la) s.heap.size) s.heap H locs → ∀ (ls : Array Slot), lv_has ls 15 [(0, .ref (a 0)), (1, .long x), (3, .long y), (5, .int tn), (6, .int (nI k))] → W p l e ({ frames := 1, cells := 0, slots := 0, locals := 30 }) s m ([.ref (a 0), .long x, .long y, .int tn] : List Value).toArray below meth c H locs 0 0 (MQ below (va_Qi (fun r (_ : Unit) => r = if (List.range n).any (bn la li x y tn) = true then 1 else 0) (wB D (va_A (w_B a cA ii li ia la) s.heap.size) (fun _ => w_B a cA ii li ia la)) (va_A (w_B a cA ii li ia la) s.heap.size)) ([.ref (a 0), .long x, .long y, .int tn] : List Value).toArray s 0 0 (va_A (w_B a cA ii li ia la) s.heap.size)) (F0 m 3 ls []) := by
    intro f
    induction f with
    | zero => intro k h; exact absurd h (Nat.not_lt_zero _)
    | succ f ih =>
      intro k hf hk hno H locs hP hD hS ls hl
      refine lv_iload hx hb d_B_hasPartNear_3 (lv_at hl 4 rfl) ?_
      refine lv_aload_n hx hb d_B_hasPartNear_5 rfl (lv_at hl 0 rfl) ?_
      refine va_get (D := D) (ci := 2) (v := .int (ii 6)) (C := R_B) (T := T_B) (N := 12) hx hb (uw_B Z.1 hg.1) (fun _ h => h) hown hK hP 0 rfl rfl 6 (by decide) (kw44 Z.1 _ _ hg.1) (fun _ h9 => h9) rfl d_B_hasPartNear_6 ?_
      refine lv_icmp_ge (tgt := 116) hx hb d_B_hasPartNear_9 (by decide) (fun c2 => ?_) (fun c2 => ?_)
      · have hkn : k = n := by rw [hn] at c2; have := (nI_leI (by omega) (by omega)).mp c2; omega
        refine lv_iconst (v := 0) hx hb d_B_hasPartNear_116 (by decide) ?_
        exact w_zret hx hb hr rfl hlk hP hD hS () rfl (by rw [if_neg]; intro q; obtain ⟨j, hj, hj2⟩ := List.any_eq_true.mp q; rw [hno j (by rw [hkn]; exact List.mem_range.mp hj)] at hj2; cases hj2) d_B_hasPartNear_117
      · have hkn : k < n := by rw [hn] at c2; exact Nat.lt_of_not_le (fun q => c2 ((nI_leI (by omega) (by omega)).mpr q))
        refine lv_aload_n hx hb d_B_hasPartNear_12 rfl (lv_at hl 0 rfl) ?_
        refine va_get (D := D) (ci := 2) (v := .ref (a 3)) (C := R_B) (T := T_B) (N := 12) hx hb (uw_B Z.1 hg.1) (fun _ h => h) hown hK hP 0 rfl rfl 2 (by decide) (kw40 Z.1 _ _ hg.1) (fun _ h9 => h9) rfl d_B_hasPartNear_13 ?_
        refine lv_iload hx hb d_B_hasPartNear_16 (lv_at hl 4 rfl) ?_
        refine va_lald hx hb hK hP 3 1 rfl rfl (vp_in_nI (n := k) (N := 10) (by omega) (by decide)) d_B_hasPartNear_18 ?_
        refine lv_topl (fun z3 ez3 => ?_)
        obtain rfl : z3 = ((la 2) k) := by rw [ez3, nI_clamp (by omega)]
        refine lv_aload_n hx hb d_B_hasPartNear_19 rfl (lv_at hl 0 rfl) ?_
        refine va_get (D := D) (ci := 2) (v := .long (li 7)) (C := R_B) (T := T_B) (N := 12) hx hb (uw_B Z.1 hg.1) (fun _ h => h) hown hK hP 0 rfl rfl 7 (by decide) (kw45 Z.1 _ _ hg.1) (fun _ h9 => h9) rfl d_B_hasPartNear_20 ?_
        refine lv_lsub hx hb d_B_hasPartNear_23 ?_
        refine lv_topl (fun p4 ep4 => ?_)
        refine lv_lstore (lv' := [(7, .long p4), (0, .ref (a 0)), (1, .long x), (3, .long y), (5, .int tn), (6, .int (nI k))]) hx hb d_B_hasPartNear_24 hl (by decide) rfl (fun ls hl => ?_)
        refine lv_aload_n hx hb d_B_hasPartNear_26 rfl (lv_at hl 1 rfl) ?_
        refine va_get (D := D) (ci := 2) (v := .ref (a 4)) (C := R_B) (T := T_B) (N := 12) hx hb (uw_B Z.1 hg.1) (fun _ h => h) hown hK hP 0 rfl rfl 3 (by decide) (kw41 Z.1 _ _ hg.1) (fun _ h9 => h9) rfl d_B_hasPartNear_27 ?_
        refine lv_iload hx hb d_B_hasPartNear_30 (lv_at hl 5 rfl) ?_
        refine va_lald hx hb hK hP 4 1 rfl rfl (vp_in_nI (n := k) (N := 10) (by omega) (by decide)) d_B_hasPartNear_32 ?_
        refine lv_topl (fun z5 ez5 => ?_)
        obtain rfl : z5 = ((la 3) k) := by rw [ez5, nI_clamp (by omega)]
        refine lv_aload_n hx hb d_B_hasPartNear_33 rfl (lv_at hl 1 rfl) ?_
        refine va_get (D := D) (ci := 2) (v := .long (li 8)) (C := R_B) (T := T_B) (N := 12) hx hb (uw_B Z.1 hg.1) (fun _ h => h) hown hK hP 0 rfl rfl 8 (by decide) (kw46 Z.1 _ _ hg.1) (fun _ h9 => h9) rfl d_B_hasPartNear_34 ?_
        refine lv_lsub hx hb d_B_hasPartNear_37 ?_
        refine lv_topl (fun p6 ep6 => ?_)
        refine lv_lstore (lv' := [(9, .long p6), (7, .long p4), (0, .ref (a 0)), (1, .long x), (3, .long y), (5, .int tn), (6, .int (nI k))]) hx hb d_B_hasPartNear_38 hl (by decide) rfl (fun ls hl => ?_)
        refine lv_lload_n hx hb d_B_hasPartNear_40 rfl (lv_at hl 3 rfl) ?_
        refine lv_iload hx hb d_B_hasPartNear_41 (lv_at hl 5 rfl) ?_
        refine lv_if_ne (tgt := 51) hx hb d_B_hasPartNear_43 (by decide) (fun d7 => ?_) (fun d7 => ?_)
        · refine lv_aload_n hx hb d_B_hasPartNear_51 rfl (lv_at hl 2 rfl) ?_
          refine lv_iconst (v := 0) hx hb d_B_hasPartNear_52 (by decide) ?_
          refine w_calll (wr := ([] : va_W)) (w_runV (rest := [.long x]) hx hb hml hown hl.1 hg hlo hK hP hD hS (m_B_high Z a ii li ia la 0 H.size) (kw496 Z.1) (kw404 Z.1) (kp_B_high Z.1) (kw405 Z.1) (kw3 Z.1) (by decide +kernel) ⟨Nat.le_of_ble_eq_true rfl, Nat.le_of_ble_eq_true rfl⟩ [0, 1, 2, 3, 4, 5] rfl rfl (ci := 2) (q0 := 0) rfl rfl rfl (Nat.le_of_ble_eq_true rfl) d_B_hasPartNear_53 ⟨Nat.le_of_ble_eq_true rfl, Nat.le_of_ble_eq_true rfl⟩) hP hD hS hA [0, 1, 2, 3, 4, 5] [] rfl rfl rfl (by decide) (fun _ => w_B a cA ii li ia la) [0, 1, 2, 3, 4, 5] rfl (fun _ => rfl) (fun r8 u H locs hq hP hD hS => ?_)
          refine W.widen (k := 0) (n := 0) (by decide) (by decide) ?_
          refine lv_lload hx hb d_B_hasPartNear_56 (lv_at hl 0 rfl) ?_
          refine lv_lsub hx hb d_B_hasPartNear_58 ?_
          refine lv_lsub hx hb d_B_hasPartNear_59 ?_
          refine lv_topl (fun p9 ep9 => ?_)
          refine lv_lstore (lv' := [(11, .long p9), (9, .long p6), (7, .long p4), (0, .ref (a 0)), (1, .long x), (3, .long y), (5, .int tn), (6, .int (nI k))]) hx hb d_B_hasPartNear_60 hl (by decide) rfl (fun ls hl => ?_)
          refine lv_lload_n hx hb d_B_hasPartNear_62 rfl (lv_at hl 5 rfl) ?_
          refine lv_iload hx hb d_B_hasPartNear_63 (lv_at hl 6 rfl) ?_
          refine lv_if_ne (tgt := 73) hx hb d_B_hasPartNear_65 (by decide) (fun _ => ?_) (fun k10 => by first | exact absurd d7 k10 | exact absurd k10 d7)
          refine lv_lload hx hb d_B_hasPartNear_73 (lv_at hl 2 rfl) ?_
          refine lv_lsub hx hb d_B_hasPartNear_75 ?_
          refine lv_topl (fun p11 ep11 => ?_)
          refine lv_lstore (lv' := [(13, .long p11), (11, .long p9), (9, .long p6), (7, .long p4), (0, .ref (a 0)), (1, .long x), (3, .long y), (5, .int tn), (6, .int (nI k))]) hx hb d_B_hasPartNear_76 hl (by decide) rfl (fun ls hl => ?_)
          refine lv_lload hx hb d_B_hasPartNear_78 (lv_at hl 1 rfl) ?_
          refine lv_lload hx hb d_B_hasPartNear_80 (lv_at hl 1 rfl) ?_
          refine lv_lmul hx hb d_B_hasPartNear_82 ?_
          refine lv_lload hx hb d_B_hasPartNear_83 (lv_at hl 0 rfl) ?_
          refine lv_lload hx hb d_B_hasPartNear_85 (lv_at hl 0 rfl) ?_
          refine lv_lmul hx hb d_B_hasPartNear_87 ?_
          refine lv_ladd hx hb d_B_hasPartNear_88 ?_
          refine lv_aload_n hx hb d_B_hasPartNear_89 rfl (lv_at hl 4 rfl) ?_
          refine va_get (D := D) (ci := 2) (v := .ref (a 5)) (C := R_B) (T := T_B) (N := 12) hx hb (uw_B Z.1 hg.1) (fun _ h => h) hown hK hP 0 rfl rfl 4 (by decide) (kw42 Z.1 _ _ hg.1) (fun _ h9 => h9) rfl d_B_hasPartNear_90 ?_
          refine lv_iload hx hb d_B_hasPartNear_93 (lv_at hl 8 rfl) ?_
          refine va_lald hx hb hK hP 5 1 rfl rfl (vp_in_nI (n := k) (N := 10) (by omega) (by decide)) d_B_hasPartNear_95 ?_
          refine lv_topl (fun z12 ez12 => ?_)
          obtain rfl : z12 = ((la 4) k) := by rw [ez12, nI_clamp (by omega)]
          refine lv_aload_n hx hb d_B_hasPartNear_96 rfl (lv_at hl 4 rfl) ?_
          refine va_get (D := D) (ci := 2) (v := .ref (a 5)) (C := R_B) (T := T_B) (N := 12) hx hb (uw_B Z.1 hg.1) (fun _ h => h) hown hK hP 0 rfl rfl 4 (by decide) (kw42 Z.1 _ _ hg.1) (fun _ h9 => h9) rfl d_B_hasPartNear_97 ?_
          refine lv_iload hx hb d_B_hasPartNear_100 (lv_at hl 8 rfl) ?_
          refine va_lald hx hb hK hP 5 1 rfl rfl (vp_in_nI (n := k) (N := 10) (by omega) (by decide)) d_B_hasPartNear_102 ?_
          refine lv_topl (fun z13 ez13 => ?_)
          obtain rfl : z13 = ((la 4) k) := by rw [ez13, nI_clamp (by omega)]
          refine lv_lmul hx hb d_B_hasPartNear_103 ?_
          refine W.lcmp hx hb d_B_hasPartNear_104 ?_
          refine lv_if_ge (tgt := 110) hx hb d_B_hasPartNear_105 (by decide) (fun g14 => ?_) (fun g14 => ?_)
          · have e3 : p9 = bn_x la li x tn k := by unfold bn_x; rw [if_neg d7, ep9, hq, if_pos rfl, ep6]
            have e4 : p11 = bn_y la li y tn k := by unfold bn_y; rw [if_neg d7, ep11, ep4]
            have hb0 : bn la li x y tn k = false := decide_eq_false (by rw [← e3, ← e4]; exact Int64.not_lt.mpr ((lg_cmp_ge _ _).mp g14))
            obtain ⟨v15, ev15⟩ : ∃ y : Int32, y = (nI k) + 1 := ⟨_, rfl⟩
            refine lv_iinc (v := v15) (lv' := [(6, .int v15), (13, .long p11), (11, .long p9), (9, .long p6), (7, .long p4), (0, .ref (a 0)), (1, .long x), (3, .long y), (5, .int tn)]) hx hb d_B_hasPartNear_110 hl (k := 8) rfl (by rw [ev15]; rfl) (by decide) rfl (fun ls hl => ?_)
            refine lv_goto (tgt := 3) hx hb d_B_hasPartNear_113 (by decide) ?_
            obtain rfl : v15 = nI (k + 1) := by rw [ev15]; exact nI_1 k
            exact ih (k + 1) (by omega) (by omega) (lt_s hno hb0) _ _ hP hD hS ls (lv_sub hl [5, 6, 7, 8, 0] rfl)
          · have e3 : p9 = bn_x la li x tn k := by unfold bn_x; rw [if_neg d7, ep9, hq, if_pos rfl, ep6]
            have e4 : p11 = bn_y la li y tn k := by unfold bn_y; rw [if_neg d7, ep11, ep4]
            have hb1 : bn la li x y tn k = true := decide_eq_true (by rw [← e3, ← e4]; exact Int64.not_le.mp (fun z => g14 ((lg_cmp_ge _ _).mpr z)))
            refine lv_iconst (v := 1) hx hb d_B_hasPartNear_108 (by decide) ?_
            exact w_zret hx hb hr rfl hlk hP hD hS () rfl (by rw [if_pos (List.any_eq_true.mpr ⟨k, List.mem_range.mpr hkn, hb1⟩)]) d_B_hasPartNear_109
        · refine lv_lload hx hb d_B_hasPartNear_46 (lv_at hl 1 rfl) ?_
          refine lv_goto (tgt := 59) hx hb d_B_hasPartNear_48 (by decide) ?_
          refine lv_lsub hx hb d_B_hasPartNear_59 ?_
          refine lv_topl (fun p16 ep16 => ?_)
          refine lv_lstore (lv' := [(11, .long p16), (9, .long p6), (7, .long p4), (0, .ref (a 0)), (1, .long x), (3, .long y), (5, .int tn), (6, .int (nI k))]) hx hb d_B_hasPartNear_60 hl (by decide) rfl (fun ls hl => ?_)
          refine lv_lload_n hx hb d_B_hasPartNear_62 rfl (lv_at hl 5 rfl) ?_
          refine lv_iload hx hb d_B_hasPartNear_63 (lv_at hl 6 rfl) ?_
          refine lv_if_ne (tgt := 73) hx hb d_B_hasPartNear_65 (by decide) (fun k17 => by first | exact absurd d7 k17 | exact absurd k17 d7) (fun _ => ?_)
          refine lv_lload hx hb d_B_hasPartNear_68 (lv_at hl 1 rfl) ?_
          refine lv_goto (tgt := 75) hx hb d_B_hasPartNear_70 (by decide) ?_
          refine lv_lsub hx hb d_B_hasPartNear_75 ?_
          refine lv_topl (fun p18 ep18 => ?_)
          refine lv_lstore (lv' := [(13, .long p18), (11, .long p16), (9, .long p6), (7, .long p4), (0, .ref (a 0)), (1, .long x), (3, .long y), (5, .int tn), (6, .int (nI k))]) hx hb d_B_hasPartNear_76 hl (by decide) rfl (fun ls hl => ?_)
          refine lv_lload hx hb d_B_hasPartNear_78 (lv_at hl 1 rfl) ?_
          refine lv_lload hx hb d_B_hasPartNear_80 (lv_at hl 1 rfl) ?_
          refine lv_lmul hx hb d_B_hasPartNear_82 ?_
          refine lv_lload hx hb d_B_hasPartNear_83 (lv_at hl 0 rfl) ?_
          refine lv_lload hx hb d_B_hasPartNear_85 (lv_at hl 0 rfl) ?_
          refine lv_lmul hx hb d_B_hasPartNear_87 ?_
          refine lv_ladd hx hb d_B_hasPartNear_88 ?_
          refine lv_aload_n hx hb d_B_hasPartNear_89 rfl (lv_at hl 4 rfl) ?_
          refine va_get (D := D) (ci := 2) (v := .ref (a 5)) (C := R_B) (T := T_B) (N := 12) hx hb (uw_B Z.1 hg.1) (fun _ h => h) hown hK hP 0 rfl rfl 4 (by decide) (kw42 Z.1 _ _ hg.1) (fun _ h9 => h9) rfl d_B_hasPartNear_90 ?_
          refine lv_iload hx hb d_B_hasPartNear_93 (lv_at hl 8 rfl) ?_
          refine va_lald hx hb hK hP 5 1 rfl rfl (vp_in_nI (n := k) (N := 10) (by omega) (by decide)) d_B_hasPartNear_95 ?_
          refine lv_topl (fun z19 ez19 => ?_)
          obtain rfl : z19 = ((la 4) k) := by rw [ez19, nI_clamp (by omega)]
          refine lv_aload_n hx hb d_B_hasPartNear_96 rfl (lv_at hl 4 rfl) ?_
          refine va_get (D := D) (ci := 2) (v := .ref (a 5)) (C := R_B) (T := T_B) (N := 12) hx hb (uw_B Z.1 hg.1) (fun _ h => h) hown hK hP 0 rfl rfl 4 (by decide) (kw42 Z.1 _ _ hg.1) (fun _ h9 => h9) rfl d_B_hasPartNear_97 ?_
          refine lv_iload hx hb d_B_hasPartNear_100 (lv_at hl 8 rfl) ?_
          refine va_lald hx hb hK hP 5 1 rfl rfl (vp_in_nI (n := k) (N := 10) (by omega) (by decide)) d_B_hasPartNear_102 ?_
          refine lv_topl (fun z20 ez20 => ?_)
          obtain rfl : z20 = ((la 4) k) := by rw [ez20, nI_clamp (by omega)]
          refine lv_lmul hx hb d_B_hasPartNear_103 ?_
          refine W.lcmp hx hb d_B_hasPartNear_104 ?_
          refine lv_if_ge (tgt := 110) hx hb d_B_hasPartNear_105 (by decide) (fun g21 => ?_) (fun g21 => ?_)
          · have e3 : p16 = bn_x la li x tn k := by unfold bn_x; rw [if_pos d7, ep16, ep4]
            have e4 : p18 = bn_y la li y tn k := by unfold bn_y; rw [if_pos d7, ep18, ep6]
            have hb0 : bn la li x y tn k = false := decide_eq_false (by rw [← e3, ← e4]; exact Int64.not_lt.mpr ((lg_cmp_ge _ _).mp g21))
            obtain ⟨v22, ev22⟩ : ∃ y : Int32, y = (nI k) + 1 := ⟨_, rfl⟩
            refine lv_iinc (v := v22) (lv' := [(6, .int v22), (13, .long p18), (11, .long p16), (9, .long p6), (7, .long p4), (0, .ref (a 0)), (1, .long x), (3, .long y), (5, .int tn)]) hx hb d_B_hasPartNear_110 hl (k := 8) rfl (by rw [ev22]; rfl) (by decide) rfl (fun ls hl => ?_)
            refine lv_goto (tgt := 3) hx hb d_B_hasPartNear_113 (by decide) ?_
            obtain rfl : v22 = nI (k + 1) := by rw [ev22]; exact nI_1 k
            exact ih (k + 1) (by omega) (by omega) (lt_s hno hb0) _ _ hP hD hS ls (lv_sub hl [5, 6, 7, 8, 0] rfl)
          · have e3 : p16 = bn_x la li x tn k := by unfold bn_x; rw [if_pos d7, ep16, ep4]
            have e4 : p18 = bn_y la li y tn k := by unfold bn_y; rw [if_pos d7, ep18, ep6]
            have hb1 : bn la li x y tn k = true := decide_eq_true (by rw [← e3, ← e4]; exact Int64.not_le.mp (fun z => g21 ((lg_cmp_ge _ _).mpr z)))
            refine lv_iconst (v := 1) hx hb d_B_hasPartNear_108 (by decide) ?_
            exact w_zret hx hb hr rfl hlk hP hD hS () rfl (by rw [if_pos (List.any_eq_true.mpr ⟨k, List.mem_range.mpr hkn, hb1⟩)]) d_B_hasPartNear_109
  exact loop (n + 1) 0 (by omega) (by omega) lt_0 _ _ hP hD hS ls (lv_sub hl [1, 2, 3, 4, 0] rfl)
