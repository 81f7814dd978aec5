set_option maxHeartbeats 4000000 in
set_option maxRecDepth 100000 in
theorem r_B_high {l : Launch} {s0 : State} {D : va_G} {cA sa : Nat → Nat} (Z : zE l s0 D cA sa) (a : Nat → Nat) (ii : Nat → Int32) (li : Nat → Int64) (ia : Nat → Nat → Int32) (la : Nat → Nat → Int64) (tn : Int32) (sz : Nat) : Met l y_B_high [.code y_B_high c_B_high 2 (some .long)] ({ frames := 0, cells := 0, slots := 0, locals := 0 }) (wP s0 D [.ref (a 0), .int tn] (w_B a cA ii li ia la) sz) (va_Ql (fun r (_ : Unit) => r = if tn = 0 then li 10 - li 8 else li 9 - li 7) (fun _ _ => True) (fun q => sz ≤ q)) 0 0 (fun q => sz ≤ q) := by
  refine wMetRd Z (by decide) (Nat.le_of_ble_eq_true rfl) ?_
  intro p e s m below meth c hx hb hr hml hown hlk hg hK hsz hP hD hA hS0 ls hl
  subst hsz
  have hlo : ∀ q, s0.heap.size ≤ q → s0.heap.size ≤ q := fun _ h => h
  have hown : s.vm.findClass R_B = some m.cls := hown
  refine lv_iload_n hx hb d_B_high_0 rfl (lv_at hl 1 rfl) ?_
  refine lv_if_ne (tgt := 16) hx hb d_B_high_1 (by decide) (fun c1 => ?_) (fun c1 => ?_)
  · refine lv_aload_n hx hb d_B_high_16 rfl (lv_at hl 0 rfl) ?_
    refine va_get (D := D) (ci := 2) (v := .long (li 9)) (C := R_B) (T := T_B) (N := 12) hx hb (uw_B Z.1 hg.1) (fun _ h => h) hown hK hP 0 rfl rfl 9 (by decide) (kw47 Z.1 _ _ hg.1) (fun _ h9 => h9) rfl d_B_high_17 ?_
    refine lv_aload_n hx hb d_B_high_20 rfl (lv_at hl 0 rfl) ?_
    refine va_get (D := D) (ci := 2) (v := .long (li 7)) (C := R_B) (T := T_B) (N := 12) hx hb (uw_B Z.1 hg.1) (fun _ h => h) hown hK hP 0 rfl rfl 7 (by decide) (kw45 Z.1 _ _ hg.1) (fun _ h9 => h9) rfl d_B_high_21 ?_
    refine lv_lsub hx hb d_B_high_24 ?_
    exact r_lret hx hb hr hlk hS0 (by rw [if_neg c1]) d_B_high_25
  · refine lv_aload_n hx hb d_B_high_4 rfl (lv_at hl 0 rfl) ?_
    refine va_get (D := D) (ci := 2) (v := .long (li 10)) (C := R_B) (T := T_B) (N := 12) hx hb (uw_B Z.1 hg.1) (fun _ h => h) hown hK hP 0 rfl rfl 10 (by decide) (kw48 Z.1 _ _ hg.1) (fun _ h9 => h9) rfl d_B_high_5 ?_
    refine lv_aload_n hx hb d_B_high_8 rfl (lv_at hl 0 rfl) ?_
    refine va_get (D := D) (ci := 2) (v := .long (li 8)) (C := R_B) (T := T_B) (N := 12) hx hb (uw_B Z.1 hg.1) (fun _ h => h) hown hK hP 0 rfl rfl 8 (by decide) (kw46 Z.1 _ _ hg.1) (fun _ h9 => h9) rfl d_B_high_9 ?_
    refine lv_lsub hx hb d_B_high_12 ?_
    refine lv_goto (tgt := 25) hx hb d_B_high_13 (by decide) ?_
    exact r_lret hx hb hr hlk hS0 (by rw [if_pos c1]) d_B_high_25
set_option maxHeartbeats 4000000 in
set_option maxRecDepth 100000 in
theorem r_B_hasPartNear {l : Launch} {s0 : State} {D : va_G} {cA sa : Nat → Nat} (Z : zE l s0 D cA sa) (a : Nat → Nat) (ii : Nat → Int32) (li : Nat → Int64) (ia : Nat → Nat → Int32) (la : Nat → Nat → Int64) (x y : Int64) (tn : Int32) (n : Nat) (hn : ii 6 = nI n) (hn2 : n ≤ 10) (sz : Nat) : Met l y_B_hasPartNear [.code y_B_hasPartNear c_B_hasPartNear 15 (some .boolean)] ({ frames := 1, cells := 0, slots := 0, locals := 30 }) (wP s0 D [.ref (a 0), .long x, .long y, .int tn] (w_B a cA ii li ia la) sz) (va_Qi (fun r (_ : Unit) => r = if (List.range n).any (bn la li x y tn) = true then 1 else 0) (fun _ _ => True) (fun q => sz ≤ q)) 0 0 (fun q => sz ≤ q) := by
  refine wMetRd Z (by decide) (Nat.le_of_ble_eq_true rfl) ?_
  intro p e s m below meth c hx hb hr hml hown hlk hg hK hsz hP hD hA hS0 ls hl
  subst hsz
  have hlo : ∀ q, s0.heap.size ≤ q → s0.heap.size ≤ q := fun _ h => h
  have hown : s.vm.findClass R_B = some m.cls := hown
  refine lv_iconst (v := 0) hx hb d_B_hasPartNear_0 (by decide) ?_
  refine lv_topi (fun z1 ez1 => ?_)
  obtain rfl : z1 = (nI 0) := by rw [ez1]; rfl
  refine lv_istore (lv' := [(6, .int (nI 0)), (0, .ref (a 0)), (1, .long x), (3, .long y), (5, .int tn)]) hx hb d_B_hasPartNear_1 hl (by decide) rfl (fun ls hl => ?_)
  have loop : ∀ (f : Nat) (k : Nat), n - k < f → k ≤ n → (∀ j, j < k → bn la li x y tn j = false) → ∀ (H : Heap) (locs : List Loc), va_P D ncl (w_B a cA ii li ia la) H → va_S (fun q => s.heap.size ≤ q) s.heap H locs → ∀ (ls : Array Slot), lv_has ls 15 [(0, .ref (a 0)), (1, .long x), (3, .long y), (5, .int tn), (6, .int (nI k))] → W p l e ({ frames := 1, cells := 0, slots := 0, locals := 30 }) s m ([.ref (a 0), .long x, .long y, .int tn] : List Value).toArray below meth c H locs 0 0 (MQ below (va_Qi (fun r (_ : Unit) => r = if (List.range n).any (bn la li x y tn) = true then 1 else 0) (fun _ _ => True) (fun q => s.heap.size ≤ q)) ([.ref (a 0), .long x, .long y, .int tn] : List Value).toArray s 0 0 (fun q => s.heap.size ≤ q)) (F0 m 3 ls []) := by
    intro f
    induction f with
    | zero => intro k h; exact absurd h (Nat.not_lt_zero _)
    | succ f ih =>
      intro k hf hk hno H locs hP hS0 ls hl
      refine lv_iload hx hb d_B_hasPartNear_3 (lv_at hl 4 rfl) ?_
      refine lv_aload_n hx hb d_B_hasPartNear_5 rfl (lv_at hl 0 rfl) ?_
      refine va_get (D := D) (ci := 2) (v := .int (ii 6)) (C := R_B) (T := T_B) (N := 12) hx hb (uw_B Z.1 hg.1) (fun _ h => h) hown hK hP 0 rfl rfl 6 (by decide) (kw44 Z.1 _ _ hg.1) (fun _ h9 => h9) rfl d_B_hasPartNear_6 ?_
      refine lv_icmp_ge (tgt := 116) hx hb d_B_hasPartNear_9 (by decide) (fun c2 => ?_) (fun c2 => ?_)
      · have hkn : k = n := by rw [hn] at c2; have := (nI_leI (by omega) (by omega)).mp c2; omega
        refine lv_iconst (v := 0) hx hb d_B_hasPartNear_116 (by decide) ?_
        exact r_zret hx hb hr rfl hlk hS0 (by rw [if_neg]; intro q; obtain ⟨j, hj, hj2⟩ := List.any_eq_true.mp q; rw [hno j (by rw [hkn]; exact List.mem_range.mp hj)] at hj2; cases hj2) d_B_hasPartNear_117
      · have hkn : k < n := by rw [hn] at c2; exact Nat.lt_of_not_le (fun q => c2 ((nI_leI (by omega) (by omega)).mpr q))
        refine lv_aload_n hx hb d_B_hasPartNear_12 rfl (lv_at hl 0 rfl) ?_
        refine va_get (D := D) (ci := 2) (v := .ref (a 3)) (C := R_B) (T := T_B) (N := 12) hx hb (uw_B Z.1 hg.1) (fun _ h => h) hown hK hP 0 rfl rfl 2 (by decide) (kw40 Z.1 _ _ hg.1) (fun _ h9 => h9) rfl d_B_hasPartNear_13 ?_
        refine lv_iload hx hb d_B_hasPartNear_16 (lv_at hl 4 rfl) ?_
        refine va_lald hx hb hK hP 3 1 rfl rfl (vp_in_nI (n := k) (N := 10) (by omega) (by decide)) d_B_hasPartNear_18 ?_
        refine lv_topl (fun z3 ez3 => ?_)
        rw [nI_clamp (n := k) (by omega)] at ez3
        obtain rfl : z3 = ((la 2) k) := ez3
        refine lv_aload_n hx hb d_B_hasPartNear_19 rfl (lv_at hl 0 rfl) ?_
        refine va_get (D := D) (ci := 2) (v := .long (li 7)) (C := R_B) (T := T_B) (N := 12) hx hb (uw_B Z.1 hg.1) (fun _ h => h) hown hK hP 0 rfl rfl 7 (by decide) (kw45 Z.1 _ _ hg.1) (fun _ h9 => h9) rfl d_B_hasPartNear_20 ?_
        refine lv_lsub hx hb d_B_hasPartNear_23 ?_
        refine lv_topl (fun p4 ep4 => ?_)
        refine lv_lstore (lv' := [(7, .long p4), (0, .ref (a 0)), (1, .long x), (3, .long y), (5, .int tn), (6, .int (nI k))]) hx hb d_B_hasPartNear_24 hl (by decide) rfl (fun ls hl => ?_)
        refine lv_aload_n hx hb d_B_hasPartNear_26 rfl (lv_at hl 1 rfl) ?_
        refine va_get (D := D) (ci := 2) (v := .ref (a 4)) (C := R_B) (T := T_B) (N := 12) hx hb (uw_B Z.1 hg.1) (fun _ h => h) hown hK hP 0 rfl rfl 3 (by decide) (kw41 Z.1 _ _ hg.1) (fun _ h9 => h9) rfl d_B_hasPartNear_27 ?_
        refine lv_iload hx hb d_B_hasPartNear_30 (lv_at hl 5 rfl) ?_
        refine va_lald hx hb hK hP 4 1 rfl rfl (vp_in_nI (n := k) (N := 10) (by omega) (by decide)) d_B_hasPartNear_32 ?_
        refine lv_topl (fun z5 ez5 => ?_)
        rw [nI_clamp (n := k) (by omega)] at ez5
        obtain rfl : z5 = ((la 3) k) := ez5
        refine lv_aload_n hx hb d_B_hasPartNear_33 rfl (lv_at hl 1 rfl) ?_
        refine va_get (D := D) (ci := 2) (v := .long (li 8)) (C := R_B) (T := T_B) (N := 12) hx hb (uw_B Z.1 hg.1) (fun _ h => h) hown hK hP 0 rfl rfl 8 (by decide) (kw46 Z.1 _ _ hg.1) (fun _ h9 => h9) rfl d_B_hasPartNear_34 ?_
        refine lv_lsub hx hb d_B_hasPartNear_37 ?_
        refine lv_topl (fun p6 ep6 => ?_)
        refine lv_lstore (lv' := [(9, .long p6), (7, .long p4), (0, .ref (a 0)), (1, .long x), (3, .long y), (5, .int tn), (6, .int (nI k))]) hx hb d_B_hasPartNear_38 hl (by decide) rfl (fun ls hl => ?_)
        refine lv_lload_n hx hb d_B_hasPartNear_40 rfl (lv_at hl 3 rfl) ?_
        refine lv_iload hx hb d_B_hasPartNear_41 (lv_at hl 5 rfl) ?_
        refine lv_if_ne (tgt := 51) hx hb d_B_hasPartNear_43 (by decide) (fun d7 => ?_) (fun d7 => ?_)
        · refine lv_aload_n hx hb d_B_hasPartNear_51 rfl (lv_at hl 2 rfl) ?_
          refine lv_iconst (v := 0) hx hb d_B_hasPartNear_52 (by decide) ?_
          refine w_rcalll (w_runV (rest := [.long x]) hx hb hml hown hl.1 hg hlo hK hP hD (qS hS0 hA) (r_B_high Z a ii li ia la 0 H.size) (kw496 Z.1) (kw404 Z.1) (kp_B_high Z.1) (kw405 Z.1) (kw3 Z.1) ⟨by decide, by decide, (by decide +kernel : (parseMethodDescriptor y_B_high.desc).map (fun d => d.parameters.length) = some 1)⟩ ⟨Nat.le_of_ble_eq_true rfl, Nat.le_of_ble_eq_true rfl⟩ [0, 1, 2, 3, 4, 5] rfl rfl (ci := 2) (q0 := 0) rfl rfl rfl (Nat.le_of_ble_eq_true rfl) d_B_hasPartNear_53 ⟨Nat.le_of_ble_eq_true rfl, Nat.le_of_ble_eq_true rfl⟩) hP hS0 (fun r8 H locs hq hP hS0 => ?_)
          refine W.widen (k := 0) (n := 0) (Nat.le_of_ble_eq_true rfl) (Nat.le_of_ble_eq_true rfl) ?_
          refine lv_lload hx hb d_B_hasPartNear_56 (lv_at hl 0 rfl) ?_
          refine lv_lsub hx hb d_B_hasPartNear_58 ?_
          refine lv_lsub hx hb d_B_hasPartNear_59 ?_
          refine lv_topl (fun p8 ep8 => ?_)
          refine lv_lstore (lv' := [(11, .long p8), (9, .long p6), (7, .long p4), (0, .ref (a 0)), (1, .long x), (3, .long y), (5, .int tn), (6, .int (nI k))]) hx hb d_B_hasPartNear_60 hl (by decide) rfl (fun ls hl => ?_)
          refine lv_lload_n hx hb d_B_hasPartNear_62 rfl (lv_at hl 5 rfl) ?_
          refine lv_iload hx hb d_B_hasPartNear_63 (lv_at hl 6 rfl) ?_
          refine lv_if_ne (tgt := 73) hx hb d_B_hasPartNear_65 (by decide) (fun _ => ?_) (fun k9 => by first | exact absurd d7 k9 | exact absurd k9 d7)
          refine lv_lload hx hb d_B_hasPartNear_73 (lv_at hl 2 rfl) ?_
          refine lv_lsub hx hb d_B_hasPartNear_75 ?_
          refine lv_topl (fun p10 ep10 => ?_)
          refine lv_lstore (lv' := [(13, .long p10), (11, .long p8), (9, .long p6), (7, .long p4), (0, .ref (a 0)), (1, .long x), (3, .long y), (5, .int tn), (6, .int (nI k))]) hx hb d_B_hasPartNear_76 hl (by decide) rfl (fun ls hl => ?_)
          refine lv_lload hx hb d_B_hasPartNear_78 (lv_at hl 1 rfl) ?_
          refine lv_lload hx hb d_B_hasPartNear_80 (lv_at hl 1 rfl) ?_
          refine lv_lmul hx hb d_B_hasPartNear_82 ?_
          refine lv_lload hx hb d_B_hasPartNear_83 (lv_at hl 0 rfl) ?_
          refine lv_lload hx hb d_B_hasPartNear_85 (lv_at hl 0 rfl) ?_
          refine lv_lmul hx hb d_B_hasPartNear_87 ?_
          refine lv_ladd hx hb d_B_hasPartNear_88 ?_
          refine lv_aload_n hx hb d_B_hasPartNear_89 rfl (lv_at hl 4 rfl) ?_
          refine va_get (D := D) (ci := 2) (v := .ref (a 5)) (C := R_B) (T := T_B) (N := 12) hx hb (uw_B Z.1 hg.1) (fun _ h => h) hown hK hP 0 rfl rfl 4 (by decide) (kw42 Z.1 _ _ hg.1) (fun _ h9 => h9) rfl d_B_hasPartNear_90 ?_
          refine lv_iload hx hb d_B_hasPartNear_93 (lv_at hl 8 rfl) ?_
          refine va_lald hx hb hK hP 5 1 rfl rfl (vp_in_nI (n := k) (N := 10) (by omega) (by decide)) d_B_hasPartNear_95 ?_
          refine lv_topl (fun z11 ez11 => ?_)
          rw [nI_clamp (n := k) (by omega)] at ez11
          obtain rfl : z11 = ((la 4) k) := ez11
          refine lv_aload_n hx hb d_B_hasPartNear_96 rfl (lv_at hl 4 rfl) ?_
          refine va_get (D := D) (ci := 2) (v := .ref (a 5)) (C := R_B) (T := T_B) (N := 12) hx hb (uw_B Z.1 hg.1) (fun _ h => h) hown hK hP 0 rfl rfl 4 (by decide) (kw42 Z.1 _ _ hg.1) (fun _ h9 => h9) rfl d_B_hasPartNear_97 ?_
          refine lv_iload hx hb d_B_hasPartNear_100 (lv_at hl 8 rfl) ?_
          refine va_lald hx hb hK hP 5 1 rfl rfl (vp_in_nI (n := k) (N := 10) (by omega) (by decide)) d_B_hasPartNear_102 ?_
          refine lv_topl (fun z12 ez12 => ?_)
          rw [nI_clamp (n := k) (by omega)] at ez12
          obtain rfl : z12 = ((la 4) k) := ez12
          refine lv_lmul hx hb d_B_hasPartNear_103 ?_
          refine W.lcmp hx hb d_B_hasPartNear_104 ?_
          refine lv_if_ge (tgt := 110) hx hb d_B_hasPartNear_105 (by decide) (fun g13 => ?_) (fun g13 => ?_)
          · have e3 : p8 = bn_x la li x tn k := by unfold bn_x; rw [if_neg d7, ep8, hq, if_pos rfl, ep6]
            have e4 : p10 = bn_y la li y tn k := by unfold bn_y; rw [if_neg d7, ep10, ep4]
            have hb0 : bn la li x y tn k = false := decide_eq_false (by rw [← e3, ← e4]; exact Int64.not_lt.mpr ((lg_cmp_ge _ _).mp g13))
            obtain ⟨v14, ev14⟩ : ∃ y : Int32, y = (nI k) + 1 := ⟨_, rfl⟩
            refine lv_iinc (v := v14) (lv' := [(6, .int v14), (13, .long p10), (11, .long p8), (9, .long p6), (7, .long p4), (0, .ref (a 0)), (1, .long x), (3, .long y), (5, .int tn)]) hx hb d_B_hasPartNear_110 hl (k := 8) rfl (by rw [ev14]; rfl) (by decide) rfl (fun ls hl => ?_)
            refine lv_goto (tgt := 3) hx hb d_B_hasPartNear_113 (by decide) ?_
            obtain rfl : v14 = nI (k + 1) := by rw [ev14]; exact nI_1 k
            exact ih (k + 1) (by omega) (by omega) (lt_s hno hb0) _ _ hP hS0 ls (lv_sub hl [5, 6, 7, 8, 0] rfl)
          · have e3 : p8 = bn_x la li x tn k := by unfold bn_x; rw [if_neg d7, ep8, hq, if_pos rfl, ep6]
            have e4 : p10 = bn_y la li y tn k := by unfold bn_y; rw [if_neg d7, ep10, ep4]
            have hb1 : bn la li x y tn k = true := decide_eq_true (by rw [← e3, ← e4]; exact Int64.not_le.mp (fun z => g13 ((lg_cmp_ge _ _).mpr z)))
            refine lv_iconst (v := 1) hx hb d_B_hasPartNear_108 (by decide) ?_
            exact r_zret hx hb hr rfl hlk hS0 (by rw [if_pos (List.any_eq_true.mpr ⟨k, List.mem_range.mpr hkn, hb1⟩)]) d_B_hasPartNear_109
        · refine lv_lload hx hb d_B_hasPartNear_46 (lv_at hl 1 rfl) ?_
          refine lv_goto (tgt := 59) hx hb d_B_hasPartNear_48 (by decide) ?_
          refine lv_lsub hx hb d_B_hasPartNear_59 ?_
          refine lv_topl (fun p15 ep15 => ?_)
          refine lv_lstore (lv' := [(11, .long p15), (9, .long p6), (7, .long p4), (0, .ref (a 0)), (1, .long x), (3, .long y), (5, .int tn), (6, .int (nI k))]) hx hb d_B_hasPartNear_60 hl (by decide) rfl (fun ls hl => ?_)
          refine lv_lload_n hx hb d_B_hasPartNear_62 rfl (lv_at hl 5 rfl) ?_
          refine lv_iload hx hb d_B_hasPartNear_63 (lv_at hl 6 rfl) ?_
          refine lv_if_ne (tgt := 73) hx hb d_B_hasPartNear_65 (by decide) (fun k16 => by first | exact absurd d7 k16 | exact absurd k16 d7) (fun _ => ?_)
          refine lv_lload hx hb d_B_hasPartNear_68 (lv_at hl 1 rfl) ?_
          refine lv_goto (tgt := 75) hx hb d_B_hasPartNear_70 (by decide) ?_
          refine lv_lsub hx hb d_B_hasPartNear_75 ?_
          refine lv_topl (fun p17 ep17 => ?_)
          refine lv_lstore (lv' := [(13, .long p17), (11, .long p15), (9, .long p6), (7, .long p4), (0, .ref (a 0)), (1, .long x), (3, .long y), (5, .int tn), (6, .int (nI k))]) hx hb d_B_hasPartNear_76 hl (by decide) rfl (fun ls hl => ?_)
          refine lv_lload hx hb d_B_hasPartNear_78 (lv_at hl 1 rfl) ?_
          refine lv_lload hx hb d_B_hasPartNear_80 (lv_at hl 1 rfl) ?_
          refine lv_lmul hx hb d_B_hasPartNear_82 ?_
          refine lv_lload hx hb d_B_hasPartNear_83 (lv_at hl 0 rfl) ?_
          refine lv_lload hx hb d_B_hasPartNear_85 (lv_at hl 0 rfl) ?_
          refine lv_lmul hx hb d_B_hasPartNear_87 ?_
          refine lv_ladd hx hb d_B_hasPartNear_88 ?_
          refine lv_aload_n hx hb d_B_hasPartNear_89 rfl (lv_at hl 4 rfl) ?_
          refine va_get (D := D) (ci := 2) (v := .ref (a 5)) (C := R_B) (T := T_B) (N := 12) hx hb (uw_B Z.1 hg.1) (fun _ h => h) hown hK hP 0 rfl rfl 4 (by decide) (kw42 Z.1 _ _ hg.1) (fun _ h9 => h9) rfl d_B_hasPartNear_90 ?_
          refine lv_iload hx hb d_B_hasPartNear_93 (lv_at hl 8 rfl) ?_
          refine va_lald hx hb hK hP 5 1 rfl rfl (vp_in_nI (n := k) (N := 10) (by omega) (by decide)) d_B_hasPartNear_95 ?_
          refine lv_topl (fun z18 ez18 => ?_)
          rw [nI_clamp (n := k) (by omega)] at ez18
          obtain rfl : z18 = ((la 4) k) := ez18
          refine lv_aload_n hx hb d_B_hasPartNear_96 rfl (lv_at hl 4 rfl) ?_
          refine va_get (D := D) (ci := 2) (v := .ref (a 5)) (C := R_B) (T := T_B) (N := 12) hx hb (uw_B Z.1 hg.1) (fun _ h => h) hown hK hP 0 rfl rfl 4 (by decide) (kw42 Z.1 _ _ hg.1) (fun _ h9 => h9) rfl d_B_hasPartNear_97 ?_
          refine lv_iload hx hb d_B_hasPartNear_100 (lv_at hl 8 rfl) ?_
          refine va_lald hx hb hK hP 5 1 rfl rfl (vp_in_nI (n := k) (N := 10) (by omega) (by decide)) d_B_hasPartNear_102 ?_
          refine lv_topl (fun z19 ez19 => ?_)
          rw [nI_clamp (n := k) (by omega)] at ez19
          obtain rfl : z19 = ((la 4) k) := ez19
          refine lv_lmul hx hb d_B_hasPartNear_103 ?_
          refine W.lcmp hx hb d_B_hasPartNear_104 ?_
          refine lv_if_ge (tgt := 110) hx hb d_B_hasPartNear_105 (by decide) (fun g20 => ?_) (fun g20 => ?_)
          · have e3 : p15 = bn_x la li x tn k := by unfold bn_x; rw [if_pos d7, ep15, ep4]
            have e4 : p17 = bn_y la li y tn k := by unfold bn_y; rw [if_pos d7, ep17, ep6]
            have hb0 : bn la li x y tn k = false := decide_eq_false (by rw [← e3, ← e4]; exact Int64.not_lt.mpr ((lg_cmp_ge _ _).mp g20))
            obtain ⟨v21, ev21⟩ : ∃ y : Int32, y = (nI k) + 1 := ⟨_, rfl⟩
            refine lv_iinc (v := v21) (lv' := [(6, .int v21), (13, .long p17), (11, .long p15), (9, .long p6), (7, .long p4), (0, .ref (a 0)), (1, .long x), (3, .long y), (5, .int tn)]) hx hb d_B_hasPartNear_110 hl (k := 8) rfl (by rw [ev21]; rfl) (by decide) rfl (fun ls hl => ?_)
            refine lv_goto (tgt := 3) hx hb d_B_hasPartNear_113 (by decide) ?_
            obtain rfl : v21 = nI (k + 1) := by rw [ev21]; exact nI_1 k
            exact ih (k + 1) (by omega) (by omega) (lt_s hno hb0) _ _ hP hS0 ls (lv_sub hl [5, 6, 7, 8, 0] rfl)
          · have e3 : p15 = bn_x la li x tn k := by unfold bn_x; rw [if_pos d7, ep15, ep4]
            have e4 : p17 = bn_y la li y tn k := by unfold bn_y; rw [if_pos d7, ep17, ep6]
            have hb1 : bn la li x y tn k = true := decide_eq_true (by rw [← e3, ← e4]; exact Int64.not_le.mp (fun z => g20 ((lg_cmp_ge _ _).mpr z)))
            refine lv_iconst (v := 1) hx hb d_B_hasPartNear_108 (by decide) ?_
            exact r_zret hx hb hr rfl hlk hS0 (by rw [if_pos (List.any_eq_true.mpr ⟨k, List.mem_range.mpr hkn, hb1⟩)]) d_B_hasPartNear_109
  exact loop (n + 1) 0 (by omega) (by omega) lt_0 _ _ hP hS0 ls (lv_sub hl [1, 2, 3, 4, 0] rfl)
set_option maxHeartbeats 4000000 in
set_option maxRecDepth 100000 in
theorem r_Y_countOf {l : Launch} {s0 : State} {D : va_G} {cA sa : Nat → Nat} (Z : zE l s0 D cA sa) (a : Nat → Nat) (ii : Nat → Int32) (li : Nat → Int64) (ia : Nat → Nat → Int32) (la : Nat → Nat → Int64) (q : Int32) (n : Nat) (h12 : ii 12 = nI n) (hn : n ≤ 160) (sz : Nat) : Met l y_Y_countOf [.code y_Y_countOf c_Y_countOf 4 (some .int)] ({ frames := 0, cells := 0, slots := 0, locals := 0 }) (wP s0 D [.ref (a 0), .int q] (w_Y a cA ii li ia la) sz) (va_Qi (fun r (_ : Unit) => r = nI (yc (ia 8) q n)) (fun _ _ => True) (fun q => sz ≤ q)) 0 0 (fun q => sz ≤ q) := by
  refine wMetRd Z (by decide) (Nat.le_of_ble_eq_true rfl) ?_
  intro p e s m below meth c hx hb hr hml hown hlk hg hK hsz hP hD hA hS0 ls hl
  subst hsz
  have hlo : ∀ q, s0.heap.size ≤ q → s0.heap.size ≤ q := fun _ h => h
  have hown : s.vm.findClass R_Y = some m.cls := hown
  refine lv_iconst (v := 0) hx hb d_Y_countOf_0 (by decide) ?_
  refine lv_topi (fun z1 ez1 => ?_)
  obtain rfl : z1 = (nI 0) := by rw [ez1]; rfl
  refine lv_istore_n (lv' := [(2, .int (nI 0)), (0, .ref (a 0)), (1, .int q)]) hx hb d_Y_countOf_1 rfl hl (by decide) rfl (fun ls hl => ?_)
  refine lv_iconst (v := 0) hx hb d_Y_countOf_2 (by decide) ?_
  refine lv_topi (fun z2 ez2 => ?_)
  obtain rfl : z2 = (nI 0) := by rw [ez2]; rfl
  refine lv_istore_n (lv' := [(3, .int (nI 0)), (2, .int (nI 0)), (0, .ref (a 0)), (1, .int q)]) hx hb d_Y_countOf_3 rfl hl (by decide) rfl (fun ls hl => ?_)
  have loop : ∀ (f : Nat) (k : Nat), n - k < f → k ≤ n → ∀ (H : Heap) (locs : List Loc), va_P D ncl (w_Y a cA ii li ia la) H → va_S (fun q => s.heap.size ≤ q) s.heap H locs → ∀ (ls : Array Slot), lv_has ls 4 [(0, .ref (a 0)), (1, .int q), (2, .int (nI (yc (ia 8) q k))), (3, .int (nI k))] → W p l e ({ frames := 0, cells := 0, slots := 0, locals := 0 }) s m ([.ref (a 0), .int q] : List Value).toArray below meth c H locs 0 0 (MQ below (va_Qi (fun r (_ : Unit) => r = nI (yc (ia 8) q n)) (fun _ _ => True) (fun q => s.heap.size ≤ q)) ([.ref (a 0), .int q] : List Value).toArray s 0 0 (fun q => s.heap.size ≤ q)) (F0 m 4 ls []) := by
    intro f
    induction f with
    | zero => intro k h; exact absurd h (Nat.not_lt_zero _)
    | succ f ih =>
      intro k hf hk H locs hP hS0 ls hl
      refine lv_iload_n hx hb d_Y_countOf_4 rfl (lv_at hl 3 rfl) ?_
      refine lv_aload_n hx hb d_Y_countOf_5 rfl (lv_at hl 0 rfl) ?_
      refine va_get (D := D) (ci := 3) (v := .int (ii 12)) (C := R_Y) (T := T_Y) (N := 17) hx hb (uw_Y Z.1 hg.1) (fun _ h => h) hown hK hP 0 rfl rfl 12 (by decide) (kw155 Z.1 _ _ hg.1) (fun _ h9 => h9) rfl d_Y_countOf_6 ?_
      refine lv_icmp_ge (tgt := 31) hx hb d_Y_countOf_9 (by decide) (fun c3 => ?_) (fun c3 => ?_)
      · obtain rfl : k = n := by rw [h12] at c3; have := (nI_leI (by omega) (by omega)).mp c3; omega
        refine lv_iload_n hx hb d_Y_countOf_31 rfl (lv_at hl 2 rfl) ?_
        exact r_iret hx hb hr hlk hS0 rfl d_Y_countOf_32
      · have hkn : k < n := Nat.lt_of_not_le (fun z => c3 (by rw [h12]; exact (nI_leI (by omega) (by omega)).mpr z))
        refine lv_aload_n hx hb d_Y_countOf_12 rfl (lv_at hl 0 rfl) ?_
        refine va_get (D := D) (ci := 3) (v := .ref (a 9)) (C := R_Y) (T := T_Y) (N := 17) hx hb (uw_Y Z.1 hg.1) (fun _ h => h) hown hK hP 0 rfl rfl 8 (by decide) (kw147 Z.1 _ _ hg.1) (fun _ h9 => h9) rfl d_Y_countOf_13 ?_
        refine lv_iload_n hx hb d_Y_countOf_16 rfl (lv_at hl 3 rfl) ?_
        refine va_zald hx hb hK hP 9 2 rfl rfl (vp_in_nI (n := k) (N := 160) (by omega) (by decide)) d_Y_countOf_17 ?_
        refine lv_topi (fun z4 ez4 => ?_)
        rw [nI_clamp (n := k) (by omega)] at ez4
        obtain rfl : z4 = ((ia 8) k) := ez4
        refine lv_iload_n hx hb d_Y_countOf_18 rfl (lv_at hl 1 rfl) ?_
        refine lv_icmp_ne (tgt := 25) hx hb d_Y_countOf_19 (by decide) (fun d5 => ?_) (fun d5 => ?_)
        · obtain ⟨v6, ev6⟩ : ∃ y : Int32, y = (nI k) + 1 := ⟨_, rfl⟩
          refine lv_iinc (v := v6) (lv' := [(3, .int v6), (0, .ref (a 0)), (1, .int q), (2, .int (nI (yc (ia 8) q k)))]) hx hb d_Y_countOf_25 hl (k := 3) rfl (by rw [ev6]; rfl) (by decide) rfl (fun ls hl => ?_)
          refine lv_goto (tgt := 4) hx hb d_Y_countOf_28 (by decide) ?_
          obtain rfl : v6 = nI (k + 1) := by rw [ev6]; exact nI_1 k
          have hy : yc (ia 8) q (k + 1) = yc (ia 8) q k := by rw [yc, if_neg d5, Nat.add_zero]
          rw [← hy] at hl
          exact ih (k + 1) (by omega) (by omega) _ _ hP hS0 ls (lv_sub hl [1, 2, 3, 0] rfl)
        · obtain ⟨v7, ev7⟩ : ∃ y : Int32, y = (nI (yc (ia 8) q k)) + 1 := ⟨_, rfl⟩
          refine lv_iinc (v := v7) (lv' := [(2, .int v7), (0, .ref (a 0)), (1, .int q), (3, .int (nI k))]) hx hb d_Y_countOf_22 hl (k := 2) rfl (by rw [ev7]; rfl) (by decide) rfl (fun ls hl => ?_)
          obtain ⟨v8, ev8⟩ : ∃ y : Int32, y = (nI k) + 1 := ⟨_, rfl⟩
          refine lv_iinc (v := v8) (lv' := [(3, .int v8), (2, .int v7), (0, .ref (a 0)), (1, .int q)]) hx hb d_Y_countOf_25 hl (k := 3) rfl (by rw [ev8]; rfl) (by decide) rfl (fun ls hl => ?_)
          refine lv_goto (tgt := 4) hx hb d_Y_countOf_28 (by decide) ?_
          obtain rfl : v8 = nI (k + 1) := by rw [ev8]; exact nI_1 k
          obtain rfl : v7 = nI (yc (ia 8) q (k + 1)) := by rw [ev7]; rw [nI_1, yc, if_pos d5]
          exact ih (k + 1) (by omega) (by omega) _ _ hP hS0 ls (lv_sub hl [2, 3, 1, 0] rfl)
  exact loop (n + 1) 0 (by omega) (by omega) _ _ hP hS0 ls (lv_sub hl [2, 3, 1, 0] rfl)
set_option maxHeartbeats 4000000 in
set_option maxRecDepth 100000 in
theorem r_Y_nthOf {l : Launch} {s0 : State} {D : va_G} {cA sa : Nat → Nat} (Z : zE l s0 D cA sa) (a : Nat → Nat) (ii : Nat → Int32) (li : Nat → Int64) (ia : Nat → Nat → Int32) (la : Nat → Nat → Int64) (q : Int32) (n mm : Nat) (h12 : ii 12 = nI n) (hn : n ≤ 160) (hm : mm ≤ 160) (sz : Nat) : Met l y_Y_nthOf [.code y_Y_nthOf c_Y_nthOf 5 (some .int)] ({ frames := 0, cells := 0, slots := 0, locals := 0 }) (wP s0 D [.ref (a 0), .int q, .int (nI mm)] (w_Y a cA ii li ia la) sz) (va_Qi (fun r (_ : Unit) => (∃ j, j < n ∧ ia 8 j = q ∧ yc (ia 8) q j = mm ∧ r = nI j) ∨ (yc (ia 8) q n ≤ mm ∧ r = -1)) (fun _ _ => True) (fun q => sz ≤ q)) 0 0 (fun q => sz ≤ q) := by
  refine wMetRd Z (by decide) (Nat.le_of_ble_eq_true rfl) ?_
  intro p e s m below meth c hx hb hr hml hown hlk hg hK hsz hP hD hA hS0 ls hl
  subst hsz
  have hlo : ∀ q, s0.heap.size ≤ q → s0.heap.size ≤ q := fun _ h => h
  have hown : s.vm.findClass R_Y = some m.cls := hown
  refine lv_iload_n hx hb d_Y_nthOf_0 rfl (lv_at hl 2 rfl) ?_
  refine lv_istore_n (lv' := [(3, .int (nI mm)), (0, .ref (a 0)), (1, .int q), (2, .int (nI mm))]) hx hb d_Y_nthOf_1 rfl hl (by decide) rfl (fun ls hl => ?_)
  refine lv_iconst (v := 0) hx hb d_Y_nthOf_2 (by decide) ?_
  refine lv_topi (fun z1 ez1 => ?_)
  obtain rfl : z1 = (nI 0) := by rw [ez1]; rfl
  refine lv_istore (lv' := [(4, .int (nI 0)), (3, .int (nI mm)), (0, .ref (a 0)), (1, .int q), (2, .int (nI mm))]) hx hb d_Y_nthOf_3 hl (by decide) rfl (fun ls hl => ?_)
  have loop : ∀ (f : Nat) (k : Nat), n - k < f → k ≤ n → yc (ia 8) q k ≤ mm → ∀ (H : Heap) (locs : List Loc), va_P D ncl (w_Y a cA ii li ia la) H → va_S (fun q => s.heap.size ≤ q) s.heap H locs → ∀ (ls : Array Slot), lv_has ls 5 [(0, .ref (a 0)), (1, .int q), (3, .int (nI (mm - yc (ia 8) q k))), (4, .int (nI k))] → W p l e ({ frames := 0, cells := 0, slots := 0, locals := 0 }) s m ([.ref (a 0), .int q, .int (nI mm)] : List Value).toArray below meth c H locs 0 0 (MQ below (va_Qi (fun r (_ : Unit) => (∃ j, j < n ∧ ia 8 j = q ∧ yc (ia 8) q j = mm ∧ r = nI j) ∨ (yc (ia 8) q n ≤ mm ∧ r = -1)) (fun _ _ => True) (fun q => s.heap.size ≤ q)) ([.ref (a 0), .int q, .int (nI mm)] : List Value).toArray s 0 0 (fun q => s.heap.size ≤ q)) (F0 m 5 ls []) := by
    intro f
    induction f with
    | zero => intro k h; exact absurd h (Nat.not_lt_zero _)
    | succ f ih =>
      intro k hf hk hy H locs hP hS0 ls hl
      refine lv_iload hx hb d_Y_nthOf_5 (lv_at hl 3 rfl) ?_
      refine lv_aload_n hx hb d_Y_nthOf_7 rfl (lv_at hl 0 rfl) ?_
      refine va_get (D := D) (ci := 3) (v := .int (ii 12)) (C := R_Y) (T := T_Y) (N := 17) hx hb (uw_Y Z.1 hg.1) (fun _ h => h) hown hK hP 0 rfl rfl 12 (by decide) (kw155 Z.1 _ _ hg.1) (fun _ h9 => h9) rfl d_Y_nthOf_8 ?_
      refine lv_icmp_ge (tgt := 41) hx hb d_Y_nthOf_11 (by decide) (fun c2 => ?_) (fun c2 => ?_)
      · obtain rfl : k = n := by rw [h12] at c2; have := (nI_leI (by omega) (by omega)).mp c2; omega
        refine lv_iconst (v := (-1)) hx hb d_Y_nthOf_41 (by decide) ?_
        exact r_iret hx hb hr hlk hS0 (Or.inr ⟨hy, rfl⟩) d_Y_nthOf_42
      · have hkn : k < n := Nat.lt_of_not_le (fun z => c2 (by rw [h12]; exact (nI_leI (by omega) (by omega)).mpr z))
        refine lv_aload_n hx hb d_Y_nthOf_14 rfl (lv_at hl 0 rfl) ?_
        refine va_get (D := D) (ci := 3) (v := .ref (a 9)) (C := R_Y) (T := T_Y) (N := 17) hx hb (uw_Y Z.1 hg.1) (fun _ h => h) hown hK hP 0 rfl rfl 8 (by decide) (kw147 Z.1 _ _ hg.1) (fun _ h9 => h9) rfl d_Y_nthOf_15 ?_
        refine lv_iload hx hb d_Y_nthOf_18 (lv_at hl 3 rfl) ?_
        refine va_zald hx hb hK hP 9 2 rfl rfl (vp_in_nI (n := k) (N := 160) (by omega) (by decide)) d_Y_nthOf_20 ?_
        refine lv_topi (fun z3 ez3 => ?_)
        rw [nI_clamp (n := k) (by omega)] at ez3
        obtain rfl : z3 = ((ia 8) k) := ez3
        refine lv_iload_n hx hb d_Y_nthOf_21 rfl (lv_at hl 1 rfl) ?_
        refine lv_icmp_ne (tgt := 35) hx hb d_Y_nthOf_22 (by decide) (fun d4 => ?_) (fun d4 => ?_)
        · obtain ⟨v5, ev5⟩ : ∃ y : Int32, y = (nI k) + 1 := ⟨_, rfl⟩
          refine lv_iinc (v := v5) (lv' := [(4, .int v5), (0, .ref (a 0)), (1, .int q), (3, .int (nI (mm - yc (ia 8) q k)))]) hx hb d_Y_nthOf_35 hl (k := 3) rfl (by rw [ev5]; rfl) (by decide) rfl (fun ls hl => ?_)
          refine lv_goto (tgt := 5) hx hb d_Y_nthOf_38 (by decide) ?_
          obtain rfl : v5 = nI (k + 1) := by rw [ev5]; exact nI_1 k
          have hy2 : yc (ia 8) q (k + 1) = yc (ia 8) q k := by rw [yc, if_neg d4, Nat.add_zero]
          rw [← hy2] at hl
          exact ih (k + 1) (by omega) (by omega) (by omega) _ _ hP hS0 ls (lv_sub hl [1, 2, 3, 0] rfl)
        · refine lv_iload_n hx hb d_Y_nthOf_25 rfl (lv_at hl 2 rfl) ?_
          refine lv_if_ne (tgt := 32) hx hb d_Y_nthOf_26 (by decide) (fun g6 => ?_) (fun g6 => ?_)
          · have hlt : yc (ia 8) q k < mm := Nat.lt_of_not_le (fun z => g6 (by rw [show mm - yc (ia 8) q k = 0 by omega]; rfl))
            obtain ⟨v7, ev7⟩ : ∃ y : Int32, y = (nI (mm - yc (ia 8) q k)) + (-1) := ⟨_, rfl⟩
            refine lv_iinc (v := v7) (lv' := [(3, .int v7), (0, .ref (a 0)), (1, .int q), (4, .int (nI k))]) hx hb d_Y_nthOf_32 hl (k := 2) rfl (by rw [ev7]; rfl) (by decide) rfl (fun ls hl => ?_)
            obtain ⟨v8, ev8⟩ : ∃ y : Int32, y = (nI k) + 1 := ⟨_, rfl⟩
            refine lv_iinc (v := v8) (lv' := [(4, .int v8), (3, .int v7), (0, .ref (a 0)), (1, .int q)]) hx hb d_Y_nthOf_35 hl (k := 3) rfl (by rw [ev8]; rfl) (by decide) rfl (fun ls hl => ?_)
            refine lv_goto (tgt := 5) hx hb d_Y_nthOf_38 (by decide) ?_
            obtain rfl : v8 = nI (k + 1) := by rw [ev8]; exact nI_1 k
            obtain rfl : v7 = nI (mm - yc (ia 8) q (k + 1)) := by rw [ev7]; rw [yc, if_pos d4, show mm - yc (ia 8) q k = (mm - (yc (ia 8) q k + 1)) + 1 by omega, pk_m1]
            exact ih (k + 1) (by omega) (by omega) (by rw [yc, if_pos d4]; omega) _ _ hP hS0 ls (lv_sub hl [2, 3, 1, 0] rfl)
          · have heq : yc (ia 8) q k = mm := by have := (nI_eq (b := 0) (by omega) (by decide)).mp g6; omega
            refine lv_iload hx hb d_Y_nthOf_29 (lv_at hl 3 rfl) ?_
            exact r_iret hx hb hr hlk hS0 (Or.inl ⟨k, hkn, d4, heq, rfl⟩) d_Y_nthOf_31
  exact loop (n + 1) 0 (by omega) (by omega) (Nat.zero_le _) _ _ hP hS0 ls (lv_sub hl [2, 3, 1, 0] rfl)
set_option maxHeartbeats 4000000 in
set_option maxRecDepth 100000 in
theorem r_Y_copyInOrder {l : Launch} {s0 : State} {D : va_G} {cA sa : Nat → Nat} (Z : zE l s0 D cA sa) (a : Nat → Nat) (ii : Nat → Int32) (li : Nat → Int64) (ia : Nat → Nat → Int32) (la : Nat → Nat → Int64) (k : Int32) (n : Nat) (h12 : ii 12 = nI n) (hn : n ≤ 160) (h01 : ∀ j, j < n → ia 8 j = 0 ∨ ia 8 j = 1) (sz : Nat) : Met l y_Y_copyInOrder [.code y_Y_copyInOrder c_Y_copyInOrder 3 (some .int)] ({ frames := 1, cells := 0, slots := 0, locals := 40 }) (wP s0 D [.ref (a 0), .int k] (w_Y a cA ii li ia la) sz) (va_Qi (fun r (_ : Unit) => yo (ia 8) n k r) (fun _ _ => True) (fun q => sz ≤ q)) 0 0 (fun q => sz ≤ q) := by
  refine wMetRd Z (by decide) (Nat.le_of_ble_eq_true rfl) ?_
  intro p e s m below meth c hx hb hr hml hown hlk hg hK hsz hP hD hA hS0 ls hl
  subst hsz
  have hlo : ∀ q, s0.heap.size ≤ q → s0.heap.size ≤ q := fun _ h => h
  have hown : s.vm.findClass R_Y = some m.cls := hown
  refine lv_iload_n hx hb d_Y_copyInOrder_0 rfl (lv_at hl 1 rfl) ?_
  refine lv_if_lt (tgt := 12) hx hb d_Y_copyInOrder_1 (by decide) (fun c1 => ?_) (fun c1 => ?_)
  · refine lv_iconst (v := (-1)) hx hb d_Y_copyInOrder_12 (by decide) ?_
    exact r_iret hx hb hr hlk hS0 (Or.inl ⟨Or.inl c1, rfl⟩) d_Y_copyInOrder_13
  · refine lv_iload_n hx hb d_Y_copyInOrder_4 rfl (lv_at hl 1 rfl) ?_
    refine lv_aload_n hx hb d_Y_copyInOrder_5 rfl (lv_at hl 0 rfl) ?_
    refine va_get (D := D) (ci := 3) (v := .int (ii 12)) (C := R_Y) (T := T_Y) (N := 17) hx hb (uw_Y Z.1 hg.1) (fun _ h => h) hown hK hP 0 rfl rfl 12 (by decide) (kw155 Z.1 _ _ hg.1) (fun _ h9 => h9) rfl d_Y_copyInOrder_6 ?_
    refine lv_icmp_lt (tgt := 14) hx hb d_Y_copyInOrder_9 (by decide) (fun d2 => ?_) (fun d2 => ?_)
    · obtain ⟨mm, hm0, rfl⟩ := nI_of c1
      have hm : mm < n := (nI_ltI hm0 (by omega)).mp (by rw [← h12]; exact d2)
      have h1 := yc_01 (ia 8) n h01
      have h2 := yc_le (ia 8) 0 n
      refine lv_aload_n hx hb d_Y_copyInOrder_14 rfl (lv_at hl 0 rfl) ?_
      refine lv_iconst (v := 0) hx hb d_Y_copyInOrder_15 (by decide) ?_
      refine w_rcalli (w_runV (rest := []) hx hb hml hown hl.1 hg hlo hK hP hD (qS hS0 hA) (r_Y_countOf Z a ii li ia la 0 n h12 hn s.heap.size) (kw249 Z.1) (kw251 Z.1) (kp_Y_countOf Z.1) (kw252 Z.1) (kw5 Z.1) ⟨by decide, by decide, (by decide +kernel : (parseMethodDescriptor y_Y_countOf.desc).map (fun d => d.parameters.length) = some 1)⟩ ⟨Nat.le_of_ble_eq_true rfl, Nat.le_of_ble_eq_true rfl⟩ [0, 1, 2, 3, 4, 5, 6, 7, 8, 9, 10, 11] rfl rfl (ci := 3) (q0 := 0) rfl rfl rfl (Nat.le_of_ble_eq_true rfl) d_Y_copyInOrder_16 ⟨Nat.le_of_ble_eq_true rfl, Nat.le_of_ble_eq_true rfl⟩) hP hS0 (fun rc H locs hrc hP hS0 => ?_)
      refine W.widen (k := 0) (n := 0) (Nat.le_of_ble_eq_true rfl) (Nat.le_of_ble_eq_true rfl) ?_
      subst hrc
      refine lv_istore_n (lv' := [(2, .int (nI (yc (ia 8) 0 n))), (0, .ref (a 0)), (1, .int (nI mm))]) hx hb d_Y_copyInOrder_19 rfl hl (by decide) rfl (fun ls hl => ?_)
      refine lv_iload_n hx hb d_Y_copyInOrder_20 rfl (lv_at hl 2 rfl) ?_
      refine lv_iload_n hx hb d_Y_copyInOrder_21 rfl (lv_at hl 0 rfl) ?_
      refine lv_icmp_ge (tgt := 34) hx hb d_Y_copyInOrder_22 (by decide) (fun g3 => ?_) (fun g3 => ?_)
      · have h3 := (nI_leI (by omega) (by omega)).mp g3
        refine lv_aload_n hx hb d_Y_copyInOrder_34 rfl (lv_at hl 1 rfl) ?_
        refine lv_iconst (v := 1) hx hb d_Y_copyInOrder_35 (by decide) ?_
        refine lv_iload_n hx hb d_Y_copyInOrder_36 rfl (lv_at hl 2 rfl) ?_
        refine lv_iload_n hx hb d_Y_copyInOrder_37 rfl (lv_at hl 0 rfl) ?_
        refine lv_isub hx hb d_Y_copyInOrder_38 ?_
        refine lv_topi (fun z4 ez4 => ?_)
        obtain rfl : z4 = (nI (mm - yc (ia 8) 0 n)) := by rw [ez4]; exact nI_sub h3
        refine w_rcalli (w_runV (rest := []) hx hb hml hown hl.1 hg hlo hK hP hD (qS hS0 hA) (r_Y_nthOf Z a ii li ia la 1 n (mm - yc (ia 8) 0 n) h12 hn (by omega) H.size) (kw253 Z.1) (kw255 Z.1) (kp_Y_nthOf Z.1) (kw256 Z.1) (kw5 Z.1) ⟨by decide, by decide, (by decide +kernel : (parseMethodDescriptor y_Y_nthOf.desc).map (fun d => d.parameters.length) = some 2)⟩ ⟨Nat.le_of_ble_eq_true rfl, Nat.le_of_ble_eq_true rfl⟩ [0, 1, 2, 3, 4, 5, 6, 7, 8, 9, 10, 11] rfl rfl (ci := 3) (q0 := 0) rfl rfl rfl (Nat.le_of_ble_eq_true rfl) d_Y_copyInOrder_39 ⟨Nat.le_of_ble_eq_true rfl, Nat.le_of_ble_eq_true rfl⟩) hP hS0 (fun rn H locs hrn hP hS0 => ?_)
        refine W.widen (k := 0) (n := 0) (Nat.le_of_ble_eq_true rfl) (Nat.le_of_ble_eq_true rfl) ?_
        exact r_iret hx hb hr hlk hS0 (by rcases hrn with ⟨j, j1, j2, j3, j4⟩ | ⟨j1, j2⟩; exact Or.inr ⟨mm, j, rfl, hm, j1, j4, Or.inr ⟨h3, j2, j3⟩⟩; omega) d_Y_copyInOrder_42
      · have h3 : mm < yc (ia 8) 0 n := Nat.lt_of_not_le (fun z => g3 ((nI_leI (by omega) (by omega)).mpr z))
        refine lv_aload_n hx hb d_Y_copyInOrder_25 rfl (lv_at hl 1 rfl) ?_
        refine lv_iconst (v := 0) hx hb d_Y_copyInOrder_26 (by decide) ?_
        refine lv_iload_n hx hb d_Y_copyInOrder_27 rfl (lv_at hl 2 rfl) ?_
        refine w_rcalli (w_runV (rest := []) hx hb hml hown hl.1 hg hlo hK hP hD (qS hS0 hA) (r_Y_nthOf Z a ii li ia la 0 n mm h12 hn (by omega) H.size) (kw253 Z.1) (kw255 Z.1) (kp_Y_nthOf Z.1) (kw256 Z.1) (kw5 Z.1) ⟨by decide, by decide, (by decide +kernel : (parseMethodDescriptor y_Y_nthOf.desc).map (fun d => d.parameters.length) = some 2)⟩ ⟨Nat.le_of_ble_eq_true rfl, Nat.le_of_ble_eq_true rfl⟩ [0, 1, 2, 3, 4, 5, 6, 7, 8, 9, 10, 11] rfl rfl (ci := 3) (q0 := 0) rfl rfl rfl (Nat.le_of_ble_eq_true rfl) d_Y_copyInOrder_28 ⟨Nat.le_of_ble_eq_true rfl, Nat.le_of_ble_eq_true rfl⟩) hP hS0 (fun rn H locs hrn hP hS0 => ?_)
        refine W.widen (k := 0) (n := 0) (Nat.le_of_ble_eq_true rfl) (Nat.le_of_ble_eq_true rfl) ?_
        refine lv_goto (tgt := 42) hx hb d_Y_copyInOrder_31 (by decide) ?_
        exact r_iret hx hb hr hlk hS0 (by rcases hrn with ⟨j, j1, j2, j3, j4⟩ | ⟨j1, j2⟩; exact Or.inr ⟨mm, j, rfl, hm, j1, j4, Or.inl ⟨h3, j2, j3⟩⟩; omega) d_Y_copyInOrder_42
    · refine lv_iconst (v := (-1)) hx hb d_Y_copyInOrder_12 (by decide) ?_
      exact r_iret hx hb hr hlk hS0 (Or.inl ⟨Or.inr (by rw [← h12]; exact Int32.not_lt.mp d2), rfl⟩) d_Y_copyInOrder_13
set_option maxHeartbeats 4000000 in
set_option maxRecDepth 100000 in
theorem r_P_tabOffset {l : Launch} {s0 : State} {D : va_G} {cA sa : Nat → Nat} (Z : zE l s0 D cA sa) (sd lo hi : Int32) (ln : Int64) (sz : Nat) : Met l y_P_tabOffset [.code y_P_tabOffset c_P_tabOffset 5 (some .long)] ({ frames := 0, cells := 0, slots := 0, locals := 0 }) (wP s0 D [.int sd, .int lo, .int hi, .long ln] (([] : va_W)) sz) (va_Ql (fun r (_ : Unit) => r = if sd = lo then 0 else if sd = hi then ln else ln / 2) (fun _ _ => True) (fun q => sz ≤ q)) 0 0 (fun q => sz ≤ q) := by
  refine wMetRd Z (by decide) (Nat.le_of_ble_eq_true rfl) ?_
  intro p e s m below meth c hx hb hr hml hown hlk hg hK hsz hP hD hA hS0 ls hl
  subst hsz
  have hlo : ∀ q, s0.heap.size ≤ q → s0.heap.size ≤ q := fun _ h => h
  have hown : s.vm.findClass R_P = some m.cls := hown
  refine lv_iload_n hx hb d_P_tabOffset_0 rfl (lv_at hl 0 rfl) ?_
  refine lv_iload_n hx hb d_P_tabOffset_1 rfl (lv_at hl 1 rfl) ?_
  refine lv_icmp_ne (tgt := 7) hx hb d_P_tabOffset_2 (by decide) (fun c1 => ?_) (fun c1 => ?_)
  · refine lv_iload_n hx hb d_P_tabOffset_7 rfl (lv_at hl 0 rfl) ?_
    refine lv_iload_n hx hb d_P_tabOffset_8 rfl (lv_at hl 2 rfl) ?_
    refine lv_icmp_ne (tgt := 16) hx hb d_P_tabOffset_9 (by decide) (fun c2 => ?_) (fun c2 => ?_)
    · refine lv_lload_n hx hb d_P_tabOffset_16 rfl (lv_at hl 3 rfl) ?_
      refine lv_ldc2 (v := 2) hx hb hown (kw491 Z.1 _ _ hg.1) d_P_tabOffset_17 ?_
      refine lv_ldiv hx hb d_P_tabOffset_20 (by decide) ?_
      exact r_lret hx hb hr hlk hS0 (by rw [if_neg c1, if_neg c2]) d_P_tabOffset_21
    · refine lv_lload_n hx hb d_P_tabOffset_12 rfl (lv_at hl 3 rfl) ?_
      refine lv_goto (tgt := 21) hx hb d_P_tabOffset_13 (by decide) ?_
      exact r_lret hx hb hr hlk hS0 (by rw [if_neg c1, if_pos c2]) d_P_tabOffset_21
  · refine lv_lconst (v := 0) hx hb d_P_tabOffset_5 (by decide) ?_
    exact r_lret hx hb hr hlk hS0 (by rw [if_pos c1]) d_P_tabOffset_6
