set_option maxHeartbeats 4000000 in
set_option maxRecDepth 100000 in
theorem m_M_findBox {l : Launch} {s0 : State} {D : va_G} {cA sa : Nat → Nat} (Z : zE l s0 D cA sa) (a : Nat → Nat) (ii : Nat → Int32) (li : Nat → Int64) (ia : Nat → Nat → Int32) (la : Nat → Nat → Int64) (b n : Nat) (fx fy : Nat → Int64) (hb4 : b < 4) (hn : ia 4 b = nI n) (hn2 : n ≤ 12) (hfx : ∀ j, j < n → la 5 (12 * b + j) = fx j) (hfy : ∀ j, j < n → la 6 (12 * b + j) = fy j) (sz : Nat) : Met l y_M_findBox [.code y_M_findBox c_M_findBox 8 none] ({ frames := 0, cells := 0, slots := 0, locals := 0 }) (wP s0 D [.ref (a 0), .int (nI b)] (w_M a cA ii li ia la) sz) (va_Qv (fun (u : Nat → Nat → Int64) => (∀ z, z ≠ 17 → z ≠ 18 → z ≠ 19 → z ≠ 20 → u z = la z) ∧ (∀ j, j ≠ b → u 17 j = la 17 j ∧ u 18 j = la 18 j ∧ u 19 j = la 19 j ∧ u 20 j = la 20 j) ∧ u 19 b = mxF fx n - mnF fx n ∧ u 20 b = mxF fy n - mnF fy n ∧ (0 < n → u 17 b = mnF fx n ∧ u 18 b = mnF fy n)) (wB D (va_A (w_M a cA ii li ia la) sz) (fun u => w_M a cA ii li ia u)) (va_A (w_M a cA ii li ia la) sz)) 0 0 (va_A (w_M a cA ii li ia la) sz) := by
  refine wMet Z (by decide) (Nat.le_of_ble_eq_true rfl) ?_
  intro p e s m below meth c hx hb hr hml hown hlk hin hg hK hsz hP hD hA hlo hS ls hl
  subst hsz
  have hown : s.vm.findClass R_M = some m.cls := hown
  refine lv_aload_n hx hb d_M_findBox_0 rfl (lv_at hl 0 rfl) ?_
  refine va_get (D := D) (ci := 1) (v := .ref (a 20)) (C := R_M) (T := T_M) (N := 26) hx hb (uw_M Z.1 hg.1) (fun _ h => h) hown hK hP 0 rfl rfl 19 (by decide) (kw623 Z.1 _ _ hg.1) (fun _ h9 => h9) rfl d_M_findBox_1 ?_
  refine lv_iload_n hx hb d_M_findBox_4 rfl (lv_at hl 1 rfl) ?_
  refine lv_lconst (v := 0) hx hb d_M_findBox_5 (by decide) ?_
  refine va_last hx hb hK hP hD hS 12 1 rfl rfl (vp_in_nI (n := b) (N := 4) (by omega) (by decide)) d_M_findBox_6 (fun H locs hP hD hS => ?_)
  rw [nI_clamp (n := b) (by omega)] at hP hD
  have hP : va_P D ncl (w_M a cA ii li ia (va_up la 19 (vp_updL (la 19) b 0))) H := hP
  have hD : va_D _ (w_M a cA ii li ia (va_up la 19 (vp_updL (la 19) b 0))) := hD
  refine lv_aload_n hx hb d_M_findBox_7 rfl (lv_at hl 0 rfl) ?_
  refine va_get (D := D) (ci := 1) (v := .ref (a 21)) (C := R_M) (T := T_M) (N := 26) hx hb (uw_M Z.1 hg.1) (fun _ h => h) hown hK hP 0 rfl rfl 20 (by decide) (kw624 Z.1 _ _ hg.1) (fun _ h9 => h9) rfl d_M_findBox_8 ?_
  refine lv_iload_n hx hb d_M_findBox_11 rfl (lv_at hl 1 rfl) ?_
  refine lv_lconst (v := 0) hx hb d_M_findBox_12 (by decide) ?_
  refine va_last hx hb hK hP hD hS 13 1 rfl rfl (vp_in_nI (n := b) (N := 4) (by omega) (by decide)) d_M_findBox_13 (fun H locs hP hD hS => ?_)
  rw [nI_clamp (n := b) (by omega)] at hP hD
  have hP : va_P D ncl (w_M a cA ii li ia (va_up (va_up la 19 (vp_updL (la 19) b 0)) 20 (vp_updL (la 20) b 0))) H := hP
  have hD : va_D _ (w_M a cA ii li ia (va_up (va_up la 19 (vp_updL (la 19) b 0)) 20 (vp_updL (la 20) b 0))) := hD
  refine lv_lconst (v := 0) hx hb d_M_findBox_14 (by decide) ?_
  refine lv_lstore_n (lv' := [(2, .long 0), (0, .ref (a 0)), (1, .int (nI b))]) hx hb d_M_findBox_15 rfl hl (by decide) rfl (fun ls hl => ?_)
  refine lv_lconst (v := 0) hx hb d_M_findBox_16 (by decide) ?_
  refine lv_lstore (lv' := [(4, .long 0), (2, .long 0), (0, .ref (a 0)), (1, .int (nI b))]) hx hb d_M_findBox_17 hl (by decide) rfl (fun ls hl => ?_)
  refine lv_bipush (v := 12) hx hb d_M_findBox_19 (by decide) ?_
  refine lv_iload_n hx hb d_M_findBox_21 rfl (lv_at hl 3 rfl) ?_
  refine lv_imul hx hb d_M_findBox_22 ?_
  refine lv_topi (fun z1 ez1 => ?_)
  obtain rfl : z1 = (nI (12 * b + 0)) := by rw [ez1]; exact pk_mul 12 b
  refine lv_istore (lv' := [(6, .int (nI (12 * b + 0))), (4, .long 0), (2, .long 0), (0, .ref (a 0)), (1, .int (nI b))]) hx hb d_M_findBox_23 hl (by decide) rfl (fun ls hl => ?_)
  have loop : ∀ (f : Nat) (k : Nat) (r1 r2 : Int64) (lb : Nat → Nat → Int64), n - k < f → k ≤ n → r1 = mxF fx k → r2 = mxF fy k → (∀ z, z ≠ 17 → z ≠ 18 → z ≠ 19 → z ≠ 20 → lb z = la z) → (∀ j, j ≠ b → lb 17 j = la 17 j ∧ lb 18 j = la 18 j ∧ lb 19 j = la 19 j ∧ lb 20 j = la 20 j) → lb 19 b = mxF fx k - mnF fx k → lb 20 b = mxF fy k - mnF fy k → (0 < k → lb 17 b = mnF fx k ∧ lb 18 b = mnF fy k) → ∀ (H : Heap) (locs : List Loc), va_P D ncl (w_M a cA ii li ia lb) H → va_D (va_A (w_M a cA ii li ia la) s.heap.size) (w_M a cA ii li ia lb) → va_S (va_A (w_M a cA ii li ia la) s.heap.size) s.heap H locs → ∀ (ls : Array Slot), lv_has ls 8 [(0, .ref (a 0)), (1, .int (nI b)), (2, .long r1), (4, .long r2), (6, .int (nI (12 * b + k)))] → W p l e ({ frames := 0, cells := 0, slots := 0, locals := 0 }) s m ([.ref (a 0), .int (nI b)] : List Value).toArray below meth c H locs 0 0 (MQ below (va_Qv (fun (u : Nat → Nat → Int64) => (∀ z, z ≠ 17 → z ≠ 18 → z ≠ 19 → z ≠ 20 → u z = la z) ∧ (∀ j, j ≠ b → u 17 j = la 17 j ∧ u 18 j = la 18 j ∧ u 19 j = la 19 j ∧ u 20 j = la 20 j) ∧ u 19 b = mxF fx n - mnF fx n ∧ u 20 b = mxF fy n - mnF fy n ∧ (0 < n → u 17 b = mnF fx n ∧ u 18 b = mnF fy n)) (wB D (va_A (w_M a cA ii li ia la) s.heap.size) (fun u => w_M a cA ii li ia u)) (va_A (w_M a cA ii li ia la) s.heap.size)) ([.ref (a 0), .int (nI b)] : List Value).toArray s 0 0 (va_A (w_M a cA ii li ia la) s.heap.size)) (F0 m 25 ls []) := by
    intro f
    induction f with
    | zero => intro k r1 r2 lb h; exact absurd h (Nat.not_lt_zero _)
    | succ f ih =>
      intro k r1 r2 lb hf hk hr1 hr2 h1 h2 h3 h4 h5 H locs hP hD hS ls hl
      refine lv_iload hx hb d_M_findBox_25 (lv_at hl 4 rfl) ?_
      refine lv_bipush (v := 12) hx hb d_M_findBox_27 (by decide) ?_
      refine lv_iload_n hx hb d_M_findBox_29 rfl (lv_at hl 1 rfl) ?_
      refine lv_imul hx hb d_M_findBox_30 ?_
      refine lv_topi (fun z2 ez2 => ?_)
      obtain rfl : z2 = (nI (12 * b)) := by rw [ez2]; exact pk_mul 12 b
      refine lv_aload_n hx hb d_M_findBox_31 rfl (lv_at hl 0 rfl) ?_
      refine va_get (D := D) (ci := 1) (v := .ref (a 5)) (C := R_M) (T := T_M) (N := 26) hx hb (uw_M Z.1 hg.1) (fun _ h => h) hown hK hP 0 rfl rfl 4 (by decide) (kw608 Z.1 _ _ hg.1) (fun _ h9 => h9) rfl d_M_findBox_32 ?_
      refine lv_iload_n hx hb d_M_findBox_35 rfl (lv_at hl 1 rfl) ?_
      refine va_iald hx hb hK hP 1 0 rfl rfl (vp_in_nI (n := b) (N := 4) (by omega) (by decide)) d_M_findBox_36 ?_
      refine lv_topi (fun z3 ez3 => ?_)
      rw [nI_clamp (n := b) (by omega)] at ez3
      obtain rfl : z3 = ((ia 4) b) := ez3
      refine lv_topi (fun z4 ez4 => ?_)
      obtain rfl : z4 = (nI n) := by rw [ez4]; exact hn
      refine lv_iadd hx hb d_M_findBox_37 ?_
      refine lv_topi (fun z5 ez5 => ?_)
      obtain rfl : z5 = (nI (12 * b + n)) := by rw [ez5]; exact nI_add _ _
      refine lv_icmp_ge (tgt := 241) hx hb d_M_findBox_38 (by decide) (fun c6 => ?_) (fun c6 => ?_)
      · obtain rfl : k = n := by have := (nI_leI (by omega) (by omega)).mp c6; omega
        exact w_vret hx hb hr hlk hP hD hS lb rfl ⟨h1, h2, h3, h4, h5⟩ d_M_findBox_241
      · have hkn : k < n := Nat.lt_of_not_le (fun z => c6 ((nI_leI (by omega) (by omega)).mpr (by omega)))
        have hx1 : lb 5 (12 * b + k) = fx k := by rw [h1 5 (by decide) (by decide) (by decide) (by decide)]; exact hfx k hkn
        have hy1 : lb 6 (12 * b + k) = fy k := by rw [h1 6 (by decide) (by decide) (by decide) (by decide)]; exact hfy k hkn
        refine lv_iload hx hb d_M_findBox_41 (lv_at hl 4 rfl) ?_
        refine lv_bipush (v := 12) hx hb d_M_findBox_43 (by decide) ?_
        refine lv_iload_n hx hb d_M_findBox_45 rfl (lv_at hl 1 rfl) ?_
        refine lv_imul hx hb d_M_findBox_46 ?_
        refine lv_topi (fun z7 ez7 => ?_)
        obtain rfl : z7 = (nI (12 * b)) := by rw [ez7]; exact pk_mul 12 b
        refine lv_icmp_ne (tgt := 54) hx hb d_M_findBox_47 (by decide) (fun d8 => ?_) (fun d8 => ?_)
        · have hk0 : ¬ k = 0 := fun z => d8 (by rw [z]; rfl)
          have h6 := h5 (Nat.pos_of_ne_zero hk0)
          obtain ⟨h61, h62⟩ := h6
          refine lv_iconst (v := 0) hx hb d_M_findBox_54 (by decide) ?_
          refine lv_istore (lv' := [(7, .int 0), (0, .ref (a 0)), (1, .int (nI b)), (2, .long r1), (4, .long r2), (6, .int (nI (12 * b + k)))]) hx hb d_M_findBox_55 hl (by decide) rfl (fun ls hl => ?_)
          refine lv_aload_n hx hb d_M_findBox_57 rfl (lv_at hl 1 rfl) ?_
          refine va_get (D := D) (ci := 1) (v := .ref (a 18)) (C := R_M) (T := T_M) (N := 26) hx hb (uw_M Z.1 hg.1) (fun _ h => h) hown hK hP 0 rfl rfl 17 (by decide) (kw621 Z.1 _ _ hg.1) (fun _ h9 => h9) rfl d_M_findBox_58 ?_
          refine lv_iload_n hx hb d_M_findBox_61 rfl (lv_at hl 2 rfl) ?_
          have jn22 : ∀ vx : Int64, vx = mnF fx (k + 1) → W p l e ({ frames := 0, cells := 0, slots := 0, locals := 0 }) s m ([.ref (a 0), .int (nI b)] : List Value).toArray below meth c H locs 0 0 (MQ below (va_Qv (fun (u : Nat → Nat → Int64) => (∀ z, z ≠ 17 → z ≠ 18 → z ≠ 19 → z ≠ 20 → u z = la z) ∧ (∀ j, j ≠ b → u 17 j = la 17 j ∧ u 18 j = la 18 j ∧ u 19 j = la 19 j ∧ u 20 j = la 20 j) ∧ u 19 b = mxF fx n - mnF fx n ∧ u 20 b = mxF fy n - mnF fy n ∧ (0 < n → u 17 b = mnF fx n ∧ u 18 b = mnF fy n)) (wB D (va_A (w_M a cA ii li ia la) s.heap.size) (fun u => w_M a cA ii li ia u)) (va_A (w_M a cA ii li ia la) s.heap.size)) ([.ref (a 0), .int (nI b)] : List Value).toArray s 0 0 (va_A (w_M a cA ii li ia la) s.heap.size)) (F0 m 100 ls (.long vx :: [.int (nI b), .ref (a 18)])) := by
            intro vx hvx
            refine va_last hx hb hK hP hD hS 10 1 rfl rfl (vp_in_nI (n := b) (N := 4) (by omega) (by decide)) d_M_findBox_100 (fun H locs hP hD hS => ?_)
            rw [nI_clamp (n := b) (by omega)] at hP hD
            have hP : va_P D ncl (w_M a cA ii li ia (va_up lb 17 (vp_updL (lb 17) b vx))) H := hP
            have hD : va_D _ (w_M a cA ii li ia (va_up lb 17 (vp_updL (lb 17) b vx))) := hD
            refine lv_aload_n hx hb d_M_findBox_101 rfl (lv_at hl 1 rfl) ?_
            refine va_get (D := D) (ci := 1) (v := .ref (a 19)) (C := R_M) (T := T_M) (N := 26) hx hb (uw_M Z.1 hg.1) (fun _ h => h) hown hK hP 0 rfl rfl 18 (by decide) (kw622 Z.1 _ _ hg.1) (fun _ h9 => h9) rfl d_M_findBox_102 ?_
            refine lv_iload_n hx hb d_M_findBox_105 rfl (lv_at hl 2 rfl) ?_
            have jn29 : ∀ vy : Int64, vy = mnF fy (k + 1) → W p l e ({ frames := 0, cells := 0, slots := 0, locals := 0 }) s m ([.ref (a 0), .int (nI b)] : List Value).toArray below meth c H locs 0 0 (MQ below (va_Qv (fun (u : Nat → Nat → Int64) => (∀ z, z ≠ 17 → z ≠ 18 → z ≠ 19 → z ≠ 20 → u z = la z) ∧ (∀ j, j ≠ b → u 17 j = la 17 j ∧ u 18 j = la 18 j ∧ u 19 j = la 19 j ∧ u 20 j = la 20 j) ∧ u 19 b = mxF fx n - mnF fx n ∧ u 20 b = mxF fy n - mnF fy n ∧ (0 < n → u 17 b = mnF fx n ∧ u 18 b = mnF fy n)) (wB D (va_A (w_M a cA ii li ia la) s.heap.size) (fun u => w_M a cA ii li ia u)) (va_A (w_M a cA ii li ia la) s.heap.size)) ([.ref (a 0), .int (nI b)] : List Value).toArray s 0 0 (va_A (w_M a cA ii li ia la) s.heap.size)) (F0 m 144 ls (.long vy :: [.int (nI b), .ref (a 19)])) := by
              intro vy hvy
              refine va_last hx hb hK hP hD hS 11 1 rfl rfl (vp_in_nI (n := b) (N := 4) (by omega) (by decide)) d_M_findBox_144 (fun H locs hP hD hS => ?_)
              rw [nI_clamp (n := b) (by omega)] at hP hD
              have hP : va_P D ncl (w_M a cA ii li ia (va_up (va_up lb 17 (vp_updL (lb 17) b vx)) 18 (vp_updL (lb 18) b vy))) H := hP
              have hD : va_D _ (w_M a cA ii li ia (va_up (va_up lb 17 (vp_updL (lb 17) b vx)) 18 (vp_updL (lb 18) b vy))) := hD
              have jn36 : ∀ v1 : Int64, v1 = mxF fx (k + 1) → W p l e ({ frames := 0, cells := 0, slots := 0, locals := 0 }) s m ([.ref (a 0), .int (nI b)] : List Value).toArray below meth c H locs 0 0 (MQ below (va_Qv (fun (u : Nat → Nat → Int64) => (∀ z, z ≠ 17 → z ≠ 18 → z ≠ 19 → z ≠ 20 → u z = la z) ∧ (∀ j, j ≠ b → u 17 j = la 17 j ∧ u 18 j = la 18 j ∧ u 19 j = la 19 j ∧ u 20 j = la 20 j) ∧ u 19 b = mxF fx n - mnF fx n ∧ u 20 b = mxF fy n - mnF fy n ∧ (0 < n → u 17 b = mnF fx n ∧ u 18 b = mnF fy n)) (wB D (va_A (w_M a cA ii li ia la) s.heap.size) (fun u => w_M a cA ii li ia u)) (va_A (w_M a cA ii li ia la) s.heap.size)) ([.ref (a 0), .int (nI b)] : List Value).toArray s 0 0 (va_A (w_M a cA ii li ia la) s.heap.size)) (F0 m 173 ls (.long v1 :: [])) := by
                intro v1 hv1
                refine lv_lstore_n (lv' := [(2, .long v1), (7, .int 0), (0, .ref (a 0)), (1, .int (nI b)), (4, .long r2), (6, .int (nI (12 * b + k)))]) hx hb d_M_findBox_173 rfl hl (by decide) rfl (fun ls hl => ?_)
                have jn41 : ∀ v2 : Int64, v2 = mxF fy (k + 1) → W p l e ({ frames := 0, cells := 0, slots := 0, locals := 0 }) s m ([.ref (a 0), .int (nI b)] : List Value).toArray below meth c H locs 0 0 (MQ below (va_Qv (fun (u : Nat → Nat → Int64) => (∀ z, z ≠ 17 → z ≠ 18 → z ≠ 19 → z ≠ 20 → u z = la z) ∧ (∀ j, j ≠ b → u 17 j = la 17 j ∧ u 18 j = la 18 j ∧ u 19 j = la 19 j ∧ u 20 j = la 20 j) ∧ u 19 b = mxF fx n - mnF fx n ∧ u 20 b = mxF fy n - mnF fy n ∧ (0 < n → u 17 b = mnF fx n ∧ u 18 b = mnF fy n)) (wB D (va_A (w_M a cA ii li ia la) s.heap.size) (fun u => w_M a cA ii li ia u)) (va_A (w_M a cA ii li ia la) s.heap.size)) ([.ref (a 0), .int (nI b)] : List Value).toArray s 0 0 (va_A (w_M a cA ii li ia la) s.heap.size)) (F0 m 204 ls (.long v2 :: [])) := by
                  intro v2 hv2
                  refine lv_lstore (lv' := [(4, .long v2), (2, .long v1), (7, .int 0), (0, .ref (a 0)), (1, .int (nI b)), (6, .int (nI (12 * b + k)))]) hx hb d_M_findBox_204 hl (by decide) rfl (fun ls hl => ?_)
                  refine lv_aload_n hx hb d_M_findBox_206 rfl (lv_at hl 3 rfl) ?_
                  refine va_get (D := D) (ci := 1) (v := .ref (a 20)) (C := R_M) (T := T_M) (N := 26) hx hb (uw_M Z.1 hg.1) (fun _ h => h) hown hK hP 0 rfl rfl 19 (by decide) (kw623 Z.1 _ _ hg.1) (fun _ h9 => h9) rfl d_M_findBox_207 ?_
                  refine lv_iload_n hx hb d_M_findBox_210 rfl (lv_at hl 4 rfl) ?_
                  refine lv_lload_n hx hb d_M_findBox_211 rfl (lv_at hl 1 rfl) ?_
                  refine lv_aload_n hx hb d_M_findBox_212 rfl (lv_at hl 3 rfl) ?_
                  refine va_get (D := D) (ci := 1) (v := .ref (a 18)) (C := R_M) (T := T_M) (N := 26) hx hb (uw_M Z.1 hg.1) (fun _ h => h) hown hK hP 0 rfl rfl 17 (by decide) (kw621 Z.1 _ _ hg.1) (fun _ h9 => h9) rfl d_M_findBox_213 ?_
                  refine lv_iload_n hx hb d_M_findBox_216 rfl (lv_at hl 4 rfl) ?_
                  refine va_lald hx hb hK hP 10 1 rfl rfl (vp_in_nI (n := b) (N := 4) (by omega) (by decide)) d_M_findBox_217 ?_
                  refine lv_topl (fun z46 ez46 => ?_)
                  rw [nI_clamp (n := b) (by omega)] at ez46
                  obtain rfl : z46 = ((vp_updL (lb 17) b vx) b) := ez46
                  refine lv_topl (fun z47 ez47 => ?_)
                  obtain rfl : vx = z47 := by rw [ez47]; exact (updL_s _ _ _).symm
                  refine lv_lsub hx hb d_M_findBox_218 ?_
                  refine lv_topl (fun dx edx => ?_)
                  have hdx : dx = v1 - vx := by rw [edx]; skip
                  clear edx
                  refine va_last hx hb hK hP hD hS 12 1 rfl rfl (vp_in_nI (n := b) (N := 4) (by omega) (by decide)) d_M_findBox_219 (fun H locs hP hD hS => ?_)
                  rw [nI_clamp (n := b) (by omega)] at hP hD
                  have hP : va_P D ncl (w_M a cA ii li ia (va_up (va_up (va_up lb 17 (vp_updL (lb 17) b vx)) 18 (vp_updL (lb 18) b vy)) 19 (vp_updL (lb 19) b dx))) H := hP
                  have hD : va_D _ (w_M a cA ii li ia (va_up (va_up (va_up lb 17 (vp_updL (lb 17) b vx)) 18 (vp_updL (lb 18) b vy)) 19 (vp_updL (lb 19) b dx))) := hD
                  refine lv_aload_n hx hb d_M_findBox_220 rfl (lv_at hl 3 rfl) ?_
                  refine va_get (D := D) (ci := 1) (v := .ref (a 21)) (C := R_M) (T := T_M) (N := 26) hx hb (uw_M Z.1 hg.1) (fun _ h => h) hown hK hP 0 rfl rfl 20 (by decide) (kw624 Z.1 _ _ hg.1) (fun _ h9 => h9) rfl d_M_findBox_221 ?_
                  refine lv_iload_n hx hb d_M_findBox_224 rfl (lv_at hl 4 rfl) ?_
                  refine lv_lload hx hb d_M_findBox_225 (lv_at hl 0 rfl) ?_
                  refine lv_aload_n hx hb d_M_findBox_227 rfl (lv_at hl 3 rfl) ?_
                  refine va_get (D := D) (ci := 1) (v := .ref (a 19)) (C := R_M) (T := T_M) (N := 26) hx hb (uw_M Z.1 hg.1) (fun _ h => h) hown hK hP 0 rfl rfl 18 (by decide) (kw622 Z.1 _ _ hg.1) (fun _ h9 => h9) rfl d_M_findBox_228 ?_
                  refine lv_iload_n hx hb d_M_findBox_231 rfl (lv_at hl 4 rfl) ?_
                  refine va_lald hx hb hK hP 11 1 rfl rfl (vp_in_nI (n := b) (N := 4) (by omega) (by decide)) d_M_findBox_232 ?_
                  refine lv_topl (fun z48 ez48 => ?_)
                  rw [nI_clamp (n := b) (by omega)] at ez48
                  obtain rfl : z48 = ((vp_updL (lb 18) b vy) b) := ez48
                  refine lv_topl (fun z49 ez49 => ?_)
                  obtain rfl : vy = z49 := by rw [ez49]; exact (updL_s _ _ _).symm
                  refine lv_lsub hx hb d_M_findBox_233 ?_
                  refine lv_topl (fun dy edy => ?_)
                  have hdy : dy = v2 - vy := by rw [edy]; skip
                  clear edy
                  refine va_last hx hb hK hP hD hS 13 1 rfl rfl (vp_in_nI (n := b) (N := 4) (by omega) (by decide)) d_M_findBox_234 (fun H locs hP hD hS => ?_)
                  rw [nI_clamp (n := b) (by omega)] at hP hD
                  have hP : va_P D ncl (w_M a cA ii li ia (va_up (va_up (va_up (va_up lb 17 (vp_updL (lb 17) b vx)) 18 (vp_updL (lb 18) b vy)) 19 (vp_updL (lb 19) b dx)) 20 (vp_updL (lb 20) b dy))) H := hP
                  have hD : va_D _ (w_M a cA ii li ia (va_up (va_up (va_up (va_up lb 17 (vp_updL (lb 17) b vx)) 18 (vp_updL (lb 18) b vy)) 19 (vp_updL (lb 19) b dx)) 20 (vp_updL (lb 20) b dy))) := hD
                  obtain ⟨v50, ev50⟩ : ∃ y : Int32, y = (nI (12 * b + k)) + 1 := ⟨_, rfl⟩
                  refine lv_iinc (v := v50) (lv' := [(6, .int v50), (4, .long v2), (2, .long v1), (7, .int 0), (0, .ref (a 0)), (1, .int (nI b))]) hx hb d_M_findBox_235 hl (k := 5) rfl (by rw [ev50]; rfl) (by decide) rfl (fun ls hl => ?_)
                  refine lv_goto (tgt := 25) hx hb d_M_findBox_238 (by decide) ?_
                  obtain rfl : v50 = nI (12 * b + (k + 1)) := by rw [ev50]; exact nI_1 (12 * b + k)
                  refine ih (k + 1) v1 v2 (va_up (va_up (va_up (va_up lb 17 (vp_updL (lb 17) b vx)) 18 (vp_updL (lb 18) b vy)) 19 (vp_updL (lb 19) b dx)) 20 (vp_updL (lb 20) b dy)) (by omega) (by omega) hv1 hv2 (fun z z1 z2 z3 z4 => ?_) (fun j hj => ?_) ?_ ?_ (fun _ => ?_) _ _ hP hD hS ls (lv_sub hl [4, 5, 2, 1, 0] rfl)
                  · rw [up_n _ _ z4, up_n _ _ z3, up_n _ _ z2, up_n _ _ z1]; exact h1 z z1 z2 z3 z4
                  · have hh := h2 j hj
                    refine ⟨?_, ?_, ?_, ?_⟩
                    · rw [up_n _ _ (by decide), up_n _ _ (by decide), up_n _ _ (by decide), up_s, updL_n _ _ hj]; exact hh.1
                    · rw [up_n _ _ (by decide), up_n _ _ (by decide), up_s, updL_n _ _ hj]; exact hh.2.1
                    · rw [up_n _ _ (by decide), up_s, updL_n _ _ hj]; exact hh.2.2.1
                    · rw [up_s, updL_n _ _ hj]; exact hh.2.2.2
                  · rw [up_n _ _ (by decide), up_s, updL_s, hdx, hv1, hvx]
                  · rw [up_s, updL_s, hdy, hv2, hvy]
                  · refine ⟨?_, ?_⟩
                    · rw [up_n _ _ (by decide), up_n _ _ (by decide), up_n _ _ (by decide), up_s, updL_s, hvx]
                    · rw [up_n _ _ (by decide), up_n _ _ (by decide), up_s, updL_s, hvy]
                refine lv_iload hx hb d_M_findBox_174 (lv_at hl 1 rfl) ?_
                refine lv_if_ne (tgt := 192) hx hb d_M_findBox_176 (by decide) (fun k42 => by first | exact absurd (show (0 : Int32) = 0 from rfl) k42 | exact absurd k42 (show (0 : Int32) = 0 from rfl)) (fun _ => ?_)
                refine lv_aload_n hx hb d_M_findBox_179 rfl (lv_at hl 2 rfl) ?_
                refine va_get (D := D) (ci := 1) (v := .ref (a 7)) (C := R_M) (T := T_M) (N := 26) hx hb (uw_M Z.1 hg.1) (fun _ h => h) hown hK hP 0 rfl rfl 6 (by decide) (kw610 Z.1 _ _ hg.1) (fun _ h9 => h9) rfl d_M_findBox_180 ?_
                refine lv_iload hx hb d_M_findBox_183 (lv_at hl 5 rfl) ?_
                refine va_lald hx hb hK hP 3 1 rfl rfl (vp_in_nI (n := 12 * b + k) (N := 48) (by omega) (by decide)) d_M_findBox_185 ?_
                refine lv_topl (fun z43 ez43 => ?_)
                rw [nI_clamp (n := (12 * b + k)) (by omega)] at ez43
                obtain rfl : z43 = ((lb 6) (12 * b + k)) := ez43
                refine lv_topl (fun p1 ep1 => ?_)
                have hp1 : p1 = fy k := by rw [ep1]; exact hy1
                clear ep1
                refine lv_lload hx hb d_M_findBox_186 (lv_at hl 4 rfl) ?_
                refine W.lcmp hx hb d_M_findBox_188 ?_
                refine lv_if_le (tgt := 202) hx hb d_M_findBox_189 (by decide) (fun e44 => ?_) (fun e44 => ?_)
                · refine lv_lload hx hb d_M_findBox_202 (lv_at hl 4 rfl) ?_
                  exact jn41 _ (by rw [hr2, mxF, if_neg hk0, if_neg (fun z => absurd ((lg_cmp_le _ _).mp e44) (Int64.not_le.mpr (by rw [hp1, hr2]; exact z)))])
                · refine lv_aload_n hx hb d_M_findBox_192 rfl (lv_at hl 2 rfl) ?_
                  refine va_get (D := D) (ci := 1) (v := .ref (a 7)) (C := R_M) (T := T_M) (N := 26) hx hb (uw_M Z.1 hg.1) (fun _ h => h) hown hK hP 0 rfl rfl 6 (by decide) (kw610 Z.1 _ _ hg.1) (fun _ h9 => h9) rfl d_M_findBox_193 ?_
                  refine lv_iload hx hb d_M_findBox_196 (lv_at hl 5 rfl) ?_
                  refine va_lald hx hb hK hP 3 1 rfl rfl (vp_in_nI (n := 12 * b + k) (N := 48) (by omega) (by decide)) d_M_findBox_198 ?_
                  refine lv_topl (fun z45 ez45 => ?_)
                  rw [nI_clamp (n := (12 * b + k)) (by omega)] at ez45
                  obtain rfl : z45 = ((lb 6) (12 * b + k)) := ez45
                  refine lv_topl (fun p3 ep3 => ?_)
                  have hp3 : p3 = fy k := by rw [ep3]; exact hy1
                  clear ep3
                  refine lv_goto (tgt := 204) hx hb d_M_findBox_199 (by decide) ?_
                  exact jn41 _ (by rw [hp3, mxF, if_neg hk0, if_pos (Int64.not_le.mp (fun z => e44 ((lg_cmp_le _ _).mpr (by rw [hp1, hr2]; exact z))))])
              refine lv_iload hx hb d_M_findBox_145 (lv_at hl 0 rfl) ?_
              refine lv_if_ne (tgt := 162) hx hb d_M_findBox_147 (by decide) (fun k37 => by first | exact absurd (show (0 : Int32) = 0 from rfl) k37 | exact absurd k37 (show (0 : Int32) = 0 from rfl)) (fun _ => ?_)
              refine lv_aload_n hx hb d_M_findBox_150 rfl (lv_at hl 1 rfl) ?_
              refine va_get (D := D) (ci := 1) (v := .ref (a 6)) (C := R_M) (T := T_M) (N := 26) hx hb (uw_M Z.1 hg.1) (fun _ h => h) hown hK hP 0 rfl rfl 5 (by decide) (kw609 Z.1 _ _ hg.1) (fun _ h9 => h9) rfl d_M_findBox_151 ?_
              refine lv_iload hx hb d_M_findBox_154 (lv_at hl 5 rfl) ?_
              refine va_lald hx hb hK hP 2 1 rfl rfl (vp_in_nI (n := 12 * b + k) (N := 48) (by omega) (by decide)) d_M_findBox_156 ?_
              refine lv_topl (fun z38 ez38 => ?_)
              rw [nI_clamp (n := (12 * b + k)) (by omega)] at ez38
              obtain rfl : z38 = ((lb 5) (12 * b + k)) := ez38
              refine lv_topl (fun p1 ep1 => ?_)
              have hp1 : p1 = fx k := by rw [ep1]; exact hx1
              clear ep1
              refine lv_lload_n hx hb d_M_findBox_157 rfl (lv_at hl 3 rfl) ?_
              refine W.lcmp hx hb d_M_findBox_158 ?_
              refine lv_if_le (tgt := 172) hx hb d_M_findBox_159 (by decide) (fun e39 => ?_) (fun e39 => ?_)
              · refine lv_lload_n hx hb d_M_findBox_172 rfl (lv_at hl 3 rfl) ?_
                exact jn36 _ (by rw [hr1, mxF, if_neg hk0, if_neg (fun z => absurd ((lg_cmp_le _ _).mp e39) (Int64.not_le.mpr (by rw [hp1, hr1]; exact z)))])
              · refine lv_aload_n hx hb d_M_findBox_162 rfl (lv_at hl 1 rfl) ?_
                refine va_get (D := D) (ci := 1) (v := .ref (a 6)) (C := R_M) (T := T_M) (N := 26) hx hb (uw_M Z.1 hg.1) (fun _ h => h) hown hK hP 0 rfl rfl 5 (by decide) (kw609 Z.1 _ _ hg.1) (fun _ h9 => h9) rfl d_M_findBox_163 ?_
                refine lv_iload hx hb d_M_findBox_166 (lv_at hl 5 rfl) ?_
                refine va_lald hx hb hK hP 2 1 rfl rfl (vp_in_nI (n := 12 * b + k) (N := 48) (by omega) (by decide)) d_M_findBox_168 ?_
                refine lv_topl (fun z40 ez40 => ?_)
                rw [nI_clamp (n := (12 * b + k)) (by omega)] at ez40
                obtain rfl : z40 = ((lb 5) (12 * b + k)) := ez40
                refine lv_topl (fun p3 ep3 => ?_)
                have hp3 : p3 = fx k := by rw [ep3]; exact hx1
                clear ep3
                refine lv_goto (tgt := 173) hx hb d_M_findBox_169 (by decide) ?_
                exact jn36 _ (by rw [hp3, mxF, if_neg hk0, if_pos (Int64.not_le.mp (fun z => e39 ((lg_cmp_le _ _).mpr (by rw [hp1, hr1]; exact z))))])
            refine lv_iload hx hb d_M_findBox_106 (lv_at hl 0 rfl) ?_
            refine lv_if_ne (tgt := 128) hx hb d_M_findBox_108 (by decide) (fun k30 => by first | exact absurd (show (0 : Int32) = 0 from rfl) k30 | exact absurd k30 (show (0 : Int32) = 0 from rfl)) (fun _ => ?_)
            refine lv_aload_n hx hb d_M_findBox_111 rfl (lv_at hl 1 rfl) ?_
            refine va_get (D := D) (ci := 1) (v := .ref (a 7)) (C := R_M) (T := T_M) (N := 26) hx hb (uw_M Z.1 hg.1) (fun _ h => h) hown hK hP 0 rfl rfl 6 (by decide) (kw610 Z.1 _ _ hg.1) (fun _ h9 => h9) rfl d_M_findBox_112 ?_
            refine lv_iload hx hb d_M_findBox_115 (lv_at hl 5 rfl) ?_
            refine va_lald hx hb hK hP 3 1 rfl rfl (vp_in_nI (n := 12 * b + k) (N := 48) (by omega) (by decide)) d_M_findBox_117 ?_
            refine lv_topl (fun z31 ez31 => ?_)
            rw [nI_clamp (n := (12 * b + k)) (by omega)] at ez31
            obtain rfl : z31 = ((lb 6) (12 * b + k)) := ez31
            refine lv_topl (fun p1 ep1 => ?_)
            have hp1 : p1 = fy k := by rw [ep1]; exact hy1
            clear ep1
            refine lv_aload_n hx hb d_M_findBox_118 rfl (lv_at hl 1 rfl) ?_
            refine va_get (D := D) (ci := 1) (v := .ref (a 19)) (C := R_M) (T := T_M) (N := 26) hx hb (uw_M Z.1 hg.1) (fun _ h => h) hown hK hP 0 rfl rfl 18 (by decide) (kw622 Z.1 _ _ hg.1) (fun _ h9 => h9) rfl d_M_findBox_119 ?_
            refine lv_iload_n hx hb d_M_findBox_122 rfl (lv_at hl 2 rfl) ?_
            refine va_lald hx hb hK hP 11 1 rfl rfl (vp_in_nI (n := b) (N := 4) (by omega) (by decide)) d_M_findBox_123 ?_
            refine lv_topl (fun z32 ez32 => ?_)
            rw [nI_clamp (n := b) (by omega)] at ez32
            obtain rfl : z32 = ((lb 18) b) := ez32
            refine lv_topl (fun p2 ep2 => ?_)
            have hp2 : p2 = mnF fy k := by rw [ep2]; exact h62
            clear ep2
            refine W.lcmp hx hb d_M_findBox_124 ?_
            refine lv_if_ge (tgt := 138) hx hb d_M_findBox_125 (by decide) (fun e33 => ?_) (fun e33 => ?_)
            · refine lv_aload_n hx hb d_M_findBox_138 rfl (lv_at hl 1 rfl) ?_
              refine va_get (D := D) (ci := 1) (v := .ref (a 19)) (C := R_M) (T := T_M) (N := 26) hx hb (uw_M Z.1 hg.1) (fun _ h => h) hown hK hP 0 rfl rfl 18 (by decide) (kw622 Z.1 _ _ hg.1) (fun _ h9 => h9) rfl d_M_findBox_139 ?_
              refine lv_iload_n hx hb d_M_findBox_142 rfl (lv_at hl 2 rfl) ?_
              refine va_lald hx hb hK hP 11 1 rfl rfl (vp_in_nI (n := b) (N := 4) (by omega) (by decide)) d_M_findBox_143 ?_
              refine lv_topl (fun z34 ez34 => ?_)
              rw [nI_clamp (n := b) (by omega)] at ez34
              obtain rfl : z34 = ((lb 18) b) := ez34
              refine lv_topl (fun p3 ep3 => ?_)
              have hp3 : p3 = mnF fy k := by rw [ep3]; exact h62
              clear ep3
              exact jn29 _ (by rw [hp3, mnF, if_neg hk0, if_neg (fun z => absurd ((lg_cmp_ge _ _).mp e33) (Int64.not_le.mpr (by rw [hp1, hp2]; exact z)))])
            · refine lv_aload_n hx hb d_M_findBox_128 rfl (lv_at hl 1 rfl) ?_
              refine va_get (D := D) (ci := 1) (v := .ref (a 7)) (C := R_M) (T := T_M) (N := 26) hx hb (uw_M Z.1 hg.1) (fun _ h => h) hown hK hP 0 rfl rfl 6 (by decide) (kw610 Z.1 _ _ hg.1) (fun _ h9 => h9) rfl d_M_findBox_129 ?_
              refine lv_iload hx hb d_M_findBox_132 (lv_at hl 5 rfl) ?_
              refine va_lald hx hb hK hP 3 1 rfl rfl (vp_in_nI (n := 12 * b + k) (N := 48) (by omega) (by decide)) d_M_findBox_134 ?_
              refine lv_topl (fun z35 ez35 => ?_)
              rw [nI_clamp (n := (12 * b + k)) (by omega)] at ez35
              obtain rfl : z35 = ((lb 6) (12 * b + k)) := ez35
              refine lv_topl (fun p3 ep3 => ?_)
              have hp3 : p3 = fy k := by rw [ep3]; exact hy1
              clear ep3
              refine lv_goto (tgt := 144) hx hb d_M_findBox_135 (by decide) ?_
              exact jn29 _ (by rw [hp3, mnF, if_neg hk0, if_pos (Int64.not_le.mp (fun z => e33 ((lg_cmp_ge _ _).mpr (by rw [hp1, hp2]; exact z))))])
          refine lv_iload hx hb d_M_findBox_62 (lv_at hl 0 rfl) ?_
          refine lv_if_ne (tgt := 84) hx hb d_M_findBox_64 (by decide) (fun k23 => by first | exact absurd (show (0 : Int32) = 0 from rfl) k23 | exact absurd k23 (show (0 : Int32) = 0 from rfl)) (fun _ => ?_)
          refine lv_aload_n hx hb d_M_findBox_67 rfl (lv_at hl 1 rfl) ?_
          refine va_get (D := D) (ci := 1) (v := .ref (a 6)) (C := R_M) (T := T_M) (N := 26) hx hb (uw_M Z.1 hg.1) (fun _ h => h) hown hK hP 0 rfl rfl 5 (by decide) (kw609 Z.1 _ _ hg.1) (fun _ h9 => h9) rfl d_M_findBox_68 ?_
          refine lv_iload hx hb d_M_findBox_71 (lv_at hl 5 rfl) ?_
          refine va_lald hx hb hK hP 2 1 rfl rfl (vp_in_nI (n := 12 * b + k) (N := 48) (by omega) (by decide)) d_M_findBox_73 ?_
          refine lv_topl (fun z24 ez24 => ?_)
          rw [nI_clamp (n := (12 * b + k)) (by omega)] at ez24
          obtain rfl : z24 = ((lb 5) (12 * b + k)) := ez24
          refine lv_topl (fun p1 ep1 => ?_)
          have hp1 : p1 = fx k := by rw [ep1]; exact hx1
          clear ep1
          refine lv_aload_n hx hb d_M_findBox_74 rfl (lv_at hl 1 rfl) ?_
          refine va_get (D := D) (ci := 1) (v := .ref (a 18)) (C := R_M) (T := T_M) (N := 26) hx hb (uw_M Z.1 hg.1) (fun _ h => h) hown hK hP 0 rfl rfl 17 (by decide) (kw621 Z.1 _ _ hg.1) (fun _ h9 => h9) rfl d_M_findBox_75 ?_
          refine lv_iload_n hx hb d_M_findBox_78 rfl (lv_at hl 2 rfl) ?_
          refine va_lald hx hb hK hP 10 1 rfl rfl (vp_in_nI (n := b) (N := 4) (by omega) (by decide)) d_M_findBox_79 ?_
          refine lv_topl (fun z25 ez25 => ?_)
          rw [nI_clamp (n := b) (by omega)] at ez25
          obtain rfl : z25 = ((lb 17) b) := ez25
          refine lv_topl (fun p2 ep2 => ?_)
          have hp2 : p2 = mnF fx k := by rw [ep2]; exact h61
          clear ep2
          refine W.lcmp hx hb d_M_findBox_80 ?_
          refine lv_if_ge (tgt := 94) hx hb d_M_findBox_81 (by decide) (fun e26 => ?_) (fun e26 => ?_)
          · refine lv_aload_n hx hb d_M_findBox_94 rfl (lv_at hl 1 rfl) ?_
            refine va_get (D := D) (ci := 1) (v := .ref (a 18)) (C := R_M) (T := T_M) (N := 26) hx hb (uw_M Z.1 hg.1) (fun _ h => h) hown hK hP 0 rfl rfl 17 (by decide) (kw621 Z.1 _ _ hg.1) (fun _ h9 => h9) rfl d_M_findBox_95 ?_
            refine lv_iload_n hx hb d_M_findBox_98 rfl (lv_at hl 2 rfl) ?_
            refine va_lald hx hb hK hP 10 1 rfl rfl (vp_in_nI (n := b) (N := 4) (by omega) (by decide)) d_M_findBox_99 ?_
            refine lv_topl (fun z27 ez27 => ?_)
            rw [nI_clamp (n := b) (by omega)] at ez27
            obtain rfl : z27 = ((lb 17) b) := ez27
            refine lv_topl (fun p3 ep3 => ?_)
            have hp3 : p3 = mnF fx k := by rw [ep3]; exact h61
            clear ep3
            exact jn22 _ (by rw [hp3, mnF, if_neg hk0, if_neg (fun z => absurd ((lg_cmp_ge _ _).mp e26) (Int64.not_le.mpr (by rw [hp1, hp2]; exact z)))])
          · refine lv_aload_n hx hb d_M_findBox_84 rfl (lv_at hl 1 rfl) ?_
            refine va_get (D := D) (ci := 1) (v := .ref (a 6)) (C := R_M) (T := T_M) (N := 26) hx hb (uw_M Z.1 hg.1) (fun _ h => h) hown hK hP 0 rfl rfl 5 (by decide) (kw609 Z.1 _ _ hg.1) (fun _ h9 => h9) rfl d_M_findBox_85 ?_
            refine lv_iload hx hb d_M_findBox_88 (lv_at hl 5 rfl) ?_
            refine va_lald hx hb hK hP 2 1 rfl rfl (vp_in_nI (n := 12 * b + k) (N := 48) (by omega) (by decide)) d_M_findBox_90 ?_
            refine lv_topl (fun z28 ez28 => ?_)
            rw [nI_clamp (n := (12 * b + k)) (by omega)] at ez28
            obtain rfl : z28 = ((lb 5) (12 * b + k)) := ez28
            refine lv_topl (fun p3 ep3 => ?_)
            have hp3 : p3 = fx k := by rw [ep3]; exact hx1
            clear ep3
            refine lv_goto (tgt := 100) hx hb d_M_findBox_91 (by decide) ?_
            exact jn22 _ (by rw [hp3, mnF, if_neg hk0, if_pos (Int64.not_le.mp (fun z => e26 ((lg_cmp_ge _ _).mpr (by rw [hp1, hp2]; exact z))))])
        · have hk0 : k = 0 := by have := (nI_eq (by omega) (by omega)).mp d8; omega
          refine lv_iconst (v := 1) hx hb d_M_findBox_50 (by decide) ?_
          refine lv_goto (tgt := 55) hx hb d_M_findBox_51 (by decide) ?_
          refine lv_istore (lv' := [(7, .int 1), (0, .ref (a 0)), (1, .int (nI b)), (2, .long r1), (4, .long r2), (6, .int (nI (12 * b + k)))]) hx hb d_M_findBox_55 hl (by decide) rfl (fun ls hl => ?_)
          refine lv_aload_n hx hb d_M_findBox_57 rfl (lv_at hl 1 rfl) ?_
          refine va_get (D := D) (ci := 1) (v := .ref (a 18)) (C := R_M) (T := T_M) (N := 26) hx hb (uw_M Z.1 hg.1) (fun _ h => h) hown hK hP 0 rfl rfl 17 (by decide) (kw621 Z.1 _ _ hg.1) (fun _ h9 => h9) rfl d_M_findBox_58 ?_
          refine lv_iload_n hx hb d_M_findBox_61 rfl (lv_at hl 2 rfl) ?_
          refine lv_iload hx hb d_M_findBox_62 (lv_at hl 0 rfl) ?_
          refine lv_if_ne (tgt := 84) hx hb d_M_findBox_64 (by decide) (fun _ => ?_) (fun k9 => by first | exact absurd (show ¬ (1 : Int32) = 0 by decide) k9 | exact absurd k9 (show ¬ (1 : Int32) = 0 by decide))
          refine lv_aload_n hx hb d_M_findBox_84 rfl (lv_at hl 1 rfl) ?_
          refine va_get (D := D) (ci := 1) (v := .ref (a 6)) (C := R_M) (T := T_M) (N := 26) hx hb (uw_M Z.1 hg.1) (fun _ h => h) hown hK hP 0 rfl rfl 5 (by decide) (kw609 Z.1 _ _ hg.1) (fun _ h9 => h9) rfl d_M_findBox_85 ?_
          refine lv_iload hx hb d_M_findBox_88 (lv_at hl 5 rfl) ?_
          refine va_lald hx hb hK hP 2 1 rfl rfl (vp_in_nI (n := 12 * b + k) (N := 48) (by omega) (by decide)) d_M_findBox_90 ?_
          refine lv_topl (fun z10 ez10 => ?_)
          rw [nI_clamp (n := (12 * b + k)) (by omega)] at ez10
          obtain rfl : z10 = ((lb 5) (12 * b + k)) := ez10
          refine lv_topl (fun vx evx => ?_)
          have hvx : vx = mnF fx (k + 1) := by rw [evx]; rw [mnF, if_pos hk0, ← hk0]; exact hx1
          clear evx
          refine lv_goto (tgt := 100) hx hb d_M_findBox_91 (by decide) ?_
          refine va_last hx hb hK hP hD hS 10 1 rfl rfl (vp_in_nI (n := b) (N := 4) (by omega) (by decide)) d_M_findBox_100 (fun H locs hP hD hS => ?_)
          rw [nI_clamp (n := b) (by omega)] at hP hD
          have hP : va_P D ncl (w_M a cA ii li ia (va_up lb 17 (vp_updL (lb 17) b vx))) H := hP
          have hD : va_D _ (w_M a cA ii li ia (va_up lb 17 (vp_updL (lb 17) b vx))) := hD
          refine lv_aload_n hx hb d_M_findBox_101 rfl (lv_at hl 1 rfl) ?_
          refine va_get (D := D) (ci := 1) (v := .ref (a 19)) (C := R_M) (T := T_M) (N := 26) hx hb (uw_M Z.1 hg.1) (fun _ h => h) hown hK hP 0 rfl rfl 18 (by decide) (kw622 Z.1 _ _ hg.1) (fun _ h9 => h9) rfl d_M_findBox_102 ?_
          refine lv_iload_n hx hb d_M_findBox_105 rfl (lv_at hl 2 rfl) ?_
          refine lv_iload hx hb d_M_findBox_106 (lv_at hl 0 rfl) ?_
          refine lv_if_ne (tgt := 128) hx hb d_M_findBox_108 (by decide) (fun _ => ?_) (fun k11 => by first | exact absurd (show ¬ (1 : Int32) = 0 by decide) k11 | exact absurd k11 (show ¬ (1 : Int32) = 0 by decide))
          refine lv_aload_n hx hb d_M_findBox_128 rfl (lv_at hl 1 rfl) ?_
          refine va_get (D := D) (ci := 1) (v := .ref (a 7)) (C := R_M) (T := T_M) (N := 26) hx hb (uw_M Z.1 hg.1) (fun _ h => h) hown hK hP 0 rfl rfl 6 (by decide) (kw610 Z.1 _ _ hg.1) (fun _ h9 => h9) rfl d_M_findBox_129 ?_
          refine lv_iload hx hb d_M_findBox_132 (lv_at hl 5 rfl) ?_
          refine va_lald hx hb hK hP 3 1 rfl rfl (vp_in_nI (n := 12 * b + k) (N := 48) (by omega) (by decide)) d_M_findBox_134 ?_
          refine lv_topl (fun z12 ez12 => ?_)
          rw [nI_clamp (n := (12 * b + k)) (by omega)] at ez12
          obtain rfl : z12 = ((lb 6) (12 * b + k)) := ez12
          refine lv_topl (fun vy evy => ?_)
          have hvy : vy = mnF fy (k + 1) := by rw [evy]; rw [mnF, if_pos hk0, ← hk0]; exact hy1
          clear evy
          refine lv_goto (tgt := 144) hx hb d_M_findBox_135 (by decide) ?_
          refine va_last hx hb hK hP hD hS 11 1 rfl rfl (vp_in_nI (n := b) (N := 4) (by omega) (by decide)) d_M_findBox_144 (fun H locs hP hD hS => ?_)
          rw [nI_clamp (n := b) (by omega)] at hP hD
          have hP : va_P D ncl (w_M a cA ii li ia (va_up (va_up lb 17 (vp_updL (lb 17) b vx)) 18 (vp_updL (lb 18) b vy))) H := hP
          have hD : va_D _ (w_M a cA ii li ia (va_up (va_up lb 17 (vp_updL (lb 17) b vx)) 18 (vp_updL (lb 18) b vy))) := hD
          refine lv_iload hx hb d_M_findBox_145 (lv_at hl 0 rfl) ?_
          refine lv_if_ne (tgt := 162) hx hb d_M_findBox_147 (by decide) (fun _ => ?_) (fun k13 => by first | exact absurd (show ¬ (1 : Int32) = 0 by decide) k13 | exact absurd k13 (show ¬ (1 : Int32) = 0 by decide))
          refine lv_aload_n hx hb d_M_findBox_162 rfl (lv_at hl 1 rfl) ?_
          refine va_get (D := D) (ci := 1) (v := .ref (a 6)) (C := R_M) (T := T_M) (N := 26) hx hb (uw_M Z.1 hg.1) (fun _ h => h) hown hK hP 0 rfl rfl 5 (by decide) (kw609 Z.1 _ _ hg.1) (fun _ h9 => h9) rfl d_M_findBox_163 ?_
          refine lv_iload hx hb d_M_findBox_166 (lv_at hl 5 rfl) ?_
          refine va_lald hx hb hK hP 2 1 rfl rfl (vp_in_nI (n := 12 * b + k) (N := 48) (by omega) (by decide)) d_M_findBox_168 ?_
          refine lv_topl (fun z14 ez14 => ?_)
          rw [nI_clamp (n := (12 * b + k)) (by omega)] at ez14
          obtain rfl : z14 = ((lb 5) (12 * b + k)) := ez14
          refine lv_topl (fun v1 ev1 => ?_)
          have hv1 : v1 = mxF fx (k + 1) := by rw [ev1]; rw [mxF, if_pos hk0, ← hk0]; exact hx1
          clear ev1
          refine lv_goto (tgt := 173) hx hb d_M_findBox_169 (by decide) ?_
          refine lv_lstore_n (lv' := [(2, .long v1), (7, .int 1), (0, .ref (a 0)), (1, .int (nI b)), (4, .long r2), (6, .int (nI (12 * b + k)))]) hx hb d_M_findBox_173 rfl hl (by decide) rfl (fun ls hl => ?_)
          refine lv_iload hx hb d_M_findBox_174 (lv_at hl 1 rfl) ?_
          refine lv_if_ne (tgt := 192) hx hb d_M_findBox_176 (by decide) (fun _ => ?_) (fun k15 => by first | exact absurd (show ¬ (1 : Int32) = 0 by decide) k15 | exact absurd k15 (show ¬ (1 : Int32) = 0 by decide))
          refine lv_aload_n hx hb d_M_findBox_192 rfl (lv_at hl 2 rfl) ?_
          refine va_get (D := D) (ci := 1) (v := .ref (a 7)) (C := R_M) (T := T_M) (N := 26) hx hb (uw_M Z.1 hg.1) (fun _ h => h) hown hK hP 0 rfl rfl 6 (by decide) (kw610 Z.1 _ _ hg.1) (fun _ h9 => h9) rfl d_M_findBox_193 ?_
          refine lv_iload hx hb d_M_findBox_196 (lv_at hl 5 rfl) ?_
          refine va_lald hx hb hK hP 3 1 rfl rfl (vp_in_nI (n := 12 * b + k) (N := 48) (by omega) (by decide)) d_M_findBox_198 ?_
          refine lv_topl (fun z16 ez16 => ?_)
          rw [nI_clamp (n := (12 * b + k)) (by omega)] at ez16
          obtain rfl : z16 = ((lb 6) (12 * b + k)) := ez16
          refine lv_topl (fun v2 ev2 => ?_)
          have hv2 : v2 = mxF fy (k + 1) := by rw [ev2]; rw [mxF, if_pos hk0, ← hk0]; exact hy1
          clear ev2
          refine lv_goto (tgt := 204) hx hb d_M_findBox_199 (by decide) ?_
          refine lv_lstore (lv' := [(4, .long v2), (2, .long v1), (7, .int 1), (0, .ref (a 0)), (1, .int (nI b)), (6, .int (nI (12 * b + k)))]) hx hb d_M_findBox_204 hl (by decide) rfl (fun ls hl => ?_)
          refine lv_aload_n hx hb d_M_findBox_206 rfl (lv_at hl 3 rfl) ?_
          refine va_get (D := D) (ci := 1) (v := .ref (a 20)) (C := R_M) (T := T_M) (N := 26) hx hb (uw_M Z.1 hg.1) (fun _ h => h) hown hK hP 0 rfl rfl 19 (by decide) (kw623 Z.1 _ _ hg.1) (fun _ h9 => h9) rfl d_M_findBox_207 ?_
          refine lv_iload_n hx hb d_M_findBox_210 rfl (lv_at hl 4 rfl) ?_
          refine lv_lload_n hx hb d_M_findBox_211 rfl (lv_at hl 1 rfl) ?_
          refine lv_aload_n hx hb d_M_findBox_212 rfl (lv_at hl 3 rfl) ?_
          refine va_get (D := D) (ci := 1) (v := .ref (a 18)) (C := R_M) (T := T_M) (N := 26) hx hb (uw_M Z.1 hg.1) (fun _ h => h) hown hK hP 0 rfl rfl 17 (by decide) (kw621 Z.1 _ _ hg.1) (fun _ h9 => h9) rfl d_M_findBox_213 ?_
          refine lv_iload_n hx hb d_M_findBox_216 rfl (lv_at hl 4 rfl) ?_
          refine va_lald hx hb hK hP 10 1 rfl rfl (vp_in_nI (n := b) (N := 4) (by omega) (by decide)) d_M_findBox_217 ?_
          refine lv_topl (fun z17 ez17 => ?_)
          rw [nI_clamp (n := b) (by omega)] at ez17
          obtain rfl : z17 = ((vp_updL (lb 17) b vx) b) := ez17
          refine lv_topl (fun z18 ez18 => ?_)
          obtain rfl : vx = z18 := by rw [ez18]; exact (updL_s _ _ _).symm
          refine lv_lsub hx hb d_M_findBox_218 ?_
          refine lv_topl (fun dx edx => ?_)
          have hdx : dx = v1 - vx := by rw [edx]; skip
          clear edx
          refine va_last hx hb hK hP hD hS 12 1 rfl rfl (vp_in_nI (n := b) (N := 4) (by omega) (by decide)) d_M_findBox_219 (fun H locs hP hD hS => ?_)
          rw [nI_clamp (n := b) (by omega)] at hP hD
          have hP : va_P D ncl (w_M a cA ii li ia (va_up (va_up (va_up lb 17 (vp_updL (lb 17) b vx)) 18 (vp_updL (lb 18) b vy)) 19 (vp_updL (lb 19) b dx))) H := hP
          have hD : va_D _ (w_M a cA ii li ia (va_up (va_up (va_up lb 17 (vp_updL (lb 17) b vx)) 18 (vp_updL (lb 18) b vy)) 19 (vp_updL (lb 19) b dx))) := hD
          refine lv_aload_n hx hb d_M_findBox_220 rfl (lv_at hl 3 rfl) ?_
          refine va_get (D := D) (ci := 1) (v := .ref (a 21)) (C := R_M) (T := T_M) (N := 26) hx hb (uw_M Z.1 hg.1) (fun _ h => h) hown hK hP 0 rfl rfl 20 (by decide) (kw624 Z.1 _ _ hg.1) (fun _ h9 => h9) rfl d_M_findBox_221 ?_
          refine lv_iload_n hx hb d_M_findBox_224 rfl (lv_at hl 4 rfl) ?_
          refine lv_lload hx hb d_M_findBox_225 (lv_at hl 0 rfl) ?_
          refine lv_aload_n hx hb d_M_findBox_227 rfl (lv_at hl 3 rfl) ?_
          refine va_get (D := D) (ci := 1) (v := .ref (a 19)) (C := R_M) (T := T_M) (N := 26) hx hb (uw_M Z.1 hg.1) (fun _ h => h) hown hK hP 0 rfl rfl 18 (by decide) (kw622 Z.1 _ _ hg.1) (fun _ h9 => h9) rfl d_M_findBox_228 ?_
          refine lv_iload_n hx hb d_M_findBox_231 rfl (lv_at hl 4 rfl) ?_
          refine va_lald hx hb hK hP 11 1 rfl rfl (vp_in_nI (n := b) (N := 4) (by omega) (by decide)) d_M_findBox_232 ?_
          refine lv_topl (fun z19 ez19 => ?_)
          rw [nI_clamp (n := b) (by omega)] at ez19
          obtain rfl : z19 = ((vp_updL (lb 18) b vy) b) := ez19
          refine lv_topl (fun z20 ez20 => ?_)
          obtain rfl : vy = z20 := by rw [ez20]; exact (updL_s _ _ _).symm
          refine lv_lsub hx hb d_M_findBox_233 ?_
          refine lv_topl (fun dy edy => ?_)
          have hdy : dy = v2 - vy := by rw [edy]; skip
          clear edy
          refine va_last hx hb hK hP hD hS 13 1 rfl rfl (vp_in_nI (n := b) (N := 4) (by omega) (by decide)) d_M_findBox_234 (fun H locs hP hD hS => ?_)
          rw [nI_clamp (n := b) (by omega)] at hP hD
          have hP : va_P D ncl (w_M a cA ii li ia (va_up (va_up (va_up (va_up lb 17 (vp_updL (lb 17) b vx)) 18 (vp_updL (lb 18) b vy)) 19 (vp_updL (lb 19) b dx)) 20 (vp_updL (lb 20) b dy))) H := hP
          have hD : va_D _ (w_M a cA ii li ia (va_up (va_up (va_up (va_up lb 17 (vp_updL (lb 17) b vx)) 18 (vp_updL (lb 18) b vy)) 19 (vp_updL (lb 19) b dx)) 20 (vp_updL (lb 20) b dy))) := hD
          obtain ⟨v21, ev21⟩ : ∃ y : Int32, y = (nI (12 * b + k)) + 1 := ⟨_, rfl⟩
          refine lv_iinc (v := v21) (lv' := [(6, .int v21), (4, .long v2), (2, .long v1), (7, .int 1), (0, .ref (a 0)), (1, .int (nI b))]) hx hb d_M_findBox_235 hl (k := 5) rfl (by rw [ev21]; rfl) (by decide) rfl (fun ls hl => ?_)
          refine lv_goto (tgt := 25) hx hb d_M_findBox_238 (by decide) ?_
          obtain rfl : v21 = nI (12 * b + (k + 1)) := by rw [ev21]; exact nI_1 (12 * b + k)
          refine ih (k + 1) v1 v2 (va_up (va_up (va_up (va_up lb 17 (vp_updL (lb 17) b vx)) 18 (vp_updL (lb 18) b vy)) 19 (vp_updL (lb 19) b dx)) 20 (vp_updL (lb 20) b dy)) (by omega) (by omega) hv1 hv2 (fun z z1 z2 z3 z4 => ?_) (fun j hj => ?_) ?_ ?_ (fun _ => ?_) _ _ hP hD hS ls (lv_sub hl [4, 5, 2, 1, 0] rfl)
          · rw [up_n _ _ z4, up_n _ _ z3, up_n _ _ z2, up_n _ _ z1]; exact h1 z z1 z2 z3 z4
          · have hh := h2 j hj
            refine ⟨?_, ?_, ?_, ?_⟩
            · rw [up_n _ _ (by decide), up_n _ _ (by decide), up_n _ _ (by decide), up_s, updL_n _ _ hj]; exact hh.1
            · rw [up_n _ _ (by decide), up_n _ _ (by decide), up_s, updL_n _ _ hj]; exact hh.2.1
            · rw [up_n _ _ (by decide), up_s, updL_n _ _ hj]; exact hh.2.2.1
            · rw [up_s, updL_n _ _ hj]; exact hh.2.2.2
          · rw [up_n _ _ (by decide), up_s, updL_s, hdx, hv1, hvx]
          · rw [up_s, updL_s, hdy, hv2, hvy]
          · refine ⟨?_, ?_⟩
            · rw [up_n _ _ (by decide), up_n _ _ (by decide), up_n _ _ (by decide), up_s, updL_s, hvx]
            · rw [up_n _ _ (by decide), up_n _ _ (by decide), up_s, updL_s, hvy]
  refine loop (n + 1) 0 0 0 (va_up (va_up la 19 (vp_updL (la 19) b 0)) 20 (vp_updL (la 20) b 0)) (by omega) (by omega) rfl rfl (fun z z1 z2 z3 z4 => by rw [up_n _ _ z4, up_n _ _ z3]) (fun j hj => ⟨rfl, rfl, ?_, ?_⟩) ?_ ?_ (fun z => absurd z (Nat.lt_irrefl _)) _ _ hP hD hS ls (lv_sub hl [3, 4, 2, 1, 0] rfl)
  · rw [up_n _ _ (by decide), up_s, updL_n _ _ hj]
  · rw [up_s, updL_n _ _ hj]
  · rw [up_n _ _ (by decide), up_s, updL_s]; exact (by decide : (0 : Int64) = 0 - 0)
  · rw [up_s, updL_s]; exact (by decide : (0 : Int64) = 0 - 0)
def wkF (bw bh : Nat → Nat) (k : Nat) : Nat := if k % 2 = 0 then bw (k / 2) else bh (k / 2)
def ftF (ac : Int) (g nb kn : Nat) (bw bh : Nat → Nat) (k : Nat) : Nat := if k / 2 < kn ∧ k / 2 < nb ∧ bw (k / 2) ≠ 0 ∧ bh (k / 2) ≠ 0 then rm_ ac (wkF bw bh k) g else 0
theorem wkF_le {bw bh : Nat → Nat} (h1 : ∀ b, b < 4 → bw b ≤ 65536) (h2 : ∀ b, b < 4 → bh b ≤ 65536) {k : Nat} (hk : k < 8) : wkF bw bh k ≤ 65536 := by
  unfold wkF; split
  · exact h1 _ (by omega)
  · exact h2 _ (by omega)
theorem lN_0 {n : Nat} (h : n ≤ 65536) : lN n = 0 ↔ n = 0 := by
  rw [← lZ_nat]
  have := lZ_eq (a := (n : Int)) (b := 0) (by omega) (by omega) (by omega) (by omega)
  rw [show lZ 0 = (0 : Int64) from rfl] at this
  rw [this]; omega
set_option maxHeartbeats 4000000 in
set_option maxRecDepth 100000 in
theorem m_M_fitsAlong {l : Launch} {s0 : State} {D : va_G} {cA sa : Nat → Nat} (Z : zE l s0 D cA sa) (a : Nat → Nat) (ii : Nat → Int32) (li : Nat → Int64) (ia : Nat → Nat → Int32) (la : Nat → Nat → Int64) (k kn nb g : Nat) (ac : Int) (bw bh : Nat → Nat) (hbw : ∀ b, b < 4 → la 19 b = lN (bw b) ∧ bw b ≤ 65536) (hbh : ∀ b, b < 4 → la 20 b = lN (bh b) ∧ bh b ≤ 65536) (hk : k < 8) (hkn : kn ≤ 4) (hnb : ii 3 = nI nb) (hnb2 : nb ≤ 4) (hg2 : li 11 = lN g) (hg3 : g ≤ 65536) (hac : li 1 - la 10 0 - la 10 2 = lZ ac) (h1 : -200000 ≤ ac) (h2 : ac ≤ 65536) (sz : Nat) : Met l y_M_fitsAlong [.code y_M_fitsAlong c_M_fitsAlong 10 (some .int)] ({ frames := 1, cells := 0, slots := 0, locals := 30 }) (wP s0 D [.ref (a 0), .int (nI k), .int (nI kn)] (w_M a cA ii li ia la) sz) (va_Qi (fun r (_ : Unit) => r = nI (ftF ac g nb kn bw bh k)) (wB D (va_A (w_M a cA ii li ia la) sz) (fun _ => w_M a cA ii li ia la)) (va_A (w_M a cA ii li ia la) sz)) 0 0 (va_A (w_M a cA ii li ia la) sz) := by
  refine wMet Z (by decide) (Nat.le_of_ble_eq_true rfl) ?_
  intro p e s m below meth c hx hb hr hml hown hlk hin hg hK hsz hP hD hA hlo hS ls hl
  subst hsz
  have hown : s.vm.findClass R_M = some m.cls := hown
  have hk4 : k / 2 < 4 := by omega
  have hw1 := hbw (k / 2) hk4
  have hh1 := hbh (k / 2) hk4
  refine lv_iload_n hx hb d_M_fitsAlong_0 rfl (lv_at hl 1 rfl) ?_
  refine lv_iconst (v := 2) hx hb d_M_fitsAlong_1 (by decide) ?_
  refine lv_idiv hx hb d_M_fitsAlong_2 (by decide) ?_
  refine lv_topi (fun z1 ez1 => ?_)
  obtain rfl : z1 = (nI (k / 2)) := by rw [ez1]; exact pk_div (d := 2) (by omega) (by decide) (by decide)
  refine lv_istore_n (lv' := [(3, .int (nI (k / 2))), (0, .ref (a 0)), (1, .int (nI k)), (2, .int (nI kn))]) hx hb d_M_fitsAlong_3 rfl hl (by decide) rfl (fun ls hl => ?_)
  refine lv_iload_n hx hb d_M_fitsAlong_4 rfl (lv_at hl 0 rfl) ?_
  refine lv_iload_n hx hb d_M_fitsAlong_5 rfl (lv_at hl 3 rfl) ?_
  refine lv_icmp_ge (tgt := 39) hx hb d_M_fitsAlong_6 (by decide) (fun c2 => ?_) (fun c2 => ?_)
  · refine lv_iconst (v := 0) hx hb d_M_fitsAlong_39 (by decide) ?_
    exact w_iret hx hb hr hlk hP hD hS () rfl (by rw [ftF, if_neg (fun z => absurd z.1 (Nat.not_lt.mpr ((nI_leI (by omega) (by omega)).mp c2)))]; rfl) d_M_fitsAlong_40
  · have g1 : k / 2 < kn := Nat.lt_of_not_le (fun z => c2 ((nI_leI (by omega) (by omega)).mpr z))
    refine lv_iload_n hx hb d_M_fitsAlong_9 rfl (lv_at hl 0 rfl) ?_
    refine lv_aload_n hx hb d_M_fitsAlong_10 rfl (lv_at hl 1 rfl) ?_
    refine va_get (D := D) (ci := 1) (v := .int (ii 3)) (C := R_M) (T := T_M) (N := 26) hx hb (uw_M Z.1 hg.1) (fun _ h => h) hown hK hP 0 rfl rfl 3 (by decide) (kw607 Z.1 _ _ hg.1) (fun _ h9 => h9) rfl d_M_fitsAlong_11 ?_
    refine lv_topi (fun z3 ez3 => ?_)
    obtain rfl : z3 = (nI nb) := by rw [ez3]; exact hnb
    refine lv_icmp_ge (tgt := 39) hx hb d_M_fitsAlong_14 (by decide) (fun d4 => ?_) (fun d4 => ?_)
    · refine lv_iconst (v := 0) hx hb d_M_fitsAlong_39 (by decide) ?_
      exact w_iret hx hb hr hlk hP hD hS () rfl (by rw [ftF, if_neg (fun z => absurd z.2.1 (Nat.not_lt.mpr ((nI_leI (by omega) (by omega)).mp d4)))]; rfl) d_M_fitsAlong_40
    · have g2 : k / 2 < nb := Nat.lt_of_not_le (fun z => d4 ((nI_leI (by omega) (by omega)).mpr z))
      refine lv_aload_n hx hb d_M_fitsAlong_17 rfl (lv_at hl 1 rfl) ?_
      refine va_get (D := D) (ci := 1) (v := .ref (a 20)) (C := R_M) (T := T_M) (N := 26) hx hb (uw_M Z.1 hg.1) (fun _ h => h) hown hK hP 0 rfl rfl 19 (by decide) (kw623 Z.1 _ _ hg.1) (fun _ h9 => h9) rfl d_M_fitsAlong_18 ?_
      refine lv_iload_n hx hb d_M_fitsAlong_21 rfl (lv_at hl 0 rfl) ?_
      refine va_lald hx hb hK hP 12 1 rfl rfl (vp_in_nI (n := k / 2) (N := 4) (by omega) (by decide)) d_M_fitsAlong_22 ?_
      refine lv_topl (fun z5 ez5 => ?_)
      rw [nI_clamp (n := (k / 2)) (by omega)] at ez5
      obtain rfl : z5 = ((la 19) (k / 2)) := ez5
      refine lv_topl (fun z6 ez6 => ?_)
      obtain rfl : z6 = (lN (bw (k / 2))) := by rw [ez6]; exact hw1.1
      refine lv_lconst (v := 0) hx hb d_M_fitsAlong_23 (by decide) ?_
      refine W.lcmp hx hb d_M_fitsAlong_24 ?_
      refine lv_if_eq (tgt := 39) hx hb d_M_fitsAlong_25 (by decide) (fun e7 => ?_) (fun e7 => ?_)
      · refine lv_iconst (v := 0) hx hb d_M_fitsAlong_39 (by decide) ?_
        exact w_iret hx hb hr hlk hP hD hS () rfl (by rw [ftF, if_neg (fun z => z.2.2.1 ((lN_0 hw1.2).mp ((lg_cmp_eq _ _).mp e7)))]; rfl) d_M_fitsAlong_40
      · have g3 : bw (k / 2) ≠ 0 := fun z => e7 ((lg_cmp_eq _ _).mpr ((lN_0 hw1.2).mpr z))
        refine lv_aload_n hx hb d_M_fitsAlong_28 rfl (lv_at hl 1 rfl) ?_
        refine va_get (D := D) (ci := 1) (v := .ref (a 21)) (C := R_M) (T := T_M) (N := 26) hx hb (uw_M Z.1 hg.1) (fun _ h => h) hown hK hP 0 rfl rfl 20 (by decide) (kw624 Z.1 _ _ hg.1) (fun _ h9 => h9) rfl d_M_fitsAlong_29 ?_
        refine lv_iload_n hx hb d_M_fitsAlong_32 rfl (lv_at hl 0 rfl) ?_
        refine va_lald hx hb hK hP 13 1 rfl rfl (vp_in_nI (n := k / 2) (N := 4) (by omega) (by decide)) d_M_fitsAlong_33 ?_
        refine lv_topl (fun z8 ez8 => ?_)
        rw [nI_clamp (n := (k / 2)) (by omega)] at ez8
        obtain rfl : z8 = ((la 20) (k / 2)) := ez8
        refine lv_topl (fun z9 ez9 => ?_)
        obtain rfl : z9 = (lN (bh (k / 2))) := by rw [ez9]; exact hh1.1
        refine lv_lconst (v := 0) hx hb d_M_fitsAlong_34 (by decide) ?_
        refine W.lcmp hx hb d_M_fitsAlong_35 ?_
        refine lv_if_ne (tgt := 41) hx hb d_M_fitsAlong_36 (by decide) (fun g10 => ?_) (fun g10 => ?_)
        · have g4 : bh (k / 2) ≠ 0 := fun z => g10 ((lg_cmp_eq _ _).mpr ((lN_0 hh1.2).mpr z))
          have hft : ftF ac g nb kn bw bh k = rm_ ac (wkF bw bh k) g := if_pos ⟨g1, g2, g3, g4⟩
          refine lv_aload_n hx hb d_M_fitsAlong_41 rfl (lv_at hl 1 rfl) ?_
          refine va_get (D := D) (ci := 1) (v := .long (li 1)) (C := R_M) (T := T_M) (N := 26) hx hb (uw_M Z.1 hg.1) (fun _ h => h) hown hK hP 0 rfl rfl 1 (by decide) (kw605 Z.1 _ _ hg.1) (fun _ h9 => h9) rfl d_M_fitsAlong_42 ?_
          refine lv_aload_n hx hb d_M_fitsAlong_45 rfl (lv_at hl 1 rfl) ?_
          refine va_get (D := D) (ci := 1) (v := .ref (a 11)) (C := R_M) (T := T_M) (N := 26) hx hb (uw_M Z.1 hg.1) (fun _ h => h) hown hK hP 0 rfl rfl 10 (by decide) (kw614 Z.1 _ _ hg.1) (fun _ h9 => h9) rfl d_M_fitsAlong_46 ?_
          refine lv_iconst (v := 0) hx hb d_M_fitsAlong_49 (by decide) ?_
          refine lv_topi (fun z11 ez11 => ?_)
          obtain rfl : z11 = (nI 0) := by rw [ez11]; rfl
          refine va_lald hx hb hK hP 7 1 rfl rfl (vp_in_nI (n := 0) (N := 4) (by omega) (by decide)) d_M_fitsAlong_50 ?_
          refine lv_topl (fun z12 ez12 => ?_)
          rw [nI_clamp (n := 0) (by omega)] at ez12
          obtain rfl : z12 = ((la 10) 0) := ez12
          refine lv_lsub hx hb d_M_fitsAlong_51 ?_
          refine lv_aload_n hx hb d_M_fitsAlong_52 rfl (lv_at hl 1 rfl) ?_
          refine va_get (D := D) (ci := 1) (v := .ref (a 11)) (C := R_M) (T := T_M) (N := 26) hx hb (uw_M Z.1 hg.1) (fun _ h => h) hown hK hP 0 rfl rfl 10 (by decide) (kw614 Z.1 _ _ hg.1) (fun _ h9 => h9) rfl d_M_fitsAlong_53 ?_
          refine lv_iconst (v := 2) hx hb d_M_fitsAlong_56 (by decide) ?_
          refine lv_topi (fun z13 ez13 => ?_)
          obtain rfl : z13 = (nI 2) := by rw [ez13]; rfl
          refine va_lald hx hb hK hP 7 1 rfl rfl (vp_in_nI (n := 2) (N := 4) (by omega) (by decide)) d_M_fitsAlong_57 ?_
          refine lv_topl (fun z14 ez14 => ?_)
          rw [nI_clamp (n := 2) (by omega)] at ez14
          obtain rfl : z14 = ((la 10) 2) := ez14
          refine lv_lsub hx hb d_M_fitsAlong_58 ?_
          refine lv_topl (fun z15 ez15 => ?_)
          obtain rfl : z15 = (lZ ac) := by rw [ez15]; exact hac
          refine lv_lstore (lv' := [(4, .long (lZ ac)), (3, .int (nI (k / 2))), (0, .ref (a 0)), (1, .int (nI k)), (2, .int (nI kn))]) hx hb d_M_fitsAlong_59 hl (by decide) rfl (fun ls hl => ?_)
          refine lv_aload_n hx hb d_M_fitsAlong_61 rfl (lv_at hl 2 rfl) ?_
          refine lv_iload_n hx hb d_M_fitsAlong_62 rfl (lv_at hl 3 rfl) ?_
          refine w_calll (wr := ([] : va_W)) (w_runV (rest := []) hx hb hml hown hl.1 hg hlo hK hP hD hS (m_M_wideOf Z a ii li ia la k hk s.heap.size) (kw735 Z.1) (kw737 Z.1) (kp_M_wideOf Z.1) (kw738 Z.1) (kw6 Z.1) ⟨by decide, by decide, (by decide +kernel : (parseMethodDescriptor y_M_wideOf.desc).map (fun d => d.parameters.length) = some 1)⟩ ⟨Nat.le_of_ble_eq_true rfl, Nat.le_of_ble_eq_true rfl⟩ [0, 1, 2, 3, 4, 5, 6, 7, 8, 9, 10, 11, 12, 13, 14, 15, 16] rfl rfl (ci := 1) (q0 := 0) rfl rfl rfl (Nat.le_of_ble_eq_true rfl) d_M_fitsAlong_63 ⟨Nat.le_of_ble_eq_true rfl, Nat.le_of_ble_eq_true rfl⟩) hP hD hS hA [0, 1, 2, 3, 4, 5, 6, 7, 8, 9, 10, 11, 12, 13, 14, 15, 16] [] rfl rfl rfl (by decide) (fun _ => w_M a cA ii li ia la) [0, 1, 2, 3, 4, 5, 6, 7, 8, 9, 10, 11, 12, 13, 14, 15, 16] rfl (fun _ => rfl) (fun r1 u H locs hr1 hP hD hS => ?_)
          refine W.widen (k := 0) (n := 0) (Nat.le_of_ble_eq_true rfl) (Nat.le_of_ble_eq_true rfl) ?_
          obtain ⟨wd, hwd⟩ : ∃ z, z = wkF bw bh k := ⟨_, rfl⟩
          rw [← hwd] at hft
          have hwd1 : r1 = lN wd := by rw [hr1, hwd, wkF]; split; exact hw1.1; exact hh1.1
          have hwd2 : wd ≤ 65536 := by rw [hwd]; exact wkF_le (fun b hb => (hbw b hb).2) (fun b hb => (hbh b hb).2) hk
          have hwd3 : 0 < wd := by rw [hwd, wkF]; split <;> omega
          subst hwd1
          refine lv_lstore (lv' := [(6, .long (lN wd)), (4, .long (lZ ac)), (3, .int (nI (k / 2))), (0, .ref (a 0)), (1, .int (nI k)), (2, .int (nI kn))]) hx hb d_M_fitsAlong_66 hl (by decide) rfl (fun ls hl => ?_)
          refine lv_lload hx hb d_M_fitsAlong_68 (lv_at hl 1 rfl) ?_
          refine lv_lload hx hb d_M_fitsAlong_70 (lv_at hl 0 rfl) ?_
          refine W.lcmp hx hb d_M_fitsAlong_72 ?_
          refine lv_if_ge (tgt := 78) hx hb d_M_fitsAlong_73 (by decide) (fun h16 => ?_) (fun h16 => ?_)
          · have hge : (wd : Int) ≤ ac := by have := (lg_cmp_ge _ _).mp h16; rw [← lZ_nat] at this; exact (lZ_le (by omega) (by omega) (by omega) (by omega)).mp this
            refine lv_lload hx hb d_M_fitsAlong_78 (lv_at hl 1 rfl) ?_
            refine lv_aload_n hx hb d_M_fitsAlong_80 rfl (lv_at hl 3 rfl) ?_
            refine va_get (D := D) (ci := 1) (v := .long (li 11)) (C := R_M) (T := T_M) (N := 26) hx hb (uw_M Z.1 hg.1) (fun _ h => h) hown hK hP 0 rfl rfl 11 (by decide) (kw615 Z.1 _ _ hg.1) (fun _ h9 => h9) rfl d_M_fitsAlong_81 ?_
            refine lv_topl (fun z17 ez17 => ?_)
            obtain rfl : z17 = (lN g) := by rw [ez17]; exact hg2
            refine lv_ladd hx hb d_M_fitsAlong_84 ?_
            refine lv_topl (fun z18 ez18 => ?_)
            obtain rfl : z18 = (lZ (ac + g)) := by rw [ez18]; rw [← lZ_nat]; exact lZ_add _ _
            refine lv_lload hx hb d_M_fitsAlong_85 (lv_at hl 0 rfl) ?_
            refine lv_aload_n hx hb d_M_fitsAlong_87 rfl (lv_at hl 3 rfl) ?_
            refine va_get (D := D) (ci := 1) (v := .long (li 11)) (C := R_M) (T := T_M) (N := 26) hx hb (uw_M Z.1 hg.1) (fun _ h => h) hown hK hP 0 rfl rfl 11 (by decide) (kw615 Z.1 _ _ hg.1) (fun _ h9 => h9) rfl d_M_fitsAlong_88 ?_
            refine lv_topl (fun z19 ez19 => ?_)
            obtain rfl : z19 = (lN g) := by rw [ez19]; exact hg2
            refine lv_ladd hx hb d_M_fitsAlong_91 ?_
            refine lv_topl (fun z20 ez20 => ?_)
            obtain rfl : z20 = (lZ ((wd : Int) + g)) := by rw [ez20]; rw [← lZ_nat, ← lZ_nat]; exact lZ_add _ _
            refine lv_ldiv hx hb d_M_fitsAlong_92 (fun z => absurd ((lZ_eq (b := 0) (by omega) (by omega) (by omega) (by omega)).mp z) (by omega)) ?_
            refine lv_topl (fun z21 ez21 => ?_)
            obtain rfl : z21 = (lZ ((ac + g) / ((wd : Int) + g))) := by rw [ez21]; exact lZ_div (by omega) (by omega) (by omega) (by omega)
            obtain ⟨Q, hQ⟩ : ∃ z, z = (ac + g) / ((wd : Int) + g) := ⟨_, rfl⟩
            have hQ1 : 0 ≤ Q := by rw [hQ]; exact Int.ediv_nonneg (by omega) (by omega)
            have hQ2 : Q ≤ 200000 := by rw [hQ]; exact Int.le_trans (Int.ediv_le_self _ (by omega)) (by omega)
            have hrm : rm_ ac wd g = min Q.toNat 20 := by rw [rm_, if_neg (by omega), hQ]
            rw [← hQ]
            refine lv_lstore (lv' := [(8, .long (lZ Q)), (6, .long (lN wd)), (4, .long (lZ ac)), (3, .int (nI (k / 2))), (0, .ref (a 0)), (1, .int (nI k)), (2, .int (nI kn))]) hx hb d_M_fitsAlong_93 hl (by decide) rfl (fun ls hl => ?_)
            refine lv_lload hx hb d_M_fitsAlong_95 (lv_at hl 0 rfl) ?_
            refine lv_ldc2 (v := 20) hx hb hown (kw739 Z.1 _ _ hg.1) d_M_fitsAlong_97 ?_
            refine W.lcmp hx hb d_M_fitsAlong_100 ?_
            refine lv_if_le (tgt := 109) hx hb d_M_fitsAlong_101 (by decide) (fun w22 => ?_) (fun w22 => ?_)
            · have h20 : Q ≤ 20 := (lZ_le (b := 20) (by omega) (by omega) (by omega) (by omega)).mp ((lg_cmp_le _ _).mp w22)
              refine lv_lload hx hb d_M_fitsAlong_109 (lv_at hl 0 rfl) ?_
              refine lv_l2i hx hb d_M_fitsAlong_111 rfl ?_
              refine lv_topi (fun z23 ez23 => ?_)
              obtain rfl : z23 = (nI (min Q.toNat 20)) := by rw [ez23]; rw [show lZ Q = lN (min Q.toNat 20) by (rw [← lZ_nat]; congr 1; omega)]; exact lN_i _
              exact w_iret hx hb hr hlk hP hD hS () rfl (by rw [hft, hrm]) d_M_fitsAlong_112
            · have h20 : ¬ Q ≤ 20 := fun z => w22 ((lg_cmp_le _ _).mpr ((lZ_le (b := 20) (by omega) (by omega) (by omega) (by omega)).mpr z))
              refine lv_bipush (v := 20) hx hb d_M_fitsAlong_104 (by decide) ?_
              refine lv_goto (tgt := 112) hx hb d_M_fitsAlong_106 (by decide) ?_
              exact w_iret hx hb hr hlk hP hD hS () rfl (by rw [hft, hrm, show min Q.toNat 20 = 20 by omega]; rfl) d_M_fitsAlong_112
          · have hlt : ac < wd := by have := Int64.not_le.mp (fun z => h16 ((lg_cmp_ge _ _).mpr z)); rw [← lZ_nat] at this; exact (lZ_lt (by omega) (by omega) (by omega) (by omega)).mp this
            refine lv_iconst (v := 0) hx hb d_M_fitsAlong_76 (by decide) ?_
            exact w_iret hx hb hr hlk hP hD hS () rfl (by rw [hft, rm_, if_pos (Or.inl hlt)]; rfl) d_M_fitsAlong_77
        · refine lv_iconst (v := 0) hx hb d_M_fitsAlong_39 (by decide) ?_
          exact w_iret hx hb hr hlk hP hD hS () rfl (by rw [ftF, if_neg (fun z => z.2.2.2 ((lN_0 hh1.2).mp ((lg_cmp_eq _ _).mp g10)))]; rfl) d_M_fitsAlong_40
def hgF (bw bh : Nat → Nat) (k : Nat) : Nat := if k % 2 = 0 then bh (k / 2) else bw (k / 2)
theorem hgF_le {bw bh : Nat → Nat} (h1 : ∀ b, b < 4 → bw b ≤ 65536) (h2 : ∀ b, b < 4 → bh b ≤ 65536) {k : Nat} (hk : k < 8) : hgF bw bh k ≤ 65536 := by
  unfold hgF; split
  · exact h2 _ (by omega)
  · exact h1 _ (by omega)
def ndF (bw bh : Nat → Nat) (g : Nat) (cn : Nat → Nat) : Nat := sm (fun k => cn k * (hgF bw bh k + g)) 8
theorem sm_bd {f : Nat → Nat} {B : Nat} : ∀ n, (∀ k, k < n → f k ≤ B) → sm f n ≤ B * n := by
  intro n
  induction n with
  | zero => intro _; exact Nat.le_refl _
  | succ n ih => intro h; rw [sm, Nat.mul_succ]; exact Nat.add_le_add (ih (fun k hk => h k (by omega))) (h n (by omega))
set_option maxHeartbeats 4000000 in
set_option maxRecDepth 100000 in
theorem m_M_isLow {l : Launch} {s0 : State} {D : va_G} {cA sa : Nat → Nat} (Z : zE l s0 D cA sa) (a : Nat → Nat) (ii : Nat → Int32) (li : Nat → Int64) (ia : Nat → Nat → Int32) (la : Nat → Nat → Int64) (g : Nat) (cn : Nat → Nat) (fr : Int) (bw bh : Nat → Nat) (hbw : ∀ b, b < 4 → la 19 b = lN (bw b) ∧ bw b ≤ 65536) (hbh : ∀ b, b < 4 → la 20 b = lN (bh b) ∧ bh b ≤ 65536) (hcn : ∀ k, k < 8 → ia 22 k = nI (cn k) ∧ cn k ≤ 9) (hg2 : li 11 = lN g) (hg3 : g ≤ 65536) (hfr : li 2 - la 10 1 - la 10 3 = lZ fr) (h1 : -200000 ≤ fr) (h2 : fr ≤ 65536) (sz : Nat) : Met l y_M_isLow [.code y_M_isLow c_M_isLow 4 (some .boolean)] ({ frames := 1, cells := 0, slots := 0, locals := 30 }) (wP s0 D [.ref (a 0)] (w_M a cA ii li ia la) sz) (va_Qi (fun r (_ : Unit) => r = if ndF bw bh g cn = 0 ∨ (ndF bw bh g cn : Int) - g ≤ fr then 1 else 0) (wB D (va_A (w_M a cA ii li ia la) sz) (fun _ => w_M a cA ii li ia la)) (va_A (w_M a cA ii li ia la) sz)) 0 0 (va_A (w_M a cA ii li ia la) sz) := by
  refine wMet Z (by decide) (Nat.le_of_ble_eq_true rfl) ?_
  intro p e s m below meth c hx hb hr hml hown hlk hin hg hK hsz hP hD hA hlo hS ls hl
  subst hsz
  have hown : s.vm.findClass R_M = some m.cls := hown
  refine lv_lconst (v := 0) hx hb d_M_isLow_0 (by decide) ?_
  refine lv_topl (fun z1 ez1 => ?_)
  obtain rfl : z1 = (lN (sm (fun k => cn k * (hgF bw bh k + g)) 0)) := by rw [ez1]; rfl
  refine lv_lstore_n (lv' := [(1, .long (lN (sm (fun k => cn k * (hgF bw bh k + g)) 0))), (0, .ref (a 0))]) hx hb d_M_isLow_1 rfl hl (by decide) rfl (fun ls hl => ?_)
  refine lv_iconst (v := 0) hx hb d_M_isLow_2 (by decide) ?_
  refine lv_topi (fun z2 ez2 => ?_)
  obtain rfl : z2 = (nI 0) := by rw [ez2]; rfl
  refine lv_istore_n (lv' := [(3, .int (nI 0)), (1, .long (lN (sm (fun k => cn k * (hgF bw bh k + g)) 0))), (0, .ref (a 0))]) hx hb d_M_isLow_3 rfl hl (by decide) rfl (fun ls hl => ?_)
  have hbd : ∀ k, k < 8 → cn k * (hgF bw bh k + g) ≤ 2000000 := fun k hk => Nat.le_trans (Nat.mul_le_mul (hcn k hk).2 (Nat.add_le_add (hgF_le (fun b hb => (hbw b hb).2) (fun b hb => (hbh b hb).2) hk) hg3)) (by decide)
  have hb8 := sm_bd (f := (fun k => cn k * (hgF bw bh k + g))) (B := 2000000) 8 hbd
  have loop : ∀ (f : Nat) (k : Nat), 8 - k < f → k ≤ 8 → ∀ (H : Heap) (locs : List Loc), va_P D ncl (w_M a cA ii li ia la) H → va_D (va_A (w_M a cA ii li ia la) s.heap.size) (w_M a cA ii li ia la) → va_S (va_A (w_M a cA ii li ia la) s.heap.size) s.heap H locs → ∀ (ls : Array Slot), lv_has ls 4 [(0, .ref (a 0)), (1, .long (lN (sm (fun k => cn k * (hgF bw bh k + g)) k))), (3, .int (nI k))] → W p l e ({ frames := 1, cells := 0, slots := 0, locals := 30 }) s m ([.ref (a 0)] : List Value).toArray below meth c H locs 0 0 (MQ below (va_Qi (fun r (_ : Unit) => r = if ndF bw bh g cn = 0 ∨ (ndF bw bh g cn : Int) - g ≤ fr then 1 else 0) (wB D (va_A (w_M a cA ii li ia la) s.heap.size) (fun _ => w_M a cA ii li ia la)) (va_A (w_M a cA ii li ia la) s.heap.size)) ([.ref (a 0)] : List Value).toArray s 0 0 (va_A (w_M a cA ii li ia la) s.heap.size)) (F0 m 4 ls []) := by
    intro f
    induction f with
    | zero => intro k h; exact absurd h (Nat.not_lt_zero _)
    | succ f ih =>
      intro k hf hk H locs hP hD hS ls hl
      refine lv_iload_n hx hb d_M_isLow_4 rfl (lv_at hl 2 rfl) ?_
      refine lv_bipush (v := 8) hx hb d_M_isLow_5 (by decide) ?_
      refine lv_icmp_ge (tgt := 37) hx hb d_M_isLow_7 (by decide) (fun c3 => ?_) (fun c3 => ?_)
      · obtain rfl : k = 8 := by have := (nI_leI (a := 8) (by decide) (by omega)).mp c3; omega
        obtain ⟨N, hN⟩ : ∃ z, z = ndF bw bh g cn := ⟨_, rfl⟩
        have hN1 : sm (fun k => cn k * (hgF bw bh k + g)) 8 = N := hN.symm
        rw [hN1] at hl hb8
        refine lv_lload_n hx hb d_M_isLow_37 rfl (lv_at hl 1 rfl) ?_
        refine lv_lconst (v := 0) hx hb d_M_isLow_38 (by decide) ?_
        refine W.lcmp hx hb d_M_isLow_39 ?_
        refine lv_if_eq (tgt := 71) hx hb d_M_isLow_40 (by decide) (fun d4 => ?_) (fun d4 => ?_)
        · have h0 : N = 0 := by have h9 := (lg_cmp_eq _ _).mp d4; rw [← lZ_nat] at h9; have := (lZ_eq (a := (N : Int)) (b := 0) (by omega) (by omega) (by omega) (by omega)).mp h9; omega
          refine lv_iconst (v := 1) hx hb d_M_isLow_71 (by decide) ?_
          refine lv_goto (tgt := 76) hx hb d_M_isLow_72 (by decide) ?_
          exact w_zret hx hb hr rfl hlk hP hD hS () rfl (by rw [← hN, if_pos (Or.inl h0)]) d_M_isLow_76
        · have h0 : N ≠ 0 := fun z => d4 ((lg_cmp_eq _ _).mpr (by rw [z]; rfl))
          refine lv_lload_n hx hb d_M_isLow_43 rfl (lv_at hl 1 rfl) ?_
          refine lv_aload_n hx hb d_M_isLow_44 rfl (lv_at hl 0 rfl) ?_
          refine va_get (D := D) (ci := 1) (v := .long (li 11)) (C := R_M) (T := T_M) (N := 26) hx hb (uw_M Z.1 hg.1) (fun _ h => h) hown hK hP 0 rfl rfl 11 (by decide) (kw615 Z.1 _ _ hg.1) (fun _ h9 => h9) rfl d_M_isLow_45 ?_
          refine lv_topl (fun z5 ez5 => ?_)
          obtain rfl : z5 = (lN g) := by rw [ez5]; exact hg2
          refine lv_lsub hx hb d_M_isLow_48 ?_
          refine lv_topl (fun z6 ez6 => ?_)
          obtain rfl : z6 = (lZ ((N : Int) - g)) := by rw [ez6]; rw [← lZ_nat, ← lZ_nat]; exact lZ_sub _ _
          refine lv_aload_n hx hb d_M_isLow_49 rfl (lv_at hl 0 rfl) ?_
          refine va_get (D := D) (ci := 1) (v := .long (li 2)) (C := R_M) (T := T_M) (N := 26) hx hb (uw_M Z.1 hg.1) (fun _ h => h) hown hK hP 0 rfl rfl 2 (by decide) (kw606 Z.1 _ _ hg.1) (fun _ h9 => h9) rfl d_M_isLow_50 ?_
          refine lv_aload_n hx hb d_M_isLow_53 rfl (lv_at hl 0 rfl) ?_
          refine va_get (D := D) (ci := 1) (v := .ref (a 11)) (C := R_M) (T := T_M) (N := 26) hx hb (uw_M Z.1 hg.1) (fun _ h => h) hown hK hP 0 rfl rfl 10 (by decide) (kw614 Z.1 _ _ hg.1) (fun _ h9 => h9) rfl d_M_isLow_54 ?_
          refine lv_iconst (v := 1) hx hb d_M_isLow_57 (by decide) ?_
          refine lv_topi (fun z7 ez7 => ?_)
          obtain rfl : z7 = (nI 1) := by rw [ez7]; rfl
          refine va_lald hx hb hK hP 7 1 rfl rfl (vp_in_nI (n := 1) (N := 4) (by omega) (by decide)) d_M_isLow_58 ?_
          refine lv_topl (fun z8 ez8 => ?_)
          rw [nI_clamp (n := 1) (by omega)] at ez8
          obtain rfl : z8 = ((la 10) 1) := ez8
          refine lv_lsub hx hb d_M_isLow_59 ?_
          refine lv_aload_n hx hb d_M_isLow_60 rfl (lv_at hl 0 rfl) ?_
          refine va_get (D := D) (ci := 1) (v := .ref (a 11)) (C := R_M) (T := T_M) (N := 26) hx hb (uw_M Z.1 hg.1) (fun _ h => h) hown hK hP 0 rfl rfl 10 (by decide) (kw614 Z.1 _ _ hg.1) (fun _ h9 => h9) rfl d_M_isLow_61 ?_
          refine lv_iconst (v := 3) hx hb d_M_isLow_64 (by decide) ?_
          refine lv_topi (fun z9 ez9 => ?_)
          obtain rfl : z9 = (nI 3) := by rw [ez9]; rfl
          refine va_lald hx hb hK hP 7 1 rfl rfl (vp_in_nI (n := 3) (N := 4) (by omega) (by decide)) d_M_isLow_65 ?_
          refine lv_topl (fun z10 ez10 => ?_)
          rw [nI_clamp (n := 3) (by omega)] at ez10
          obtain rfl : z10 = ((la 10) 3) := ez10
          refine lv_lsub hx hb d_M_isLow_66 ?_
          refine lv_topl (fun z11 ez11 => ?_)
          obtain rfl : z11 = (lZ fr) := by rw [ez11]; exact hfr
          refine W.lcmp hx hb d_M_isLow_67 ?_
          refine lv_if_gt (tgt := 75) hx hb d_M_isLow_68 (by decide) (fun e12 => ?_) (fun e12 => ?_)
          · have h3 : ¬ (N : Int) - g ≤ fr := fun z => absurd ((lg_cmp_gt _ _).mp e12) (Int64.not_lt.mpr ((lZ_le (by omega) (by omega) (by omega) (by omega)).mpr z))
            refine lv_iconst (v := 0) hx hb d_M_isLow_75 (by decide) ?_
            exact w_zret hx hb hr rfl hlk hP hD hS () rfl (by rw [← hN, if_neg (fun z => z.elim h0 h3)]) d_M_isLow_76
          · have h3 : (N : Int) - g ≤ fr := (lZ_le (by omega) (by omega) (by omega) (by omega)).mp (Int64.not_lt.mp (fun z => e12 ((lg_cmp_gt _ _).mpr z)))
            refine lv_iconst (v := 1) hx hb d_M_isLow_71 (by decide) ?_
            refine lv_goto (tgt := 76) hx hb d_M_isLow_72 (by decide) ?_
            exact w_zret hx hb hr rfl hlk hP hD hS () rfl (by rw [← hN, if_pos (Or.inr h3)]) d_M_isLow_76
      · have hkn : k < 8 := Nat.lt_of_not_le (fun z => c3 ((nI_leI (a := 8) (by decide) (by omega)).mpr z))
        have hc1 := hcn k hkn
        refine lv_lload_n hx hb d_M_isLow_10 rfl (lv_at hl 1 rfl) ?_
        refine lv_aload_n hx hb d_M_isLow_11 rfl (lv_at hl 0 rfl) ?_
        refine va_get (D := D) (ci := 1) (v := .ref (a 23)) (C := R_M) (T := T_M) (N := 26) hx hb (uw_M Z.1 hg.1) (fun _ h => h) hown hK hP 0 rfl rfl 22 (by decide) (kw626 Z.1 _ _ hg.1) (fun _ h9 => h9) rfl d_M_isLow_12 ?_
        refine lv_iload_n hx hb d_M_isLow_15 rfl (lv_at hl 2 rfl) ?_
        refine va_iald hx hb hK hP 15 0 rfl rfl (vp_in_nI (n := k) (N := 8) (by omega) (by decide)) d_M_isLow_16 ?_
        refine lv_topi (fun z13 ez13 => ?_)
        rw [nI_clamp (n := k) (by omega)] at ez13
        obtain rfl : z13 = ((ia 22) k) := ez13
        refine lv_topi (fun z14 ez14 => ?_)
        obtain rfl : z14 = (nI (cn k)) := by rw [ez14]; exact hc1.1
        refine lv_i2l hx hb d_M_isLow_17 rfl ?_
        refine lv_topl (fun z15 ez15 => ?_)
        obtain rfl : z15 = (lN (cn k)) := by rw [ez15]; rw [iN_i2l (by omega), lZ_nat]
        refine lv_aload_n hx hb d_M_isLow_18 rfl (lv_at hl 0 rfl) ?_
        refine lv_iload_n hx hb d_M_isLow_19 rfl (lv_at hl 2 rfl) ?_
        refine w_calll (wr := ([] : va_W)) (w_runV (rest := [.long (lN (cn k)), .long (lN (sm (fun k => cn k * (hgF bw bh k + g)) k))]) hx hb hml hown hl.1 hg hlo hK hP hD hS (m_M_highOf Z a ii li ia la k hkn H.size) (kw764 Z.1) (kw766 Z.1) (kp_M_highOf Z.1) (kw767 Z.1) (kw6 Z.1) ⟨by decide, by decide, (by decide +kernel : (parseMethodDescriptor y_M_highOf.desc).map (fun d => d.parameters.length) = some 1)⟩ ⟨Nat.le_of_ble_eq_true rfl, Nat.le_of_ble_eq_true rfl⟩ [0, 1, 2, 3, 4, 5, 6, 7, 8, 9, 10, 11, 12, 13, 14, 15, 16] rfl rfl (ci := 1) (q0 := 0) rfl rfl rfl (Nat.le_of_ble_eq_true rfl) d_M_isLow_20 ⟨Nat.le_of_ble_eq_true rfl, Nat.le_of_ble_eq_true rfl⟩) hP hD hS hA [0, 1, 2, 3, 4, 5, 6, 7, 8, 9, 10, 11, 12, 13, 14, 15, 16] [] rfl rfl rfl (by decide) (fun _ => w_M a cA ii li ia la) [0, 1, 2, 3, 4, 5, 6, 7, 8, 9, 10, 11, 12, 13, 14, 15, 16] rfl (fun _ => rfl) (fun r1 u H locs hr1 hP hD hS => ?_)
        refine W.widen (k := 0) (n := 0) (Nat.le_of_ble_eq_true rfl) (Nat.le_of_ble_eq_true rfl) ?_
        obtain rfl : r1 = lN (hgF bw bh k) := by rw [hr1, hgF]; split; exact (hbh (k / 2) (by omega)).1; exact (hbw (k / 2) (by omega)).1
        refine lv_aload_n hx hb d_M_isLow_23 rfl (lv_at hl 0 rfl) ?_
        refine va_get (D := D) (ci := 1) (v := .long (li 11)) (C := R_M) (T := T_M) (N := 26) hx hb (uw_M Z.1 hg.1) (fun _ h => h) hown hK hP 0 rfl rfl 11 (by decide) (kw615 Z.1 _ _ hg.1) (fun _ h9 => h9) rfl d_M_isLow_24 ?_
        refine lv_topl (fun z16 ez16 => ?_)
        obtain rfl : z16 = (lN g) := by rw [ez16]; exact hg2
        refine lv_ladd hx hb d_M_isLow_27 ?_
        refine lv_topl (fun z17 ez17 => ?_)
        obtain rfl : z17 = (lN (hgF bw bh k + g)) := by rw [ez17]; rw [← lZ_nat, ← lZ_nat, ← lZ_nat]; exact lZ_add _ _
        refine lv_lmul hx hb d_M_isLow_28 ?_
        refine lv_topl (fun z18 ez18 => ?_)
        obtain rfl : z18 = (lN (cn k * (hgF bw bh k + g))) := by rw [ez18]; rw [← lZ_nat, ← lZ_nat, ← lZ_nat, Int.natCast_mul]; exact lZ_mul _ _
        refine lv_ladd hx hb d_M_isLow_29 ?_
        refine lv_topl (fun z19 ez19 => ?_)
        obtain rfl : z19 = (lN (sm (fun k => cn k * (hgF bw bh k + g)) (k + 1))) := by rw [ez19]; rw [sm, ← lZ_nat, ← lZ_nat, ← lZ_nat]; exact lZ_add _ _
        refine lv_lstore_n (lv' := [(1, .long (lN (sm (fun k => cn k * (hgF bw bh k + g)) (k + 1)))), (0, .ref (a 0)), (3, .int (nI k))]) hx hb d_M_isLow_30 rfl hl (by decide) rfl (fun ls hl => ?_)
        obtain ⟨v20, ev20⟩ : ∃ y : Int32, y = (nI k) + 1 := ⟨_, rfl⟩
        refine lv_iinc (v := v20) (lv' := [(3, .int v20), (1, .long (lN (sm (fun k => cn k * (hgF bw bh k + g)) (k + 1)))), (0, .ref (a 0))]) hx hb d_M_isLow_31 hl (k := 2) rfl (by rw [ev20]; rfl) (by decide) rfl (fun ls hl => ?_)
        refine lv_goto (tgt := 4) hx hb d_M_isLow_34 (by decide) ?_
        obtain rfl : v20 = nI (k + 1) := by rw [ev20]; exact nI_1 k
        exact ih (k + 1) (by omega) (by omega) _ _ hP hD hS ls (lv_sub hl [2, 1, 0] rfl)
  exact loop 9 0 (by omega) (by omega) _ _ hP hD hS ls (lv_sub hl [2, 1, 0] rfl)
