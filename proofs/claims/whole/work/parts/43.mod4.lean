def sm (f : Nat → Nat) : Nat → Nat
  | 0 => 0
  | k + 1 => sm f k + f k
theorem sm_le (f : Nat → Nat) {k : Nat} : ∀ n, k < n → f k ≤ sm f n := by
  intro n
  induction n with
  | zero => intro h; omega
  | succ n ih =>
    intro h
    rw [sm]
    rcases Nat.lt_or_ge k n with z | z
    · have := ih z; omega
    · obtain rfl : k = n := by omega
      omega
theorem sm_out (f : Nat → Nat) (k v : Nat) : ∀ n, n ≤ k → sm (va_up f k v) n = sm f n := by
  intro n
  induction n with
  | zero => intro _; rfl
  | succ n ih => intro h; rw [sm, sm, ih (by omega), up_n _ _ (by omega)]
theorem sm_up (f : Nat → Nat) (k v : Nat) : ∀ n, k < n → sm (va_up f k v) n + f k = sm f n + v := by
  intro n
  induction n with
  | zero => intro h; omega
  | succ n ih =>
    intro h
    rw [sm, sm]
    rcases Nat.lt_or_ge k n with z | z
    · have := ih z
      rw [up_n _ _ (by omega)]; omega
    · obtain rfl : k = n := by omega
      rw [up_s, sm_out f k v k (Nat.le_refl _)]; omega
/-- which of two is ahead, the first that differs decides -/
def ah (cn bs : Nat → Nat) : Nat → Nat → Bool
  | 0, _ => false
  | f + 1, k => if cn k = bs k then ah cn bs f (k + 1) else decide (bs k < cn k)
/-- the next numbers of rows, from kind k on; none when all are through -/
def gn (ft : Nat → Nat) (most : Nat) : Nat → Nat → (Nat → Nat) → Option (Nat → Nat)
  | 0, _, _ => none
  | f + 1, k, cn => if 0 < ft k ∧ sm cn 8 < most then some (va_up cn k (cn k + 1)) else gn ft most f (k + 1) (va_up cn k 0)
set_option maxHeartbeats 4000000 in
set_option maxRecDepth 100000 in
theorem m_M_rowsOf {l : Launch} {s0 : State} {D : va_G} {cA sa : Nat → Nat} (Z : zE l s0 D cA sa) (a : Nat → Nat) (ii : Nat → Int32) (li : Nat → Int64) (ia : Nat → Nat → Int32) (la : Nat → Nat → Int64) (cn : Nat → Nat) (hcn : ∀ k, k < 8 → ia 22 k = nI (cn k)) (sz : Nat) : Met l y_M_rowsOf [.code y_M_rowsOf c_M_rowsOf 3 (some .int)] ({ frames := 0, cells := 0, slots := 0, locals := 0 }) (wP s0 D [.ref (a 0)] (w_M a cA ii li ia la) sz) (va_Qi (fun r (_ : Unit) => r = nI (sm cn 8)) (wB D (va_A (w_M a cA ii li ia la) sz) (fun _ => w_M a cA ii li ia la)) (va_A (w_M a cA ii li ia la) sz)) 0 0 (va_A (w_M a cA ii li ia la) sz) := by
  refine wMet Z (by decide) (Nat.le_of_ble_eq_true rfl) ?_
  intro p e s m below meth c hx hb hr hml hown hlk hin hg hK hsz hP hD hA hlo hS ls hl
  subst hsz
  have hown : s.vm.findClass R_M = some m.cls := hown
  refine lv_iconst (v := 0) hx hb d_M_rowsOf_0 (by decide) ?_
  refine lv_topi (fun z1 ez1 => ?_)
  obtain rfl : z1 = (nI (sm cn 0)) := by rw [ez1]; rfl
  refine lv_istore_n (lv' := [(1, .int (nI (sm cn 0))), (0, .ref (a 0))]) hx hb d_M_rowsOf_1 rfl hl (by decide) rfl (fun ls hl => ?_)
  refine lv_iconst (v := 0) hx hb d_M_rowsOf_2 (by decide) ?_
  refine lv_topi (fun z2 ez2 => ?_)
  obtain rfl : z2 = (nI 0) := by rw [ez2]; rfl
  refine lv_istore_n (lv' := [(2, .int (nI 0)), (1, .int (nI (sm cn 0))), (0, .ref (a 0))]) hx hb d_M_rowsOf_3 rfl hl (by decide) rfl (fun ls hl => ?_)
  have loop : ∀ (f : Nat) (k : Nat), 8 - k < f → k ≤ 8 → ∀ (H : Heap) (locs : List Loc), va_P D ncl (w_M a cA ii li ia la) H → va_D (va_A (w_M a cA ii li ia la) s.heap.size) (w_M a cA ii li ia la) → va_S (va_A (w_M a cA ii li ia la) s.heap.size) s.heap H locs → ∀ (ls : Array Slot), lv_has ls 3 [(0, .ref (a 0)), (1, .int (nI (sm cn k))), (2, .int (nI k))] → W p l e ({ frames := 0, cells := 0, slots := 0, locals := 0 }) s m ([.ref (a 0)] : List Value).toArray below meth c H locs 0 0 (MQ below (va_Qi (fun r (_ : Unit) => r = nI (sm cn 8)) (wB D (va_A (w_M a cA ii li ia la) s.heap.size) (fun _ => w_M a cA ii li ia la)) (va_A (w_M a cA ii li ia la) s.heap.size)) ([.ref (a 0)] : List Value).toArray s 0 0 (va_A (w_M a cA ii li ia la) s.heap.size)) (F0 m 4 ls []) := by
    intro f
    induction f with
    | zero => intro k h; exact absurd h (Nat.not_lt_zero _)
    | succ f ih =>
      intro k hf hk H locs hP hD hS ls hl
      refine lv_iload_n hx hb d_M_rowsOf_4 rfl (lv_at hl 2 rfl) ?_
      refine lv_bipush (v := 8) hx hb d_M_rowsOf_5 (by decide) ?_
      refine lv_icmp_ge (tgt := 25) hx hb d_M_rowsOf_7 (by decide) (fun c3 => ?_) (fun c3 => ?_)
      · obtain rfl : k = 8 := by have := (nI_leI (a := 8) (by decide) (by omega)).mp c3; omega
        refine lv_iload_n hx hb d_M_rowsOf_25 rfl (lv_at hl 1 rfl) ?_
        exact w_iret hx hb hr hlk hP hD hS () rfl rfl d_M_rowsOf_26
      · have hkn : k < 8 := Nat.lt_of_not_le (fun z => c3 ((nI_leI (a := 8) (by decide) (by omega)).mpr z))
        refine lv_iload_n hx hb d_M_rowsOf_10 rfl (lv_at hl 1 rfl) ?_
        refine lv_aload_n hx hb d_M_rowsOf_11 rfl (lv_at hl 0 rfl) ?_
        refine va_get (D := D) (ci := 1) (v := .ref (a 23)) (C := R_M) (T := T_M) (N := 26) hx hb (uw_M Z.1 hg.1) (fun _ h => h) hown hK hP 0 rfl rfl 22 (by decide) (kw626 Z.1 _ _ hg.1) (fun _ h9 => h9) rfl d_M_rowsOf_12 ?_
        refine lv_iload_n hx hb d_M_rowsOf_15 rfl (lv_at hl 2 rfl) ?_
        refine va_iald hx hb hK hP 15 0 rfl rfl (vp_in_nI (n := k) (N := 8) (by omega) (by decide)) d_M_rowsOf_16 ?_
        refine lv_topi (fun z4 ez4 => ?_)
        rw [nI_clamp (n := k) (by omega)] at ez4
        obtain rfl : z4 = ((ia 22) k) := ez4
        refine lv_topi (fun z5 ez5 => ?_)
        obtain rfl : z5 = (nI (cn k)) := by rw [ez5]; exact hcn k hkn
        refine lv_iadd hx hb d_M_rowsOf_17 ?_
        refine lv_topi (fun z6 ez6 => ?_)
        obtain rfl : z6 = (nI (sm cn (k + 1))) := by rw [ez6]; exact nI_add _ _
        refine lv_istore_n (lv' := [(1, .int (nI (sm cn (k + 1)))), (0, .ref (a 0)), (2, .int (nI k))]) hx hb d_M_rowsOf_18 rfl hl (by decide) rfl (fun ls hl => ?_)
        obtain ⟨v7, ev7⟩ : ∃ y : Int32, y = (nI k) + 1 := ⟨_, rfl⟩
        refine lv_iinc (v := v7) (lv' := [(2, .int v7), (1, .int (nI (sm cn (k + 1)))), (0, .ref (a 0))]) hx hb d_M_rowsOf_19 hl (k := 2) rfl (by rw [ev7]; rfl) (by decide) rfl (fun ls hl => ?_)
        refine lv_goto (tgt := 4) hx hb d_M_rowsOf_22 (by decide) ?_
        obtain rfl : v7 = nI (k + 1) := by rw [ev7]; exact nI_1 k
        exact ih (k + 1) (by omega) (by omega) _ _ hP hD hS ls (lv_sub hl [2, 1, 0] rfl)
  exact loop 9 0 (by omega) (by omega) _ _ hP hD hS ls (lv_sub hl [2, 1, 0] rfl)
set_option maxHeartbeats 4000000 in
set_option maxRecDepth 100000 in
theorem m_M_isAhead {l : Launch} {s0 : State} {D : va_G} {cA sa : Nat → Nat} (Z : zE l s0 D cA sa) (a : Nat → Nat) (ii : Nat → Int32) (li : Nat → Int64) (ia : Nat → Nat → Int32) (la : Nat → Nat → Int64) (cn bs : Nat → Nat) (hcn : ∀ k, k < 8 → ia 22 k = nI (cn k) ∧ cn k ≤ 1000) (hbs : ∀ k, k < 8 → ia 23 k = nI (bs k) ∧ bs k ≤ 1000) (sz : Nat) : Met l y_M_isAhead [.code y_M_isAhead c_M_isAhead 2 (some .boolean)] ({ frames := 0, cells := 0, slots := 0, locals := 0 }) (wP s0 D [.ref (a 0)] (w_M a cA ii li ia la) sz) (va_Qi (fun r (_ : Unit) => r = if ah cn bs 8 0 = true then 1 else 0) (wB D (va_A (w_M a cA ii li ia la) sz) (fun _ => w_M a cA ii li ia la)) (va_A (w_M a cA ii li ia la) sz)) 0 0 (va_A (w_M a cA ii li ia la) sz) := by
  refine wMet Z (by decide) (Nat.le_of_ble_eq_true rfl) ?_
  intro p e s m below meth c hx hb hr hml hown hlk hin hg hK hsz hP hD hA hlo hS ls hl
  subst hsz
  have hown : s.vm.findClass R_M = some m.cls := hown
  refine lv_iconst (v := 0) hx hb d_M_isAhead_0 (by decide) ?_
  refine lv_topi (fun z1 ez1 => ?_)
  obtain rfl : z1 = (nI 0) := by rw [ez1]; rfl
  refine lv_istore_n (lv' := [(1, .int (nI 0)), (0, .ref (a 0))]) hx hb d_M_isAhead_1 rfl hl (by decide) rfl (fun ls hl => ?_)
  have loop : ∀ (f : Nat) (k : Nat), 8 - k < f → k ≤ 8 → ah cn bs (8 - k) k = ah cn bs 8 0 → ∀ (H : Heap) (locs : List Loc), va_P D ncl (w_M a cA ii li ia la) H → va_D (va_A (w_M a cA ii li ia la) s.heap.size) (w_M a cA ii li ia la) → va_S (va_A (w_M a cA ii li ia la) s.heap.size) s.heap H locs → ∀ (ls : Array Slot), lv_has ls 2 [(0, .ref (a 0)), (1, .int (nI k))] → W p l e ({ frames := 0, cells := 0, slots := 0, locals := 0 }) s m ([.ref (a 0)] : List Value).toArray below meth c H locs 0 0 (MQ below (va_Qi (fun r (_ : Unit) => r = if ah cn bs 8 0 = true then 1 else 0) (wB D (va_A (w_M a cA ii li ia la) s.heap.size) (fun _ => w_M a cA ii li ia la)) (va_A (w_M a cA ii li ia la) s.heap.size)) ([.ref (a 0)] : List Value).toArray s 0 0 (va_A (w_M a cA ii li ia la) s.heap.size)) (F0 m 2 ls []) := by
    intro f
    induction f with
    | zero => intro k h; exact absurd h (Nat.not_lt_zero _)
    | succ f ih =>
      intro k hf hk hah H locs hP hD hS ls hl
      refine lv_iload_n hx hb d_M_isAhead_2 rfl (lv_at hl 1 rfl) ?_
      refine lv_bipush (v := 8) hx hb d_M_isAhead_3 (by decide) ?_
      refine lv_icmp_ge (tgt := 50) hx hb d_M_isAhead_5 (by decide) (fun c2 => ?_) (fun c2 => ?_)
      · obtain rfl : k = 8 := by have := (nI_leI (a := 8) (by decide) (by omega)).mp c2; omega
        refine lv_iconst (v := 0) hx hb d_M_isAhead_50 (by decide) ?_
        exact w_zret hx hb hr rfl hlk hP hD hS () rfl (by rw [← hah]; rfl) d_M_isAhead_51
      · have hkn : k < 8 := Nat.lt_of_not_le (fun z => c2 ((nI_leI (a := 8) (by decide) (by omega)).mpr z))
        have hc1 := hcn k hkn
        have hb1 := hbs k hkn
        rw [show 8 - k = (7 - k) + 1 by omega, ah] at hah
        refine lv_aload_n hx hb d_M_isAhead_8 rfl (lv_at hl 0 rfl) ?_
        refine va_get (D := D) (ci := 1) (v := .ref (a 23)) (C := R_M) (T := T_M) (N := 26) hx hb (uw_M Z.1 hg.1) (fun _ h => h) hown hK hP 0 rfl rfl 22 (by decide) (kw626 Z.1 _ _ hg.1) (fun _ h9 => h9) rfl d_M_isAhead_9 ?_
        refine lv_iload_n hx hb d_M_isAhead_12 rfl (lv_at hl 1 rfl) ?_
        refine va_iald hx hb hK hP 15 0 rfl rfl (vp_in_nI (n := k) (N := 8) (by omega) (by decide)) d_M_isAhead_13 ?_
        refine lv_topi (fun z3 ez3 => ?_)
        rw [nI_clamp (n := k) (by omega)] at ez3
        obtain rfl : z3 = ((ia 22) k) := ez3
        refine lv_topi (fun z4 ez4 => ?_)
        obtain rfl : z4 = (nI (cn k)) := by rw [ez4]; exact hc1.1
        refine lv_aload_n hx hb d_M_isAhead_14 rfl (lv_at hl 0 rfl) ?_
        refine va_get (D := D) (ci := 1) (v := .ref (a 24)) (C := R_M) (T := T_M) (N := 26) hx hb (uw_M Z.1 hg.1) (fun _ h => h) hown hK hP 0 rfl rfl 23 (by decide) (kw627 Z.1 _ _ hg.1) (fun _ h9 => h9) rfl d_M_isAhead_15 ?_
        refine lv_iload_n hx hb d_M_isAhead_18 rfl (lv_at hl 1 rfl) ?_
        refine va_iald hx hb hK hP 16 0 rfl rfl (vp_in_nI (n := k) (N := 8) (by omega) (by decide)) d_M_isAhead_19 ?_
        refine lv_topi (fun z5 ez5 => ?_)
        rw [nI_clamp (n := k) (by omega)] at ez5
        obtain rfl : z5 = ((ia 23) k) := ez5
        refine lv_topi (fun z6 ez6 => ?_)
        obtain rfl : z6 = (nI (bs k)) := by rw [ez6]; exact hb1.1
        refine lv_icmp_eq (tgt := 44) hx hb d_M_isAhead_20 (by decide) (fun d7 => ?_) (fun d7 => ?_)
        · have he := (nI_eq (by omega) (by omega)).mp d7
          rw [if_pos he] at hah
          obtain ⟨v8, ev8⟩ : ∃ y : Int32, y = (nI k) + 1 := ⟨_, rfl⟩
          refine lv_iinc (v := v8) (lv' := [(1, .int v8), (0, .ref (a 0))]) hx hb d_M_isAhead_44 hl (k := 1) rfl (by rw [ev8]; rfl) (by decide) rfl (fun ls hl => ?_)
          refine lv_goto (tgt := 2) hx hb d_M_isAhead_47 (by decide) ?_
          obtain rfl : v8 = nI (k + 1) := by rw [ev8]; exact nI_1 k
          exact ih (k + 1) (by omega) (by omega) (by rw [show 8 - (k + 1) = 7 - k by omega]; exact hah) _ _ hP hD hS ls (lv_sub hl [1, 0] rfl)
        · have hne : ¬ cn k = bs k := fun z => d7 (by rw [z])
          rw [if_neg hne] at hah
          refine lv_aload_n hx hb d_M_isAhead_23 rfl (lv_at hl 0 rfl) ?_
          refine va_get (D := D) (ci := 1) (v := .ref (a 23)) (C := R_M) (T := T_M) (N := 26) hx hb (uw_M Z.1 hg.1) (fun _ h => h) hown hK hP 0 rfl rfl 22 (by decide) (kw626 Z.1 _ _ hg.1) (fun _ h9 => h9) rfl d_M_isAhead_24 ?_
          refine lv_iload_n hx hb d_M_isAhead_27 rfl (lv_at hl 1 rfl) ?_
          refine va_iald hx hb hK hP 15 0 rfl rfl (vp_in_nI (n := k) (N := 8) (by omega) (by decide)) d_M_isAhead_28 ?_
          refine lv_topi (fun z9 ez9 => ?_)
          rw [nI_clamp (n := k) (by omega)] at ez9
          obtain rfl : z9 = ((ia 22) k) := ez9
          refine lv_topi (fun z10 ez10 => ?_)
          obtain rfl : z10 = (nI (cn k)) := by rw [ez10]; exact hc1.1
          refine lv_aload_n hx hb d_M_isAhead_29 rfl (lv_at hl 0 rfl) ?_
          refine va_get (D := D) (ci := 1) (v := .ref (a 24)) (C := R_M) (T := T_M) (N := 26) hx hb (uw_M Z.1 hg.1) (fun _ h => h) hown hK hP 0 rfl rfl 23 (by decide) (kw627 Z.1 _ _ hg.1) (fun _ h9 => h9) rfl d_M_isAhead_30 ?_
          refine lv_iload_n hx hb d_M_isAhead_33 rfl (lv_at hl 1 rfl) ?_
          refine va_iald hx hb hK hP 16 0 rfl rfl (vp_in_nI (n := k) (N := 8) (by omega) (by decide)) d_M_isAhead_34 ?_
          refine lv_topi (fun z11 ez11 => ?_)
          rw [nI_clamp (n := k) (by omega)] at ez11
          obtain rfl : z11 = ((ia 23) k) := ez11
          refine lv_topi (fun z12 ez12 => ?_)
          obtain rfl : z12 = (nI (bs k)) := by rw [ez12]; exact hb1.1
          refine lv_icmp_le (tgt := 42) hx hb d_M_isAhead_35 (by decide) (fun g13 => ?_) (fun g13 => ?_)
          · have h1 := (nI_leI (by omega) (by omega)).mp g13
            refine lv_iconst (v := 0) hx hb d_M_isAhead_42 (by decide) ?_
            exact w_zret hx hb hr rfl hlk hP hD hS () rfl (by rw [← hah, if_neg]; intro z; have := of_decide_eq_true z; omega) d_M_isAhead_43
          · have h1 : bs k < cn k := Nat.lt_of_not_le (fun z => g13 ((nI_leI (by omega) (by omega)).mpr z))
            refine lv_iconst (v := 1) hx hb d_M_isAhead_38 (by decide) ?_
            refine lv_goto (tgt := 43) hx hb d_M_isAhead_39 (by decide) ?_
            exact w_zret hx hb hr rfl hlk hP hD hS () rfl (by rw [← hah, if_pos (decide_eq_true h1)]) d_M_isAhead_43
  exact loop 9 0 (by omega) (by omega) rfl _ _ hP hD hS ls (lv_sub hl [1, 0] rfl)
set_option maxHeartbeats 4000000 in
set_option maxRecDepth 100000 in
theorem m_M_goOn {l : Launch} {s0 : State} {D : va_G} {cA sa : Nat → Nat} (Z : zE l s0 D cA sa) (a : Nat → Nat) (ii : Nat → Int32) (li : Nat → Int64) (ia : Nat → Nat → Int32) (la : Nat → Nat → Int64) (cn ft : Nat → Nat) (mo : Nat) (hcn : ∀ k, k < 8 → ia 22 k = nI (cn k)) (hft : ∀ k, k < 8 → ia 21 k = nI (ft k) ∧ ft k ≤ 20) (hs : sm cn 8 ≤ 9) (hm : mo ≤ 9) (sz : Nat) : Met l y_M_goOn [.code y_M_goOn c_M_goOn 3 (some .boolean)] ({ frames := 1, cells := 0, slots := 0, locals := 40 }) (wP s0 D [.ref (a 0), .int (nI mo)] (w_M a cA ii li ia la) sz) (va_Qi (fun (r : Int32) (u : Nat → Nat → Int32) => (∀ z, z ≠ 22 → u z = ia z) ∧ ∃ c2, (∀ k, k < 8 → u 22 k = nI (c2 k)) ∧ sm c2 8 ≤ 9 ∧ ((r = 1 ∧ gn ft mo 8 0 cn = some c2) ∨ (r = 0 ∧ gn ft mo 8 0 cn = none))) (wB D (va_A (w_M a cA ii li ia la) sz) (fun u => w_M a cA ii li u la)) (va_A (w_M a cA ii li ia la) sz)) 0 0 (va_A (w_M a cA ii li ia la) sz) := by
  refine wMet Z (by decide) (Nat.le_of_ble_eq_true rfl) ?_
  intro p e s m below meth c hx hb hr hml hown hlk hin hg hK hsz hP hD hA hlo hS ls hl
  subst hsz
  have hown : s.vm.findClass R_M = some m.cls := hown
  refine lv_iconst (v := 0) hx hb d_M_goOn_0 (by decide) ?_
  refine lv_topi (fun z1 ez1 => ?_)
  obtain rfl : z1 = (nI 0) := by rw [ez1]; rfl
  refine lv_istore_n (lv' := [(2, .int (nI 0)), (0, .ref (a 0)), (1, .int (nI mo))]) hx hb d_M_goOn_1 rfl hl (by decide) rfl (fun ls hl => ?_)
  have loop : ∀ (f : Nat) (k : Nat) (ib : Nat → Nat → Int32) (c1 : Nat → Nat), 8 - k < f → k ≤ 8 → (∀ z, z ≠ 22 → ib z = ia z) → (∀ j, j < 8 → ib 22 j = nI (c1 j)) → sm c1 8 ≤ 9 → gn ft mo (8 - k) k c1 = gn ft mo 8 0 cn → ∀ (H : Heap) (locs : List Loc), va_P D ncl (w_M a cA ii li ib la) H → va_D (va_A (w_M a cA ii li ia la) s.heap.size) (w_M a cA ii li ib la) → va_S (va_A (w_M a cA ii li ia la) s.heap.size) s.heap H locs → ∀ (ls : Array Slot), lv_has ls 3 [(0, .ref (a 0)), (1, .int (nI mo)), (2, .int (nI k))] → W p l e ({ frames := 1, cells := 0, slots := 0, locals := 40 }) s m ([.ref (a 0), .int (nI mo)] : List Value).toArray below meth c H locs 0 0 (MQ below (va_Qi (fun (r : Int32) (u : Nat → Nat → Int32) => (∀ z, z ≠ 22 → u z = ia z) ∧ ∃ c2, (∀ k, k < 8 → u 22 k = nI (c2 k)) ∧ sm c2 8 ≤ 9 ∧ ((r = 1 ∧ gn ft mo 8 0 cn = some c2) ∨ (r = 0 ∧ gn ft mo 8 0 cn = none))) (wB D (va_A (w_M a cA ii li ia la) s.heap.size) (fun u => w_M a cA ii li u la)) (va_A (w_M a cA ii li ia la) s.heap.size)) ([.ref (a 0), .int (nI mo)] : List Value).toArray s 0 0 (va_A (w_M a cA ii li ia la) s.heap.size)) (F0 m 2 ls []) := by
    intro f
    induction f with
    | zero => intro k ib c1 h; exact absurd h (Nat.not_lt_zero _)
    | succ f ih =>
      intro k ib c1 hf hk h1 h2 h3 h4 H locs hP hD hS ls hl
      refine lv_iload_n hx hb d_M_goOn_2 rfl (lv_at hl 2 rfl) ?_
      refine lv_bipush (v := 8) hx hb d_M_goOn_3 (by decide) ?_
      refine lv_icmp_ge (tgt := 50) hx hb d_M_goOn_5 (by decide) (fun c2 => ?_) (fun c2 => ?_)
      · obtain rfl : k = 8 := by have := (nI_leI (a := 8) (by decide) (by omega)).mp c2; omega
        refine lv_iconst (v := 0) hx hb d_M_goOn_50 (by decide) ?_
        exact w_zret hx hb hr rfl hlk hP hD hS ib rfl ⟨h1, c1, h2, h3, Or.inr ⟨rfl, by rw [← h4]; rfl⟩⟩ d_M_goOn_51
      · have hkn : k < 8 := Nat.lt_of_not_le (fun z => c2 ((nI_leI (a := 8) (by decide) (by omega)).mpr z))
        have hf1 := hft k hkn
        rw [show 8 - k = (7 - k) + 1 by omega, gn] at h4
        have hck := sm_le c1 8 hkn
        have hupz := sm_up c1 k 0 8 hkn
        have hup1 := sm_up c1 k (c1 k + 1) 8 hkn
        refine lv_aload_n hx hb d_M_goOn_8 rfl (lv_at hl 0 rfl) ?_
        refine va_get (D := D) (ci := 1) (v := .ref (a 22)) (C := R_M) (T := T_M) (N := 26) hx hb (uw_M Z.1 hg.1) (fun _ h => h) hown hK hP 0 rfl rfl 21 (by decide) (kw625 Z.1 _ _ hg.1) (fun _ h9 => h9) rfl d_M_goOn_9 ?_
        refine lv_iload_n hx hb d_M_goOn_12 rfl (lv_at hl 2 rfl) ?_
        refine va_iald hx hb hK hP 14 0 rfl rfl (vp_in_nI (n := k) (N := 8) (by omega) (by decide)) d_M_goOn_13 ?_
        refine lv_topi (fun z3 ez3 => ?_)
        rw [nI_clamp (n := k) (by omega)] at ez3
        obtain rfl : z3 = ((ib 21) k) := ez3
        refine lv_topi (fun z4 ez4 => ?_)
        obtain rfl : z4 = (nI (ft k)) := by rw [ez4]; rw [h1 21 (by decide)]; exact hf1.1
        refine lv_if_le (tgt := 37) hx hb d_M_goOn_14 (by decide) (fun d5 => ?_) (fun d5 => ?_)
        · have hz0 : ft k = 0 := by have := (nI_leI (b := 0) (by omega) (by decide)).mp d5; omega
          rw [if_neg (fun z => by omega)] at h4
          refine lv_aload_n hx hb d_M_goOn_37 rfl (lv_at hl 0 rfl) ?_
          refine va_get (D := D) (ci := 1) (v := .ref (a 23)) (C := R_M) (T := T_M) (N := 26) hx hb (uw_M Z.1 hg.1) (fun _ h => h) hown hK hP 0 rfl rfl 22 (by decide) (kw626 Z.1 _ _ hg.1) (fun _ h9 => h9) rfl d_M_goOn_38 ?_
          refine lv_iload_n hx hb d_M_goOn_41 rfl (lv_at hl 2 rfl) ?_
          refine lv_iconst (v := 0) hx hb d_M_goOn_42 (by decide) ?_
          refine lv_topi (fun z6 ez6 => ?_)
          obtain rfl : z6 = (nI 0) := by rw [ez6]; rfl
          refine va_iast hx hb hK hP hD hS 15 0 rfl rfl (vp_in_nI (n := k) (N := 8) (by omega) (by decide)) d_M_goOn_43 (fun H locs hP hD hS => ?_)
          rw [nI_clamp (n := k) (by omega)] at hP hD
          have hP : va_P D ncl (w_M a cA ii li (va_up ib 22 (upd (ib 22) k (nI 0))) la) H := hP
          have hD : va_D _ (w_M a cA ii li (va_up ib 22 (upd (ib 22) k (nI 0))) la) := hD
          obtain ⟨v7, ev7⟩ : ∃ y : Int32, y = (nI k) + 1 := ⟨_, rfl⟩
          refine lv_iinc (v := v7) (lv' := [(2, .int v7), (0, .ref (a 0)), (1, .int (nI mo))]) hx hb d_M_goOn_44 hl (k := 2) rfl (by rw [ev7]; rfl) (by decide) rfl (fun ls hl => ?_)
          refine lv_goto (tgt := 2) hx hb d_M_goOn_47 (by decide) ?_
          obtain rfl : v7 = nI (k + 1) := by rw [ev7]; exact nI_1 k
          exact ih (k + 1) _ (va_up c1 k 0) (by omega) (by omega) (fun z hz => by rw [up_n _ _ hz]; exact h1 z hz) (fun j hj => by rw [up_s]; by_cases hz : j = k; (subst hz; rw [upd_s, up_s]); rw [upd_n _ _ hz, up_n _ _ hz]; exact h2 j hj) (by omega) (by rw [show 8 - (k + 1) = 7 - k by omega]; exact h4) _ _ hP hD hS ls (lv_sub hl [1, 2, 0] rfl)
        · have hz0 : 0 < ft k := Nat.lt_of_not_le (fun z => d5 ((nI_leI (b := 0) (by omega) (by decide)).mpr z))
          refine lv_aload_n hx hb d_M_goOn_17 rfl (lv_at hl 0 rfl) ?_
          refine w_calli (wr := ([] : va_W)) (w_runV (rest := []) hx hb hml hown hl.1 hg hlo hK hP hD hS (m_M_rowsOf Z a ii li ib la c1 h2 H.size) (kw748 Z.1) (kw750 Z.1) (kp_M_rowsOf Z.1) (kw751 Z.1) (kw6 Z.1) ⟨by decide, by decide, (by decide +kernel : (parseMethodDescriptor y_M_rowsOf.desc).map (fun d => d.parameters.length) = some 0)⟩ ⟨Nat.le_of_ble_eq_true rfl, Nat.le_of_ble_eq_true rfl⟩ [0, 1, 2, 3, 4, 5, 6, 7, 8, 9, 10, 11, 12, 13, 14, 15, 16] rfl rfl (ci := 1) (q0 := 0) rfl rfl rfl (Nat.le_of_ble_eq_true rfl) d_M_goOn_18 ⟨Nat.le_of_ble_eq_true rfl, Nat.le_of_ble_eq_true rfl⟩) hP hD hS hA [0, 1, 2, 3, 4, 5, 6, 7, 8, 9, 10, 11, 12, 13, 14, 15, 16] [] rfl rfl rfl (by decide) (fun _ => w_M a cA ii li ib la) [0, 1, 2, 3, 4, 5, 6, 7, 8, 9, 10, 11, 12, 13, 14, 15, 16] rfl (fun _ => rfl) (fun r1 u H locs hr1 hP hD hS => ?_)
          refine W.widen (k := 0) (n := 0) (Nat.le_of_ble_eq_true rfl) (Nat.le_of_ble_eq_true rfl) ?_
          subst hr1
          refine lv_iload_n hx hb d_M_goOn_21 rfl (lv_at hl 1 rfl) ?_
          refine lv_icmp_ge (tgt := 37) hx hb d_M_goOn_22 (by decide) (fun g8 => ?_) (fun g8 => ?_)
          · have h5 := (nI_leI (by omega) (by omega)).mp g8
            rw [if_neg (fun z => by omega)] at h4
            refine lv_aload_n hx hb d_M_goOn_37 rfl (lv_at hl 0 rfl) ?_
            refine va_get (D := D) (ci := 1) (v := .ref (a 23)) (C := R_M) (T := T_M) (N := 26) hx hb (uw_M Z.1 hg.1) (fun _ h => h) hown hK hP 0 rfl rfl 22 (by decide) (kw626 Z.1 _ _ hg.1) (fun _ h9 => h9) rfl d_M_goOn_38 ?_
            refine lv_iload_n hx hb d_M_goOn_41 rfl (lv_at hl 2 rfl) ?_
            refine lv_iconst (v := 0) hx hb d_M_goOn_42 (by decide) ?_
            refine lv_topi (fun z9 ez9 => ?_)
            obtain rfl : z9 = (nI 0) := by rw [ez9]; rfl
            refine va_iast hx hb hK hP hD hS 15 0 rfl rfl (vp_in_nI (n := k) (N := 8) (by omega) (by decide)) d_M_goOn_43 (fun H locs hP hD hS => ?_)
            rw [nI_clamp (n := k) (by omega)] at hP hD
            have hP : va_P D ncl (w_M a cA ii li (va_up ib 22 (upd (ib 22) k (nI 0))) la) H := hP
            have hD : va_D _ (w_M a cA ii li (va_up ib 22 (upd (ib 22) k (nI 0))) la) := hD
            obtain ⟨v10, ev10⟩ : ∃ y : Int32, y = (nI k) + 1 := ⟨_, rfl⟩
            refine lv_iinc (v := v10) (lv' := [(2, .int v10), (0, .ref (a 0)), (1, .int (nI mo))]) hx hb d_M_goOn_44 hl (k := 2) rfl (by rw [ev10]; rfl) (by decide) rfl (fun ls hl => ?_)
            refine lv_goto (tgt := 2) hx hb d_M_goOn_47 (by decide) ?_
            obtain rfl : v10 = nI (k + 1) := by rw [ev10]; exact nI_1 k
            exact ih (k + 1) _ (va_up c1 k 0) (by omega) (by omega) (fun z hz => by rw [up_n _ _ hz]; exact h1 z hz) (fun j hj => by rw [up_s]; by_cases hz : j = k; (subst hz; rw [upd_s, up_s]); rw [upd_n _ _ hz, up_n _ _ hz]; exact h2 j hj) (by omega) (by rw [show 8 - (k + 1) = 7 - k by omega]; exact h4) _ _ hP hD hS ls (lv_sub hl [1, 2, 0] rfl)
          · have h5 : sm c1 8 < mo := Nat.lt_of_not_le (fun z => g8 ((nI_leI (by omega) (by omega)).mpr z))
            rw [if_pos ⟨hz0, h5⟩] at h4
            refine lv_aload_n hx hb d_M_goOn_25 rfl (lv_at hl 0 rfl) ?_
            refine va_get (D := D) (ci := 1) (v := .ref (a 23)) (C := R_M) (T := T_M) (N := 26) hx hb (uw_M Z.1 hg.1) (fun _ h => h) hown hK hP 0 rfl rfl 22 (by decide) (kw626 Z.1 _ _ hg.1) (fun _ h9 => h9) rfl d_M_goOn_26 ?_
            refine lv_iload_n hx hb d_M_goOn_29 rfl (lv_at hl 2 rfl) ?_
            refine lv_dup2_11 hx hb d_M_goOn_30 rfl rfl ?_
            refine va_iald hx hb hK hP 15 0 rfl rfl (vp_in_nI (n := k) (N := 8) (by omega) (by decide)) d_M_goOn_31 ?_
            refine lv_topi (fun z11 ez11 => ?_)
            rw [nI_clamp (n := k) (by omega)] at ez11
            obtain rfl : z11 = ((ib 22) k) := ez11
            refine lv_topi (fun z12 ez12 => ?_)
            obtain rfl : z12 = (nI (c1 k)) := by rw [ez12]; exact h2 k hkn
            refine lv_iconst (v := 1) hx hb d_M_goOn_32 (by decide) ?_
            refine lv_iadd hx hb d_M_goOn_33 ?_
            refine lv_topi (fun z13 ez13 => ?_)
            obtain rfl : z13 = (nI (c1 k + 1)) := by rw [ez13]; exact nI_1 _
            refine va_iast hx hb hK hP hD hS 15 0 rfl rfl (vp_in_nI (n := k) (N := 8) (by omega) (by decide)) d_M_goOn_34 (fun H locs hP hD hS => ?_)
            rw [nI_clamp (n := k) (by omega)] at hP hD
            have hP : va_P D ncl (w_M a cA ii li (va_up ib 22 (upd (ib 22) k (nI (c1 k + 1)))) la) H := hP
            have hD : va_D _ (w_M a cA ii li (va_up ib 22 (upd (ib 22) k (nI (c1 k + 1)))) la) := hD
            refine lv_iconst (v := 1) hx hb d_M_goOn_35 (by decide) ?_
            exact w_zret hx hb hr rfl hlk hP hD hS (va_up ib 22 (upd (ib 22) k (nI (c1 k + 1)))) rfl ⟨fun z hz => by rw [up_n _ _ hz]; exact h1 z hz, va_up c1 k (c1 k + 1), fun j hj => by rw [up_s]; by_cases hz : j = k; (subst hz; rw [upd_s, up_s]); rw [upd_n _ _ hz, up_n _ _ hz]; exact h2 j hj, by omega, Or.inl ⟨rfl, h4.symm⟩⟩ d_M_goOn_36
  exact loop 9 0 ia cn (by omega) (by omega) (fun _ _ => rfl) hcn hs rfl _ _ hP hD hS ls (lv_sub hl [1, 2, 0] rfl)
