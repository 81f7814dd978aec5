/-- rows by their kinds, of the kinds' numbers -/
def rwF (cn : Nat → Nat) : Nat → Nat → List Nat
  | 0, _ => []
  | f + 1, k => List.replicate (cn k) k ++ rwF cn f (k + 1)
/-- the copies of rows by their kinds; none where a row has none -/
def cpF (ft : Nat → Nat) : List Nat → (Nat → Nat) → Nat → Option Nat
  | [], _, al => some al
  | k :: ks, wl, al => if min (ft k) (wl (k / 2)) = 0 then none else cpF ft ks (va_up wl (k / 2) (wl (k / 2) - min (ft k) (wl (k / 2)))) (al + min (ft k) (wl (k / 2)))
def rmn (cn : Nat → Nat) (k r : Nat) : List Nat := List.replicate (cn k - r) k ++ rwF cn (7 - k) (k + 1)
theorem rmn_s (cn : Nat → Nat) {k r : Nat} (h : r < cn k) : rmn cn k r = k :: rmn cn k (r + 1) := by
  unfold rmn
  rw [show cn k - r = (cn k - (r + 1)) + 1 by omega, List.replicate_succ]; rfl
theorem rmn_e (cn : Nat → Nat) {k : Nat} (h : k < 7) : rmn cn k (cn k) = rmn cn (k + 1) 0 := by
  unfold rmn
  rw [Nat.sub_self, show 7 - k = (7 - (k + 1)) + 1 by omega, rwF]; rfl
theorem rmn_z (cn : Nat → Nat) : rmn cn 7 (cn 7) = [] := by
  unfold rmn
  rw [Nat.sub_self]; rfl
theorem rmn_0 (cn : Nat → Nat) : rwF cn 8 0 = rmn cn 0 0 := rfl
set_option maxHeartbeats 4000000 in
set_option maxRecDepth 100000 in
theorem m_M_copiesOf {l : Launch} {s0 : State} {D : va_G} {cA sa : Nat → Nat} (Z : zE l s0 D cA sa) (a : Nat → Nat) (ii : Nat → Int32) (li : Nat → Int64) (ia : Nat → Nat → Int32) (la : Nat → Nat → Int64) (cn ft wt : Nat → Nat) (hcn : ∀ k, k < 8 → ia 22 k = nI (cn k) ∧ cn k ≤ 9) (hft : ∀ k, k < 8 → ia 21 k = nI (ft k) ∧ ft k ≤ 20) (hwt : ∀ k, k < 4 → ia 7 k = nI (wt k) ∧ wt k ≤ 200) (sz : Nat) : Met l y_M_copiesOf [.code y_M_copiesOf c_M_copiesOf 8 (some .int)] ({ frames := 0, cells := 0, slots := 0, locals := 0 }) (wP s0 D [.ref (a 0)] (w_M a cA ii li ia la) sz) (va_Qi (fun r (_ : Unit) => r = match cpF ft (rwF cn 8 0) wt 0 with | some n => nI n | none => -1) (wB D (va_A (w_M a cA ii li ia la) sz) (fun _ => w_M a cA ii li ia la)) (va_A (w_M a cA ii li ia la) sz)) 0 0 (va_A (w_M a cA ii li ia la) sz) := by
  refine wMet Z (by decide) (Nat.le_of_ble_eq_true rfl) ?_
  intro p e s m below meth c hx hb hr hml hown hlk hin hg hK hsz hP hD hA hlo hS ls hl
  subst hsz
  have hown : s.vm.findClass R_M = some m.cls := hown
  obtain ⟨res, hres⟩ : ∃ z, z = cpF ft (rwF cn 8 0) wt 0 := ⟨_, rfl⟩
  rw [rmn_0] at hres
  refine lv_iconst (v := 0) hx hb d_M_copiesOf_0 (by decide) ?_
  refine lv_topi (fun z1 ez1 => ?_)
  obtain rfl : z1 = (nI 0) := by rw [ez1]; rfl
  refine lv_istore_n (lv' := [(1, .int (nI 0)), (0, .ref (a 0))]) hx hb d_M_copiesOf_1 rfl hl (by decide) rfl (fun ls hl => ?_)
  refine lv_iconst (v := 0) hx hb d_M_copiesOf_2 (by decide) ?_
  refine lv_topi (fun z2 ez2 => ?_)
  obtain rfl : z2 = (nI 0) := by rw [ez2]; rfl
  refine lv_istore_n (lv' := [(2, .int (nI 0)), (1, .int (nI 0)), (0, .ref (a 0))]) hx hb d_M_copiesOf_3 rfl hl (by decide) rfl (fun ls hl => ?_)
  refine lv_iload_n hx hb d_M_copiesOf_4 rfl (lv_at hl 0 rfl) ?_
  refine lv_iconst (v := 4) hx hb d_M_copiesOf_5 (by decide) ?_
  refine lv_icmp_ge (tgt := 107) hx hb d_M_copiesOf_6 (by decide) (fun k3 => by first | exact absurd (show ¬ (4 : Int32) ≤ nI 0 from nI_ge (b := 4) (by decide) (by decide)) k3 | exact absurd k3 (show ¬ (4 : Int32) ≤ nI 0 from nI_ge (b := 4) (by decide) (by decide))) (fun _ => ?_)
  refine lv_aload_n hx hb d_M_copiesOf_9 rfl (lv_at hl 2 rfl) ?_
  refine va_get (D := D) (ci := 1) (v := .ref (a 8)) (C := R_M) (T := T_M) (N := 26) hx hb (uw_M Z.1 hg.1) (fun _ h => h) hown hK hP 0 rfl rfl 7 (by decide) (kw611 Z.1 _ _ hg.1) (fun _ h9 => h9) rfl d_M_copiesOf_10 ?_
  refine lv_iload_n hx hb d_M_copiesOf_13 rfl (lv_at hl 0 rfl) ?_
  refine va_iald hx hb hK hP 4 0 rfl rfl (vp_in_nI (n := 0) (N := 4) (by omega) (by decide)) d_M_copiesOf_14 ?_
  refine lv_topi (fun z4 ez4 => ?_)
  rw [nI_clamp (n := 0) (by omega)] at ez4
  obtain rfl : z4 = ((ia 7) 0) := ez4
  refine lv_topi (fun z5 ez5 => ?_)
  obtain rfl : z5 = (nI (wt 0)) := by rw [ez5]; exact (hwt 0 (by decide)).1
  refine lv_istore_n (lv' := [(3, .int (nI (wt 0))), (2, .int (nI 0)), (1, .int (nI 0)), (0, .ref (a 0))]) hx hb d_M_copiesOf_15 rfl hl (by decide) rfl (fun ls hl => ?_)
  refine lv_iconst (v := 0) hx hb d_M_copiesOf_16 (by decide) ?_
  refine lv_topi (fun z6 ez6 => ?_)
  obtain rfl : z6 = (nI 0) := by rw [ez6]; rfl
  refine lv_istore (lv' := [(4, .int (nI 0)), (3, .int (nI (wt 0))), (2, .int (nI 0)), (1, .int (nI 0)), (0, .ref (a 0))]) hx hb d_M_copiesOf_17 hl (by decide) rfl (fun ls hl => ?_)
  refine lv_iload hx hb d_M_copiesOf_19 (lv_at hl 0 rfl) ?_
  refine lv_iconst (v := 2) hx hb d_M_copiesOf_21 (by decide) ?_
  refine lv_icmp_ge (tgt := 101) hx hb d_M_copiesOf_22 (by decide) (fun k7 => by first | exact absurd (show ¬ (2 : Int32) ≤ nI 0 from nI_ge (b := 2) (by decide) (by decide)) k7 | exact absurd k7 (show ¬ (2 : Int32) ≤ nI 0 from nI_ge (b := 2) (by decide) (by decide))) (fun _ => ?_)
  refine lv_iconst (v := 2) hx hb d_M_copiesOf_25 (by decide) ?_
  refine lv_iload_n hx hb d_M_copiesOf_26 rfl (lv_at hl 2 rfl) ?_
  refine lv_imul hx hb d_M_copiesOf_27 ?_
  refine lv_iload hx hb d_M_copiesOf_28 (lv_at hl 0 rfl) ?_
  refine lv_iadd hx hb d_M_copiesOf_30 ?_
  refine lv_topi (fun z8 ez8 => ?_)
  obtain rfl : z8 = (nI (2 * 0 + 0)) := by rw [ez8]; rfl
  refine lv_istore (lv' := [(5, .int (nI (2 * 0 + 0))), (4, .int (nI 0)), (3, .int (nI (wt 0))), (2, .int (nI 0)), (1, .int (nI 0)), (0, .ref (a 0))]) hx hb d_M_copiesOf_31 hl (by decide) rfl (fun ls hl => ?_)
  refine lv_iconst (v := 0) hx hb d_M_copiesOf_33 (by decide) ?_
  refine lv_topi (fun z9 ez9 => ?_)
  obtain rfl : z9 = (nI 0) := by rw [ez9]; rfl
  refine lv_istore (lv' := [(6, .int (nI 0)), (5, .int (nI (2 * 0 + 0))), (4, .int (nI 0)), (3, .int (nI (wt 0))), (2, .int (nI 0)), (1, .int (nI 0)), (0, .ref (a 0))]) hx hb d_M_copiesOf_34 hl (by decide) rfl (fun ls hl => ?_)
  have loop : ∀ (f : Nat) (b t r al : Nat) (wl : Nat → Nat), (rmn cn (2 * b + t) r).length + (8 - (2 * b + t)) < f → b < 4 → t < 2 → r ≤ cn (2 * b + t) → wl b ≤ 200 → (∀ j, b < j → wl j = wt j) → cpF ft (rmn cn (2 * b + t) r) wl al = res → ∀ (H : Heap) (locs : List Loc), va_P D ncl (w_M a cA ii li ia la) H → va_D (va_A (w_M a cA ii li ia la) s.heap.size) (w_M a cA ii li ia la) → va_S (va_A (w_M a cA ii li ia la) s.heap.size) s.heap H locs → ∀ (ls : Array Slot), lv_has ls 8 [(0, .ref (a 0)), (1, .int (nI al)), (2, .int (nI b)), (3, .int (nI (wl b))), (4, .int (nI t)), (5, .int (nI (2 * b + t))), (6, .int (nI r))] → W p l e ({ frames := 0, cells := 0, slots := 0, locals := 0 }) s m ([.ref (a 0)] : List Value).toArray below meth c H locs 0 0 (MQ below (va_Qi (fun r (_ : Unit) => r = match cpF ft (rwF cn 8 0) wt 0 with | some n => nI n | none => -1) (wB D (va_A (w_M a cA ii li ia la) s.heap.size) (fun _ => w_M a cA ii li ia la)) (va_A (w_M a cA ii li ia la) s.heap.size)) ([.ref (a 0)] : List Value).toArray s 0 0 (va_A (w_M a cA ii li ia la) s.heap.size)) (F0 m 36 ls []) := by
    intro f
    induction f with
    | zero => intro b t r al wl h; exact absurd h (Nat.not_lt_zero _)
    | succ f ih =>
      intro b t r al wl hf hb4 ht2 hr2 hwl hwj hc H locs hP hD hS ls hl
      have hc1 := hcn (2 * b + t) (by omega)
      have hf1 := hft (2 * b + t) (by omega)
      refine lv_iload hx hb d_M_copiesOf_36 (lv_at hl 6 rfl) ?_
      refine lv_aload_n hx hb d_M_copiesOf_38 rfl (lv_at hl 0 rfl) ?_
      refine va_get (D := D) (ci := 1) (v := .ref (a 23)) (C := R_M) (T := T_M) (N := 26) hx hb (uw_M Z.1 hg.1) (fun _ h => h) hown hK hP 0 rfl rfl 22 (by decide) (kw626 Z.1 _ _ hg.1) (fun _ h9 => h9) rfl d_M_copiesOf_39 ?_
      refine lv_iload hx hb d_M_copiesOf_42 (lv_at hl 5 rfl) ?_
      refine va_iald hx hb hK hP 15 0 rfl rfl (vp_in_nI (n := 2 * b + t) (N := 8) (by omega) (by decide)) d_M_copiesOf_44 ?_
      refine lv_topi (fun z10 ez10 => ?_)
      rw [nI_clamp (n := (2 * b + t)) (by omega)] at ez10
      obtain rfl : z10 = ((ia 22) (2 * b + t)) := ez10
      refine lv_topi (fun z11 ez11 => ?_)
      obtain rfl : z11 = (nI (cn (2 * b + t))) := by rw [ez11]; exact hc1.1
      refine lv_icmp_ge (tgt := 95) hx hb d_M_copiesOf_45 (by decide) (fun c12 => ?_) (fun c12 => ?_)
      · obtain rfl : r = cn (2 * b + t) := by have := (nI_leI (by omega) (by omega)).mp c12; omega
        rcases (by omega : t = 0 ∨ t = 1) with rfl | rfl
        · rw [rmn_e cn (by omega)] at hc hf
          obtain ⟨v23, ev23⟩ : ∃ y : Int32, y = (nI 0) + 1 := ⟨_, rfl⟩
          refine lv_iinc (v := v23) (lv' := [(4, .int v23), (0, .ref (a 0)), (1, .int (nI al)), (2, .int (nI b)), (3, .int (nI (wl b))), (5, .int (nI (2 * b + 0))), (6, .int (nI (cn (2 * b + 0))))]) hx hb d_M_copiesOf_95 hl (k := 4) rfl (by rw [ev23]; rfl) (by decide) rfl (fun ls hl => ?_)
          refine lv_goto (tgt := 19) hx hb d_M_copiesOf_98 (by decide) ?_
          obtain rfl : v23 = nI 1 := by rw [ev23]; rfl
          refine lv_iload hx hb d_M_copiesOf_19 (lv_at hl 0 rfl) ?_
          refine lv_iconst (v := 2) hx hb d_M_copiesOf_21 (by decide) ?_
          refine lv_icmp_ge (tgt := 101) hx hb d_M_copiesOf_22 (by decide) (fun k24 => by first | exact absurd (show ¬ (2 : Int32) ≤ nI 1 from nI_ge (b := 2) (by decide) (by decide)) k24 | exact absurd k24 (show ¬ (2 : Int32) ≤ nI 1 from nI_ge (b := 2) (by decide) (by decide))) (fun _ => ?_)
          refine lv_iconst (v := 2) hx hb d_M_copiesOf_25 (by decide) ?_
          refine lv_iload_n hx hb d_M_copiesOf_26 rfl (lv_at hl 3 rfl) ?_
          refine lv_imul hx hb d_M_copiesOf_27 ?_
          refine lv_topi (fun z25 ez25 => ?_)
          obtain rfl : z25 = (nI (2 * b)) := by rw [ez25]; exact pk_mul 2 b
          refine lv_iload hx hb d_M_copiesOf_28 (lv_at hl 0 rfl) ?_
          refine lv_iadd hx hb d_M_copiesOf_30 ?_
          refine lv_topi (fun z26 ez26 => ?_)
          obtain rfl : z26 = (nI (2 * b + 1)) := by rw [ez26]; exact nI_add _ 1
          refine lv_istore (lv' := [(5, .int (nI (2 * b + 1))), (4, .int (nI 1)), (0, .ref (a 0)), (1, .int (nI al)), (2, .int (nI b)), (3, .int (nI (wl b))), (6, .int (nI (cn (2 * b + 0))))]) hx hb d_M_copiesOf_31 hl (by decide) rfl (fun ls hl => ?_)
          refine lv_iconst (v := 0) hx hb d_M_copiesOf_33 (by decide) ?_
          refine lv_topi (fun z27 ez27 => ?_)
          obtain rfl : z27 = (nI 0) := by rw [ez27]; rfl
          refine lv_istore (lv' := [(6, .int (nI 0)), (5, .int (nI (2 * b + 1))), (4, .int (nI 1)), (0, .ref (a 0)), (1, .int (nI al)), (2, .int (nI b)), (3, .int (nI (wl b)))]) hx hb d_M_copiesOf_34 hl (by decide) rfl (fun ls hl => ?_)
          exact ih b 1 0 al wl (by have : 2 * b + 0 + 1 = 2 * b + 1 := rfl; rw [this] at hf; omega) hb4 (by decide) (Nat.zero_le _) hwl hwj hc _ _ hP hD hS ls (lv_sub hl [3, 4, 5, 6, 2, 1, 0] rfl)
        · obtain ⟨v28, ev28⟩ : ∃ y : Int32, y = (nI 1) + 1 := ⟨_, rfl⟩
          refine lv_iinc (v := v28) (lv' := [(4, .int v28), (0, .ref (a 0)), (1, .int (nI al)), (2, .int (nI b)), (3, .int (nI (wl b))), (5, .int (nI (2 * b + 1))), (6, .int (nI (cn (2 * b + 1))))]) hx hb d_M_copiesOf_95 hl (k := 4) rfl (by rw [ev28]; rfl) (by decide) rfl (fun ls hl => ?_)
          refine lv_goto (tgt := 19) hx hb d_M_copiesOf_98 (by decide) ?_
          obtain rfl : v28 = nI 2 := by rw [ev28]; rfl
          refine lv_iload hx hb d_M_copiesOf_19 (lv_at hl 0 rfl) ?_
          refine lv_iconst (v := 2) hx hb d_M_copiesOf_21 (by decide) ?_
          refine lv_icmp_ge (tgt := 101) hx hb d_M_copiesOf_22 (by decide) (fun _ => ?_) (fun k29 => by first | exact absurd (show (2 : Int32) ≤ nI 2 from nI_le (a := 2) (by decide) (by decide)) k29 | exact absurd k29 (show (2 : Int32) ≤ nI 2 from nI_le (a := 2) (by decide) (by decide)))
          obtain ⟨v30, ev30⟩ : ∃ y : Int32, y = (nI b) + 1 := ⟨_, rfl⟩
          refine lv_iinc (v := v30) (lv' := [(2, .int v30), (4, .int (nI 2)), (0, .ref (a 0)), (1, .int (nI al)), (3, .int (nI (wl b))), (5, .int (nI (2 * b + 1))), (6, .int (nI (cn (2 * b + 1))))]) hx hb d_M_copiesOf_101 hl (k := 3) rfl (by rw [ev30]; rfl) (by decide) rfl (fun ls hl => ?_)
          refine lv_goto (tgt := 4) hx hb d_M_copiesOf_104 (by decide) ?_
          obtain rfl : v30 = nI (b + 1) := by rw [ev30]; exact nI_1 b
          refine lv_iload_n hx hb d_M_copiesOf_4 rfl (lv_at hl 0 rfl) ?_
          refine lv_iconst (v := 4) hx hb d_M_copiesOf_5 (by decide) ?_
          refine lv_icmp_ge (tgt := 107) hx hb d_M_copiesOf_6 (by decide) (fun w31 => ?_) (fun w31 => ?_)
          · obtain rfl : b = 3 := by have := (nI_leI (a := 4) (by decide) (by omega)).mp w31; omega
            rw [show 2 * 3 + 1 = 7 from rfl, rmn_z, cpF] at hc
            refine lv_iload_n hx hb d_M_copiesOf_107 rfl (lv_at hl 3 rfl) ?_
            exact w_iret hx hb hr hlk hP hD hS () rfl (by rw [rmn_0, ← hres, ← hc]) d_M_copiesOf_108
          · have hb3 : b + 1 < 4 := Nat.lt_of_not_le (fun z => w31 ((nI_leI (a := 4) (by decide) (by omega)).mpr z))
            rw [rmn_e cn (by omega)] at hc hf
            refine lv_aload_n hx hb d_M_copiesOf_9 rfl (lv_at hl 2 rfl) ?_
            refine va_get (D := D) (ci := 1) (v := .ref (a 8)) (C := R_M) (T := T_M) (N := 26) hx hb (uw_M Z.1 hg.1) (fun _ h => h) hown hK hP 0 rfl rfl 7 (by decide) (kw611 Z.1 _ _ hg.1) (fun _ h9 => h9) rfl d_M_copiesOf_10 ?_
            refine lv_iload_n hx hb d_M_copiesOf_13 rfl (lv_at hl 0 rfl) ?_
            refine va_iald hx hb hK hP 4 0 rfl rfl (vp_in_nI (n := b + 1) (N := 4) (by omega) (by decide)) d_M_copiesOf_14 ?_
            refine lv_topi (fun z32 ez32 => ?_)
            rw [nI_clamp (n := (b + 1)) (by omega)] at ez32
            obtain rfl : z32 = ((ia 7) (b + 1)) := ez32
            refine lv_topi (fun z33 ez33 => ?_)
            obtain rfl : z33 = (nI (wl (b + 1))) := by rw [ez33]; rw [hwj (b + 1) (by omega)]; exact (hwt (b + 1) hb3).1
            refine lv_istore_n (lv' := [(3, .int (nI (wl (b + 1)))), (2, .int (nI (b + 1))), (4, .int (nI 2)), (0, .ref (a 0)), (1, .int (nI al)), (5, .int (nI (2 * b + 1))), (6, .int (nI (cn (2 * b + 1))))]) hx hb d_M_copiesOf_15 rfl hl (by decide) rfl (fun ls hl => ?_)
            refine lv_iconst (v := 0) hx hb d_M_copiesOf_16 (by decide) ?_
            refine lv_topi (fun z34 ez34 => ?_)
            obtain rfl : z34 = (nI 0) := by rw [ez34]; rfl
            refine lv_istore (lv' := [(4, .int (nI 0)), (3, .int (nI (wl (b + 1)))), (2, .int (nI (b + 1))), (0, .ref (a 0)), (1, .int (nI al)), (5, .int (nI (2 * b + 1))), (6, .int (nI (cn (2 * b + 1))))]) hx hb d_M_copiesOf_17 hl (by decide) rfl (fun ls hl => ?_)
            refine lv_iload hx hb d_M_copiesOf_19 (lv_at hl 0 rfl) ?_
            refine lv_iconst (v := 2) hx hb d_M_copiesOf_21 (by decide) ?_
            refine lv_icmp_ge (tgt := 101) hx hb d_M_copiesOf_22 (by decide) (fun k35 => by first | exact absurd (show ¬ (2 : Int32) ≤ nI 0 from nI_ge (b := 2) (by decide) (by decide)) k35 | exact absurd k35 (show ¬ (2 : Int32) ≤ nI 0 from nI_ge (b := 2) (by decide) (by decide))) (fun _ => ?_)
            refine lv_iconst (v := 2) hx hb d_M_copiesOf_25 (by decide) ?_
            refine lv_iload_n hx hb d_M_copiesOf_26 rfl (lv_at hl 2 rfl) ?_
            refine lv_imul hx hb d_M_copiesOf_27 ?_
            refine lv_topi (fun z36 ez36 => ?_)
            obtain rfl : z36 = (nI (2 * (b + 1))) := by rw [ez36]; exact pk_mul 2 (b + 1)
            refine lv_iload hx hb d_M_copiesOf_28 (lv_at hl 0 rfl) ?_
            refine lv_iadd hx hb d_M_copiesOf_30 ?_
            refine lv_topi (fun z37 ez37 => ?_)
            obtain rfl : z37 = (nI (2 * (b + 1) + 0)) := by rw [ez37]; exact nI_add _ 0
            refine lv_istore (lv' := [(5, .int (nI (2 * (b + 1) + 0))), (4, .int (nI 0)), (3, .int (nI (wl (b + 1)))), (2, .int (nI (b + 1))), (0, .ref (a 0)), (1, .int (nI al)), (6, .int (nI (cn (2 * b + 1))))]) hx hb d_M_copiesOf_31 hl (by decide) rfl (fun ls hl => ?_)
            refine lv_iconst (v := 0) hx hb d_M_copiesOf_33 (by decide) ?_
            refine lv_topi (fun z38 ez38 => ?_)
            obtain rfl : z38 = (nI 0) := by rw [ez38]; rfl
            refine lv_istore (lv' := [(6, .int (nI 0)), (5, .int (nI (2 * (b + 1) + 0))), (4, .int (nI 0)), (3, .int (nI (wl (b + 1)))), (2, .int (nI (b + 1))), (0, .ref (a 0)), (1, .int (nI al))]) hx hb d_M_copiesOf_34 hl (by decide) rfl (fun ls hl => ?_)
            have e1 : 2 * b + 1 + 1 = 2 * (b + 1) + 0 := by omega
            rw [e1] at hc hf
            exact ih (b + 1) 0 0 al wl (by omega) hb3 (by decide) (Nat.zero_le _) (by rw [hwj (b + 1) (by omega)]; exact (hwt (b + 1) hb3).2) (fun j hj => hwj j (by omega)) hc _ _ hP hD hS ls (lv_sub hl [5, 6, 4, 3, 2, 1, 0] rfl)
      · have hlt : r < cn (2 * b + t) := Nat.lt_of_not_le (fun z => c12 ((nI_leI (by omega) (by omega)).mpr z))
        rw [rmn_s cn hlt] at hc hf
        rw [cpF, show (2 * b + t) / 2 = b by omega] at hc
        obtain ⟨mn, hmn⟩ : ∃ z, z = min (ft (2 * b + t)) (wl b) := ⟨_, rfl⟩
        rw [← hmn] at hc
        rw [List.length_cons] at hf
        have jn13 : ∀ v : Int32, v = (nI mn) → W p l e ({ frames := 0, cells := 0, slots := 0, locals := 0 }) s m ([.ref (a 0)] : List Value).toArray below meth c H locs 0 0 (MQ below (va_Qi (fun r (_ : Unit) => r = match cpF ft (rwF cn 8 0) wt 0 with | some n => nI n | none => -1) (wB D (va_A (w_M a cA ii li ia la) s.heap.size) (fun _ => w_M a cA ii li ia la)) (va_A (w_M a cA ii li ia la) s.heap.size)) ([.ref (a 0)] : List Value).toArray s 0 0 (va_A (w_M a cA ii li ia la) s.heap.size)) (F0 m 70 ls (.int v :: [])) := by
          intro v hv
          subst hv
          refine lv_istore (lv' := [(7, .int (nI mn)), (0, .ref (a 0)), (1, .int (nI al)), (2, .int (nI b)), (3, .int (nI (wl b))), (4, .int (nI t)), (5, .int (nI (2 * b + t))), (6, .int (nI r))]) hx hb d_M_copiesOf_70 hl (by decide) rfl (fun ls hl => ?_)
          refine lv_iload hx hb d_M_copiesOf_72 (lv_at hl 0 rfl) ?_
          refine lv_if_ne (tgt := 79) hx hb d_M_copiesOf_74 (by decide) (fun d14 => ?_) (fun d14 => ?_)
          · have h0 : ¬ mn = 0 := fun z => d14 (by rw [z]; rfl)
            rw [if_neg h0] at hc
            refine lv_iload_n hx hb d_M_copiesOf_79 rfl (lv_at hl 4 rfl) ?_
            refine lv_iload hx hb d_M_copiesOf_80 (lv_at hl 0 rfl) ?_
            refine lv_isub hx hb d_M_copiesOf_82 ?_
            refine lv_topi (fun z15 ez15 => ?_)
            obtain rfl : z15 = (nI (va_up wl b (wl b - mn) b)) := by rw [ez15]; rw [up_s]; exact nI_sub (by omega)
            refine lv_istore_n (lv' := [(3, .int (nI (va_up wl b (wl b - mn) b))), (7, .int (nI mn)), (0, .ref (a 0)), (1, .int (nI al)), (2, .int (nI b)), (4, .int (nI t)), (5, .int (nI (2 * b + t))), (6, .int (nI r))]) hx hb d_M_copiesOf_83 rfl hl (by decide) rfl (fun ls hl => ?_)
            refine lv_iload_n hx hb d_M_copiesOf_84 rfl (lv_at hl 3 rfl) ?_
            refine lv_iload hx hb d_M_copiesOf_85 (lv_at hl 1 rfl) ?_
            refine lv_iadd hx hb d_M_copiesOf_87 ?_
            refine lv_topi (fun z16 ez16 => ?_)
            obtain rfl : z16 = (nI (al + mn)) := by rw [ez16]; exact nI_add _ _
            refine lv_istore_n (lv' := [(1, .int (nI (al + mn))), (3, .int (nI (va_up wl b (wl b - mn) b))), (7, .int (nI mn)), (0, .ref (a 0)), (2, .int (nI b)), (4, .int (nI t)), (5, .int (nI (2 * b + t))), (6, .int (nI r))]) hx hb d_M_copiesOf_88 rfl hl (by decide) rfl (fun ls hl => ?_)
            obtain ⟨v17, ev17⟩ : ∃ y : Int32, y = (nI r) + 1 := ⟨_, rfl⟩
            refine lv_iinc (v := v17) (lv' := [(6, .int v17), (1, .int (nI (al + mn))), (3, .int (nI (va_up wl b (wl b - mn) b))), (7, .int (nI mn)), (0, .ref (a 0)), (2, .int (nI b)), (4, .int (nI t)), (5, .int (nI (2 * b + t)))]) hx hb d_M_copiesOf_89 hl (k := 7) rfl (by rw [ev17]; rfl) (by decide) rfl (fun ls hl => ?_)
            refine lv_goto (tgt := 36) hx hb d_M_copiesOf_92 (by decide) ?_
            obtain rfl : v17 = nI (r + 1) := by rw [ev17]; exact nI_1 r
            exact ih b t (r + 1) (al + mn) (va_up wl b (wl b - mn)) (by omega) hb4 ht2 hlt (by rw [up_s]; omega) (fun j hj => by rw [up_n _ _ (by omega)]; exact hwj j hj) hc _ _ hP hD hS ls (lv_sub hl [4, 1, 5, 2, 6, 7, 0] rfl)
          · have h0 : mn = 0 := (nI_eq (b := 0) (by omega) (by decide)).mp d14
            rw [if_pos h0] at hc
            refine lv_iconst (v := (-1)) hx hb d_M_copiesOf_77 (by decide) ?_
            exact w_iret hx hb hr hlk hP hD hS () rfl (by rw [rmn_0, ← hres, ← hc]) d_M_copiesOf_78
        refine lv_aload_n hx hb d_M_copiesOf_48 rfl (lv_at hl 0 rfl) ?_
        refine va_get (D := D) (ci := 1) (v := .ref (a 22)) (C := R_M) (T := T_M) (N := 26) hx hb (uw_M Z.1 hg.1) (fun _ h => h) hown hK hP 0 rfl rfl 21 (by decide) (kw625 Z.1 _ _ hg.1) (fun _ h9 => h9) rfl d_M_copiesOf_49 ?_
        refine lv_iload hx hb d_M_copiesOf_52 (lv_at hl 5 rfl) ?_
        refine va_iald hx hb hK hP 14 0 rfl rfl (vp_in_nI (n := 2 * b + t) (N := 8) (by omega) (by decide)) d_M_copiesOf_54 ?_
        refine lv_topi (fun z18 ez18 => ?_)
        rw [nI_clamp (n := (2 * b + t)) (by omega)] at ez18
        obtain rfl : z18 = ((ia 21) (2 * b + t)) := ez18
        refine lv_topi (fun z19 ez19 => ?_)
        obtain rfl : z19 = (nI (ft (2 * b + t))) := by rw [ez19]; exact hf1.1
        refine lv_iload_n hx hb d_M_copiesOf_55 rfl (lv_at hl 3 rfl) ?_
        refine lv_icmp_ge (tgt := 69) hx hb d_M_copiesOf_56 (by decide) (fun e20 => ?_) (fun e20 => ?_)
        · refine lv_iload_n hx hb d_M_copiesOf_69 rfl (lv_at hl 3 rfl) ?_
          exact jn13 _ (by rw [hmn, Nat.min_eq_right ((nI_leI (by omega) (by omega)).mp e20)])
        · refine lv_aload_n hx hb d_M_copiesOf_59 rfl (lv_at hl 0 rfl) ?_
          refine va_get (D := D) (ci := 1) (v := .ref (a 22)) (C := R_M) (T := T_M) (N := 26) hx hb (uw_M Z.1 hg.1) (fun _ h => h) hown hK hP 0 rfl rfl 21 (by decide) (kw625 Z.1 _ _ hg.1) (fun _ h9 => h9) rfl d_M_copiesOf_60 ?_
          refine lv_iload hx hb d_M_copiesOf_63 (lv_at hl 5 rfl) ?_
          refine va_iald hx hb hK hP 14 0 rfl rfl (vp_in_nI (n := 2 * b + t) (N := 8) (by omega) (by decide)) d_M_copiesOf_65 ?_
          refine lv_topi (fun z21 ez21 => ?_)
          rw [nI_clamp (n := (2 * b + t)) (by omega)] at ez21
          obtain rfl : z21 = ((ia 21) (2 * b + t)) := ez21
          refine lv_topi (fun z22 ez22 => ?_)
          obtain rfl : z22 = (nI (ft (2 * b + t))) := by rw [ez22]; exact hf1.1
          refine lv_goto (tgt := 70) hx hb d_M_copiesOf_66 (by decide) ?_
          exact jn13 _ (by rw [hmn, Nat.min_eq_left (Nat.le_of_lt (Nat.lt_of_not_le (fun z => e20 ((nI_leI (by omega) (by omega)).mpr z))))])
  exact loop ((rmn cn 0 0).length + 9) 0 0 0 0 wt (by show (rmn cn 0 0).length + 8 < _; omega) (by decide) (by decide) (Nat.zero_le _) (hwt 0 (by decide)).2 (fun _ _ => rfl) hres.symm _ _ hP hD hS ls (lv_sub hl [6, 5, 4, 3, 2, 1, 0] rfl)
