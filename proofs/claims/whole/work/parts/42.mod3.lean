theorem yc_lt (f : Nat → Int32) (q : Int32) {j n : Nat} (hj : j < n) (h : f j = q) : yc f q j < yc f q n := by
  have h1 : yc f q (j + 1) = yc f q j + 1 := by rw [yc, if_pos h]
  have := yc_mono f q (m := j + 1) n (by omega)
  omega
set_option maxHeartbeats 4000000 in
set_option maxRecDepth 100000 in
theorem m_M_orderOf {l : Launch} {s0 : State} {D : va_G} {cA sa : Nat → Nat} (Z : zE l s0 D cA sa) (a : Nat → Nat) (ii : Nat → Int32) (li : Nat → Int64) (ia : Nat → Nat → Int32) (la : Nat → Nat → Int64) (k : Int32) (n : Nat) (hn : ii 13 = nI n) (hn2 : n ≤ 200) (h01 : ∀ j, j < n → ia 15 j = 0 ∨ ia 15 j = 1) (sz : Nat) : Met l y_M_orderOf [.code y_M_orderOf c_M_orderOf 5 (some .int)] ({ frames := 0, cells := 0, slots := 0, locals := 0 }) (wP s0 D [.ref (a 0), .int k] (w_M a cA ii li ia la) sz) (va_Qi (fun r (_ : Unit) => yo (ia 15) n k r) (wB D (va_A (w_M a cA ii li ia la) sz) (fun _ => w_M a cA ii li ia la)) (va_A (w_M a cA ii li ia la) sz)) 0 0 (va_A (w_M a cA ii li ia la) sz) := by
  refine wMet Z (by decide) (Nat.le_of_ble_eq_true rfl) ?_
  intro p e s m below meth c hx hb hr hml hown hlk hin hg hK hsz hP hD hA hlo hS ls hl
  subst hsz
  have hown : s.vm.findClass R_M = some m.cls := hown
  have inner : ∀ (tq m0 : Nat), tq < 2 → m0 < 2 ^ 31 → (∀ j, j < n → ia 15 j = nI tq → yc (ia 15) (nI tq) j = m0 → yo (ia 15) n k (nI j)) → (yc (ia 15) (nI tq) n ≤ m0 → ∀ (H : Heap) (locs : List Loc), va_P D ncl (w_M a cA ii li ia la) H → va_D (va_A (w_M a cA ii li ia la) s.heap.size) (w_M a cA ii li ia la) → va_S (va_A (w_M a cA ii li ia la) s.heap.size) s.heap H locs → ∀ (ls : Array Slot), lv_has ls 5 [(0, .ref (a 0)), (1, .int k), (2, .int (nI (m0 - yc (ia 15) (nI tq) n))), (3, .int (nI tq))] → W p l e ({ frames := 0, cells := 0, slots := 0, locals := 0 }) s m ([.ref (a 0), .int k] : List Value).toArray below meth c H locs 0 0 (MQ below (va_Qi (fun r (_ : Unit) => yo (ia 15) n k r) (wB D (va_A (w_M a cA ii li ia la) s.heap.size) (fun _ => w_M a cA ii li ia la)) (va_A (w_M a cA ii li ia la) s.heap.size)) ([.ref (a 0), .int k] : List Value).toArray s 0 0 (va_A (w_M a cA ii li ia la) s.heap.size)) (F0 m 64 ls [])) → ∀ (f j : Nat), n - j < f → j ≤ n → yc (ia 15) (nI tq) j ≤ m0 → ∀ (H : Heap) (locs : List Loc), va_P D ncl (w_M a cA ii li ia la) H → va_D (va_A (w_M a cA ii li ia la) s.heap.size) (w_M a cA ii li ia la) → va_S (va_A (w_M a cA ii li ia la) s.heap.size) s.heap H locs → ∀ (ls : Array Slot), lv_has ls 5 [(0, .ref (a 0)), (1, .int k), (2, .int (nI (m0 - yc (ia 15) (nI tq) j))), (3, .int (nI tq)), (4, .int (nI j))] → W p l e ({ frames := 0, cells := 0, slots := 0, locals := 0 }) s m ([.ref (a 0), .int k] : List Value).toArray below meth c H locs 0 0 (MQ below (va_Qi (fun r (_ : Unit) => yo (ia 15) n k r) (wB D (va_A (w_M a cA ii li ia la) s.heap.size) (fun _ => w_M a cA ii li ia la)) (va_A (w_M a cA ii li ia la) s.heap.size)) ([.ref (a 0), .int k] : List Value).toArray s 0 0 (va_A (w_M a cA ii li ia la) s.heap.size)) (F0 m 16 ls []) := by
    intro tq m0 htq hm31 hfound hexit f
    induction f with
    | zero => intro j h; exact absurd h (Nat.not_lt_zero _)
    | succ f ih =>
      intro j hf hj hy H locs hP hD hS ls hl
      refine lv_iload hx hb d_M_orderOf_16 (lv_at hl 4 rfl) ?_
      refine lv_aload_n hx hb d_M_orderOf_18 rfl (lv_at hl 0 rfl) ?_
      refine va_get (D := D) (ci := 1) (v := .int (ii 13)) (C := R_M) (T := T_M) (N := 26) hx hb (uw_M Z.1 hg.1) (fun _ h => h) hown hK hP 0 rfl rfl 13 (by decide) (kw617 Z.1 _ _ hg.1) (fun _ h9 => h9) rfl d_M_orderOf_19 ?_
      refine lv_icmp_ge (tgt := 64) hx hb d_M_orderOf_22 (by decide) (fun c1 => ?_) (fun c1 => ?_)
      · obtain rfl : j = n := by rw [hn] at c1; have := (nI_leI (by omega) (by omega)).mp c1; omega
        exact hexit hy _ _ hP hD hS ls (lv_sub hl [0, 1, 2, 3] rfl)
      · have hjn : j < n := Nat.lt_of_not_le (fun z => c1 (by rw [hn]; exact (nI_leI (by omega) (by omega)).mpr z))
        refine lv_aload_n hx hb d_M_orderOf_25 rfl (lv_at hl 0 rfl) ?_
        refine va_get (D := D) (ci := 1) (v := .ref (a 16)) (C := R_M) (T := T_M) (N := 26) hx hb (uw_M Z.1 hg.1) (fun _ h => h) hown hK hP 0 rfl rfl 15 (by decide) (kw619 Z.1 _ _ hg.1) (fun _ h9 => h9) rfl d_M_orderOf_26 ?_
        refine lv_iload hx hb d_M_orderOf_29 (lv_at hl 4 rfl) ?_
        refine va_zald hx hb hK hP 9 2 rfl rfl (vp_in_nI (n := j) (N := 200) (by omega) (by decide)) d_M_orderOf_31 ?_
        refine lv_topi (fun z2 ez2 => ?_)
        rw [nI_clamp (n := j) (by omega)] at ez2
        obtain rfl : z2 = ((ia 15) j) := ez2
        refine lv_iload_n hx hb d_M_orderOf_32 rfl (lv_at hl 3 rfl) ?_
        refine lv_iconst (v := 1) hx hb d_M_orderOf_33 (by decide) ?_
        refine lv_icmp_ne (tgt := 41) hx hb d_M_orderOf_34 (by decide) (fun d3 => ?_) (fun d3 => ?_)
        · have htv : tq = 0 := by have : ¬ tq = 1 := fun z => d3 (by rw [z]; rfl); omega
          refine lv_iconst (v := 0) hx hb d_M_orderOf_41 (by decide) ?_
          refine lv_topi (fun z4 ez4 => ?_)
          obtain rfl : z4 = (nI tq) := by rw [ez4]; rw [htv]; rfl
          refine lv_icmp_eq (tgt := 48) hx hb d_M_orderOf_42 (by decide) (fun e5 => ?_) (fun e5 => ?_)
          · refine lv_iload_n hx hb d_M_orderOf_48 rfl (lv_at hl 2 rfl) ?_
            refine lv_if_ne (tgt := 55) hx hb d_M_orderOf_49 (by decide) (fun h7 => ?_) (fun h7 => ?_)
            · have hlt : yc (ia 15) (nI tq) j < m0 := Nat.lt_of_not_le (fun z => h7 (by rw [show m0 - yc (ia 15) (nI tq) j = 0 by omega]; rfl))
              obtain ⟨v8, ev8⟩ : ∃ y : Int32, y = (nI (m0 - yc (ia 15) (nI tq) j)) + (-1) := ⟨_, rfl⟩
              refine lv_iinc (v := v8) (lv' := [(2, .int v8), (0, .ref (a 0)), (1, .int k), (3, .int (nI tq)), (4, .int (nI j))]) hx hb d_M_orderOf_55 hl (k := 2) rfl (by rw [ev8]; rfl) (by decide) rfl (fun ls hl => ?_)
              obtain ⟨v9, ev9⟩ : ∃ y : Int32, y = (nI j) + 1 := ⟨_, rfl⟩
              refine lv_iinc (v := v9) (lv' := [(4, .int v9), (2, .int v8), (0, .ref (a 0)), (1, .int k), (3, .int (nI tq))]) hx hb d_M_orderOf_58 hl (k := 4) rfl (by rw [ev9]; rfl) (by decide) rfl (fun ls hl => ?_)
              refine lv_goto (tgt := 16) hx hb d_M_orderOf_61 (by decide) ?_
              obtain rfl : v9 = nI (j + 1) := by rw [ev9]; exact nI_1 j
              obtain rfl : v8 = nI (m0 - yc (ia 15) (nI tq) (j + 1)) := by rw [ev8]; rw [yc, if_pos e5, show m0 - yc (ia 15) (nI tq) j = (m0 - (yc (ia 15) (nI tq) j + 1)) + 1 by omega, pk_m1]
              exact ih (j + 1) (by omega) (by omega) (by rw [yc, if_pos e5]; omega) _ _ hP hD hS ls (lv_sub hl [2, 3, 1, 4, 0] rfl)
            · have heq : yc (ia 15) (nI tq) j = m0 := by have h0 := (nI_eq (b := 0) (by omega) (by decide)).mp h7; omega
              refine lv_iload hx hb d_M_orderOf_52 (lv_at hl 4 rfl) ?_
              exact w_iret hx hb hr hlk hP hD hS () rfl (hfound j hjn e5 heq) d_M_orderOf_54
          · have hy2 : yc (ia 15) (nI tq) (j + 1) = yc (ia 15) (nI tq) j := by rw [yc, if_neg e5, Nat.add_zero]
            refine lv_goto (tgt := 58) hx hb d_M_orderOf_45 (by decide) ?_
            obtain ⟨v6, ev6⟩ : ∃ y : Int32, y = (nI j) + 1 := ⟨_, rfl⟩
            refine lv_iinc (v := v6) (lv' := [(4, .int v6), (0, .ref (a 0)), (1, .int k), (2, .int (nI (m0 - yc (ia 15) (nI tq) j))), (3, .int (nI tq))]) hx hb d_M_orderOf_58 hl (k := 4) rfl (by rw [ev6]; rfl) (by decide) rfl (fun ls hl => ?_)
            refine lv_goto (tgt := 16) hx hb d_M_orderOf_61 (by decide) ?_
            obtain rfl : v6 = nI (j + 1) := by rw [ev6]; exact nI_1 j
            rw [← hy2] at hl
            exact ih (j + 1) (by omega) (by omega) (by omega) _ _ hP hD hS ls (lv_sub hl [1, 2, 3, 4, 0] rfl)
        · have htv : tq = 1 := (nI_eq (b := 1) (by omega) (by decide)).mp d3
          refine lv_iconst (v := 1) hx hb d_M_orderOf_37 (by decide) ?_
          refine lv_goto (tgt := 42) hx hb d_M_orderOf_38 (by decide) ?_
          refine lv_topi (fun z10 ez10 => ?_)
          obtain rfl : z10 = (nI tq) := by rw [ez10]; rw [htv]; rfl
          refine lv_icmp_eq (tgt := 48) hx hb d_M_orderOf_42 (by decide) (fun e11 => ?_) (fun e11 => ?_)
          · refine lv_iload_n hx hb d_M_orderOf_48 rfl (lv_at hl 2 rfl) ?_
            refine lv_if_ne (tgt := 55) hx hb d_M_orderOf_49 (by decide) (fun h13 => ?_) (fun h13 => ?_)
            · have hlt : yc (ia 15) (nI tq) j < m0 := Nat.lt_of_not_le (fun z => h13 (by rw [show m0 - yc (ia 15) (nI tq) j = 0 by omega]; rfl))
              obtain ⟨v14, ev14⟩ : ∃ y : Int32, y = (nI (m0 - yc (ia 15) (nI tq) j)) + (-1) := ⟨_, rfl⟩
              refine lv_iinc (v := v14) (lv' := [(2, .int v14), (0, .ref (a 0)), (1, .int k), (3, .int (nI tq)), (4, .int (nI j))]) hx hb d_M_orderOf_55 hl (k := 2) rfl (by rw [ev14]; rfl) (by decide) rfl (fun ls hl => ?_)
              obtain ⟨v15, ev15⟩ : ∃ y : Int32, y = (nI j) + 1 := ⟨_, rfl⟩
              refine lv_iinc (v := v15) (lv' := [(4, .int v15), (2, .int v14), (0, .ref (a 0)), (1, .int k), (3, .int (nI tq))]) hx hb d_M_orderOf_58 hl (k := 4) rfl (by rw [ev15]; rfl) (by decide) rfl (fun ls hl => ?_)
              refine lv_goto (tgt := 16) hx hb d_M_orderOf_61 (by decide) ?_
              obtain rfl : v15 = nI (j + 1) := by rw [ev15]; exact nI_1 j
              obtain rfl : v14 = nI (m0 - yc (ia 15) (nI tq) (j + 1)) := by rw [ev14]; rw [yc, if_pos e11, show m0 - yc (ia 15) (nI tq) j = (m0 - (yc (ia 15) (nI tq) j + 1)) + 1 by omega, pk_m1]
              exact ih (j + 1) (by omega) (by omega) (by rw [yc, if_pos e11]; omega) _ _ hP hD hS ls (lv_sub hl [2, 3, 1, 4, 0] rfl)
            · have heq : yc (ia 15) (nI tq) j = m0 := by have h0 := (nI_eq (b := 0) (by omega) (by decide)).mp h13; omega
              refine lv_iload hx hb d_M_orderOf_52 (lv_at hl 4 rfl) ?_
              exact w_iret hx hb hr hlk hP hD hS () rfl (hfound j hjn e11 heq) d_M_orderOf_54
          · have hy2 : yc (ia 15) (nI tq) (j + 1) = yc (ia 15) (nI tq) j := by rw [yc, if_neg e11, Nat.add_zero]
            refine lv_goto (tgt := 58) hx hb d_M_orderOf_45 (by decide) ?_
            obtain ⟨v12, ev12⟩ : ∃ y : Int32, y = (nI j) + 1 := ⟨_, rfl⟩
            refine lv_iinc (v := v12) (lv' := [(4, .int v12), (0, .ref (a 0)), (1, .int k), (2, .int (nI (m0 - yc (ia 15) (nI tq) j))), (3, .int (nI tq))]) hx hb d_M_orderOf_58 hl (k := 4) rfl (by rw [ev12]; rfl) (by decide) rfl (fun ls hl => ?_)
            refine lv_goto (tgt := 16) hx hb d_M_orderOf_61 (by decide) ?_
            obtain rfl : v12 = nI (j + 1) := by rw [ev12]; exact nI_1 j
            rw [← hy2] at hl
            exact ih (j + 1) (by omega) (by omega) (by omega) _ _ hP hD hS ls (lv_sub hl [1, 2, 3, 4, 0] rfl)
  refine lv_iload_n hx hb d_M_orderOf_0 rfl (lv_at hl 1 rfl) ?_
  refine lv_istore_n (lv' := [(2, .int k), (0, .ref (a 0)), (1, .int k)]) hx hb d_M_orderOf_1 rfl hl (by decide) rfl (fun ls hl => ?_)
  refine lv_iconst (v := 0) hx hb d_M_orderOf_2 (by decide) ?_
  refine lv_topi (fun z16 ez16 => ?_)
  obtain rfl : z16 = (nI 0) := by rw [ez16]; rfl
  refine lv_istore_n (lv' := [(3, .int (nI 0)), (2, .int k), (0, .ref (a 0)), (1, .int k)]) hx hb d_M_orderOf_3 rfl hl (by decide) rfl (fun ls hl => ?_)
  refine lv_iload_n hx hb d_M_orderOf_4 rfl (lv_at hl 0 rfl) ?_
  refine lv_iconst (v := 2) hx hb d_M_orderOf_5 (by decide) ?_
  refine lv_icmp_ge (tgt := 70) hx hb d_M_orderOf_6 (by decide) (fun k17 => by first | exact absurd (show ¬ (2 : Int32) ≤ nI 0 from nI_ge (b := 2) (by decide) (by decide)) k17 | exact absurd k17 (show ¬ (2 : Int32) ≤ nI 0 from nI_ge (b := 2) (by decide) (by decide))) (fun _ => ?_)
  refine lv_iload_n hx hb d_M_orderOf_9 rfl (lv_at hl 3 rfl) ?_
  refine lv_if_lt (tgt := 70) hx hb d_M_orderOf_10 (by decide) (fun c18 => ?_) (fun c18 => ?_)
  · refine lv_iconst (v := (-1)) hx hb d_M_orderOf_70 (by decide) ?_
    exact w_iret hx hb hr hlk hP hD hS () rfl (Or.inl ⟨Or.inl c18, rfl⟩) d_M_orderOf_71
  · obtain ⟨mm, hm0, rfl⟩ := nI_of c18
    have h1 := yc_01 (ia 15) n h01
    refine lv_iconst (v := 0) hx hb d_M_orderOf_13 (by decide) ?_
    refine lv_topi (fun z19 ez19 => ?_)
    obtain rfl : z19 = (nI 0) := by rw [ez19]; rfl
    refine lv_istore (lv' := [(4, .int (nI 0)), (3, .int (nI 0)), (2, .int (nI mm)), (0, .ref (a 0)), (1, .int (nI mm))]) hx hb d_M_orderOf_14 hl (by decide) rfl (fun ls hl => ?_)
    refine inner 0 mm (by decide) hm0 (fun j hj h2 h3 => ?_) (fun h2 H locs hP hD hS ls hl => ?_) (n + 1) 0 (by omega) (by omega) (Nat.zero_le _) _ _ hP hD hS ls (lv_sub hl [3, 4, 2, 1, 0] rfl)
    · have h4 := yc_lt (ia 15) (nI 0) hj h2
      exact Or.inr ⟨mm, j, rfl, by have := yc_le (ia 15) 0 n; have : yc (ia 15) (nI 0) n = yc (ia 15) 0 n := rfl; omega, hj, rfl, Or.inl ⟨by rw [← h3]; exact h4, h2, h3⟩⟩
    · obtain ⟨v20, ev20⟩ : ∃ y : Int32, y = (nI 0) + 1 := ⟨_, rfl⟩
      refine lv_iinc (v := v20) (lv' := [(3, .int v20), (0, .ref (a 0)), (1, .int (nI mm)), (2, .int (nI (mm - yc (ia 15) (nI 0) n)))]) hx hb d_M_orderOf_64 hl (k := 3) rfl (by rw [ev20]; rfl) (by decide) rfl (fun ls hl => ?_)
      refine lv_goto (tgt := 4) hx hb d_M_orderOf_67 (by decide) ?_
      obtain rfl : v20 = nI 1 := by rw [ev20]; rfl
      refine lv_iload_n hx hb d_M_orderOf_4 rfl (lv_at hl 0 rfl) ?_
      refine lv_iconst (v := 2) hx hb d_M_orderOf_5 (by decide) ?_
      refine lv_icmp_ge (tgt := 70) hx hb d_M_orderOf_6 (by decide) (fun k21 => by first | exact absurd (show ¬ (2 : Int32) ≤ nI 1 from nI_ge (b := 2) (by decide) (by decide)) k21 | exact absurd k21 (show ¬ (2 : Int32) ≤ nI 1 from nI_ge (b := 2) (by decide) (by decide))) (fun _ => ?_)
      refine lv_iload_n hx hb d_M_orderOf_9 rfl (lv_at hl 2 rfl) ?_
      refine lv_if_lt (tgt := 70) hx hb d_M_orderOf_10 (by decide) (fun k22 => by first | exact absurd (show ¬ nI mm < 0 from nI_pos hm0) k22 | exact absurd k22 (show ¬ nI mm < 0 from nI_pos hm0)) (fun _ => ?_)
      refine lv_iconst (v := 0) hx hb d_M_orderOf_13 (by decide) ?_
      refine lv_topi (fun z23 ez23 => ?_)
      obtain rfl : z23 = (nI 0) := by rw [ez23]; rfl
      refine lv_istore (lv' := [(4, .int (nI 0)), (3, .int (nI 1)), (0, .ref (a 0)), (1, .int (nI mm)), (2, .int (nI (mm - yc (ia 15) (nI 0) n)))]) hx hb d_M_orderOf_14 hl (by decide) rfl (fun ls hl => ?_)
      refine inner 1 (mm - yc (ia 15) (nI 0) n) (by decide) (by omega) (fun j hj h3 h4 => ?_) (fun h3 H locs hP hD hS ls hl => ?_) (n + 1) 0 (by omega) (by omega) (Nat.zero_le _) _ _ hP hD hS ls (lv_sub hl [2, 3, 4, 1, 0] rfl)
      · have h5 := yc_lt (ia 15) (nI 1) hj h3
        have e0 : yc (ia 15) (nI 0) n = yc (ia 15) 0 n := rfl
        have e1 : yc (ia 15) (nI 1) n = yc (ia 15) 1 n := rfl
        exact Or.inr ⟨mm, j, rfl, by omega, hj, rfl, Or.inr ⟨h2, h3, h4⟩⟩
      · obtain ⟨v24, ev24⟩ : ∃ y : Int32, y = (nI 1) + 1 := ⟨_, rfl⟩
        refine lv_iinc (v := v24) (lv' := [(3, .int v24), (0, .ref (a 0)), (1, .int (nI mm)), (2, .int (nI (mm - yc (ia 15) (nI 0) n - yc (ia 15) (nI 1) n)))]) hx hb d_M_orderOf_64 hl (k := 3) rfl (by rw [ev24]; rfl) (by decide) rfl (fun ls hl => ?_)
        refine lv_goto (tgt := 4) hx hb d_M_orderOf_67 (by decide) ?_
        obtain rfl : v24 = nI 2 := by rw [ev24]; rfl
        refine lv_iload_n hx hb d_M_orderOf_4 rfl (lv_at hl 0 rfl) ?_
        refine lv_iconst (v := 2) hx hb d_M_orderOf_5 (by decide) ?_
        refine lv_icmp_ge (tgt := 70) hx hb d_M_orderOf_6 (by decide) (fun _ => ?_) (fun k25 => by first | exact absurd (show (2 : Int32) ≤ nI 2 from nI_le (a := 2) (by decide) (by decide)) k25 | exact absurd k25 (show (2 : Int32) ≤ nI 2 from nI_le (a := 2) (by decide) (by decide)))
        have e0 : yc (ia 15) (nI 0) n = yc (ia 15) 0 n := rfl
        have e1 : yc (ia 15) (nI 1) n = yc (ia 15) 1 n := rfl
        refine lv_iconst (v := (-1)) hx hb d_M_orderOf_70 (by decide) ?_
        exact w_iret hx hb hr hlk hP hD hS () rfl (Or.inl ⟨Or.inr (nI_le (by omega) hm0), rfl⟩) d_M_orderOf_71
set_option maxHeartbeats 4000000 in
set_option maxRecDepth 100000 in
theorem m_M_order {l : Launch} {s0 : State} {D : va_G} {cA sa : Nat → Nat} (Z : zE l s0 D cA sa) (a : Nat → Nat) (ii : Nat → Int32) (li : Nat → Int64) (ia : Nat → Nat → Int32) (la : Nat → Nat → Int64) (k : Int32) (n : Nat) (hn : ii 13 = nI n) (hn2 : n ≤ 200) (h01 : ∀ j, j < n → ia 15 j = 0 ∨ ia 15 j = 1) (sz : Nat) : Met l y_M_order [.code y_M_order c_M_order 2 (some .int)] ({ frames := 1, cells := 0, slots := 0, locals := 40 }) (wP s0 D [.ref (a 0), .int k] (w_M a cA ii li ia la) sz) (va_Qi (fun (r : Int32) (u : St) => yo (ia 15) n k r ∧ u = (va_up ii 0 0, li, ia, la)) (wB D (va_A (w_M a cA ii li ia la) sz) (fun (u : St) => w_M a cA u.1 u.2.1 u.2.2.1 u.2.2.2)) (va_A (w_M a cA ii li ia la) sz)) 0 0 (va_A (w_M a cA ii li ia la) sz) := by
  refine wMet Z (by decide) (Nat.le_of_ble_eq_true rfl) ?_
  intro p e s m below meth c hx hb hr hml hown hlk hin hg hK hsz hP hD hA hlo hS ls hl
  subst hsz
  have hown : s.vm.findClass R_M = some m.cls := hown
  refine lv_aload_n hx hb d_M_order_0 rfl (lv_at hl 0 rfl) ?_
  refine lv_iconst (v := 0) hx hb d_M_order_1 (by decide) ?_
  refine va_put (D := D) (ci := 1) (v := .int 0) (ty := t_M 0) (C := R_M) (T := T_M) (N := 26) hx hb (uw_M Z.1 hg.1) (fun _ h => h) t_M t_M_ok n_M hown hK hP hD hS 0 rfl rfl 0 (by decide) (kw604 Z.1 _ _ hg.1) (fun _ h9 => h9) rfl (by decide +kernel) rfl rfl (Nat.le_of_ble_eq_true rfl) d_M_order_2 (fun H locs hP hD hS => ?_)
  have hP : va_P D ncl (w_M a cA (va_up ii 0 0) li ia la) H := hP
  have hD : va_D _ (w_M a cA (va_up ii 0 0) li ia la) := hD
  refine lv_aload_n hx hb d_M_order_5 rfl (lv_at hl 0 rfl) ?_
  refine lv_iload_n hx hb d_M_order_6 rfl (lv_at hl 1 rfl) ?_
  refine w_calli (wr := ([] : va_W)) (w_runV (rest := []) hx hb hml hown hl.1 hg hlo hK hP hD hS (m_M_orderOf Z a (va_up ii 0 0) li ia la k n (show (va_up ii 0 0) 13 = nI n from hn) hn2 h01 H.size) (kw818 Z.1) (kw820 Z.1) (kp_M_orderOf Z.1) (kw821 Z.1) (kw6 Z.1) ⟨by decide, by decide, (by decide +kernel : (parseMethodDescriptor y_M_orderOf.desc).map (fun d => d.parameters.length) = some 1)⟩ ⟨Nat.le_of_ble_eq_true rfl, Nat.le_of_ble_eq_true rfl⟩ [0, 1, 2, 3, 4, 5, 6, 7, 8, 9, 10, 11, 12, 13, 14, 15, 16] rfl rfl (ci := 1) (q0 := 0) rfl rfl rfl (Nat.le_of_ble_eq_true rfl) d_M_order_7 ⟨Nat.le_of_ble_eq_true rfl, Nat.le_of_ble_eq_true rfl⟩) hP hD hS hA [0, 1, 2, 3, 4, 5, 6, 7, 8, 9, 10, 11, 12, 13, 14, 15, 16] [] rfl rfl rfl (by decide) (fun _ => w_M a cA (va_up ii 0 0) li ia la) [0, 1, 2, 3, 4, 5, 6, 7, 8, 9, 10, 11, 12, 13, 14, 15, 16] rfl (fun _ => rfl) (fun r1 u H locs hq hP hD hS => ?_)
  refine W.widen (k := 0) (n := 0) (Nat.le_of_ble_eq_true rfl) (Nat.le_of_ble_eq_true rfl) ?_
  exact w_iret hx hb hr hlk hP hD hS ((va_up ii 0 0), li, ia, la) rfl ⟨hq, rfl⟩ d_M_order_10
