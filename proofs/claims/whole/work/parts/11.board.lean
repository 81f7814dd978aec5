/-! the worlds of the five classes: an object with its arrays; a 0 its address, a (k + 1) that of the array in its field k -/
def w_B (a cA : Nat → Nat) (ii : Nat → Int32) (li : Nat → Int64) (ia : Nat → Nat → Int32) (la : Nat → Nat → Int64) : va_W := [(a 0, .inr (2, [.ref (a 1), .ref (a 2), .ref (a 3), .ref (a 4), .ref (a 5), .int (ii 5), .int (ii 6), .long (li 7), .long (li 8), .long (li 9), .long (li 10), .int (ii 11)])), (a 1, .inl (cA 1, 12, .inr (.inl (la 0)))), (a 2, .inl (cA 1, 12, .inr (.inl (la 1)))), (a 3, .inl (cA 1, 10, .inr (.inl (la 2)))), (a 4, .inl (cA 1, 10, .inr (.inl (la 3)))), (a 5, .inl (cA 1, 10, .inr (.inl (la 4))))]
def w_S (a cA : Nat → Nat) (ii : Nat → Int32) (li : Nat → Int64) (ia : Nat → Nat → Int32) (la : Nat → Nat → Int64) : va_W := [(a 0, .inr (4, [.ref (a 1), .ref (a 2), .ref (a 3), .ref (a 4), .ref (a 5), .ref (a 6), .ref (a 7), .int (ii 7), .int (ii 8), .int (ii 9), .int (ii 10), .long (li 11)])), (a 1, .inl (cA 0, 8, .inl (ia 0))), (a 2, .inl (cA 1, 8, .inr (.inl (la 1)))), (a 3, .inl (cA 0, 4, .inl (ia 2))), (a 4, .inl (cA 0, 9, .inl (ia 3))), (a 5, .inl (cA 0, 9, .inl (ia 4))), (a 6, .inl (cA 0, 9, .inl (ia 5))), (a 7, .inl (cA 0, 9, .inl (ia 6)))]
def w_Y (a cA : Nat → Nat) (ii : Nat → Int32) (li : Nat → Int64) (ia : Nat → Nat → Int32) (la : Nat → Nat → Int64) : va_W := [(a 0, .inr (3, [.ref (a 1), .ref (a 2), .ref (a 3), .ref (a 4), .ref (a 5), .ref (a 6), .ref (a 7), .ref (a 8), .ref (a 9), .ref (a 10), .ref (a 11), .int (ii 11), .int (ii 12), .int (ii 13), .long (li 14), .long (li 15), .long (li 16)])), (a 1, .inl (cA 0, 8, .inl (ia 0))), (a 2, .inl (cA 0, 8, .inl (ia 1))), (a 3, .inl (cA 0, 8, .inl (ia 2))), (a 4, .inl (cA 1, 8, .inr (.inl (la 3)))), (a 5, .inl (cA 1, 8, .inr (.inl (la 4)))), (a 6, .inl (cA 1, 8, .inr (.inl (la 5)))), (a 7, .inl (cA 0, 160, .inl (ia 6))), (a 8, .inl (cA 1, 160, .inr (.inl (la 7)))), (a 9, .inl (cA 2, 160, .inl (ia 8))), (a 10, .inl (cA 1, 16, .inr (.inl (la 9)))), (a 11, .inl (cA 0, 16, .inl (ia 10)))]
def w_P (a cA : Nat → Nat) (ii : Nat → Int32) (li : Nat → Int64) (ia : Nat → Nat → Int32) (la : Nat → Nat → Int64) (bd : Nat → Nat) : va_W := [(a 0, .inr (0, [.long (li 0), .long (li 1), .ref (a 3), .ref (a 4), .ref (a 5), .ref (a 6), .int (ii 6), .long (li 7), .long (li 8), .int (ii 9)])), (a 3, .inl (cA 3, 4, .inr (.inr (.inr (.inr (fun j => some (bd j))))))), (a 4, .inl (cA 1, 4, .inr (.inl (la 3))))]
def w_M (a cA : Nat → Nat) (ii : Nat → Int32) (li : Nat → Int64) (ia : Nat → Nat → Int32) (la : Nat → Nat → Int64) : va_W := [(a 0, .inr (1, [.int (ii 0), .long (li 1), .long (li 2), .int (ii 3), .ref (a 5), .ref (a 6), .ref (a 7), .ref (a 8), .ref (a 9), .ref (a 10), .ref (a 11), .long (li 11), .long (li 12), .int (ii 13), .ref (a 15), .ref (a 16), .int (ii 16), .ref (a 18), .ref (a 19), .ref (a 20), .ref (a 21), .ref (a 22), .ref (a 23), .ref (a 24), .int (ii 24), .int (ii 25)])), (a 5, .inl (cA 0, 4, .inl (ia 4))), (a 6, .inl (cA 1, 48, .inr (.inl (la 5)))), (a 7, .inl (cA 1, 48, .inr (.inl (la 6)))), (a 8, .inl (cA 0, 4, .inl (ia 7))), (a 9, .inl (cA 0, 4, .inl (ia 8))), (a 10, .inl (cA 1, 120, .inr (.inl (la 9)))), (a 11, .inl (cA 1, 4, .inr (.inl (la 10)))), (a 15, .inl (cA 1, 1200, .inr (.inl (la 14)))), (a 16, .inl (cA 2, 200, .inl (ia 15))), (a 18, .inl (cA 1, 4, .inr (.inl (la 17)))), (a 19, .inl (cA 1, 4, .inr (.inl (la 18)))), (a 20, .inl (cA 1, 4, .inr (.inl (la 19)))), (a 21, .inl (cA 1, 4, .inr (.inl (la 20)))), (a 22, .inl (cA 0, 8, .inl (ia 21))), (a 23, .inl (cA 0, 8, .inl (ia 22))), (a 24, .inl (cA 0, 8, .inl (ia 23)))]
abbrev St : Type := (Nat → Int32) × (Nat → Int64) × (Nat → Nat → Int32) × (Nat → Nat → Int64)

set_option maxHeartbeats 4000000 in
set_option maxRecDepth 100000 in
theorem m_B_hasArea {l : Launch} {s0 : State} {D : va_G} {cA sa : Nat → Nat} (Z : zE l s0 D cA sa) (a : Nat → Nat) (ii : Nat → Int32) (li : Nat → Int64) (ia : Nat → Nat → Int32) (la : Nat → Nat → Int64) (sz : Nat) : Met l y_B_hasArea [.code y_B_hasArea c_B_hasArea 1 (some .boolean)] ({ frames := 0, cells := 0, slots := 0, locals := 0 }) (wP s0 D [.ref (a 0)] (w_B a cA ii li ia la) sz) (va_Qi (fun r (_ : Unit) => r = if li 7 < li 9 ∧ li 8 < li 10 then 1 else 0) (wB D (va_A (w_B a cA ii li ia la) sz) (fun _ => w_B a cA ii li ia la)) (va_A (w_B a cA ii li ia la) sz)) 0 0 (va_A (w_B a cA ii li ia la) sz) := by
  refine wMet Z (by decide) (Nat.le_of_ble_eq_true rfl) ?_
  intro p e s m below meth c hx hb hr hml hown hlk hin hg hK hsz hP hD hA hlo hS ls hl
  subst hsz
  have hown : s.vm.findClass R_B = some m.cls := hown
  refine lv_aload_n hx hb d_B_hasArea_0 rfl (lv_at hl 0 rfl) ?_
  refine va_get (D := D) (ci := 2) (v := .long (li 9)) (C := R_B) (T := T_B) (N := 12) hx hb (uw_B Z.1 hg.1) (fun _ h => h) hown hK hP 0 rfl rfl 9 (by decide) (kw47 Z.1 _ _ hg.1) (fun _ h9 => h9) rfl d_B_hasArea_1 ?_
  refine lv_aload_n hx hb d_B_hasArea_4 rfl (lv_at hl 0 rfl) ?_
  refine va_get (D := D) (ci := 2) (v := .long (li 7)) (C := R_B) (T := T_B) (N := 12) hx hb (uw_B Z.1 hg.1) (fun _ h => h) hown hK hP 0 rfl rfl 7 (by decide) (kw45 Z.1 _ _ hg.1) (fun _ h9 => h9) rfl d_B_hasArea_5 ?_
  refine W.lcmp hx hb d_B_hasArea_8 ?_
  refine lv_if_le (tgt := 28) hx hb d_B_hasArea_9 (by decide) (fun c1 => ?_) (fun c1 => ?_)
  · refine lv_iconst (v := 0) hx hb d_B_hasArea_28 (by decide) ?_
    exact w_zret hx hb hr rfl hlk hP hD hS () rfl (by rw [if_neg (fun q => absurd ((lg_cmp_le _ _).mp c1) (Int64.not_le.mpr q.1))]) d_B_hasArea_29
  · refine lv_aload_n hx hb d_B_hasArea_12 rfl (lv_at hl 0 rfl) ?_
    refine va_get (D := D) (ci := 2) (v := .long (li 10)) (C := R_B) (T := T_B) (N := 12) hx hb (uw_B Z.1 hg.1) (fun _ h => h) hown hK hP 0 rfl rfl 10 (by decide) (kw48 Z.1 _ _ hg.1) (fun _ h9 => h9) rfl d_B_hasArea_13 ?_
    refine lv_aload_n hx hb d_B_hasArea_16 rfl (lv_at hl 0 rfl) ?_
    refine va_get (D := D) (ci := 2) (v := .long (li 8)) (C := R_B) (T := T_B) (N := 12) hx hb (uw_B Z.1 hg.1) (fun _ h => h) hown hK hP 0 rfl rfl 8 (by decide) (kw46 Z.1 _ _ hg.1) (fun _ h9 => h9) rfl d_B_hasArea_17 ?_
    refine W.lcmp hx hb d_B_hasArea_20 ?_
    refine lv_if_le (tgt := 28) hx hb d_B_hasArea_21 (by decide) (fun c2 => ?_) (fun c2 => ?_)
    · refine lv_iconst (v := 0) hx hb d_B_hasArea_28 (by decide) ?_
      exact w_zret hx hb hr rfl hlk hP hD hS () rfl (by rw [if_neg (fun q => absurd ((lg_cmp_le _ _).mp c2) (Int64.not_le.mpr q.2))]) d_B_hasArea_29
    · refine lv_iconst (v := 1) hx hb d_B_hasArea_24 (by decide) ?_
      refine lv_goto (tgt := 29) hx hb d_B_hasArea_25 (by decide) ?_
      exact w_zret hx hb hr rfl hlk hP hD hS () rfl (by rw [if_pos ⟨Int64.not_le.mp (fun q => c1 ((lg_cmp_le _ _).mpr q)), Int64.not_le.mp (fun q => c2 ((lg_cmp_le _ _).mpr q))⟩]) d_B_hasArea_29
set_option maxHeartbeats 4000000 in
set_option maxRecDepth 100000 in
theorem m_B_wide {l : Launch} {s0 : State} {D : va_G} {cA sa : Nat → Nat} (Z : zE l s0 D cA sa) (a : Nat → Nat) (ii : Nat → Int32) (li : Nat → Int64) (ia : Nat → Nat → Int32) (la : Nat → Nat → Int64) (tn : Int32) (sz : Nat) : Met l y_B_wide [.code y_B_wide c_B_wide 2 (some .long)] ({ frames := 0, cells := 0, slots := 0, locals := 0 }) (wP s0 D [.ref (a 0), .int tn] (w_B a cA ii li ia la) sz) (va_Ql (fun r (_ : Unit) => r = if tn = 0 then li 9 - li 7 else li 10 - li 8) (wB D (va_A (w_B a cA ii li ia la) sz) (fun _ => w_B a cA ii li ia la)) (va_A (w_B a cA ii li ia la) sz)) 0 0 (va_A (w_B a cA ii li ia la) sz) := by
  refine wMet Z (by decide) (Nat.le_of_ble_eq_true rfl) ?_
  intro p e s m below meth c hx hb hr hml hown hlk hin hg hK hsz hP hD hA hlo hS ls hl
  subst hsz
  have hown : s.vm.findClass R_B = some m.cls := hown
  refine lv_iload_n hx hb d_B_wide_0 rfl (lv_at hl 1 rfl) ?_
  refine lv_if_ne (tgt := 16) hx hb d_B_wide_1 (by decide) (fun c1 => ?_) (fun c1 => ?_)
  · refine lv_aload_n hx hb d_B_wide_16 rfl (lv_at hl 0 rfl) ?_
    refine va_get (D := D) (ci := 2) (v := .long (li 10)) (C := R_B) (T := T_B) (N := 12) hx hb (uw_B Z.1 hg.1) (fun _ h => h) hown hK hP 0 rfl rfl 10 (by decide) (kw48 Z.1 _ _ hg.1) (fun _ h9 => h9) rfl d_B_wide_17 ?_
    refine lv_aload_n hx hb d_B_wide_20 rfl (lv_at hl 0 rfl) ?_
    refine va_get (D := D) (ci := 2) (v := .long (li 8)) (C := R_B) (T := T_B) (N := 12) hx hb (uw_B Z.1 hg.1) (fun _ h => h) hown hK hP 0 rfl rfl 8 (by decide) (kw46 Z.1 _ _ hg.1) (fun _ h9 => h9) rfl d_B_wide_21 ?_
    refine lv_lsub hx hb d_B_wide_24 ?_
    exact w_lret hx hb hr hlk hP hD hS () rfl (by rw [if_neg c1]) d_B_wide_25
  · refine lv_aload_n hx hb d_B_wide_4 rfl (lv_at hl 0 rfl) ?_
    refine va_get (D := D) (ci := 2) (v := .long (li 9)) (C := R_B) (T := T_B) (N := 12) hx hb (uw_B Z.1 hg.1) (fun _ h => h) hown hK hP 0 rfl rfl 9 (by decide) (kw47 Z.1 _ _ hg.1) (fun _ h9 => h9) rfl d_B_wide_5 ?_
    refine lv_aload_n hx hb d_B_wide_8 rfl (lv_at hl 0 rfl) ?_
    refine va_get (D := D) (ci := 2) (v := .long (li 7)) (C := R_B) (T := T_B) (N := 12) hx hb (uw_B Z.1 hg.1) (fun _ h => h) hown hK hP 0 rfl rfl 7 (by decide) (kw45 Z.1 _ _ hg.1) (fun _ h9 => h9) rfl d_B_wide_9 ?_
    refine lv_lsub hx hb d_B_wide_12 ?_
    refine lv_goto (tgt := 25) hx hb d_B_wide_13 (by decide) ?_
    exact w_lret hx hb hr hlk hP hD hS () rfl (by rw [if_pos c1]) d_B_wide_25
set_option maxHeartbeats 4000000 in
set_option maxRecDepth 100000 in
theorem m_B_high {l : Launch} {s0 : State} {D : va_G} {cA sa : Nat → Nat} (Z : zE l s0 D cA sa) (a : Nat → Nat) (ii : Nat → Int32) (li : Nat → Int64) (ia : Nat → Nat → Int32) (la : Nat → Nat → Int64) (tn : Int32) (sz : Nat) : Met l y_B_high [.code y_B_high c_B_high 2 (some .long)] ({ frames := 0, cells := 0, slots := 0, locals := 0 }) (wP s0 D [.ref (a 0), .int tn] (w_B a cA ii li ia la) sz) (va_Ql (fun r (_ : Unit) => r = if tn = 0 then li 10 - li 8 else li 9 - li 7) (wB D (va_A (w_B a cA ii li ia la) sz) (fun _ => w_B a cA ii li ia la)) (va_A (w_B a cA ii li ia la) sz)) 0 0 (va_A (w_B a cA ii li ia la) sz) := by
  refine wMet Z (by decide) (Nat.le_of_ble_eq_true rfl) ?_
  intro p e s m below meth c hx hb hr hml hown hlk hin hg hK hsz hP hD hA hlo hS ls hl
  subst hsz
  have hown : s.vm.findClass R_B = some m.cls := hown
  refine lv_iload_n hx hb d_B_high_0 rfl (lv_at hl 1 rfl) ?_
  refine lv_if_ne (tgt := 16) hx hb d_B_high_1 (by decide) (fun c1 => ?_) (fun c1 => ?_)
  · refine lv_aload_n hx hb d_B_high_16 rfl (lv_at hl 0 rfl) ?_
    refine va_get (D := D) (ci := 2) (v := .long (li 9)) (C := R_B) (T := T_B) (N := 12) hx hb (uw_B Z.1 hg.1) (fun _ h => h) hown hK hP 0 rfl rfl 9 (by decide) (kw47 Z.1 _ _ hg.1) (fun _ h9 => h9) rfl d_B_high_17 ?_
    refine lv_aload_n hx hb d_B_high_20 rfl (lv_at hl 0 rfl) ?_
    refine va_get (D := D) (ci := 2) (v := .long (li 7)) (C := R_B) (T := T_B) (N := 12) hx hb (uw_B Z.1 hg.1) (fun _ h => h) hown hK hP 0 rfl rfl 7 (by decide) (kw45 Z.1 _ _ hg.1) (fun _ h9 => h9) rfl d_B_high_21 ?_
    refine lv_lsub hx hb d_B_high_24 ?_
    exact w_lret hx hb hr hlk hP hD hS () rfl (by rw [if_neg c1]) d_B_high_25
  · refine lv_aload_n hx hb d_B_high_4 rfl (lv_at hl 0 rfl) ?_
    refine va_get (D := D) (ci := 2) (v := .long (li 10)) (C := R_B) (T := T_B) (N := 12) hx hb (uw_B Z.1 hg.1) (fun _ h => h) hown hK hP 0 rfl rfl 10 (by decide) (kw48 Z.1 _ _ hg.1) (fun _ h9 => h9) rfl d_B_high_5 ?_
    refine lv_aload_n hx hb d_B_high_8 rfl (lv_at hl 0 rfl) ?_
    refine va_get (D := D) (ci := 2) (v := .long (li 8)) (C := R_B) (T := T_B) (N := 12) hx hb (uw_B Z.1 hg.1) (fun _ h => h) hown hK hP 0 rfl rfl 8 (by decide) (kw46 Z.1 _ _ hg.1) (fun _ h9 => h9) rfl d_B_high_9 ?_
    refine lv_lsub hx hb d_B_high_12 ?_
    refine lv_goto (tgt := 25) hx hb d_B_high_13 (by decide) ?_
    exact w_lret hx hb hr hlk hP hD hS () rfl (by rw [if_pos c1]) d_B_high_25
def bc_li (li : Nat → Int64) (n : Int32) (x y : Int64) : Nat → Int64 := if n = 0 then va_up (va_up (va_up (va_up li 7 x) 8 y) 9 x) 10 y else va_up (va_up (va_up (va_up li 7 (if x < li 7 then x else li 7)) 8 (if y < li 8 then y else li 8)) 9 (if x < li 9 then li 9 else x)) 10 (if y < li 10 then li 10 else y)
set_option maxHeartbeats 4000000 in
set_option maxRecDepth 100000 in
theorem m_B_addCorner {l : Launch} {s0 : State} {D : va_G} {cA sa : Nat → Nat} (Z : zE l s0 D cA sa) (a : Nat → Nat) (ii : Nat → Int32) (li : Nat → Int64) (ia : Nat → Nat → Int32) (la : Nat → Nat → Int64) (x y : Int64) (n : Nat) (hn : ii 5 = nI n) (hn2 : n ≤ 12) (sz : Nat) : Met l y_B_addCorner [.code y_B_addCorner c_B_addCorner 5 (some .boolean)] ({ frames := 1, cells := 0, slots := 0, locals := 30 }) (wP s0 D [.ref (a 0), .long x, .long y] (w_B a cA ii li ia la) sz) (va_Qi (fun r (u : St) => if n < 12 then r = 1 ∧ u = (va_up ii 5 (ii 5 + 1), bc_li li (ii 5) x y, ia, va_up (va_up la 0 (vp_updL (la 0) n x)) 1 (vp_updL (la 1) n y)) else r = 0 ∧ u = (ii, li, ia, la)) (wB D (va_A (w_B a cA ii li ia la) sz) (fun u => w_B a cA u.1 u.2.1 u.2.2.1 u.2.2.2)) (va_A (w_B a cA ii li ia la) sz)) 0 0 (va_A (w_B a cA ii li ia la) sz) := by
  refine wMet Z (by decide) (Nat.le_of_ble_eq_true rfl) ?_
  intro p e s m below meth c hx hb hr hml hown hlk hin hg hK hsz hP hD hA hlo hS ls hl
  subst hsz
  have hown : s.vm.findClass R_B = some m.cls := hown
  refine lv_aload_n hx hb d_B_addCorner_0 rfl (lv_at hl 0 rfl) ?_
  refine va_get (D := D) (ci := 2) (v := .int (ii 5)) (C := R_B) (T := T_B) (N := 12) hx hb (uw_B Z.1 hg.1) (fun _ h => h) hown hK hP 0 rfl rfl 5 (by decide) (kw43 Z.1 _ _ hg.1) (fun _ h9 => h9) rfl d_B_addCorner_1 ?_
  refine lv_bipush (v := 12) hx hb d_B_addCorner_4 (by decide) ?_
  refine lv_icmp_lt (tgt := 11) hx hb d_B_addCorner_6 (by decide) (fun c1 => ?_) (fun c1 => ?_)
  · have hlt : n < 12 := (nI_ltI (b := 12) (by omega) (by decide)).mp (by rw [← hn]; exact c1)
    have h_in : vp_in (ii 5) 12 := by rw [hn]; exact vp_in_nI hlt (by decide)
    have h_cl : (ii 5).toNatClampNeg = n := by rw [hn]; exact nI_clamp (by omega)
    refine lv_aload_n hx hb d_B_addCorner_11 rfl (lv_at hl 0 rfl) ?_
    refine lv_aload_n hx hb d_B_addCorner_12 rfl (lv_at hl 0 rfl) ?_
    refine va_get (D := D) (ci := 2) (v := .int (ii 5)) (C := R_B) (T := T_B) (N := 12) hx hb (uw_B Z.1 hg.1) (fun _ h => h) hown hK hP 0 rfl rfl 5 (by decide) (kw43 Z.1 _ _ hg.1) (fun _ h9 => h9) rfl d_B_addCorner_13 ?_
    refine lv_if_ne (tgt := 23) hx hb d_B_addCorner_16 (by decide) (fun z2 => ?_) (fun z2 => ?_)
    · refine lv_aload_n hx hb d_B_addCorner_23 rfl (lv_at hl 0 rfl) ?_
      refine va_get (D := D) (ci := 2) (v := .long (li 7)) (C := R_B) (T := T_B) (N := 12) hx hb (uw_B Z.1 hg.1) (fun _ h => h) hown hK hP 0 rfl rfl 7 (by decide) (kw45 Z.1 _ _ hg.1) (fun _ h9 => h9) rfl d_B_addCorner_24 ?_
      refine lv_lload_n hx hb d_B_addCorner_27 rfl (lv_at hl 1 rfl) ?_
      refine va_mmin_long hx hb (hml.trans hl.1.symm) hown (kw367 Z.1 _ _ hg.1) (kw26 Z.1 _ _ hg.1) (kw2 Z.1 _ _ hg.1) (kw27 Z.1 _ _ hg.1) (Nat.le_of_ble_eq_true rfl) (Nat.le_of_ble_eq_true rfl) (Nat.le_of_ble_eq_true rfl) (Nat.le_of_ble_eq_true rfl) d_B_addCorner_28 ?_
      refine lv_topl (fun z3 ez3 => ?_)
      refine va_put (D := D) (ci := 2) (v := .long z3) (ty := t_B 7) (C := R_B) (T := T_B) (N := 12) hx hb (uw_B Z.1 hg.1) (fun _ h => h) t_B t_B_ok n_B hown hK hP hD hS 0 rfl rfl 7 (by decide) (kw45 Z.1 _ _ hg.1) (fun _ h9 => h9) rfl (by decide +kernel) rfl rfl (Nat.le_of_ble_eq_true rfl) d_B_addCorner_31 (fun H locs hP hD hS => ?_)
      have hP : va_P D ncl (w_B a cA ii (va_up li 7 z3) ia la) H := hP
      have hD : va_D _ (w_B a cA ii (va_up li 7 z3) ia la) := hD
      refine lv_aload_n hx hb d_B_addCorner_34 rfl (lv_at hl 0 rfl) ?_
      refine lv_aload_n hx hb d_B_addCorner_35 rfl (lv_at hl 0 rfl) ?_
      refine va_get (D := D) (ci := 2) (v := .int (ii 5)) (C := R_B) (T := T_B) (N := 12) hx hb (uw_B Z.1 hg.1) (fun _ h => h) hown hK hP 0 rfl rfl 5 (by decide) (kw43 Z.1 _ _ hg.1) (fun _ h9 => h9) rfl d_B_addCorner_36 ?_
      refine lv_if_ne (tgt := 46) hx hb d_B_addCorner_39 (by decide) (fun _ => ?_) (fun k4 => by first | exact absurd z2 k4 | exact absurd k4 z2)
      refine lv_aload_n hx hb d_B_addCorner_46 rfl (lv_at hl 0 rfl) ?_
      refine va_get (D := D) (ci := 2) (v := .long (li 8)) (C := R_B) (T := T_B) (N := 12) hx hb (uw_B Z.1 hg.1) (fun _ h => h) hown hK hP 0 rfl rfl 8 (by decide) (kw46 Z.1 _ _ hg.1) (fun _ h9 => h9) rfl d_B_addCorner_47 ?_
      refine lv_lload_n hx hb d_B_addCorner_50 rfl (lv_at hl 2 rfl) ?_
      refine va_mmin_long hx hb (hml.trans hl.1.symm) hown (kw367 Z.1 _ _ hg.1) (kw26 Z.1 _ _ hg.1) (kw2 Z.1 _ _ hg.1) (kw27 Z.1 _ _ hg.1) (Nat.le_of_ble_eq_true rfl) (Nat.le_of_ble_eq_true rfl) (Nat.le_of_ble_eq_true rfl) (Nat.le_of_ble_eq_true rfl) d_B_addCorner_51 ?_
      refine lv_topl (fun z5 ez5 => ?_)
      refine va_put (D := D) (ci := 2) (v := .long z5) (ty := t_B 8) (C := R_B) (T := T_B) (N := 12) hx hb (uw_B Z.1 hg.1) (fun _ h => h) t_B t_B_ok n_B hown hK hP hD hS 0 rfl rfl 8 (by decide) (kw46 Z.1 _ _ hg.1) (fun _ h9 => h9) rfl (by decide +kernel) rfl rfl (Nat.le_of_ble_eq_true rfl) d_B_addCorner_54 (fun H locs hP hD hS => ?_)
      have hP : va_P D ncl (w_B a cA ii (va_up (va_up li 7 z3) 8 z5) ia la) H := hP
      have hD : va_D _ (w_B a cA ii (va_up (va_up li 7 z3) 8 z5) ia la) := hD
      refine lv_aload_n hx hb d_B_addCorner_57 rfl (lv_at hl 0 rfl) ?_
      refine lv_aload_n hx hb d_B_addCorner_58 rfl (lv_at hl 0 rfl) ?_
      refine va_get (D := D) (ci := 2) (v := .int (ii 5)) (C := R_B) (T := T_B) (N := 12) hx hb (uw_B Z.1 hg.1) (fun _ h => h) hown hK hP 0 rfl rfl 5 (by decide) (kw43 Z.1 _ _ hg.1) (fun _ h9 => h9) rfl d_B_addCorner_59 ?_
      refine lv_if_ne (tgt := 69) hx hb d_B_addCorner_62 (by decide) (fun _ => ?_) (fun k6 => by first | exact absurd z2 k6 | exact absurd k6 z2)
      refine lv_aload_n hx hb d_B_addCorner_69 rfl (lv_at hl 0 rfl) ?_
      refine va_get (D := D) (ci := 2) (v := .long (li 9)) (C := R_B) (T := T_B) (N := 12) hx hb (uw_B Z.1 hg.1) (fun _ h => h) hown hK hP 0 rfl rfl 9 (by decide) (kw47 Z.1 _ _ hg.1) (fun _ h9 => h9) rfl d_B_addCorner_70 ?_
      refine lv_lload_n hx hb d_B_addCorner_73 rfl (lv_at hl 1 rfl) ?_
      refine va_mmax_long hx hb (hml.trans hl.1.symm) hown (kw368 Z.1 _ _ hg.1) (kw29 Z.1 _ _ hg.1) (kw2 Z.1 _ _ hg.1) (kw30 Z.1 _ _ hg.1) (Nat.le_of_ble_eq_true rfl) (Nat.le_of_ble_eq_true rfl) (Nat.le_of_ble_eq_true rfl) (Nat.le_of_ble_eq_true rfl) d_B_addCorner_74 ?_
      refine lv_topl (fun z7 ez7 => ?_)
      refine va_put (D := D) (ci := 2) (v := .long z7) (ty := t_B 9) (C := R_B) (T := T_B) (N := 12) hx hb (uw_B Z.1 hg.1) (fun _ h => h) t_B t_B_ok n_B hown hK hP hD hS 0 rfl rfl 9 (by decide) (kw47 Z.1 _ _ hg.1) (fun _ h9 => h9) rfl (by decide +kernel) rfl rfl (Nat.le_of_ble_eq_true rfl) d_B_addCorner_77 (fun H locs hP hD hS => ?_)
      have hP : va_P D ncl (w_B a cA ii (va_up (va_up (va_up li 7 z3) 8 z5) 9 z7) ia la) H := hP
      have hD : va_D _ (w_B a cA ii (va_up (va_up (va_up li 7 z3) 8 z5) 9 z7) ia la) := hD
      refine lv_aload_n hx hb d_B_addCorner_80 rfl (lv_at hl 0 rfl) ?_
      refine lv_aload_n hx hb d_B_addCorner_81 rfl (lv_at hl 0 rfl) ?_
      refine va_get (D := D) (ci := 2) (v := .int (ii 5)) (C := R_B) (T := T_B) (N := 12) hx hb (uw_B Z.1 hg.1) (fun _ h => h) hown hK hP 0 rfl rfl 5 (by decide) (kw43 Z.1 _ _ hg.1) (fun _ h9 => h9) rfl d_B_addCorner_82 ?_
      refine lv_if_ne (tgt := 92) hx hb d_B_addCorner_85 (by decide) (fun _ => ?_) (fun k8 => by first | exact absurd z2 k8 | exact absurd k8 z2)
      refine lv_aload_n hx hb d_B_addCorner_92 rfl (lv_at hl 0 rfl) ?_
      refine va_get (D := D) (ci := 2) (v := .long (li 10)) (C := R_B) (T := T_B) (N := 12) hx hb (uw_B Z.1 hg.1) (fun _ h => h) hown hK hP 0 rfl rfl 10 (by decide) (kw48 Z.1 _ _ hg.1) (fun _ h9 => h9) rfl d_B_addCorner_93 ?_
      refine lv_lload_n hx hb d_B_addCorner_96 rfl (lv_at hl 2 rfl) ?_
      refine va_mmax_long hx hb (hml.trans hl.1.symm) hown (kw368 Z.1 _ _ hg.1) (kw29 Z.1 _ _ hg.1) (kw2 Z.1 _ _ hg.1) (kw30 Z.1 _ _ hg.1) (Nat.le_of_ble_eq_true rfl) (Nat.le_of_ble_eq_true rfl) (Nat.le_of_ble_eq_true rfl) (Nat.le_of_ble_eq_true rfl) d_B_addCorner_97 ?_
      refine lv_topl (fun z9 ez9 => ?_)
      refine va_put (D := D) (ci := 2) (v := .long z9) (ty := t_B 10) (C := R_B) (T := T_B) (N := 12) hx hb (uw_B Z.1 hg.1) (fun _ h => h) t_B t_B_ok n_B hown hK hP hD hS 0 rfl rfl 10 (by decide) (kw48 Z.1 _ _ hg.1) (fun _ h9 => h9) rfl (by decide +kernel) rfl rfl (Nat.le_of_ble_eq_true rfl) d_B_addCorner_100 (fun H locs hP hD hS => ?_)
      have hP : va_P D ncl (w_B a cA ii (va_up (va_up (va_up (va_up li 7 z3) 8 z5) 9 z7) 10 z9) ia la) H := hP
      have hD : va_D _ (w_B a cA ii (va_up (va_up (va_up (va_up li 7 z3) 8 z5) 9 z7) 10 z9) ia la) := hD
      refine lv_aload_n hx hb d_B_addCorner_103 rfl (lv_at hl 0 rfl) ?_
      refine va_get (D := D) (ci := 2) (v := .ref (a 1)) (C := R_B) (T := T_B) (N := 12) hx hb (uw_B Z.1 hg.1) (fun _ h => h) hown hK hP 0 rfl rfl 0 (by decide) (kw38 Z.1 _ _ hg.1) (fun _ h9 => h9) rfl d_B_addCorner_104 ?_
      refine lv_aload_n hx hb d_B_addCorner_107 rfl (lv_at hl 0 rfl) ?_
      refine va_get (D := D) (ci := 2) (v := .int (ii 5)) (C := R_B) (T := T_B) (N := 12) hx hb (uw_B Z.1 hg.1) (fun _ h => h) hown hK hP 0 rfl rfl 5 (by decide) (kw43 Z.1 _ _ hg.1) (fun _ h9 => h9) rfl d_B_addCorner_108 ?_
      refine lv_lload_n hx hb d_B_addCorner_111 rfl (lv_at hl 1 rfl) ?_
      refine va_last hx hb hK hP hD hS 1 1 rfl rfl h_in d_B_addCorner_112 (fun H locs hP hD hS => ?_)
      have hP : va_P D ncl (w_B a cA ii (va_up (va_up (va_up (va_up li 7 z3) 8 z5) 9 z7) 10 z9) ia (va_up la 0 (vp_updL (la 0) (Int32.toNatClampNeg (ii 5)) x))) H := hP
      have hD : va_D _ (w_B a cA ii (va_up (va_up (va_up (va_up li 7 z3) 8 z5) 9 z7) 10 z9) ia (va_up la 0 (vp_updL (la 0) (Int32.toNatClampNeg (ii 5)) x))) := hD
      refine lv_aload_n hx hb d_B_addCorner_113 rfl (lv_at hl 0 rfl) ?_
      refine va_get (D := D) (ci := 2) (v := .ref (a 2)) (C := R_B) (T := T_B) (N := 12) hx hb (uw_B Z.1 hg.1) (fun _ h => h) hown hK hP 0 rfl rfl 1 (by decide) (kw39 Z.1 _ _ hg.1) (fun _ h9 => h9) rfl d_B_addCorner_114 ?_
      refine lv_aload_n hx hb d_B_addCorner_117 rfl (lv_at hl 0 rfl) ?_
      refine va_get (D := D) (ci := 2) (v := .int (ii 5)) (C := R_B) (T := T_B) (N := 12) hx hb (uw_B Z.1 hg.1) (fun _ h => h) hown hK hP 0 rfl rfl 5 (by decide) (kw43 Z.1 _ _ hg.1) (fun _ h9 => h9) rfl d_B_addCorner_118 ?_
      refine lv_lload_n hx hb d_B_addCorner_121 rfl (lv_at hl 2 rfl) ?_
      refine va_last hx hb hK hP hD hS 2 1 rfl rfl h_in d_B_addCorner_122 (fun H locs hP hD hS => ?_)
      have hP : va_P D ncl (w_B a cA ii (va_up (va_up (va_up (va_up li 7 z3) 8 z5) 9 z7) 10 z9) ia (va_up (va_up la 0 (vp_updL (la 0) (Int32.toNatClampNeg (ii 5)) x)) 1 (vp_updL (la 1) (Int32.toNatClampNeg (ii 5)) y))) H := hP
      have hD : va_D _ (w_B a cA ii (va_up (va_up (va_up (va_up li 7 z3) 8 z5) 9 z7) 10 z9) ia (va_up (va_up la 0 (vp_updL (la 0) (Int32.toNatClampNeg (ii 5)) x)) 1 (vp_updL (la 1) (Int32.toNatClampNeg (ii 5)) y))) := hD
      refine lv_aload_n hx hb d_B_addCorner_123 rfl (lv_at hl 0 rfl) ?_
      refine lv_dup hx hb d_B_addCorner_124 rfl ?_
      refine va_get (D := D) (ci := 2) (v := .int (ii 5)) (C := R_B) (T := T_B) (N := 12) hx hb (uw_B Z.1 hg.1) (fun _ h => h) hown hK hP 0 rfl rfl 5 (by decide) (kw43 Z.1 _ _ hg.1) (fun _ h9 => h9) rfl d_B_addCorner_125 ?_
      refine lv_iconst (v := 1) hx hb d_B_addCorner_128 (by decide) ?_
      refine lv_iadd hx hb d_B_addCorner_129 ?_
      refine va_put (D := D) (ci := 2) (v := .int ((ii 5) + 1)) (ty := t_B 5) (C := R_B) (T := T_B) (N := 12) hx hb (uw_B Z.1 hg.1) (fun _ h => h) t_B t_B_ok n_B hown hK hP hD hS 0 rfl rfl 5 (by decide) (kw43 Z.1 _ _ hg.1) (fun _ h9 => h9) rfl (by decide +kernel) rfl rfl (Nat.le_of_ble_eq_true rfl) d_B_addCorner_130 (fun H locs hP hD hS => ?_)
      have hP : va_P D ncl (w_B a cA (va_up ii 5 ((ii 5) + 1)) (va_up (va_up (va_up (va_up li 7 z3) 8 z5) 9 z7) 10 z9) ia (va_up (va_up la 0 (vp_updL (la 0) (Int32.toNatClampNeg (ii 5)) x)) 1 (vp_updL (la 1) (Int32.toNatClampNeg (ii 5)) y))) H := hP
      have hD : va_D _ (w_B a cA (va_up ii 5 ((ii 5) + 1)) (va_up (va_up (va_up (va_up li 7 z3) 8 z5) 9 z7) 10 z9) ia (va_up (va_up la 0 (vp_updL (la 0) (Int32.toNatClampNeg (ii 5)) x)) 1 (vp_updL (la 1) (Int32.toNatClampNeg (ii 5)) y))) := hD
      refine lv_iconst (v := 1) hx hb d_B_addCorner_133 (by decide) ?_
      exact w_zret hx hb hr rfl hlk hP hD hS ((va_up ii 5 ((ii 5) + 1)), (va_up (va_up (va_up (va_up li 7 z3) 8 z5) 9 z7) 10 z9), ia, (va_up (va_up la 0 (vp_updL (la 0) (Int32.toNatClampNeg (ii 5)) x)) 1 (vp_updL (la 1) (Int32.toNatClampNeg (ii 5)) y))) rfl (by rw [if_pos hlt]; refine ⟨rfl, ?_⟩; unfold bc_li; rw [if_neg z2, h_cl, ez3, ez5, ez7, ez9]) d_B_addCorner_134
    · refine lv_lload_n hx hb d_B_addCorner_19 rfl (lv_at hl 1 rfl) ?_
      refine lv_goto (tgt := 31) hx hb d_B_addCorner_20 (by decide) ?_
      refine va_put (D := D) (ci := 2) (v := .long x) (ty := t_B 7) (C := R_B) (T := T_B) (N := 12) hx hb (uw_B Z.1 hg.1) (fun _ h => h) t_B t_B_ok n_B hown hK hP hD hS 0 rfl rfl 7 (by decide) (kw45 Z.1 _ _ hg.1) (fun _ h9 => h9) rfl (by decide +kernel) rfl rfl (Nat.le_of_ble_eq_true rfl) d_B_addCorner_31 (fun H locs hP hD hS => ?_)
      have hP : va_P D ncl (w_B a cA ii (va_up li 7 x) ia la) H := hP
      have hD : va_D _ (w_B a cA ii (va_up li 7 x) ia la) := hD
      refine lv_aload_n hx hb d_B_addCorner_34 rfl (lv_at hl 0 rfl) ?_
      refine lv_aload_n hx hb d_B_addCorner_35 rfl (lv_at hl 0 rfl) ?_
      refine va_get (D := D) (ci := 2) (v := .int (ii 5)) (C := R_B) (T := T_B) (N := 12) hx hb (uw_B Z.1 hg.1) (fun _ h => h) hown hK hP 0 rfl rfl 5 (by decide) (kw43 Z.1 _ _ hg.1) (fun _ h9 => h9) rfl d_B_addCorner_36 ?_
      refine lv_if_ne (tgt := 46) hx hb d_B_addCorner_39 (by decide) (fun k10 => by first | exact absurd z2 k10 | exact absurd k10 z2) (fun _ => ?_)
      refine lv_lload_n hx hb d_B_addCorner_42 rfl (lv_at hl 2 rfl) ?_
      refine lv_goto (tgt := 54) hx hb d_B_addCorner_43 (by decide) ?_
      refine va_put (D := D) (ci := 2) (v := .long y) (ty := t_B 8) (C := R_B) (T := T_B) (N := 12) hx hb (uw_B Z.1 hg.1) (fun _ h => h) t_B t_B_ok n_B hown hK hP hD hS 0 rfl rfl 8 (by decide) (kw46 Z.1 _ _ hg.1) (fun _ h9 => h9) rfl (by decide +kernel) rfl rfl (Nat.le_of_ble_eq_true rfl) d_B_addCorner_54 (fun H locs hP hD hS => ?_)
      have hP : va_P D ncl (w_B a cA ii (va_up (va_up li 7 x) 8 y) ia la) H := hP
      have hD : va_D _ (w_B a cA ii (va_up (va_up li 7 x) 8 y) ia la) := hD
      refine lv_aload_n hx hb d_B_addCorner_57 rfl (lv_at hl 0 rfl) ?_
      refine lv_aload_n hx hb d_B_addCorner_58 rfl (lv_at hl 0 rfl) ?_
      refine va_get (D := D) (ci := 2) (v := .int (ii 5)) (C := R_B) (T := T_B) (N := 12) hx hb (uw_B Z.1 hg.1) (fun _ h => h) hown hK hP 0 rfl rfl 5 (by decide) (kw43 Z.1 _ _ hg.1) (fun _ h9 => h9) rfl d_B_addCorner_59 ?_
      refine lv_if_ne (tgt := 69) hx hb d_B_addCorner_62 (by decide) (fun k11 => by first | exact absurd z2 k11 | exact absurd k11 z2) (fun _ => ?_)
      refine lv_lload_n hx hb d_B_addCorner_65 rfl (lv_at hl 1 rfl) ?_
      refine lv_goto (tgt := 77) hx hb d_B_addCorner_66 (by decide) ?_
      refine va_put (D := D) (ci := 2) (v := .long x) (ty := t_B 9) (C := R_B) (T := T_B) (N := 12) hx hb (uw_B Z.1 hg.1) (fun _ h => h) t_B t_B_ok n_B hown hK hP hD hS 0 rfl rfl 9 (by decide) (kw47 Z.1 _ _ hg.1) (fun _ h9 => h9) rfl (by decide +kernel) rfl rfl (Nat.le_of_ble_eq_true rfl) d_B_addCorner_77 (fun H locs hP hD hS => ?_)
      have hP : va_P D ncl (w_B a cA ii (va_up (va_up (va_up li 7 x) 8 y) 9 x) ia la) H := hP
      have hD : va_D _ (w_B a cA ii (va_up (va_up (va_up li 7 x) 8 y) 9 x) ia la) := hD
      refine lv_aload_n hx hb d_B_addCorner_80 rfl (lv_at hl 0 rfl) ?_
      refine lv_aload_n hx hb d_B_addCorner_81 rfl (lv_at hl 0 rfl) ?_
      refine va_get (D := D) (ci := 2) (v := .int (ii 5)) (C := R_B) (T := T_B) (N := 12) hx hb (uw_B Z.1 hg.1) (fun _ h => h) hown hK hP 0 rfl rfl 5 (by decide) (kw43 Z.1 _ _ hg.1) (fun _ h9 => h9) rfl d_B_addCorner_82 ?_
      refine lv_if_ne (tgt := 92) hx hb d_B_addCorner_85 (by decide) (fun k12 => by first | exact absurd z2 k12 | exact absurd k12 z2) (fun _ => ?_)
      refine lv_lload_n hx hb d_B_addCorner_88 rfl (lv_at hl 2 rfl) ?_
      refine lv_goto (tgt := 100) hx hb d_B_addCorner_89 (by decide) ?_
      refine va_put (D := D) (ci := 2) (v := .long y) (ty := t_B 10) (C := R_B) (T := T_B) (N := 12) hx hb (uw_B Z.1 hg.1) (fun _ h => h) t_B t_B_ok n_B hown hK hP hD hS 0 rfl rfl 10 (by decide) (kw48 Z.1 _ _ hg.1) (fun _ h9 => h9) rfl (by decide +kernel) rfl rfl (Nat.le_of_ble_eq_true rfl) d_B_addCorner_100 (fun H locs hP hD hS => ?_)
      have hP : va_P D ncl (w_B a cA ii (va_up (va_up (va_up (va_up li 7 x) 8 y) 9 x) 10 y) ia la) H := hP
      have hD : va_D _ (w_B a cA ii (va_up (va_up (va_up (va_up li 7 x) 8 y) 9 x) 10 y) ia la) := hD
      refine lv_aload_n hx hb d_B_addCorner_103 rfl (lv_at hl 0 rfl) ?_
      refine va_get (D := D) (ci := 2) (v := .ref (a 1)) (C := R_B) (T := T_B) (N := 12) hx hb (uw_B Z.1 hg.1) (fun _ h => h) hown hK hP 0 rfl rfl 0 (by decide) (kw38 Z.1 _ _ hg.1) (fun _ h9 => h9) rfl d_B_addCorner_104 ?_
      refine lv_aload_n hx hb d_B_addCorner_107 rfl (lv_at hl 0 rfl) ?_
      refine va_get (D := D) (ci := 2) (v := .int (ii 5)) (C := R_B) (T := T_B) (N := 12) hx hb (uw_B Z.1 hg.1) (fun _ h => h) hown hK hP 0 rfl rfl 5 (by decide) (kw43 Z.1 _ _ hg.1) (fun _ h9 => h9) rfl d_B_addCorner_108 ?_
      refine lv_lload_n hx hb d_B_addCorner_111 rfl (lv_at hl 1 rfl) ?_
      refine va_last hx hb hK hP hD hS 1 1 rfl rfl h_in d_B_addCorner_112 (fun H locs hP hD hS => ?_)
      have hP : va_P D ncl (w_B a cA ii (va_up (va_up (va_up (va_up li 7 x) 8 y) 9 x) 10 y) ia (va_up la 0 (vp_updL (la 0) (Int32.toNatClampNeg (ii 5)) x))) H := hP
      have hD : va_D _ (w_B a cA ii (va_up (va_up (va_up (va_up li 7 x) 8 y) 9 x) 10 y) ia (va_up la 0 (vp_updL (la 0) (Int32.toNatClampNeg (ii 5)) x))) := hD
      refine lv_aload_n hx hb d_B_addCorner_113 rfl (lv_at hl 0 rfl) ?_
      refine va_get (D := D) (ci := 2) (v := .ref (a 2)) (C := R_B) (T := T_B) (N := 12) hx hb (uw_B Z.1 hg.1) (fun _ h => h) hown hK hP 0 rfl rfl 1 (by decide) (kw39 Z.1 _ _ hg.1) (fun _ h9 => h9) rfl d_B_addCorner_114 ?_
      refine lv_aload_n hx hb d_B_addCorner_117 rfl (lv_at hl 0 rfl) ?_
      refine va_get (D := D) (ci := 2) (v := .int (ii 5)) (C := R_B) (T := T_B) (N := 12) hx hb (uw_B Z.1 hg.1) (fun _ h => h) hown hK hP 0 rfl rfl 5 (by decide) (kw43 Z.1 _ _ hg.1) (fun _ h9 => h9) rfl d_B_addCorner_118 ?_
      refine lv_lload_n hx hb d_B_addCorner_121 rfl (lv_at hl 2 rfl) ?_
      refine va_last hx hb hK hP hD hS 2 1 rfl rfl h_in d_B_addCorner_122 (fun H locs hP hD hS => ?_)
      have hP : va_P D ncl (w_B a cA ii (va_up (va_up (va_up (va_up li 7 x) 8 y) 9 x) 10 y) ia (va_up (va_up la 0 (vp_updL (la 0) (Int32.toNatClampNeg (ii 5)) x)) 1 (vp_updL (la 1) (Int32.toNatClampNeg (ii 5)) y))) H := hP
      have hD : va_D _ (w_B a cA ii (va_up (va_up (va_up (va_up li 7 x) 8 y) 9 x) 10 y) ia (va_up (va_up la 0 (vp_updL (la 0) (Int32.toNatClampNeg (ii 5)) x)) 1 (vp_updL (la 1) (Int32.toNatClampNeg (ii 5)) y))) := hD
      refine lv_aload_n hx hb d_B_addCorner_123 rfl (lv_at hl 0 rfl) ?_
      refine lv_dup hx hb d_B_addCorner_124 rfl ?_
      refine va_get (D := D) (ci := 2) (v := .int (ii 5)) (C := R_B) (T := T_B) (N := 12) hx hb (uw_B Z.1 hg.1) (fun _ h => h) hown hK hP 0 rfl rfl 5 (by decide) (kw43 Z.1 _ _ hg.1) (fun _ h9 => h9) rfl d_B_addCorner_125 ?_
      refine lv_iconst (v := 1) hx hb d_B_addCorner_128 (by decide) ?_
      refine lv_iadd hx hb d_B_addCorner_129 ?_
      refine va_put (D := D) (ci := 2) (v := .int ((ii 5) + 1)) (ty := t_B 5) (C := R_B) (T := T_B) (N := 12) hx hb (uw_B Z.1 hg.1) (fun _ h => h) t_B t_B_ok n_B hown hK hP hD hS 0 rfl rfl 5 (by decide) (kw43 Z.1 _ _ hg.1) (fun _ h9 => h9) rfl (by decide +kernel) rfl rfl (Nat.le_of_ble_eq_true rfl) d_B_addCorner_130 (fun H locs hP hD hS => ?_)
      have hP : va_P D ncl (w_B a cA (va_up ii 5 ((ii 5) + 1)) (va_up (va_up (va_up (va_up li 7 x) 8 y) 9 x) 10 y) ia (va_up (va_up la 0 (vp_updL (la 0) (Int32.toNatClampNeg (ii 5)) x)) 1 (vp_updL (la 1) (Int32.toNatClampNeg (ii 5)) y))) H := hP
      have hD : va_D _ (w_B a cA (va_up ii 5 ((ii 5) + 1)) (va_up (va_up (va_up (va_up li 7 x) 8 y) 9 x) 10 y) ia (va_up (va_up la 0 (vp_updL (la 0) (Int32.toNatClampNeg (ii 5)) x)) 1 (vp_updL (la 1) (Int32.toNatClampNeg (ii 5)) y))) := hD
      refine lv_iconst (v := 1) hx hb d_B_addCorner_133 (by decide) ?_
      exact w_zret hx hb hr rfl hlk hP hD hS ((va_up ii 5 ((ii 5) + 1)), (va_up (va_up (va_up (va_up li 7 x) 8 y) 9 x) 10 y), ia, (va_up (va_up la 0 (vp_updL (la 0) (Int32.toNatClampNeg (ii 5)) x)) 1 (vp_updL (la 1) (Int32.toNatClampNeg (ii 5)) y))) rfl (by rw [if_pos hlt]; refine ⟨rfl, ?_⟩; unfold bc_li; rw [if_pos z2, h_cl]) d_B_addCorner_134
  · refine lv_iconst (v := 0) hx hb d_B_addCorner_9 (by decide) ?_
    exact w_zret hx hb hr rfl hlk hP hD hS (ii, li, ia, la) rfl (by rw [if_neg (fun q => c1 (by rw [hn]; exact (nI_ltI (by omega) (by decide)).mpr q))]; exact ⟨rfl, rfl⟩) d_B_addCorner_10
set_option maxHeartbeats 4000000 in
set_option maxRecDepth 100000 in
theorem m_B_addPart {l : Launch} {s0 : State} {D : va_G} {cA sa : Nat → Nat} (Z : zE l s0 D cA sa) (a : Nat → Nat) (ii : Nat → Int32) (li : Nat → Int64) (ia : Nat → Nat → Int32) (la : Nat → Nat → Int64) (x y r0 : Int64) (n : Nat) (hn : ii 6 = nI n) (hn2 : n ≤ 10) (sz : Nat) : Met l y_B_addPart [.code y_B_addPart c_B_addPart 7 (some .boolean)] ({ frames := 0, cells := 0, slots := 0, locals := 0 }) (wP s0 D [.ref (a 0), .long x, .long y, .long r0] (w_B a cA ii li ia la) sz) (va_Qi (fun r (u : St) => if n < 10 then r = 1 ∧ u = (va_up ii 6 (ii 6 + 1), li, ia, va_up (va_up (va_up la 2 (vp_updL (la 2) n x)) 3 (vp_updL (la 3) n y)) 4 (vp_updL (la 4) n r0)) else r = 0 ∧ u = (ii, li, ia, la)) (wB D (va_A (w_B a cA ii li ia la) sz) (fun u => w_B a cA u.1 u.2.1 u.2.2.1 u.2.2.2)) (va_A (w_B a cA ii li ia la) sz)) 0 0 (va_A (w_B a cA ii li ia la) sz) := by
  refine wMet Z (by decide) (Nat.le_of_ble_eq_true rfl) ?_
  intro p e s m below meth c hx hb hr hml hown hlk hin hg hK hsz hP hD hA hlo hS ls hl
  subst hsz
  have hown : s.vm.findClass R_B = some m.cls := hown
  refine lv_aload_n hx hb d_B_addPart_0 rfl (lv_at hl 0 rfl) ?_
  refine va_get (D := D) (ci := 2) (v := .int (ii 6)) (C := R_B) (T := T_B) (N := 12) hx hb (uw_B Z.1 hg.1) (fun _ h => h) hown hK hP 0 rfl rfl 6 (by decide) (kw44 Z.1 _ _ hg.1) (fun _ h9 => h9) rfl d_B_addPart_1 ?_
  refine lv_bipush (v := 10) hx hb d_B_addPart_4 (by decide) ?_
  refine lv_icmp_lt (tgt := 11) hx hb d_B_addPart_6 (by decide) (fun c1 => ?_) (fun c1 => ?_)
  · have hlt : n < 10 := (nI_ltI (b := 10) (by omega) (by decide)).mp (by rw [← hn]; exact c1)
    have h_in : vp_in (ii 6) 10 := by rw [hn]; exact vp_in_nI hlt (by decide)
    have h_cl : (ii 6).toNatClampNeg = n := by rw [hn]; exact nI_clamp (by omega)
    refine lv_aload_n hx hb d_B_addPart_11 rfl (lv_at hl 0 rfl) ?_
    refine va_get (D := D) (ci := 2) (v := .ref (a 3)) (C := R_B) (T := T_B) (N := 12) hx hb (uw_B Z.1 hg.1) (fun _ h => h) hown hK hP 0 rfl rfl 2 (by decide) (kw40 Z.1 _ _ hg.1) (fun _ h9 => h9) rfl d_B_addPart_12 ?_
    refine lv_aload_n hx hb d_B_addPart_15 rfl (lv_at hl 0 rfl) ?_
    refine va_get (D := D) (ci := 2) (v := .int (ii 6)) (C := R_B) (T := T_B) (N := 12) hx hb (uw_B Z.1 hg.1) (fun _ h => h) hown hK hP 0 rfl rfl 6 (by decide) (kw44 Z.1 _ _ hg.1) (fun _ h9 => h9) rfl d_B_addPart_16 ?_
    refine lv_lload_n hx hb d_B_addPart_19 rfl (lv_at hl 1 rfl) ?_
    refine va_last hx hb hK hP hD hS 3 1 rfl rfl h_in d_B_addPart_20 (fun H locs hP hD hS => ?_)
    have hP : va_P D ncl (w_B a cA ii li ia (va_up la 2 (vp_updL (la 2) (Int32.toNatClampNeg (ii 6)) x))) H := hP
    have hD : va_D _ (w_B a cA ii li ia (va_up la 2 (vp_updL (la 2) (Int32.toNatClampNeg (ii 6)) x))) := hD
    refine lv_aload_n hx hb d_B_addPart_21 rfl (lv_at hl 0 rfl) ?_
    refine va_get (D := D) (ci := 2) (v := .ref (a 4)) (C := R_B) (T := T_B) (N := 12) hx hb (uw_B Z.1 hg.1) (fun _ h => h) hown hK hP 0 rfl rfl 3 (by decide) (kw41 Z.1 _ _ hg.1) (fun _ h9 => h9) rfl d_B_addPart_22 ?_
    refine lv_aload_n hx hb d_B_addPart_25 rfl (lv_at hl 0 rfl) ?_
    refine va_get (D := D) (ci := 2) (v := .int (ii 6)) (C := R_B) (T := T_B) (N := 12) hx hb (uw_B Z.1 hg.1) (fun _ h => h) hown hK hP 0 rfl rfl 6 (by decide) (kw44 Z.1 _ _ hg.1) (fun _ h9 => h9) rfl d_B_addPart_26 ?_
    refine lv_lload_n hx hb d_B_addPart_29 rfl (lv_at hl 2 rfl) ?_
    refine va_last hx hb hK hP hD hS 4 1 rfl rfl h_in d_B_addPart_30 (fun H locs hP hD hS => ?_)
    have hP : va_P D ncl (w_B a cA ii li ia (va_up (va_up la 2 (vp_updL (la 2) (Int32.toNatClampNeg (ii 6)) x)) 3 (vp_updL (la 3) (Int32.toNatClampNeg (ii 6)) y))) H := hP
    have hD : va_D _ (w_B a cA ii li ia (va_up (va_up la 2 (vp_updL (la 2) (Int32.toNatClampNeg (ii 6)) x)) 3 (vp_updL (la 3) (Int32.toNatClampNeg (ii 6)) y))) := hD
    refine lv_aload_n hx hb d_B_addPart_31 rfl (lv_at hl 0 rfl) ?_
    refine va_get (D := D) (ci := 2) (v := .ref (a 5)) (C := R_B) (T := T_B) (N := 12) hx hb (uw_B Z.1 hg.1) (fun _ h => h) hown hK hP 0 rfl rfl 4 (by decide) (kw42 Z.1 _ _ hg.1) (fun _ h9 => h9) rfl d_B_addPart_32 ?_
    refine lv_aload_n hx hb d_B_addPart_35 rfl (lv_at hl 0 rfl) ?_
    refine va_get (D := D) (ci := 2) (v := .int (ii 6)) (C := R_B) (T := T_B) (N := 12) hx hb (uw_B Z.1 hg.1) (fun _ h => h) hown hK hP 0 rfl rfl 6 (by decide) (kw44 Z.1 _ _ hg.1) (fun _ h9 => h9) rfl d_B_addPart_36 ?_
    refine lv_lload hx hb d_B_addPart_39 (lv_at hl 3 rfl) ?_
    refine va_last hx hb hK hP hD hS 5 1 rfl rfl h_in d_B_addPart_41 (fun H locs hP hD hS => ?_)
    have hP : va_P D ncl (w_B a cA ii li ia (va_up (va_up (va_up la 2 (vp_updL (la 2) (Int32.toNatClampNeg (ii 6)) x)) 3 (vp_updL (la 3) (Int32.toNatClampNeg (ii 6)) y)) 4 (vp_updL (la 4) (Int32.toNatClampNeg (ii 6)) r0))) H := hP
    have hD : va_D _ (w_B a cA ii li ia (va_up (va_up (va_up la 2 (vp_updL (la 2) (Int32.toNatClampNeg (ii 6)) x)) 3 (vp_updL (la 3) (Int32.toNatClampNeg (ii 6)) y)) 4 (vp_updL (la 4) (Int32.toNatClampNeg (ii 6)) r0))) := hD
    refine lv_aload_n hx hb d_B_addPart_42 rfl (lv_at hl 0 rfl) ?_
    refine lv_dup hx hb d_B_addPart_43 rfl ?_
    refine va_get (D := D) (ci := 2) (v := .int (ii 6)) (C := R_B) (T := T_B) (N := 12) hx hb (uw_B Z.1 hg.1) (fun _ h => h) hown hK hP 0 rfl rfl 6 (by decide) (kw44 Z.1 _ _ hg.1) (fun _ h9 => h9) rfl d_B_addPart_44 ?_
    refine lv_iconst (v := 1) hx hb d_B_addPart_47 (by decide) ?_
    refine lv_iadd hx hb d_B_addPart_48 ?_
    refine va_put (D := D) (ci := 2) (v := .int ((ii 6) + 1)) (ty := t_B 6) (C := R_B) (T := T_B) (N := 12) hx hb (uw_B Z.1 hg.1) (fun _ h => h) t_B t_B_ok n_B hown hK hP hD hS 0 rfl rfl 6 (by decide) (kw44 Z.1 _ _ hg.1) (fun _ h9 => h9) rfl (by decide +kernel) rfl rfl (Nat.le_of_ble_eq_true rfl) d_B_addPart_49 (fun H locs hP hD hS => ?_)
    have hP : va_P D ncl (w_B a cA (va_up ii 6 ((ii 6) + 1)) li ia (va_up (va_up (va_up la 2 (vp_updL (la 2) (Int32.toNatClampNeg (ii 6)) x)) 3 (vp_updL (la 3) (Int32.toNatClampNeg (ii 6)) y)) 4 (vp_updL (la 4) (Int32.toNatClampNeg (ii 6)) r0))) H := hP
    have hD : va_D _ (w_B a cA (va_up ii 6 ((ii 6) + 1)) li ia (va_up (va_up (va_up la 2 (vp_updL (la 2) (Int32.toNatClampNeg (ii 6)) x)) 3 (vp_updL (la 3) (Int32.toNatClampNeg (ii 6)) y)) 4 (vp_updL (la 4) (Int32.toNatClampNeg (ii 6)) r0))) := hD
    refine lv_iconst (v := 1) hx hb d_B_addPart_52 (by decide) ?_
    exact w_zret hx hb hr rfl hlk hP hD hS ((va_up ii 6 ((ii 6) + 1)), li, ia, (va_up (va_up (va_up la 2 (vp_updL (la 2) (Int32.toNatClampNeg (ii 6)) x)) 3 (vp_updL (la 3) (Int32.toNatClampNeg (ii 6)) y)) 4 (vp_updL (la 4) (Int32.toNatClampNeg (ii 6)) r0))) rfl (by rw [if_pos hlt]; refine ⟨rfl, ?_⟩; rw [h_cl]) d_B_addPart_53
  · refine lv_iconst (v := 0) hx hb d_B_addPart_9 (by decide) ?_
    exact w_zret hx hb hr rfl hlk hP hD hS (ii, li, ia, la) rfl (by rw [if_neg (fun q => c1 (by rw [hn]; exact (nI_ltI (by omega) (by decide)).mpr q))]; exact ⟨rfl, rfl⟩) d_B_addPart_10
