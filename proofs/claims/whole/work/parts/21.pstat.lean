def pn_len (v : Int64) : Int64 := if (if 65536 < v then 65536 else v) < 1 then 1 else (if 65536 < v then 65536 else v)
set_option maxHeartbeats 4000000 in
set_option maxRecDepth 100000 in
theorem m_P_asPanelLength {l : Launch} {s0 : State} {D : va_G} {cA sa : Nat → Nat} (Z : zE l s0 D cA sa) (v : Int64) (sz : Nat) : Met l y_P_asPanelLength [.code y_P_asPanelLength c_P_asPanelLength 2 (some .long)] ({ frames := 1, cells := 0, slots := 0, locals := 30 }) (wP s0 D [.long v] (([] : va_W)) sz) (va_Ql (fun r (_ : Unit) => r = pn_len v) (wB D (va_A (([] : va_W)) sz) (fun _ => ([] : va_W))) (va_A (([] : va_W)) sz)) 0 0 (va_A (([] : va_W)) sz) := by
  refine wMet Z (by decide) (Nat.le_of_ble_eq_true rfl) ?_
  intro p e s m below meth c hx hb hr hml hown hlk hin hg hK hsz hP hD hA hlo hS ls hl
  subst hsz
  have hown : s.vm.findClass R_P = some m.cls := hown
  refine lv_lconst (v := 1) hx hb d_P_asPanelLength_0 (by decide) ?_
  refine lv_lload_n hx hb d_P_asPanelLength_1 rfl (lv_at hl 0 rfl) ?_
  refine lv_ldc2 (v := 65536) hx hb hown (kw24 Z.1 _ _ hg.1) d_P_asPanelLength_2 ?_
  refine va_mmin_long hx hb (hml.trans hl.1.symm) hown (kw25 Z.1 _ _ hg.1) (kw26 Z.1 _ _ hg.1) (kw2 Z.1 _ _ hg.1) (kw27 Z.1 _ _ hg.1) (Nat.le_of_ble_eq_true rfl) (Nat.le_of_ble_eq_true rfl) (Nat.le_of_ble_eq_true rfl) (Nat.le_of_ble_eq_true rfl) d_P_asPanelLength_5 ?_
  refine lv_topl (fun z1 ez1 => ?_)
  refine va_mmax_long hx hb (hml.trans hl.1.symm) hown (kw28 Z.1 _ _ hg.1) (kw29 Z.1 _ _ hg.1) (kw2 Z.1 _ _ hg.1) (kw30 Z.1 _ _ hg.1) (Nat.le_of_ble_eq_true rfl) (Nat.le_of_ble_eq_true rfl) (Nat.le_of_ble_eq_true rfl) (Nat.le_of_ble_eq_true rfl) d_P_asPanelLength_8 ?_
  refine lv_topl (fun z2 ez2 => ?_)
  exact w_lret hx hb hr hlk hP hD hS () rfl (by rw [ez2, ez1]; rfl) d_P_asPanelLength_11
set_option maxHeartbeats 4000000 in
set_option maxRecDepth 100000 in
theorem m_P_isWithin {l : Launch} {s0 : State} {D : va_G} {cA sa : Nat → Nat} (Z : zE l s0 D cA sa) (v lo hi : Int64) (sz : Nat) : Met l y_P_isWithin [.code y_P_isWithin c_P_isWithin 6 (some .boolean)] ({ frames := 0, cells := 0, slots := 0, locals := 0 }) (wP s0 D [.long v, .long lo, .long hi] (([] : va_W)) sz) (va_Qi (fun r (_ : Unit) => r = if lo ≤ v ∧ v ≤ hi then 1 else 0) (wB D (va_A (([] : va_W)) sz) (fun _ => ([] : va_W))) (va_A (([] : va_W)) sz)) 0 0 (va_A (([] : va_W)) sz) := by
  refine wMet Z (by decide) (Nat.le_of_ble_eq_true rfl) ?_
  intro p e s m below meth c hx hb hr hml hown hlk hin hg hK hsz hP hD hA hlo hS ls hl
  subst hsz
  have hown : s.vm.findClass R_P = some m.cls := hown
  refine lv_lload_n hx hb d_P_isWithin_0 rfl (lv_at hl 0 rfl) ?_
  refine lv_lload_n hx hb d_P_isWithin_1 rfl (lv_at hl 1 rfl) ?_
  refine W.lcmp hx hb d_P_isWithin_2 ?_
  refine lv_if_lt (tgt := 17) hx hb d_P_isWithin_3 (by decide) (fun c1 => ?_) (fun c1 => ?_)
  · refine lv_iconst (v := 0) hx hb d_P_isWithin_17 (by decide) ?_
    exact w_zret hx hb hr rfl hlk hP hD hS () rfl (by rw [if_neg (fun q => absurd ((lg_cmp_lt _ _).mp c1) (Int64.not_lt.mpr q.1))]) d_P_isWithin_18
  · refine lv_lload_n hx hb d_P_isWithin_6 rfl (lv_at hl 0 rfl) ?_
    refine lv_lload hx hb d_P_isWithin_7 (lv_at hl 2 rfl) ?_
    refine W.lcmp hx hb d_P_isWithin_9 ?_
    refine lv_if_gt (tgt := 17) hx hb d_P_isWithin_10 (by decide) (fun c2 => ?_) (fun c2 => ?_)
    · refine lv_iconst (v := 0) hx hb d_P_isWithin_17 (by decide) ?_
      exact w_zret hx hb hr rfl hlk hP hD hS () rfl (by rw [if_neg (fun q => absurd ((lg_cmp_gt _ _).mp c2) (Int64.not_lt.mpr q.2))]) d_P_isWithin_18
    · refine lv_iconst (v := 1) hx hb d_P_isWithin_13 (by decide) ?_
      refine lv_goto (tgt := 18) hx hb d_P_isWithin_14 (by decide) ?_
      exact w_zret hx hb hr rfl hlk hP hD hS () rfl (by rw [if_pos ⟨Int64.not_lt.mp (fun q => c1 ((lg_cmp_lt _ _).mpr q)), Int64.not_lt.mp (fun q => c2 ((lg_cmp_gt _ _).mpr q))⟩]) d_P_isWithin_18
def rm_ (ac : Int) (w g : Nat) : Nat := if ac < w ∨ w + g = 0 then 0 else min ((ac + g) / ((w : Int) + g)).toNat 20
set_option maxHeartbeats 4000000 in
set_option maxRecDepth 100000 in
theorem m_P_roomInRow {l : Launch} {s0 : State} {D : va_G} {cA sa : Nat → Nat} (Z : zE l s0 D cA sa) (ac : Int) (w g : Nat) (h1 : -200000 ≤ ac) (h2 : ac ≤ 65536) (hw : w ≤ 65536) (hg2 : g ≤ 65536) (sz : Nat) : Met l y_P_roomInRow [.code y_P_roomInRow c_P_roomInRow 8 (some .int)] ({ frames := 1, cells := 0, slots := 0, locals := 30 }) (wP s0 D [.long (lZ ac), .long (lN w), .long (lN g)] (([] : va_W)) sz) (va_Qi (fun r (_ : Unit) => r = nI (rm_ ac w g)) (wB D (va_A (([] : va_W)) sz) (fun _ => ([] : va_W))) (va_A (([] : va_W)) sz)) 0 0 (va_A (([] : va_W)) sz) := by
  refine wMet Z (by decide) (Nat.le_of_ble_eq_true rfl) ?_
  intro p e s m below meth c hx hb hr hml hown hlk hin hg hK hsz hP hD hA hlo hS ls hl
  subst hsz
  have hown : s.vm.findClass R_P = some m.cls := hown
  refine lv_lload_n hx hb d_P_roomInRow_0 rfl (lv_at hl 1 rfl) ?_
  refine lv_lload hx hb d_P_roomInRow_1 (lv_at hl 2 rfl) ?_
  refine lv_ladd hx hb d_P_roomInRow_3 ?_
  refine lv_topl (fun z1 ez1 => ?_)
  obtain rfl : z1 = (lZ ((w : Int) + g)) := by rw [ez1]; rw [← lZ_nat, ← lZ_nat]; exact lZ_add _ _
  refine lv_lstore (lv' := [(6, .long (lZ ((w : Int) + g))), (0, .long (lZ ac)), (2, .long (lN w)), (4, .long (lN g))]) hx hb d_P_roomInRow_4 hl (by decide) rfl (fun ls hl => ?_)
  refine lv_lload_n hx hb d_P_roomInRow_6 rfl (lv_at hl 1 rfl) ?_
  refine lv_lload_n hx hb d_P_roomInRow_7 rfl (lv_at hl 2 rfl) ?_
  refine W.lcmp hx hb d_P_roomInRow_8 ?_
  refine lv_if_lt (tgt := 19) hx hb d_P_roomInRow_9 (by decide) (fun c2 => ?_) (fun c2 => ?_)
  · have hlt : ac < w := by have := (lg_cmp_lt _ _).mp c2; rw [← lZ_nat] at this; exact (lZ_lt (by omega) (by omega) (by omega) (by omega)).mp this
    refine lv_iconst (v := 0) hx hb d_P_roomInRow_19 (by decide) ?_
    exact w_iret hx hb hr hlk hP hD hS () rfl (by rw [rm_, if_pos (Or.inl hlt)]; rfl) d_P_roomInRow_20
  · have hge : ¬ ac < w := fun z => c2 ((lg_cmp_lt _ _).mpr (by rw [← lZ_nat]; exact (lZ_lt (by omega) (by omega) (by omega) (by omega)).mpr z))
    refine lv_lload hx hb d_P_roomInRow_12 (lv_at hl 0 rfl) ?_
    refine lv_lconst (v := 0) hx hb d_P_roomInRow_14 (by decide) ?_
    refine W.lcmp hx hb d_P_roomInRow_15 ?_
    refine lv_if_gt (tgt := 21) hx hb d_P_roomInRow_16 (by decide) (fun c3 => ?_) (fun c3 => ?_)
    · have h0 : (0 : Int) < (w : Int) + g := (lZ_lt (a := 0) (b := (w : Int) + g) (by omega) (by omega) (by omega) (by omega)).mp ((lg_cmp_gt _ _).mp c3)
      refine lv_lload_n hx hb d_P_roomInRow_21 rfl (lv_at hl 1 rfl) ?_
      refine lv_lload hx hb d_P_roomInRow_22 (lv_at hl 3 rfl) ?_
      refine lv_ladd hx hb d_P_roomInRow_24 ?_
      refine lv_topl (fun z4 ez4 => ?_)
      obtain rfl : z4 = (lZ (ac + g)) := by rw [ez4]; rw [← lZ_nat]; exact lZ_add _ _
      refine lv_lload hx hb d_P_roomInRow_25 (lv_at hl 0 rfl) ?_
      refine lv_ldiv hx hb d_P_roomInRow_27 (fun z => absurd ((lZ_eq (b := 0) (by omega) (by omega) (by omega) (by omega)).mp z) (by omega)) ?_
      refine lv_topl (fun z5 ez5 => ?_)
      obtain rfl : z5 = (lZ ((ac + g) / ((w : Int) + g))) := by rw [ez5]; exact lZ_div (by omega) (by omega) h0 (by omega)
      obtain ⟨Q, hQ⟩ : ∃ z, z = (ac + g) / ((w : Int) + g) := ⟨_, rfl⟩
      have hQ1 : 0 ≤ Q := by rw [hQ]; exact Int.ediv_nonneg (by omega) (by omega)
      have hQ2 : Q ≤ 200000 := by rw [hQ]; exact Int.le_trans (Int.ediv_le_self _ (by omega)) (by omega)
      rw [← hQ]
      refine lv_ldc2 (v := 20) hx hb hown (kw401 Z.1 _ _ hg.1) d_P_roomInRow_28 ?_
      refine va_mmin_long hx hb (hml.trans hl.1.symm) hown (kw25 Z.1 _ _ hg.1) (kw26 Z.1 _ _ hg.1) (kw2 Z.1 _ _ hg.1) (kw27 Z.1 _ _ hg.1) (Nat.le_of_ble_eq_true rfl) (Nat.le_of_ble_eq_true rfl) (Nat.le_of_ble_eq_true rfl) (Nat.le_of_ble_eq_true rfl) d_P_roomInRow_31 ?_
      refine lv_topl (fun z6 ez6 => ?_)
      refine lv_topl (fun z7 ez7 => ?_)
      obtain rfl : z7 = (lN (min Q.toNat 20)) := by rw [ez7, ez6]; rw [show (20 : Int64) = lZ 20 from rfl]; by_cases hz : 20 < Q; (rw [if_pos ((lZ_lt (by omega) (by omega) (by omega) (by omega)).mpr hz), ← lZ_nat]; congr 1; omega); rw [if_neg (fun y => hz ((lZ_lt (by omega) (by omega) (by omega) (by omega)).mp y)), ← lZ_nat]; congr 1; omega
      refine lv_l2i hx hb d_P_roomInRow_34 rfl ?_
      refine lv_topi (fun z8 ez8 => ?_)
      obtain rfl : z8 = (nI (min Q.toNat 20)) := by rw [ez8]; exact lN_i _
      exact w_iret hx hb hr hlk hP hD hS () rfl (by rw [rm_, if_neg (by omega), hQ]) d_P_roomInRow_35
    · have h0 : w + g = 0 := by have := Int64.not_lt.mp (fun z => c3 ((lg_cmp_gt _ _).mpr z)); have := (lZ_le (a := (w : Int) + g) (b := 0) (by omega) (by omega) (by omega) (by omega)).mp this; omega
      refine lv_iconst (v := 0) hx hb d_P_roomInRow_19 (by decide) ?_
      exact w_iret hx hb hr hlk hP hD hS () rfl (by rw [rm_, if_pos (Or.inr h0)]; rfl) d_P_roomInRow_20
set_option maxHeartbeats 4000000 in
set_option maxRecDepth 100000 in
theorem m_P_tabOffset {l : Launch} {s0 : State} {D : va_G} {cA sa : Nat → Nat} (Z : zE l s0 D cA sa) (sd lo hi : Int32) (ln : Int64) (sz : Nat) : Met l y_P_tabOffset [.code y_P_tabOffset c_P_tabOffset 5 (some .long)] ({ frames := 0, cells := 0, slots := 0, locals := 0 }) (wP s0 D [.int sd, .int lo, .int hi, .long ln] (([] : va_W)) sz) (va_Ql (fun r (_ : Unit) => r = if sd = lo then 0 else if sd = hi then ln else ln / 2) (wB D (va_A (([] : va_W)) sz) (fun _ => ([] : va_W))) (va_A (([] : va_W)) sz)) 0 0 (va_A (([] : va_W)) sz) := by
  refine wMet Z (by decide) (Nat.le_of_ble_eq_true rfl) ?_
  intro p e s m below meth c hx hb hr hml hown hlk hin hg hK hsz hP hD hA hlo hS ls hl
  subst hsz
  have hown : s.vm.findClass R_P = some m.cls := hown
  refine lv_iload_n hx hb d_P_tabOffset_0 rfl (lv_at hl 0 rfl) ?_
  refine lv_iload_n hx hb d_P_tabOffset_1 rfl (lv_at hl 1 rfl) ?_
  refine lv_icmp_ne (tgt := 7) hx hb d_P_tabOffset_2 (by decide) (fun c1 => ?_) (fun c1 => ?_)
  · refine lv_iload_n hx hb d_P_tabOffset_7 rfl (lv_at hl 0 rfl) ?_
    refine lv_iload_n hx hb d_P_tabOffset_8 rfl (lv_at hl 2 rfl) ?_
    refine lv_icmp_ne (tgt := 16) hx hb d_P_tabOffset_9 (by decide) (fun c2 => ?_) (fun c2 => ?_)
    · refine lv_lload_n hx hb d_P_tabOffset_16 rfl (lv_at hl 3 rfl) ?_
      refine lv_ldc2 (v := 2) hx hb hown (kw491 Z.1 _ _ hg.1) d_P_tabOffset_17 ?_
      refine lv_ldiv hx hb d_P_tabOffset_20 (by decide) ?_
      exact w_lret hx hb hr hlk hP hD hS () rfl (by rw [if_neg c1, if_neg c2]) d_P_tabOffset_21
    · refine lv_lload_n hx hb d_P_tabOffset_12 rfl (lv_at hl 3 rfl) ?_
      refine lv_goto (tgt := 21) hx hb d_P_tabOffset_13 (by decide) ?_
      exact w_lret hx hb hr hlk hP hD hS () rfl (by rw [if_neg c1, if_pos c2]) d_P_tabOffset_21
  · refine lv_lconst (v := 0) hx hb d_P_tabOffset_5 (by decide) ?_
    exact w_lret hx hb hr hlk hP hD hS () rfl (by rw [if_pos c1]) d_P_tabOffset_6
set_option maxHeartbeats 4000000 in
set_option maxRecDepth 100000 in
theorem m_P_grownEnd {l : Launch} {s0 : State} {D : va_G} {cA sa : Nat → Nat} (Z : zE l s0 D cA sa) (a : Nat → Nat) (ii : Nat → Int32) (li : Nat → Int64) (ia : Nat → Nat → Int32) (la : Nat → Nat → Int64) (bd : Nat → Nat) (st ln : Int64) (fr : Int32) (sz : Nat) : Met l y_P_grownEnd [.code y_P_grownEnd c_P_grownEnd 6 (some .long)] ({ frames := 0, cells := 0, slots := 0, locals := 0 }) (wP s0 D [.ref (a 0), .long st, .long ln, .int fr] (w_P a cA ii li ia la bd) sz) (va_Ql (fun r (_ : Unit) => r = if fr = 0 then st - li 8 else st + ln + li 8) (wB D (va_A (w_P a cA ii li ia la bd) sz) (fun _ => w_P a cA ii li ia la bd)) (va_A (w_P a cA ii li ia la bd) sz)) 0 0 (va_A (w_P a cA ii li ia la bd) sz) := by
  refine wMet Z (by decide) (Nat.le_of_ble_eq_true rfl) ?_
  intro p e s m below meth c hx hb hr hml hown hlk hin hg hK hsz hP hD hA hlo hS ls hl
  subst hsz
  have hown : s.vm.findClass R_P = some m.cls := hown
  refine lv_iload hx hb d_P_grownEnd_0 (lv_at hl 3 rfl) ?_
  refine lv_if_eq (tgt := 16) hx hb d_P_grownEnd_2 (by decide) (fun c1 => ?_) (fun c1 => ?_)
  · refine lv_lload_n hx hb d_P_grownEnd_16 rfl (lv_at hl 1 rfl) ?_
    refine lv_aload_n hx hb d_P_grownEnd_17 rfl (lv_at hl 0 rfl) ?_
    refine va_get (D := D) (ci := 0) (v := .long (li 8)) (C := R_P) (T := T_P) (N := 10) hx hb (uw_P Z.1 hg.1) (fun _ h => h) hown hK hP 0 rfl rfl 8 (by decide) (kw206 Z.1 _ _ hg.1) (fun _ h9 => h9) rfl d_P_grownEnd_18 ?_
    refine lv_lsub hx hb d_P_grownEnd_21 ?_
    exact w_lret hx hb hr hlk hP hD hS () rfl (by rw [if_pos c1]) d_P_grownEnd_22
  · refine lv_lload_n hx hb d_P_grownEnd_5 rfl (lv_at hl 1 rfl) ?_
    refine lv_lload_n hx hb d_P_grownEnd_6 rfl (lv_at hl 2 rfl) ?_
    refine lv_ladd hx hb d_P_grownEnd_7 ?_
    refine lv_aload_n hx hb d_P_grownEnd_8 rfl (lv_at hl 0 rfl) ?_
    refine va_get (D := D) (ci := 0) (v := .long (li 8)) (C := R_P) (T := T_P) (N := 10) hx hb (uw_P Z.1 hg.1) (fun _ h => h) hown hK hP 0 rfl rfl 8 (by decide) (kw206 Z.1 _ _ hg.1) (fun _ h9 => h9) rfl d_P_grownEnd_9 ?_
    refine lv_ladd hx hb d_P_grownEnd_12 ?_
    refine lv_goto (tgt := 22) hx hb d_P_grownEnd_13 (by decide) ?_
    exact w_lret hx hb hr hlk hP hD hS () rfl (by rw [if_neg c1]) d_P_grownEnd_22
theorem gd_half {a b : Nat} (hb : 0 < b) (h : b ≤ a) : 2 * (a % b) ≤ a := by
  have h1 := Nat.mod_lt a hb
  have h2 := Nat.div_add_mod a b
  have h3 : 1 ≤ a / b := (Nat.one_le_div_iff hb).mpr h
  have h4 : b * 1 ≤ b * (a / b) := Nat.mul_le_mul_left b h3
  omega
set_option maxHeartbeats 4000000 in
set_option maxRecDepth 100000 in
theorem m_P_commonDivisor {l : Launch} {s0 : State} {D : va_G} {cA sa : Nat → Nat} (Z : zE l s0 D cA sa) (x y : Nat) (hx1 : x ≤ 1000000000000000) (hy1 : y ≤ 1000000000000000) (sz : Nat) : Met l y_P_commonDivisor [.code y_P_commonDivisor c_P_commonDivisor 11 (some .long)] ({ frames := 1, cells := 0, slots := 0, locals := 30 }) (wP s0 D [.long (lN x), .long (lN y)] (([] : va_W)) sz) (va_Ql (fun r (_ : Unit) => r = lN (max 1 (Nat.gcd x y))) (wB D (va_A (([] : va_W)) sz) (fun _ => ([] : va_W))) (va_A (([] : va_W)) sz)) 0 0 (va_A (([] : va_W)) sz) := by
  refine wMet Z (by decide) (Nat.le_of_ble_eq_true rfl) ?_
  intro p e s m below meth c hx hb hr hml hown hlk hin hg hK hsz hP hD hA hlo hS ls hl
  subst hsz
  have hown : s.vm.findClass R_P = some m.cls := hown
  refine lv_lload_n hx hb d_P_commonDivisor_0 rfl (lv_at hl 0 rfl) ?_
  refine lv_lstore (lv' := [(4, .long (lN x)), (0, .long (lN x)), (2, .long (lN y))]) hx hb d_P_commonDivisor_1 hl (by decide) rfl (fun ls hl => ?_)
  refine lv_lload_n hx hb d_P_commonDivisor_3 rfl (lv_at hl 2 rfl) ?_
  refine lv_lstore (lv' := [(6, .long (lN y)), (4, .long (lN x)), (0, .long (lN x)), (2, .long (lN y))]) hx hb d_P_commonDivisor_4 hl (by decide) rfl (fun ls hl => ?_)
  refine lv_iconst (v := 0) hx hb d_P_commonDivisor_6 (by decide) ?_
  refine lv_topi (fun z1 ez1 => ?_)
  obtain rfl : z1 = (nI 0) := by rw [ez1]; rfl
  refine lv_istore (lv' := [(8, .int (nI 0)), (6, .long (lN y)), (4, .long (lN x)), (0, .long (lN x)), (2, .long (lN y))]) hx hb d_P_commonDivisor_7 hl (by decide) rfl (fun ls hl => ?_)
  have loop : ∀ (f : Nat) (k A B : Nat), 200 - k < f → k ≤ 200 → (k = 0 ∨ B ≤ A) → A * B * 2 ^ (k - 1) ≤ 2 ^ 150 → Nat.gcd A B = Nat.gcd x y → A ≤ 1000000000000000 → B ≤ 1000000000000000 → ∀ (H : Heap) (locs : List Loc), va_P D ncl (([] : va_W)) H → va_D (va_A (([] : va_W)) s.heap.size) (([] : va_W)) → va_S (va_A (([] : va_W)) s.heap.size) s.heap H locs → ∀ (ls : Array Slot), lv_has ls 11 [(4, .long (lN A)), (6, .long (lN B)), (8, .int (nI k))] → W p l e ({ frames := 1, cells := 0, slots := 0, locals := 30 }) s m ([.long (lN x), .long (lN y)] : List Value).toArray below meth c H locs 0 0 (MQ below (va_Ql (fun r (_ : Unit) => r = lN (max 1 (Nat.gcd x y))) (wB D (va_A (([] : va_W)) s.heap.size) (fun _ => ([] : va_W))) (va_A (([] : va_W)) s.heap.size)) ([.long (lN x), .long (lN y)] : List Value).toArray s 0 0 (va_A (([] : va_W)) s.heap.size)) (F0 m 9 ls []) := by
    intro f
    induction f with
    | zero => intro k A B h; exact absurd h (Nat.not_lt_zero _)
    | succ f ih =>
      intro k A B hf hk hAB hpr hgc hA1 hB1 H locs hP hD hS ls hl
      refine lv_iload hx hb d_P_commonDivisor_9 (lv_at hl 2 rfl) ?_
      refine lv_sipush (v := 200) hx hb d_P_commonDivisor_11 (by decide) ?_
      refine lv_icmp_ge (tgt := 45) hx hb d_P_commonDivisor_14 (by decide) (fun c2 => ?_) (fun c2 => ?_)
      · have hk2 : k = 200 := by have := (nI_leI (a := 200) (by decide) (by omega)).mp c2; omega
        have hB0 : B = 0 := by rcases Nat.eq_zero_or_pos (A * B) with z | z; (rcases Nat.mul_eq_zero.mp z with y | y; (omega); exact y); (have : 1 * 2 ^ (k - 1) ≤ A * B * 2 ^ (k - 1) := Nat.mul_le_mul_right _ z); rw [hk2] at this hpr; exact absurd (Nat.le_trans this hpr) (by decide)
        refine lv_lconst (v := 1) hx hb d_P_commonDivisor_45 (by decide) ?_
        refine lv_lload hx hb d_P_commonDivisor_46 (lv_at hl 0 rfl) ?_
        refine va_mmax_long hx hb (hml.trans hl.1.symm) hown (kw28 Z.1 _ _ hg.1) (kw29 Z.1 _ _ hg.1) (kw2 Z.1 _ _ hg.1) (kw30 Z.1 _ _ hg.1) (Nat.le_of_ble_eq_true rfl) (Nat.le_of_ble_eq_true rfl) (Nat.le_of_ble_eq_true rfl) (Nat.le_of_ble_eq_true rfl) d_P_commonDivisor_48 ?_
        refine lv_topl (fun z3 ez3 => ?_)
        refine lv_topl (fun z4 ez4 => ?_)
        obtain rfl : z4 = (lN (max 1 A)) := by rw [ez4, ez3]; rw [show (1 : Int64) = lN 1 from rfl]; by_cases hz : A < 1; (rw [if_pos ((pk_lLT (by omega) (by omega)).mpr hz)]; congr 1; omega); rw [if_neg (fun y => hz ((pk_lLT (by omega) (by omega)).mp y))]; congr 1; omega
        exact w_lret hx hb hr hlk hP hD hS () rfl (by rw [← hgc, hB0, Nat.gcd_zero_right]) d_P_commonDivisor_51
      · have hkn : k < 200 := Nat.lt_of_not_le (fun z => c2 ((nI_leI (a := 200) (by decide) (by omega)).mpr z))
        refine lv_lload hx hb d_P_commonDivisor_17 (lv_at hl 1 rfl) ?_
        refine lv_lconst (v := 0) hx hb d_P_commonDivisor_19 (by decide) ?_
        refine W.lcmp hx hb d_P_commonDivisor_20 ?_
        refine lv_if_eq (tgt := 45) hx hb d_P_commonDivisor_21 (by decide) (fun d5 => ?_) (fun d5 => ?_)
        · have hB0 : B = 0 := by have := (lg_cmp_eq _ _).mp d5; exact (pk_lEQ (b := 0) (by omega) (by omega)).mp this
          refine lv_lconst (v := 1) hx hb d_P_commonDivisor_45 (by decide) ?_
          refine lv_lload hx hb d_P_commonDivisor_46 (lv_at hl 0 rfl) ?_
          refine va_mmax_long hx hb (hml.trans hl.1.symm) hown (kw28 Z.1 _ _ hg.1) (kw29 Z.1 _ _ hg.1) (kw2 Z.1 _ _ hg.1) (kw30 Z.1 _ _ hg.1) (Nat.le_of_ble_eq_true rfl) (Nat.le_of_ble_eq_true rfl) (Nat.le_of_ble_eq_true rfl) (Nat.le_of_ble_eq_true rfl) d_P_commonDivisor_48 ?_
          refine lv_topl (fun z6 ez6 => ?_)
          refine lv_topl (fun z7 ez7 => ?_)
          obtain rfl : z7 = (lN (max 1 A)) := by rw [ez7, ez6]; rw [show (1 : Int64) = lN 1 from rfl]; by_cases hz : A < 1; (rw [if_pos ((pk_lLT (by omega) (by omega)).mpr hz)]; congr 1; omega); rw [if_neg (fun y => hz ((pk_lLT (by omega) (by omega)).mp y))]; congr 1; omega
          exact w_lret hx hb hr hlk hP hD hS () rfl (by rw [← hgc, hB0, Nat.gcd_zero_right]) d_P_commonDivisor_51
        · have hB0 : 0 < B := Nat.pos_of_ne_zero (fun z => d5 ((lg_cmp_eq _ _).mpr (by rw [z]; rfl)))
          have hm := Nat.mod_lt A hB0
          refine lv_lload hx hb d_P_commonDivisor_24 (lv_at hl 0 rfl) ?_
          refine lv_lload hx hb d_P_commonDivisor_26 (lv_at hl 1 rfl) ?_
          refine lv_lrem hx hb d_P_commonDivisor_28 (fun z => absurd ((pk_lEQ (b := 0) (by omega) (by omega)).mp z) (by omega)) ?_
          refine lv_topl (fun z8 ez8 => ?_)
          obtain rfl : z8 = (lN (A % B)) := by rw [ez8]; exact pk_lRem (by omega) hB0 (by omega)
          refine lv_lstore (lv' := [(9, .long (lN (A % B))), (4, .long (lN A)), (6, .long (lN B)), (8, .int (nI k))]) hx hb d_P_commonDivisor_29 hl (by decide) rfl (fun ls hl => ?_)
          refine lv_lload hx hb d_P_commonDivisor_31 (lv_at hl 2 rfl) ?_
          refine lv_lstore (lv' := [(4, .long (lN B)), (9, .long (lN (A % B))), (6, .long (lN B)), (8, .int (nI k))]) hx hb d_P_commonDivisor_33 hl (by decide) rfl (fun ls hl => ?_)
          refine lv_lload hx hb d_P_commonDivisor_35 (lv_at hl 1 rfl) ?_
          refine lv_lstore (lv' := [(6, .long (lN (A % B))), (4, .long (lN B)), (9, .long (lN (A % B))), (8, .int (nI k))]) hx hb d_P_commonDivisor_37 hl (by decide) rfl (fun ls hl => ?_)
          obtain ⟨v9, ev9⟩ : ∃ y : Int32, y = (nI k) + 1 := ⟨_, rfl⟩
          refine lv_iinc (v := v9) (lv' := [(8, .int v9), (6, .long (lN (A % B))), (4, .long (lN B)), (9, .long (lN (A % B)))]) hx hb d_P_commonDivisor_39 hl (k := 3) rfl (by rw [ev9]; rfl) (by decide) rfl (fun ls hl => ?_)
          refine lv_goto (tgt := 9) hx hb d_P_commonDivisor_42 (by decide) ?_
          obtain rfl : v9 = nI (k + 1) := by rw [ev9]; exact nI_1 k
          have hp2 : B * (A % B) * 2 ^ (k + 1 - 1) ≤ 2 ^ 150 := by
            rcases Nat.eq_zero_or_pos k with z | z
            · subst z; exact Nat.le_trans (Nat.mul_le_mul_right _ (by rw [Nat.mul_comm]; exact Nat.mul_le_mul_right _ (Nat.mod_le A B))) hpr
            · have h2 := gd_half hB0 (by omega : B ≤ A)
              have e1 : 2 ^ (k + 1 - 1) = 2 * 2 ^ (k - 1) := by rw [Nat.add_sub_cancel]; conv => lhs; rw [show k = (k - 1) + 1 by omega, Nat.pow_succ, Nat.mul_comm]
              rw [e1]
              refine Nat.le_trans ?_ hpr
              rw [← Nat.mul_assoc]
              refine Nat.mul_le_mul_right _ ?_
              rw [Nat.mul_assoc, Nat.mul_comm (A % B) 2, Nat.mul_comm A B]
              exact Nat.mul_le_mul_left _ h2
          exact ih (k + 1) B (A % B) (by omega) (by omega) (Or.inr (by omega)) hp2 (by rw [← hgc, Nat.gcd_comm A B, Nat.gcd_rec B A, Nat.gcd_comm]) hB1 (by omega) _ _ hP hD hS ls (lv_sub hl [2, 1, 0] rfl)
  exact loop 201 0 x y (by omega) (by omega) (Or.inl rfl) (by rw [Nat.zero_sub, Nat.pow_zero, Nat.mul_one]; exact Nat.le_trans (Nat.mul_le_mul hx1 hy1) (by decide)) rfl hx1 hy1 _ _ hP hD hS ls (lv_sub hl [2, 1, 0] rfl)
