theorem up_id {α : Type} (f : Nat → α) (k : Nat) (v : α) (h : f k = v) : va_up f k v = f := by
  funext z
  by_cases hz : z = k
  · subst hz; rw [up_s, h]
  · rw [up_n _ _ hz]
theorem updL_id (f : Nat → Int64) (k : Nat) (v : Int64) (h : f k = v) : vp_updL f k v = f := by
  funext z
  by_cases hz : z = k
  · subst hz; rw [updL_s, h]
  · rw [updL_n _ _ hz]
theorem upd_id (f : Nat → Int32) (k : Nat) (v : Int32) (h : f k = v) : upd f k v = f := by
  funext z
  by_cases hz : z = k
  · subst hz; rw [upd_s, h]
  · rw [upd_n _ _ hz]
theorem bk_lt {b : Int32} {n : Nat} (hn : n ≤ 100000) (h0 : ¬ b < 0) (h1 : ¬ nI n ≤ b) : ∃ k, k < n ∧ b = nI k := by
  obtain ⟨k, hk, rfl⟩ := nI_of h0
  exact ⟨k, Nat.lt_of_not_le (fun z => h1 ((nI_leI (by omega) hk).mpr z)), rfl⟩
theorem bk_no0 {b : Int32} {n : Nat} (hn : n ≤ 100000) (h0 : b < 0) : ¬ ∃ k, k < n ∧ b = nI k := fun ⟨k, hk, e⟩ => by rw [e] at h0; exact nI_pos (by omega) h0
theorem bk_no1 {b : Int32} {n : Nat} (hn : n ≤ 100000) (h1 : nI n ≤ b) : ¬ ∃ k, k < n ∧ b = nI k := fun ⟨k, hk, e⟩ => by rw [e] at h1; have := (nI_leI (by omega) (by omega)).mp h1; omega
set_option maxHeartbeats 4000000 in
set_option maxRecDepth 100000 in
theorem m_M_thrown {l : Launch} {s0 : State} {D : va_G} {cA sa : Nat → Nat} (Z : zE l s0 D cA sa) (a : Nat → Nat) (ii : Nat → Int32) (li : Nat → Int64) (ia : Nat → Nat → Int32) (la : Nat → Nat → Int64) (sz : Nat) : Met l y_M_thrown [.code y_M_thrown c_M_thrown 1 (some .int)] ({ frames := 0, cells := 0, slots := 0, locals := 0 }) (wP s0 D [.ref (a 0)] (w_M a cA ii li ia la) sz) (va_Qi (fun r (_ : Unit) => r = ii 0) (wB D (va_A (w_M a cA ii li ia la) sz) (fun _ => w_M a cA ii li ia la)) (va_A (w_M a cA ii li ia la) sz)) 0 0 (va_A (w_M a cA ii li ia la) sz) := by
  refine wMet Z (by decide) (Nat.le_of_ble_eq_true rfl) ?_
  intro p e s m below meth c hx hb hr hml hown hlk hin hg hK hsz hP hD hA hlo hS ls hl
  subst hsz
  have hown : s.vm.findClass R_M = some m.cls := hown
  refine lv_aload_n hx hb d_M_thrown_0 rfl (lv_at hl 0 rfl) ?_
  refine va_get (D := D) (ci := 1) (v := .int (ii 0)) (C := R_M) (T := T_M) (N := 26) hx hb (uw_M Z.1 hg.1) (fun _ h => h) hown hK hP 0 rfl rfl 0 (by decide) (kw604 Z.1 _ _ hg.1) (fun _ h9 => h9) rfl d_M_thrown_1 ?_
  exact w_iret hx hb hr hlk hP hD hS () rfl rfl d_M_thrown_4
set_option maxHeartbeats 4000000 in
set_option maxRecDepth 100000 in
theorem m_M_isBoard {l : Launch} {s0 : State} {D : va_G} {cA sa : Nat → Nat} (Z : zE l s0 D cA sa) (a : Nat → Nat) (ii : Nat → Int32) (li : Nat → Int64) (ia : Nat → Nat → Int32) (la : Nat → Nat → Int64) (v : Int32) (n : Nat) (hn : ii 3 = nI n) (hn2 : n ≤ 100000) (sz : Nat) : Met l y_M_isBoard [.code y_M_isBoard c_M_isBoard 2 (some .boolean)] ({ frames := 0, cells := 0, slots := 0, locals := 0 }) (wP s0 D [.ref (a 0), .int v] (w_M a cA ii li ia la) sz) (va_Qi (fun r (_ : Unit) => (r = 1 ∧ ∃ k, k < n ∧ v = nI k) ∨ (r = 0 ∧ ¬ ∃ k, k < n ∧ v = nI k)) (wB D (va_A (w_M a cA ii li ia la) sz) (fun _ => w_M a cA ii li ia la)) (va_A (w_M a cA ii li ia la) sz)) 0 0 (va_A (w_M a cA ii li ia la) sz) := by
  refine wMet Z (by decide) (Nat.le_of_ble_eq_true rfl) ?_
  intro p e s m below meth c hx hb hr hml hown hlk hin hg hK hsz hP hD hA hlo hS ls hl
  subst hsz
  have hown : s.vm.findClass R_M = some m.cls := hown
  refine lv_iload_n hx hb d_M_isBoard_0 rfl (lv_at hl 1 rfl) ?_
  refine lv_if_lt (tgt := 16) hx hb d_M_isBoard_1 (by decide) (fun c1 => ?_) (fun c1 => ?_)
  · refine lv_iconst (v := 0) hx hb d_M_isBoard_16 (by decide) ?_
    exact w_zret hx hb hr rfl hlk hP hD hS () rfl (Or.inr ⟨rfl, bk_no0 hn2 c1⟩) d_M_isBoard_17
  · refine lv_iload_n hx hb d_M_isBoard_4 rfl (lv_at hl 1 rfl) ?_
    refine lv_aload_n hx hb d_M_isBoard_5 rfl (lv_at hl 0 rfl) ?_
    refine va_get (D := D) (ci := 1) (v := .int (ii 3)) (C := R_M) (T := T_M) (N := 26) hx hb (uw_M Z.1 hg.1) (fun _ h => h) hown hK hP 0 rfl rfl 3 (by decide) (kw607 Z.1 _ _ hg.1) (fun _ h9 => h9) rfl d_M_isBoard_6 ?_
    refine lv_icmp_ge (tgt := 16) hx hb d_M_isBoard_9 (by decide) (fun c2 => ?_) (fun c2 => ?_)
    · refine lv_iconst (v := 0) hx hb d_M_isBoard_16 (by decide) ?_
      exact w_zret hx hb hr rfl hlk hP hD hS () rfl (Or.inr ⟨rfl, bk_no1 hn2 (by rw [← hn]; exact c2)⟩) d_M_isBoard_17
    · refine lv_iconst (v := 1) hx hb d_M_isBoard_12 (by decide) ?_
      refine lv_goto (tgt := 17) hx hb d_M_isBoard_13 (by decide) ?_
      exact w_zret hx hb hr rfl hlk hP hD hS () rfl (Or.inl ⟨rfl, bk_lt hn2 c1 (by rw [← hn]; exact c2)⟩) d_M_isBoard_17
set_option maxHeartbeats 4000000 in
set_option maxRecDepth 100000 in
theorem m_M_isCopy {l : Launch} {s0 : State} {D : va_G} {cA sa : Nat → Nat} (Z : zE l s0 D cA sa) (a : Nat → Nat) (ii : Nat → Int32) (li : Nat → Int64) (ia : Nat → Nat → Int32) (la : Nat → Nat → Int64) (v : Int32) (n : Nat) (hn : ii 13 = nI n) (hn2 : n ≤ 100000) (sz : Nat) : Met l y_M_isCopy [.code y_M_isCopy c_M_isCopy 2 (some .boolean)] ({ frames := 0, cells := 0, slots := 0, locals := 0 }) (wP s0 D [.ref (a 0), .int v] (w_M a cA ii li ia la) sz) (va_Qi (fun r (_ : Unit) => (r = 1 ∧ ∃ k, k < n ∧ v = nI k) ∨ (r = 0 ∧ ¬ ∃ k, k < n ∧ v = nI k)) (wB D (va_A (w_M a cA ii li ia la) sz) (fun _ => w_M a cA ii li ia la)) (va_A (w_M a cA ii li ia la) sz)) 0 0 (va_A (w_M a cA ii li ia la) sz) := by
  refine wMet Z (by decide) (Nat.le_of_ble_eq_true rfl) ?_
  intro p e s m below meth c hx hb hr hml hown hlk hin hg hK hsz hP hD hA hlo hS ls hl
  subst hsz
  have hown : s.vm.findClass R_M = some m.cls := hown
  refine lv_iload_n hx hb d_M_isCopy_0 rfl (lv_at hl 1 rfl) ?_
  refine lv_if_lt (tgt := 16) hx hb d_M_isCopy_1 (by decide) (fun c1 => ?_) (fun c1 => ?_)
  · refine lv_iconst (v := 0) hx hb d_M_isCopy_16 (by decide) ?_
    exact w_zret hx hb hr rfl hlk hP hD hS () rfl (Or.inr ⟨rfl, bk_no0 hn2 c1⟩) d_M_isCopy_17
  · refine lv_iload_n hx hb d_M_isCopy_4 rfl (lv_at hl 1 rfl) ?_
    refine lv_aload_n hx hb d_M_isCopy_5 rfl (lv_at hl 0 rfl) ?_
    refine va_get (D := D) (ci := 1) (v := .int (ii 13)) (C := R_M) (T := T_M) (N := 26) hx hb (uw_M Z.1 hg.1) (fun _ h => h) hown hK hP 0 rfl rfl 13 (by decide) (kw617 Z.1 _ _ hg.1) (fun _ h9 => h9) rfl d_M_isCopy_6 ?_
    refine lv_icmp_ge (tgt := 16) hx hb d_M_isCopy_9 (by decide) (fun c2 => ?_) (fun c2 => ?_)
    · refine lv_iconst (v := 0) hx hb d_M_isCopy_16 (by decide) ?_
      exact w_zret hx hb hr rfl hlk hP hD hS () rfl (Or.inr ⟨rfl, bk_no1 hn2 (by rw [← hn]; exact c2)⟩) d_M_isCopy_17
    · refine lv_iconst (v := 1) hx hb d_M_isCopy_12 (by decide) ?_
      refine lv_goto (tgt := 17) hx hb d_M_isCopy_13 (by decide) ?_
      exact w_zret hx hb hr rfl hlk hP hD hS () rfl (Or.inl ⟨rfl, bk_lt hn2 c1 (by rw [← hn]; exact c2)⟩) d_M_isCopy_17
set_option maxHeartbeats 4000000 in
set_option maxRecDepth 100000 in
theorem m_M_isSize {l : Launch} {s0 : State} {D : va_G} {cA sa : Nat → Nat} (Z : zE l s0 D cA sa) (v : Int64) (sz : Nat) : Met l y_M_isSize [.code y_M_isSize c_M_isSize 2 (some .boolean)] ({ frames := 0, cells := 0, slots := 0, locals := 0 }) (wP s0 D [.long v] (([] : va_W)) sz) (va_Qi (fun r (_ : Unit) => (r = 1 ∧ okL v) ∨ (r = 0 ∧ ¬ okL v)) (wB D (va_A (([] : va_W)) sz) (fun _ => ([] : va_W))) (va_A (([] : va_W)) sz)) 0 0 (va_A (([] : va_W)) sz) := by
  refine wMet Z (by decide) (Nat.le_of_ble_eq_true rfl) ?_
  intro p e s m below meth c hx hb hr hml hown hlk hin hg hK hsz hP hD hA hlo hS ls hl
  subst hsz
  have hown : s.vm.findClass R_M = some m.cls := hown
  refine lv_lload_n hx hb d_M_isSize_0 rfl (lv_at hl 0 rfl) ?_
  refine lv_lconst (v := 0) hx hb d_M_isSize_1 (by decide) ?_
  refine W.lcmp hx hb d_M_isSize_2 ?_
  refine lv_if_lt (tgt := 18) hx hb d_M_isSize_3 (by decide) (fun c1 => ?_) (fun c1 => ?_)
  · refine lv_iconst (v := 0) hx hb d_M_isSize_18 (by decide) ?_
    exact w_zret hx hb hr rfl hlk hP hD hS () rfl (Or.inr ⟨rfl, fun q => absurd ((lg_cmp_lt _ _).mp c1) (Int64.not_lt.mpr q.1)⟩) d_M_isSize_19
  · refine lv_lload_n hx hb d_M_isSize_6 rfl (lv_at hl 0 rfl) ?_
    refine lv_ldc2 (v := 65536) hx hb hown (kw603 Z.1 _ _ hg.1) d_M_isSize_7 ?_
    refine W.lcmp hx hb d_M_isSize_10 ?_
    refine lv_if_gt (tgt := 18) hx hb d_M_isSize_11 (by decide) (fun c2 => ?_) (fun c2 => ?_)
    · refine lv_iconst (v := 0) hx hb d_M_isSize_18 (by decide) ?_
      exact w_zret hx hb hr rfl hlk hP hD hS () rfl (Or.inr ⟨rfl, fun q => absurd ((lg_cmp_gt _ _).mp c2) (Int64.not_lt.mpr q.2)⟩) d_M_isSize_19
    · refine lv_iconst (v := 1) hx hb d_M_isSize_14 (by decide) ?_
      refine lv_goto (tgt := 19) hx hb d_M_isSize_15 (by decide) ?_
      exact w_zret hx hb hr rfl hlk hP hD hS () rfl (Or.inl ⟨rfl, Int64.not_lt.mp (fun q => c1 ((lg_cmp_lt _ _).mpr q)), Int64.not_lt.mp (fun q => c2 ((lg_cmp_gt _ _).mpr q))⟩) d_M_isSize_19
set_option maxHeartbeats 4000000 in
set_option maxRecDepth 100000 in
theorem m_M_board {l : Launch} {s0 : State} {D : va_G} {cA sa : Nat → Nat} (Z : zE l s0 D cA sa) (a : Nat → Nat) (ii : Nat → Int32) (li : Nat → Int64) (ia : Nat → Nat → Int32) (la : Nat → Nat → Int64) (n : Nat) (hn : ii 3 = nI n) (hn2 : n ≤ 4) (sz : Nat) : Met l y_M_board [.code y_M_board c_M_board 1 (some .int)] ({ frames := 0, cells := 0, slots := 0, locals := 0 }) (wP s0 D [.ref (a 0)] (w_M a cA ii li ia la) sz) (va_Qi (fun (r : Int32) (u : St) => if n < 4 then r = nI n ∧ u = (va_up (va_up ii 0 0) 3 (nI (n + 1)), li, ia, la) else r = -1 ∧ u = (va_up ii 0 0, li, ia, la)) (wB D (va_A (w_M a cA ii li ia la) sz) (fun (u : St) => w_M a cA u.1 u.2.1 u.2.2.1 u.2.2.2)) (va_A (w_M a cA ii li ia la) sz)) 0 0 (va_A (w_M a cA ii li ia la) sz) := by
  refine wMet Z (by decide) (Nat.le_of_ble_eq_true rfl) ?_
  intro p e s m below meth c hx hb hr hml hown hlk hin hg hK hsz hP hD hA hlo hS ls hl
  subst hsz
  have hown : s.vm.findClass R_M = some m.cls := hown
  refine lv_aload_n hx hb d_M_board_0 rfl (lv_at hl 0 rfl) ?_
  refine lv_iconst (v := 0) hx hb d_M_board_1 (by decide) ?_
  refine va_put (D := D) (ci := 1) (v := .int 0) (ty := t_M 0) (C := R_M) (T := T_M) (N := 26) hx hb (uw_M Z.1 hg.1) (fun _ h => h) t_M t_M_ok n_M hown hK hP hD hS 0 rfl rfl 0 (by decide) (kw604 Z.1 _ _ hg.1) (fun _ h9 => h9) rfl (by decide +kernel) rfl rfl (Nat.le_of_ble_eq_true rfl) d_M_board_2 (fun H locs hP hD hS => ?_)
  have hP : va_P D ncl (w_M a cA (va_up ii 0 0) li ia la) H := hP
  have hD : va_D _ (w_M a cA (va_up ii 0 0) li ia la) := hD
  refine lv_aload_n hx hb d_M_board_5 rfl (lv_at hl 0 rfl) ?_
  refine va_get (D := D) (ci := 1) (v := .int (ii 3)) (C := R_M) (T := T_M) (N := 26) hx hb (uw_M Z.1 hg.1) (fun _ h => h) hown hK hP 0 rfl rfl 3 (by decide) (kw607 Z.1 _ _ hg.1) (fun _ h9 => h9) rfl d_M_board_6 ?_
  refine lv_iconst (v := 4) hx hb d_M_board_9 (by decide) ?_
  refine lv_icmp_ne (tgt := 15) hx hb d_M_board_10 (by decide) (fun c1 => ?_) (fun c1 => ?_)
  · have hlt : n < 4 := Nat.lt_of_le_of_ne hn2 (fun z => c1 (by rw [hn, z]; rfl))
    refine lv_aload_n hx hb d_M_board_15 rfl (lv_at hl 0 rfl) ?_
    refine lv_dup hx hb d_M_board_16 rfl ?_
    refine va_get (D := D) (ci := 1) (v := .int (ii 3)) (C := R_M) (T := T_M) (N := 26) hx hb (uw_M Z.1 hg.1) (fun _ h => h) hown hK hP 0 rfl rfl 3 (by decide) (kw607 Z.1 _ _ hg.1) (fun _ h9 => h9) rfl d_M_board_17 ?_
    refine lv_iconst (v := 1) hx hb d_M_board_20 (by decide) ?_
    refine lv_iadd hx hb d_M_board_21 ?_
    refine lv_topi (fun z2 ez2 => ?_)
    obtain rfl : z2 = (nI (n + 1)) := by rw [ez2]; rw [hn]; exact nI_1 n
    refine va_put (D := D) (ci := 1) (v := .int (nI (n + 1))) (ty := t_M 3) (C := R_M) (T := T_M) (N := 26) hx hb (uw_M Z.1 hg.1) (fun _ h => h) t_M t_M_ok n_M hown hK hP hD hS 0 rfl rfl 3 (by decide) (kw607 Z.1 _ _ hg.1) (fun _ h9 => h9) rfl (by decide +kernel) rfl rfl (Nat.le_of_ble_eq_true rfl) d_M_board_22 (fun H locs hP hD hS => ?_)
    have hP : va_P D ncl (w_M a cA (va_up (va_up ii 0 0) 3 (nI (n + 1))) li ia la) H := hP
    have hD : va_D _ (w_M a cA (va_up (va_up ii 0 0) 3 (nI (n + 1))) li ia la) := hD
    refine lv_aload_n hx hb d_M_board_25 rfl (lv_at hl 0 rfl) ?_
    refine va_get (D := D) (ci := 1) (v := .int (nI (n + 1))) (C := R_M) (T := T_M) (N := 26) hx hb (uw_M Z.1 hg.1) (fun _ h => h) hown hK hP 0 rfl rfl 3 (by decide) (kw607 Z.1 _ _ hg.1) (fun _ h9 => h9) rfl d_M_board_26 ?_
    refine lv_iconst (v := 1) hx hb d_M_board_29 (by decide) ?_
    refine lv_isub hx hb d_M_board_30 ?_
    refine lv_topi (fun z3 ez3 => ?_)
    obtain rfl : z3 = (nI n) := by rw [ez3]; exact nI_pred n
    exact w_iret hx hb hr hlk hP hD hS ((va_up (va_up ii 0 0) 3 (nI (n + 1))), li, ia, la) rfl (by rw [if_pos hlt]; exact ⟨rfl, rfl⟩) d_M_board_31
  · have hge : n = 4 := (nI_eq (b := 4) (by omega) (by decide)).mp (by rw [← hn]; exact c1)
    refine lv_iconst (v := (-1)) hx hb d_M_board_13 (by decide) ?_
    exact w_iret hx hb hr hlk hP hD hS ((va_up ii 0 0), li, ia, la) rfl (by rw [if_neg (by omega)]; exact ⟨rfl, rfl⟩) d_M_board_14
set_option maxHeartbeats 4000000 in
set_option maxRecDepth 100000 in
theorem m_M_gap {l : Launch} {s0 : State} {D : va_G} {cA sa : Nat → Nat} (Z : zE l s0 D cA sa) (a : Nat → Nat) (ii : Nat → Int32) (li : Nat → Int64) (ia : Nat → Nat → Int32) (la : Nat → Nat → Int64) (v : Int64) (sz : Nat) : Met l y_M_gap [.code y_M_gap c_M_gap 3 (some .boolean)] ({ frames := 1, cells := 0, slots := 0, locals := 40 }) (wP s0 D [.ref (a 0), .long v] (w_M a cA ii li ia la) sz) (va_Qi (fun (r : Int32) (u : St) => (okL v ∧ r = (if li 11 = v then 0 else 1) ∧ u = (va_up ii 0 0, va_up li 11 v, ia, la)) ∨ (¬ okL v ∧ u = (va_up ii 0 1, li, ia, la))) (wB D (va_A (w_M a cA ii li ia la) sz) (fun (u : St) => w_M a cA u.1 u.2.1 u.2.2.1 u.2.2.2)) (va_A (w_M a cA ii li ia la) sz)) 0 0 (va_A (w_M a cA ii li ia la) sz) := by
  refine wMet Z (by decide) (Nat.le_of_ble_eq_true rfl) ?_
  intro p e s m below meth c hx hb hr hml hown hlk hin hg hK hsz hP hD hA hlo hS ls hl
  subst hsz
  have hown : s.vm.findClass R_M = some m.cls := hown
  refine lv_aload_n hx hb d_M_gap_0 rfl (lv_at hl 0 rfl) ?_
  refine lv_lload_n hx hb d_M_gap_1 rfl (lv_at hl 1 rfl) ?_
  refine w_calli (wr := (w_M a cA ii li ia la)) (w_runS (rest := [.ref (a 0)]) hx hb hml hown hl.1 hg hlo hP hD hS (m_M_isSize Z v s.heap.size) (kw699 Z.1) (kw700 Z.1) (kw701 Z.1) (kw6 Z.1) ⟨by decide, by decide, (by decide +kernel : (parseMethodDescriptor y_M_isSize.desc).map (fun d => d.parameters.length) = some 1)⟩ ⟨Nat.le_of_ble_eq_true rfl, Nat.le_of_ble_eq_true rfl⟩ [] rfl rfl rfl (Nat.le_of_ble_eq_true rfl) d_M_gap_2 ⟨Nat.le_of_ble_eq_true rfl, Nat.le_of_ble_eq_true rfl⟩) hP hD hS hA [] [0, 1, 2, 3, 4, 5, 6, 7, 8, 9, 10, 11, 12, 13, 14, 15, 16] rfl rfl rfl (by decide) (fun _ => w_M a cA ii li ia la) [0, 1, 2, 3, 4, 5, 6, 7, 8, 9, 10, 11, 12, 13, 14, 15, 16] rfl (fun _ => rfl) (fun rs1 u H locs hs1 hP hD hS => ?_)
  refine W.widen (k := 0) (n := 0) (Nat.le_of_ble_eq_true rfl) (Nat.le_of_ble_eq_true rfl) ?_
  refine lv_if_eq (tgt := 12) hx hb d_M_gap_5 (by decide) (fun c1 => ?_) (fun c1 => ?_)
  · have hno : ¬ okL v := by rcases hs1 with ⟨z, -⟩ | ⟨-, z⟩; rw [z] at c1; exact absurd c1 (by decide); exact z
    refine lv_iconst (v := 1) hx hb d_M_gap_12 (by decide) ?_
    refine va_put (D := D) (ci := 1) (v := .int 1) (ty := t_M 0) (C := R_M) (T := T_M) (N := 26) hx hb (uw_M Z.1 hg.1) (fun _ h => h) t_M t_M_ok n_M hown hK hP hD hS 0 rfl rfl 0 (by decide) (kw604 Z.1 _ _ hg.1) (fun _ h9 => h9) rfl (by decide +kernel) rfl rfl (Nat.le_of_ble_eq_true rfl) d_M_gap_13 (fun H locs hP hD hS => ?_)
    have hP : va_P D ncl (w_M a cA (va_up ii 0 1) li ia la) H := hP
    have hD : va_D _ (w_M a cA (va_up ii 0 1) li ia la) := hD
    refine lv_aload_n hx hb d_M_gap_16 rfl (lv_at hl 0 rfl) ?_
    refine va_get (D := D) (ci := 1) (v := .int 1) (C := R_M) (T := T_M) (N := 26) hx hb (uw_M Z.1 hg.1) (fun _ h => h) hown hK hP 0 rfl rfl 0 (by decide) (kw604 Z.1 _ _ hg.1) (fun _ h9 => h9) rfl d_M_gap_17 ?_
    refine lv_if_ne (tgt := 32) hx hb d_M_gap_20 (by decide) (fun _ => ?_) (fun k2 => by first | exact absurd (show ¬ (1 : Int32) = 0 by decide) k2 | exact absurd k2 (show ¬ (1 : Int32) = 0 by decide))
    refine lv_iconst (v := 0) hx hb d_M_gap_32 (by decide) ?_
    exact w_zret hx hb hr rfl hlk hP hD hS ((va_up ii 0 1), li, ia, la) rfl (Or.inr ⟨hno, rfl⟩) d_M_gap_33
  · have hok : okL v := by rcases hs1 with ⟨-, z⟩ | ⟨z, -⟩; exact z; exact absurd z c1
    refine lv_iconst (v := 0) hx hb d_M_gap_8 (by decide) ?_
    refine lv_goto (tgt := 13) hx hb d_M_gap_9 (by decide) ?_
    refine va_put (D := D) (ci := 1) (v := .int 0) (ty := t_M 0) (C := R_M) (T := T_M) (N := 26) hx hb (uw_M Z.1 hg.1) (fun _ h => h) t_M t_M_ok n_M hown hK hP hD hS 0 rfl rfl 0 (by decide) (kw604 Z.1 _ _ hg.1) (fun _ h9 => h9) rfl (by decide +kernel) rfl rfl (Nat.le_of_ble_eq_true rfl) d_M_gap_13 (fun H locs hP hD hS => ?_)
    have hP : va_P D ncl (w_M a cA (va_up ii 0 0) li ia la) H := hP
    have hD : va_D _ (w_M a cA (va_up ii 0 0) li ia la) := hD
    refine lv_aload_n hx hb d_M_gap_16 rfl (lv_at hl 0 rfl) ?_
    refine va_get (D := D) (ci := 1) (v := .int 0) (C := R_M) (T := T_M) (N := 26) hx hb (uw_M Z.1 hg.1) (fun _ h => h) hown hK hP 0 rfl rfl 0 (by decide) (kw604 Z.1 _ _ hg.1) (fun _ h9 => h9) rfl d_M_gap_17 ?_
    refine lv_if_ne (tgt := 32) hx hb d_M_gap_20 (by decide) (fun k3 => by first | exact absurd (show (0 : Int32) = 0 from rfl) k3 | exact absurd k3 (show (0 : Int32) = 0 from rfl)) (fun _ => ?_)
    refine lv_aload_n hx hb d_M_gap_23 rfl (lv_at hl 0 rfl) ?_
    refine va_get (D := D) (ci := 1) (v := .long (li 11)) (C := R_M) (T := T_M) (N := 26) hx hb (uw_M Z.1 hg.1) (fun _ h => h) hown hK hP 0 rfl rfl 11 (by decide) (kw615 Z.1 _ _ hg.1) (fun _ h9 => h9) rfl d_M_gap_24 ?_
    refine lv_lload_n hx hb d_M_gap_27 rfl (lv_at hl 1 rfl) ?_
    refine W.lcmp hx hb d_M_gap_28 ?_
    refine lv_if_ne (tgt := 34) hx hb d_M_gap_29 (by decide) (fun d4 => ?_) (fun d4 => ?_)
    · refine lv_aload_n hx hb d_M_gap_34 rfl (lv_at hl 0 rfl) ?_
      refine lv_lload_n hx hb d_M_gap_35 rfl (lv_at hl 1 rfl) ?_
      refine va_put (D := D) (ci := 1) (v := .long v) (ty := t_M 11) (C := R_M) (T := T_M) (N := 26) hx hb (uw_M Z.1 hg.1) (fun _ h => h) t_M t_M_ok n_M hown hK hP hD hS 0 rfl rfl 11 (by decide) (kw615 Z.1 _ _ hg.1) (fun _ h9 => h9) rfl (by decide +kernel) rfl rfl (Nat.le_of_ble_eq_true rfl) d_M_gap_36 (fun H locs hP hD hS => ?_)
      have hP : va_P D ncl (w_M a cA (va_up ii 0 0) (va_up li 11 v) ia la) H := hP
      have hD : va_D _ (w_M a cA (va_up ii 0 0) (va_up li 11 v) ia la) := hD
      refine lv_iconst (v := 1) hx hb d_M_gap_39 (by decide) ?_
      exact w_zret hx hb hr rfl hlk hP hD hS ((va_up ii 0 0), (va_up li 11 v), ia, la) rfl (Or.inl ⟨hok, by rw [if_neg (fun z => d4 ((lg_cmp_eq _ _).mpr z))], rfl⟩) d_M_gap_40
    · have he := (lg_cmp_eq _ _).mp d4
      refine lv_iconst (v := 0) hx hb d_M_gap_32 (by decide) ?_
      exact w_zret hx hb hr rfl hlk hP hD hS ((va_up ii 0 0), li, ia, la) rfl (Or.inl ⟨hok, by rw [if_pos he], by rw [up_id li 11 v he]⟩) d_M_gap_33
set_option maxHeartbeats 4000000 in
set_option maxRecDepth 100000 in
theorem m_M_radius {l : Launch} {s0 : State} {D : va_G} {cA sa : Nat → Nat} (Z : zE l s0 D cA sa) (a : Nat → Nat) (ii : Nat → Int32) (li : Nat → Int64) (ia : Nat → Nat → Int32) (la : Nat → Nat → Int64) (v : Int64) (sz : Nat) : Met l y_M_radius [.code y_M_radius c_M_radius 3 (some .boolean)] ({ frames := 1, cells := 0, slots := 0, locals := 40 }) (wP s0 D [.ref (a 0), .long v] (w_M a cA ii li ia la) sz) (va_Qi (fun (r : Int32) (u : St) => (okL v ∧ r = (if li 12 = v then 0 else 1) ∧ u = (va_up ii 0 0, va_up li 12 v, ia, la)) ∨ (¬ okL v ∧ u = (va_up ii 0 1, li, ia, la))) (wB D (va_A (w_M a cA ii li ia la) sz) (fun (u : St) => w_M a cA u.1 u.2.1 u.2.2.1 u.2.2.2)) (va_A (w_M a cA ii li ia la) sz)) 0 0 (va_A (w_M a cA ii li ia la) sz) := by
  refine wMet Z (by decide) (Nat.le_of_ble_eq_true rfl) ?_
  intro p e s m below meth c hx hb hr hml hown hlk hin hg hK hsz hP hD hA hlo hS ls hl
  subst hsz
  have hown : s.vm.findClass R_M = some m.cls := hown
  refine lv_aload_n hx hb d_M_radius_0 rfl (lv_at hl 0 rfl) ?_
  refine lv_lload_n hx hb d_M_radius_1 rfl (lv_at hl 1 rfl) ?_
  refine w_calli (wr := (w_M a cA ii li ia la)) (w_runS (rest := [.ref (a 0)]) hx hb hml hown hl.1 hg hlo hP hD hS (m_M_isSize Z v s.heap.size) (kw699 Z.1) (kw700 Z.1) (kw701 Z.1) (kw6 Z.1) ⟨by decide, by decide, (by decide +kernel : (parseMethodDescriptor y_M_isSize.desc).map (fun d => d.parameters.length) = some 1)⟩ ⟨Nat.le_of_ble_eq_true rfl, Nat.le_of_ble_eq_true rfl⟩ [] rfl rfl rfl (Nat.le_of_ble_eq_true rfl) d_M_radius_2 ⟨Nat.le_of_ble_eq_true rfl, Nat.le_of_ble_eq_true rfl⟩) hP hD hS hA [] [0, 1, 2, 3, 4, 5, 6, 7, 8, 9, 10, 11, 12, 13, 14, 15, 16] rfl rfl rfl (by decide) (fun _ => w_M a cA ii li ia la) [0, 1, 2, 3, 4, 5, 6, 7, 8, 9, 10, 11, 12, 13, 14, 15, 16] rfl (fun _ => rfl) (fun rs1 u H locs hs1 hP hD hS => ?_)
  refine W.widen (k := 0) (n := 0) (Nat.le_of_ble_eq_true rfl) (Nat.le_of_ble_eq_true rfl) ?_
  refine lv_if_eq (tgt := 12) hx hb d_M_radius_5 (by decide) (fun c1 => ?_) (fun c1 => ?_)
  · have hno : ¬ okL v := by rcases hs1 with ⟨z, -⟩ | ⟨-, z⟩; rw [z] at c1; exact absurd c1 (by decide); exact z
    refine lv_iconst (v := 1) hx hb d_M_radius_12 (by decide) ?_
    refine va_put (D := D) (ci := 1) (v := .int 1) (ty := t_M 0) (C := R_M) (T := T_M) (N := 26) hx hb (uw_M Z.1 hg.1) (fun _ h => h) t_M t_M_ok n_M hown hK hP hD hS 0 rfl rfl 0 (by decide) (kw604 Z.1 _ _ hg.1) (fun _ h9 => h9) rfl (by decide +kernel) rfl rfl (Nat.le_of_ble_eq_true rfl) d_M_radius_13 (fun H locs hP hD hS => ?_)
    have hP : va_P D ncl (w_M a cA (va_up ii 0 1) li ia la) H := hP
    have hD : va_D _ (w_M a cA (va_up ii 0 1) li ia la) := hD
    refine lv_aload_n hx hb d_M_radius_16 rfl (lv_at hl 0 rfl) ?_
    refine va_get (D := D) (ci := 1) (v := .int 1) (C := R_M) (T := T_M) (N := 26) hx hb (uw_M Z.1 hg.1) (fun _ h => h) hown hK hP 0 rfl rfl 0 (by decide) (kw604 Z.1 _ _ hg.1) (fun _ h9 => h9) rfl d_M_radius_17 ?_
    refine lv_if_ne (tgt := 32) hx hb d_M_radius_20 (by decide) (fun _ => ?_) (fun k2 => by first | exact absurd (show ¬ (1 : Int32) = 0 by decide) k2 | exact absurd k2 (show ¬ (1 : Int32) = 0 by decide))
    refine lv_iconst (v := 0) hx hb d_M_radius_32 (by decide) ?_
    exact w_zret hx hb hr rfl hlk hP hD hS ((va_up ii 0 1), li, ia, la) rfl (Or.inr ⟨hno, rfl⟩) d_M_radius_33
  · have hok : okL v := by rcases hs1 with ⟨-, z⟩ | ⟨z, -⟩; exact z; exact absurd z c1
    refine lv_iconst (v := 0) hx hb d_M_radius_8 (by decide) ?_
    refine lv_goto (tgt := 13) hx hb d_M_radius_9 (by decide) ?_
    refine va_put (D := D) (ci := 1) (v := .int 0) (ty := t_M 0) (C := R_M) (T := T_M) (N := 26) hx hb (uw_M Z.1 hg.1) (fun _ h => h) t_M t_M_ok n_M hown hK hP hD hS 0 rfl rfl 0 (by decide) (kw604 Z.1 _ _ hg.1) (fun _ h9 => h9) rfl (by decide +kernel) rfl rfl (Nat.le_of_ble_eq_true rfl) d_M_radius_13 (fun H locs hP hD hS => ?_)
    have hP : va_P D ncl (w_M a cA (va_up ii 0 0) li ia la) H := hP
    have hD : va_D _ (w_M a cA (va_up ii 0 0) li ia la) := hD
    refine lv_aload_n hx hb d_M_radius_16 rfl (lv_at hl 0 rfl) ?_
    refine va_get (D := D) (ci := 1) (v := .int 0) (C := R_M) (T := T_M) (N := 26) hx hb (uw_M Z.1 hg.1) (fun _ h => h) hown hK hP 0 rfl rfl 0 (by decide) (kw604 Z.1 _ _ hg.1) (fun _ h9 => h9) rfl d_M_radius_17 ?_
    refine lv_if_ne (tgt := 32) hx hb d_M_radius_20 (by decide) (fun k3 => by first | exact absurd (show (0 : Int32) = 0 from rfl) k3 | exact absurd k3 (show (0 : Int32) = 0 from rfl)) (fun _ => ?_)
    refine lv_aload_n hx hb d_M_radius_23 rfl (lv_at hl 0 rfl) ?_
    refine va_get (D := D) (ci := 1) (v := .long (li 12)) (C := R_M) (T := T_M) (N := 26) hx hb (uw_M Z.1 hg.1) (fun _ h => h) hown hK hP 0 rfl rfl 12 (by decide) (kw616 Z.1 _ _ hg.1) (fun _ h9 => h9) rfl d_M_radius_24 ?_
    refine lv_lload_n hx hb d_M_radius_27 rfl (lv_at hl 1 rfl) ?_
    refine W.lcmp hx hb d_M_radius_28 ?_
    refine lv_if_ne (tgt := 34) hx hb d_M_radius_29 (by decide) (fun d4 => ?_) (fun d4 => ?_)
    · refine lv_aload_n hx hb d_M_radius_34 rfl (lv_at hl 0 rfl) ?_
      refine lv_lload_n hx hb d_M_radius_35 rfl (lv_at hl 1 rfl) ?_
      refine va_put (D := D) (ci := 1) (v := .long v) (ty := t_M 12) (C := R_M) (T := T_M) (N := 26) hx hb (uw_M Z.1 hg.1) (fun _ h => h) t_M t_M_ok n_M hown hK hP hD hS 0 rfl rfl 12 (by decide) (kw616 Z.1 _ _ hg.1) (fun _ h9 => h9) rfl (by decide +kernel) rfl rfl (Nat.le_of_ble_eq_true rfl) d_M_radius_36 (fun H locs hP hD hS => ?_)
      have hP : va_P D ncl (w_M a cA (va_up ii 0 0) (va_up li 12 v) ia la) H := hP
      have hD : va_D _ (w_M a cA (va_up ii 0 0) (va_up li 12 v) ia la) := hD
      refine lv_iconst (v := 1) hx hb d_M_radius_39 (by decide) ?_
      exact w_zret hx hb hr rfl hlk hP hD hS ((va_up ii 0 0), (va_up li 12 v), ia, la) rfl (Or.inl ⟨hok, by rw [if_neg (fun z => d4 ((lg_cmp_eq _ _).mpr z))], rfl⟩) d_M_radius_40
    · have he := (lg_cmp_eq _ _).mp d4
      refine lv_iconst (v := 0) hx hb d_M_radius_32 (by decide) ?_
      exact w_zret hx hb hr rfl hlk hP hD hS ((va_up ii 0 0), li, ia, la) rfl (Or.inl ⟨hok, by rw [if_pos he], by rw [up_id li 12 v he]⟩) d_M_radius_33
set_option maxHeartbeats 4000000 in
set_option maxRecDepth 100000 in
theorem m_M_rail {l : Launch} {s0 : State} {D : va_G} {cA sa : Nat → Nat} (Z : zE l s0 D cA sa) (a : Nat → Nat) (ii : Nat → Int32) (li : Nat → Int64) (ia : Nat → Nat → Int32) (la : Nat → Nat → Int64) (sd : Int32) (v : Int64) (sz : Nat) : Met l y_M_rail [.code y_M_rail c_M_rail 4 (some .boolean)] ({ frames := 1, cells := 0, slots := 0, locals := 40 }) (wP s0 D [.ref (a 0), .int sd, .long v] (w_M a cA ii li ia la) sz) (va_Qi (fun (r : Int32) (u : St) => (∃ k, k < 4 ∧ sd = nI k ∧ okL v ∧ r = (if la 10 k = v then 0 else 1) ∧ u = (va_up ii 0 0, li, ia, va_up la 10 (vp_updL (la 10) k v))) ∨ (¬ (∃ k, k < 4 ∧ sd = nI k) ∧ u = (va_up ii 0 1, li, ia, la)) ∨ ((∃ k, k < 4 ∧ sd = nI k) ∧ ¬ okL v ∧ u = (va_up ii 0 2, li, ia, la))) (wB D (va_A (w_M a cA ii li ia la) sz) (fun (u : St) => w_M a cA u.1 u.2.1 u.2.2.1 u.2.2.2)) (va_A (w_M a cA ii li ia la) sz)) 0 0 (va_A (w_M a cA ii li ia la) sz) := by
  refine wMet Z (by decide) (Nat.le_of_ble_eq_true rfl) ?_
  intro p e s m below meth c hx hb hr hml hown hlk hin hg hK hsz hP hD hA hlo hS ls hl
  subst hsz
  have hown : s.vm.findClass R_M = some m.cls := hown
  refine lv_aload_n hx hb d_M_rail_0 rfl (lv_at hl 0 rfl) ?_
  refine lv_iload_n hx hb d_M_rail_1 rfl (lv_at hl 1 rfl) ?_
  refine lv_if_lt (tgt := 10) hx hb d_M_rail_2 (by decide) (fun c1 => ?_) (fun c1 => ?_)
  · refine lv_iconst (v := 1) hx hb d_M_rail_10 (by decide) ?_
    refine lv_goto (tgt := 26) hx hb d_M_rail_11 (by decide) ?_
    refine va_put (D := D) (ci := 1) (v := .int 1) (ty := t_M 0) (C := R_M) (T := T_M) (N := 26) hx hb (uw_M Z.1 hg.1) (fun _ h => h) t_M t_M_ok n_M hown hK hP hD hS 0 rfl rfl 0 (by decide) (kw604 Z.1 _ _ hg.1) (fun _ h9 => h9) rfl (by decide +kernel) rfl rfl (Nat.le_of_ble_eq_true rfl) d_M_rail_26 (fun H locs hP hD hS => ?_)
    have hP : va_P D ncl (w_M a cA (va_up ii 0 1) li ia la) H := hP
    have hD : va_D _ (w_M a cA (va_up ii 0 1) li ia la) := hD
    refine lv_aload_n hx hb d_M_rail_29 rfl (lv_at hl 0 rfl) ?_
    refine va_get (D := D) (ci := 1) (v := .int 1) (C := R_M) (T := T_M) (N := 26) hx hb (uw_M Z.1 hg.1) (fun _ h => h) hown hK hP 0 rfl rfl 0 (by decide) (kw604 Z.1 _ _ hg.1) (fun _ h9 => h9) rfl d_M_rail_30 ?_
    refine lv_if_ne (tgt := 47) hx hb d_M_rail_33 (by decide) (fun _ => ?_) (fun k2 => by first | exact absurd (show ¬ (1 : Int32) = 0 by decide) k2 | exact absurd k2 (show ¬ (1 : Int32) = 0 by decide))
    refine lv_iconst (v := 0) hx hb d_M_rail_47 (by decide) ?_
    exact w_zret hx hb hr rfl hlk hP hD hS ((va_up ii 0 1), li, ia, la) rfl (Or.inr (Or.inl ⟨bk_no0 (by decide) c1, rfl⟩)) d_M_rail_48
  · refine lv_iload_n hx hb d_M_rail_5 rfl (lv_at hl 1 rfl) ?_
    refine lv_iconst (v := 3) hx hb d_M_rail_6 (by decide) ?_
    refine lv_icmp_le (tgt := 14) hx hb d_M_rail_7 (by decide) (fun d3 => ?_) (fun d3 => ?_)
    · obtain ⟨k, hk, rfl⟩ : ∃ k, k < 4 ∧ sd = nI k := bk_lt (n := 4) (by decide) c1 (fun z => by have h3 := d3; rw [Int32.le_iff_toInt_le, show (3 : Int32).toInt = 3 from rfl] at h3; rw [Int32.le_iff_toInt_le, nI_toInt (by decide)] at z; omega)
      refine lv_lload_n hx hb d_M_rail_14 rfl (lv_at hl 2 rfl) ?_
      refine w_calli (wr := (w_M a cA ii li ia la)) (w_runS (rest := [.ref (a 0)]) hx hb hml hown hl.1 hg hlo hP hD hS (m_M_isSize Z v s.heap.size) (kw699 Z.1) (kw700 Z.1) (kw701 Z.1) (kw6 Z.1) ⟨by decide, by decide, (by decide +kernel : (parseMethodDescriptor y_M_isSize.desc).map (fun d => d.parameters.length) = some 1)⟩ ⟨Nat.le_of_ble_eq_true rfl, Nat.le_of_ble_eq_true rfl⟩ [] rfl rfl rfl (Nat.le_of_ble_eq_true rfl) d_M_rail_15 ⟨Nat.le_of_ble_eq_true rfl, Nat.le_of_ble_eq_true rfl⟩) hP hD hS hA [] [0, 1, 2, 3, 4, 5, 6, 7, 8, 9, 10, 11, 12, 13, 14, 15, 16] rfl rfl rfl (by decide) (fun _ => w_M a cA ii li ia la) [0, 1, 2, 3, 4, 5, 6, 7, 8, 9, 10, 11, 12, 13, 14, 15, 16] rfl (fun _ => rfl) (fun rs1 u H locs hs1 hP hD hS => ?_)
      refine W.widen (k := 0) (n := 0) (Nat.le_of_ble_eq_true rfl) (Nat.le_of_ble_eq_true rfl) ?_
      refine lv_if_eq (tgt := 25) hx hb d_M_rail_18 (by decide) (fun g5 => ?_) (fun g5 => ?_)
      · have hno : ¬ okL v := by rcases hs1 with ⟨z, -⟩ | ⟨-, z⟩; rw [z] at g5; exact absurd g5 (by decide); exact z
        refine lv_iconst (v := 2) hx hb d_M_rail_25 (by decide) ?_
        refine va_put (D := D) (ci := 1) (v := .int 2) (ty := t_M 0) (C := R_M) (T := T_M) (N := 26) hx hb (uw_M Z.1 hg.1) (fun _ h => h) t_M t_M_ok n_M hown hK hP hD hS 0 rfl rfl 0 (by decide) (kw604 Z.1 _ _ hg.1) (fun _ h9 => h9) rfl (by decide +kernel) rfl rfl (Nat.le_of_ble_eq_true rfl) d_M_rail_26 (fun H locs hP hD hS => ?_)
        have hP : va_P D ncl (w_M a cA (va_up ii 0 2) li ia la) H := hP
        have hD : va_D _ (w_M a cA (va_up ii 0 2) li ia la) := hD
        refine lv_aload_n hx hb d_M_rail_29 rfl (lv_at hl 0 rfl) ?_
        refine va_get (D := D) (ci := 1) (v := .int 2) (C := R_M) (T := T_M) (N := 26) hx hb (uw_M Z.1 hg.1) (fun _ h => h) hown hK hP 0 rfl rfl 0 (by decide) (kw604 Z.1 _ _ hg.1) (fun _ h9 => h9) rfl d_M_rail_30 ?_
        refine lv_if_ne (tgt := 47) hx hb d_M_rail_33 (by decide) (fun _ => ?_) (fun k6 => by first | exact absurd (show ¬ (2 : Int32) = 0 by decide) k6 | exact absurd k6 (show ¬ (2 : Int32) = 0 by decide))
        refine lv_iconst (v := 0) hx hb d_M_rail_47 (by decide) ?_
        exact w_zret hx hb hr rfl hlk hP hD hS ((va_up ii 0 2), li, ia, la) rfl (Or.inr (Or.inr ⟨⟨k, hk, rfl⟩, hno, rfl⟩)) d_M_rail_48
      · have hok : okL v := by rcases hs1 with ⟨-, z⟩ | ⟨z, -⟩; exact z; exact absurd z g5
        refine lv_iconst (v := 0) hx hb d_M_rail_21 (by decide) ?_
        refine lv_goto (tgt := 26) hx hb d_M_rail_22 (by decide) ?_
        refine va_put (D := D) (ci := 1) (v := .int 0) (ty := t_M 0) (C := R_M) (T := T_M) (N := 26) hx hb (uw_M Z.1 hg.1) (fun _ h => h) t_M t_M_ok n_M hown hK hP hD hS 0 rfl rfl 0 (by decide) (kw604 Z.1 _ _ hg.1) (fun _ h9 => h9) rfl (by decide +kernel) rfl rfl (Nat.le_of_ble_eq_true rfl) d_M_rail_26 (fun H locs hP hD hS => ?_)
        have hP : va_P D ncl (w_M a cA (va_up ii 0 0) li ia la) H := hP
        have hD : va_D _ (w_M a cA (va_up ii 0 0) li ia la) := hD
        refine lv_aload_n hx hb d_M_rail_29 rfl (lv_at hl 0 rfl) ?_
        refine va_get (D := D) (ci := 1) (v := .int 0) (C := R_M) (T := T_M) (N := 26) hx hb (uw_M Z.1 hg.1) (fun _ h => h) hown hK hP 0 rfl rfl 0 (by decide) (kw604 Z.1 _ _ hg.1) (fun _ h9 => h9) rfl d_M_rail_30 ?_
        refine lv_if_ne (tgt := 47) hx hb d_M_rail_33 (by decide) (fun k7 => by first | exact absurd (show (0 : Int32) = 0 from rfl) k7 | exact absurd k7 (show (0 : Int32) = 0 from rfl)) (fun _ => ?_)
        refine lv_aload_n hx hb d_M_rail_36 rfl (lv_at hl 0 rfl) ?_
        refine va_get (D := D) (ci := 1) (v := .ref (a 11)) (C := R_M) (T := T_M) (N := 26) hx hb (uw_M Z.1 hg.1) (fun _ h => h) hown hK hP 0 rfl rfl 10 (by decide) (kw614 Z.1 _ _ hg.1) (fun _ h9 => h9) rfl d_M_rail_37 ?_
        refine lv_iload_n hx hb d_M_rail_40 rfl (lv_at hl 1 rfl) ?_
        refine va_lald hx hb hK hP 7 1 rfl rfl (vp_in_nI (n := k) (N := 4) (by omega) (by decide)) d_M_rail_41 ?_
        refine lv_topl (fun z8 ez8 => ?_)
        rw [nI_clamp (n := k) (by omega)] at ez8
        obtain rfl : z8 = ((la 10) k) := ez8
        refine lv_lload_n hx hb d_M_rail_42 rfl (lv_at hl 2 rfl) ?_
        refine W.lcmp hx hb d_M_rail_43 ?_
        refine lv_if_ne (tgt := 49) hx hb d_M_rail_44 (by decide) (fun h9 => ?_) (fun h9 => ?_)
        · refine lv_aload_n hx hb d_M_rail_49 rfl (lv_at hl 0 rfl) ?_
          refine va_get (D := D) (ci := 1) (v := .ref (a 11)) (C := R_M) (T := T_M) (N := 26) hx hb (uw_M Z.1 hg.1) (fun _ h => h) hown hK hP 0 rfl rfl 10 (by decide) (kw614 Z.1 _ _ hg.1) (fun _ h9 => h9) rfl d_M_rail_50 ?_
          refine lv_iload_n hx hb d_M_rail_53 rfl (lv_at hl 1 rfl) ?_
          refine lv_lload_n hx hb d_M_rail_54 rfl (lv_at hl 2 rfl) ?_
          refine va_last hx hb hK hP hD hS 7 1 rfl rfl (vp_in_nI (n := k) (N := 4) (by omega) (by decide)) d_M_rail_55 (fun H locs hP hD hS => ?_)
          rw [nI_clamp (n := k) (by omega)] at hP hD
          have hP : va_P D ncl (w_M a cA (va_up ii 0 0) li ia (va_up la 10 (vp_updL (la 10) k v))) H := hP
          have hD : va_D _ (w_M a cA (va_up ii 0 0) li ia (va_up la 10 (vp_updL (la 10) k v))) := hD
          refine lv_iconst (v := 1) hx hb d_M_rail_56 (by decide) ?_
          exact w_zret hx hb hr rfl hlk hP hD hS ((va_up ii 0 0), li, ia, (va_up la 10 (vp_updL (la 10) k v))) rfl (Or.inl ⟨k, hk, rfl, hok, by rw [if_neg (fun z => h9 ((lg_cmp_eq _ _).mpr z))], rfl⟩) d_M_rail_57
        · have he := (lg_cmp_eq _ _).mp h9
          refine lv_iconst (v := 0) hx hb d_M_rail_47 (by decide) ?_
          exact w_zret hx hb hr rfl hlk hP hD hS ((va_up ii 0 0), li, ia, la) rfl (Or.inl ⟨k, hk, rfl, hok, by rw [if_pos he], by rw [updL_id (la 10) k v he, up_id la 10 (la 10) rfl]⟩) d_M_rail_48
    · refine lv_iconst (v := 1) hx hb d_M_rail_10 (by decide) ?_
      refine lv_goto (tgt := 26) hx hb d_M_rail_11 (by decide) ?_
      refine va_put (D := D) (ci := 1) (v := .int 1) (ty := t_M 0) (C := R_M) (T := T_M) (N := 26) hx hb (uw_M Z.1 hg.1) (fun _ h => h) t_M t_M_ok n_M hown hK hP hD hS 0 rfl rfl 0 (by decide) (kw604 Z.1 _ _ hg.1) (fun _ h9 => h9) rfl (by decide +kernel) rfl rfl (Nat.le_of_ble_eq_true rfl) d_M_rail_26 (fun H locs hP hD hS => ?_)
      have hP : va_P D ncl (w_M a cA (va_up ii 0 1) li ia la) H := hP
      have hD : va_D _ (w_M a cA (va_up ii 0 1) li ia la) := hD
      refine lv_aload_n hx hb d_M_rail_29 rfl (lv_at hl 0 rfl) ?_
      refine va_get (D := D) (ci := 1) (v := .int 1) (C := R_M) (T := T_M) (N := 26) hx hb (uw_M Z.1 hg.1) (fun _ h => h) hown hK hP 0 rfl rfl 0 (by decide) (kw604 Z.1 _ _ hg.1) (fun _ h9 => h9) rfl d_M_rail_30 ?_
      refine lv_if_ne (tgt := 47) hx hb d_M_rail_33 (by decide) (fun _ => ?_) (fun k4 => by first | exact absurd (show ¬ (1 : Int32) = 0 by decide) k4 | exact absurd k4 (show ¬ (1 : Int32) = 0 by decide))
      refine lv_iconst (v := 0) hx hb d_M_rail_47 (by decide) ?_
      exact w_zret hx hb hr rfl hlk hP hD hS ((va_up ii 0 1), li, ia, la) rfl (Or.inr (Or.inl ⟨bk_no1 (n := 4) (by decide) (by have h3 := Int32.not_le.mp d3; rw [Int32.lt_iff_toInt_lt, show (3 : Int32).toInt = 3 from rfl] at h3; rw [Int32.le_iff_toInt_le, nI_toInt (by decide)]; omega), rfl⟩)) d_M_rail_48
set_option maxHeartbeats 4000000 in
set_option maxRecDepth 100000 in
theorem m_M_wants {l : Launch} {s0 : State} {D : va_G} {cA sa : Nat → Nat} (Z : zE l s0 D cA sa) (a : Nat → Nat) (ii : Nat → Int32) (li : Nat → Int64) (ia : Nat → Nat → Int32) (la : Nat → Nat → Int64) (v w0 : Int32) (n : Nat) (hn : ii 3 = nI n) (hn2 : n ≤ 4) (sz : Nat) : Met l y_M_wants [.code y_M_wants c_M_wants 3 (some .boolean)] ({ frames := 1, cells := 0, slots := 0, locals := 40 }) (wP s0 D [.ref (a 0), .int v, .int w0] (w_M a cA ii li ia la) sz) (va_Qi (fun (r : Int32) (u : St) => (∃ k, k < n ∧ v = nI k ∧ (∃ j, j < 201 ∧ w0 = nI j) ∧ r = (if ia 7 k = w0 then 0 else 1) ∧ u = (va_up ii 0 0, li, va_up ia 7 (upd (ia 7) k w0), la)) ∨ (¬ (∃ k, k < n ∧ v = nI k) ∧ u = (va_up ii 0 1, li, ia, la)) ∨ ((∃ k, k < n ∧ v = nI k) ∧ ¬ (∃ j, j < 201 ∧ w0 = nI j) ∧ u = (va_up ii 0 2, li, ia, la))) (wB D (va_A (w_M a cA ii li ia la) sz) (fun (u : St) => w_M a cA u.1 u.2.1 u.2.2.1 u.2.2.2)) (va_A (w_M a cA ii li ia la) sz)) 0 0 (va_A (w_M a cA ii li ia la) sz) := by
  refine wMet Z (by decide) (Nat.le_of_ble_eq_true rfl) ?_
  intro p e s m below meth c hx hb hr hml hown hlk hin hg hK hsz hP hD hA hlo hS ls hl
  subst hsz
  have hown : s.vm.findClass R_M = some m.cls := hown
  refine lv_aload_n hx hb d_M_wants_0 rfl (lv_at hl 0 rfl) ?_
  refine lv_aload_n hx hb d_M_wants_1 rfl (lv_at hl 0 rfl) ?_
  refine lv_iload_n hx hb d_M_wants_2 rfl (lv_at hl 1 rfl) ?_
  refine w_calli (wr := ([] : va_W)) (w_runV (rest := [.ref (a 0)]) hx hb hml hown hl.1 hg hlo hK hP hD hS (m_M_isBoard Z a ii li ia la v n hn (by omega) s.heap.size) (kw695 Z.1) (kw697 Z.1) (kp_M_isBoard Z.1) (kw698 Z.1) (kw6 Z.1) ⟨by decide, by decide, (by decide +kernel : (parseMethodDescriptor y_M_isBoard.desc).map (fun d => d.parameters.length) = some 1)⟩ ⟨Nat.le_of_ble_eq_true rfl, Nat.le_of_ble_eq_true rfl⟩ [0, 1, 2, 3, 4, 5, 6, 7, 8, 9, 10, 11, 12, 13, 14, 15, 16] rfl rfl (ci := 1) (q0 := 0) rfl rfl rfl (Nat.le_of_ble_eq_true rfl) d_M_wants_3 ⟨Nat.le_of_ble_eq_true rfl, Nat.le_of_ble_eq_true rfl⟩) hP hD hS hA [0, 1, 2, 3, 4, 5, 6, 7, 8, 9, 10, 11, 12, 13, 14, 15, 16] [] rfl rfl rfl (by decide) (fun _ => w_M a cA ii li ia la) [0, 1, 2, 3, 4, 5, 6, 7, 8, 9, 10, 11, 12, 13, 14, 15, 16] rfl (fun _ => rfl) (fun r1 u H locs h1 hP hD hS => ?_)
  refine W.widen (k := 0) (n := 0) (Nat.le_of_ble_eq_true rfl) (Nat.le_of_ble_eq_true rfl) ?_
  refine lv_if_ne (tgt := 13) hx hb d_M_wants_6 (by decide) (fun c1 => ?_) (fun c1 => ?_)
  · have hb0 : ∃ k, k < n ∧ v = nI k := by rcases h1 with ⟨-, z⟩ | ⟨z, -⟩; exact z; exact absurd z c1
    refine lv_iload_n hx hb d_M_wants_13 rfl (lv_at hl 2 rfl) ?_
    refine lv_if_lt (tgt := 24) hx hb d_M_wants_14 (by decide) (fun d3 => ?_) (fun d3 => ?_)
    · refine lv_iconst (v := 2) hx hb d_M_wants_24 (by decide) ?_
      refine lv_goto (tgt := 29) hx hb d_M_wants_25 (by decide) ?_
      refine va_put (D := D) (ci := 1) (v := .int 2) (ty := t_M 0) (C := R_M) (T := T_M) (N := 26) hx hb (uw_M Z.1 hg.1) (fun _ h => h) t_M t_M_ok n_M hown hK hP hD hS 0 rfl rfl 0 (by decide) (kw604 Z.1 _ _ hg.1) (fun _ h9 => h9) rfl (by decide +kernel) rfl rfl (Nat.le_of_ble_eq_true rfl) d_M_wants_29 (fun H locs hP hD hS => ?_)
      have hP : va_P D ncl (w_M a cA (va_up ii 0 2) li ia la) H := hP
      have hD : va_D _ (w_M a cA (va_up ii 0 2) li ia la) := hD
      refine lv_aload_n hx hb d_M_wants_32 rfl (lv_at hl 0 rfl) ?_
      refine va_get (D := D) (ci := 1) (v := .int 2) (C := R_M) (T := T_M) (N := 26) hx hb (uw_M Z.1 hg.1) (fun _ h => h) hown hK hP 0 rfl rfl 0 (by decide) (kw604 Z.1 _ _ hg.1) (fun _ h9 => h9) rfl d_M_wants_33 ?_
      refine lv_if_ne (tgt := 49) hx hb d_M_wants_36 (by decide) (fun _ => ?_) (fun k4 => by first | exact absurd (show ¬ (2 : Int32) = 0 by decide) k4 | exact absurd k4 (show ¬ (2 : Int32) = 0 by decide))
      refine lv_iconst (v := 0) hx hb d_M_wants_49 (by decide) ?_
      exact w_zret hx hb hr rfl hlk hP hD hS ((va_up ii 0 2), li, ia, la) rfl (Or.inr (Or.inr ⟨hb0, bk_no0 (by decide) d3, rfl⟩)) d_M_wants_50
    · refine lv_iload_n hx hb d_M_wants_17 rfl (lv_at hl 2 rfl) ?_
      refine lv_sipush (v := 200) hx hb d_M_wants_18 (by decide) ?_
      refine lv_icmp_le (tgt := 28) hx hb d_M_wants_21 (by decide) (fun g5 => ?_) (fun g5 => ?_)
      · have hw0 : ∃ j, j < 201 ∧ w0 = nI j := bk_lt (n := 201) (by decide) d3 (fun z => by have h3 := g5; rw [Int32.le_iff_toInt_le, show (200 : Int32).toInt = 200 from rfl] at h3; rw [Int32.le_iff_toInt_le, nI_toInt (by decide)] at z; omega)
        obtain ⟨k, hk, rfl⟩ := hb0
        refine lv_iconst (v := 0) hx hb d_M_wants_28 (by decide) ?_
        refine va_put (D := D) (ci := 1) (v := .int 0) (ty := t_M 0) (C := R_M) (T := T_M) (N := 26) hx hb (uw_M Z.1 hg.1) (fun _ h => h) t_M t_M_ok n_M hown hK hP hD hS 0 rfl rfl 0 (by decide) (kw604 Z.1 _ _ hg.1) (fun _ h9 => h9) rfl (by decide +kernel) rfl rfl (Nat.le_of_ble_eq_true rfl) d_M_wants_29 (fun H locs hP hD hS => ?_)
        have hP : va_P D ncl (w_M a cA (va_up ii 0 0) li ia la) H := hP
        have hD : va_D _ (w_M a cA (va_up ii 0 0) li ia la) := hD
        refine lv_aload_n hx hb d_M_wants_32 rfl (lv_at hl 0 rfl) ?_
        refine va_get (D := D) (ci := 1) (v := .int 0) (C := R_M) (T := T_M) (N := 26) hx hb (uw_M Z.1 hg.1) (fun _ h => h) hown hK hP 0 rfl rfl 0 (by decide) (kw604 Z.1 _ _ hg.1) (fun _ h9 => h9) rfl d_M_wants_33 ?_
        refine lv_if_ne (tgt := 49) hx hb d_M_wants_36 (by decide) (fun k7 => by first | exact absurd (show (0 : Int32) = 0 from rfl) k7 | exact absurd k7 (show (0 : Int32) = 0 from rfl)) (fun _ => ?_)
        refine lv_aload_n hx hb d_M_wants_39 rfl (lv_at hl 0 rfl) ?_
        refine va_get (D := D) (ci := 1) (v := .ref (a 8)) (C := R_M) (T := T_M) (N := 26) hx hb (uw_M Z.1 hg.1) (fun _ h => h) hown hK hP 0 rfl rfl 7 (by decide) (kw611 Z.1 _ _ hg.1) (fun _ h9 => h9) rfl d_M_wants_40 ?_
        refine lv_iload_n hx hb d_M_wants_43 rfl (lv_at hl 1 rfl) ?_
        refine va_iald hx hb hK hP 4 0 rfl rfl (vp_in_nI (n := k) (N := 4) (by omega) (by decide)) d_M_wants_44 ?_
        refine lv_topi (fun z8 ez8 => ?_)
        rw [nI_clamp (n := k) (by omega)] at ez8
        obtain rfl : z8 = ((ia 7) k) := ez8
        refine lv_iload_n hx hb d_M_wants_45 rfl (lv_at hl 2 rfl) ?_
        refine lv_icmp_ne (tgt := 51) hx hb d_M_wants_46 (by decide) (fun h9 => ?_) (fun h9 => ?_)
        · refine lv_aload_n hx hb d_M_wants_51 rfl (lv_at hl 0 rfl) ?_
          refine va_get (D := D) (ci := 1) (v := .ref (a 8)) (C := R_M) (T := T_M) (N := 26) hx hb (uw_M Z.1 hg.1) (fun _ h => h) hown hK hP 0 rfl rfl 7 (by decide) (kw611 Z.1 _ _ hg.1) (fun _ h9 => h9) rfl d_M_wants_52 ?_
          refine lv_iload_n hx hb d_M_wants_55 rfl (lv_at hl 1 rfl) ?_
          refine lv_iload_n hx hb d_M_wants_56 rfl (lv_at hl 2 rfl) ?_
          refine va_iast hx hb hK hP hD hS 4 0 rfl rfl (vp_in_nI (n := k) (N := 4) (by omega) (by decide)) d_M_wants_57 (fun H locs hP hD hS => ?_)
          rw [nI_clamp (n := k) (by omega)] at hP hD
          have hP : va_P D ncl (w_M a cA (va_up ii 0 0) li (va_up ia 7 (upd (ia 7) k w0)) la) H := hP
          have hD : va_D _ (w_M a cA (va_up ii 0 0) li (va_up ia 7 (upd (ia 7) k w0)) la) := hD
          refine lv_iconst (v := 1) hx hb d_M_wants_58 (by decide) ?_
          exact w_zret hx hb hr rfl hlk hP hD hS ((va_up ii 0 0), li, (va_up ia 7 (upd (ia 7) k w0)), la) rfl (Or.inl ⟨k, hk, rfl, hw0, by rw [if_neg h9], rfl⟩) d_M_wants_59
        · refine lv_iconst (v := 0) hx hb d_M_wants_49 (by decide) ?_
          exact w_zret hx hb hr rfl hlk hP hD hS ((va_up ii 0 0), li, ia, la) rfl (Or.inl ⟨k, hk, rfl, hw0, by rw [if_pos h9], by rw [upd_id (ia 7) k w0 h9, up_id ia 7 (ia 7) rfl]⟩) d_M_wants_50
      · refine lv_iconst (v := 2) hx hb d_M_wants_24 (by decide) ?_
        refine lv_goto (tgt := 29) hx hb d_M_wants_25 (by decide) ?_
        refine va_put (D := D) (ci := 1) (v := .int 2) (ty := t_M 0) (C := R_M) (T := T_M) (N := 26) hx hb (uw_M Z.1 hg.1) (fun _ h => h) t_M t_M_ok n_M hown hK hP hD hS 0 rfl rfl 0 (by decide) (kw604 Z.1 _ _ hg.1) (fun _ h9 => h9) rfl (by decide +kernel) rfl rfl (Nat.le_of_ble_eq_true rfl) d_M_wants_29 (fun H locs hP hD hS => ?_)
        have hP : va_P D ncl (w_M a cA (va_up ii 0 2) li ia la) H := hP
        have hD : va_D _ (w_M a cA (va_up ii 0 2) li ia la) := hD
        refine lv_aload_n hx hb d_M_wants_32 rfl (lv_at hl 0 rfl) ?_
        refine va_get (D := D) (ci := 1) (v := .int 2) (C := R_M) (T := T_M) (N := 26) hx hb (uw_M Z.1 hg.1) (fun _ h => h) hown hK hP 0 rfl rfl 0 (by decide) (kw604 Z.1 _ _ hg.1) (fun _ h9 => h9) rfl d_M_wants_33 ?_
        refine lv_if_ne (tgt := 49) hx hb d_M_wants_36 (by decide) (fun _ => ?_) (fun k6 => by first | exact absurd (show ¬ (2 : Int32) = 0 by decide) k6 | exact absurd k6 (show ¬ (2 : Int32) = 0 by decide))
        refine lv_iconst (v := 0) hx hb d_M_wants_49 (by decide) ?_
        exact w_zret hx hb hr rfl hlk hP hD hS ((va_up ii 0 2), li, ia, la) rfl (Or.inr (Or.inr ⟨hb0, bk_no1 (n := 201) (by decide) (by have h3 := Int32.not_le.mp g5; rw [Int32.lt_iff_toInt_lt, show (200 : Int32).toInt = 200 from rfl] at h3; rw [Int32.le_iff_toInt_le, nI_toInt (by decide)]; omega), rfl⟩)) d_M_wants_50
  · have hno : ¬ (∃ k, k < n ∧ v = nI k) := by rcases h1 with ⟨z, -⟩ | ⟨-, z⟩; rw [z] at c1; exact absurd c1 (by decide); exact z
    refine lv_iconst (v := 1) hx hb d_M_wants_9 (by decide) ?_
    refine lv_goto (tgt := 29) hx hb d_M_wants_10 (by decide) ?_
    refine va_put (D := D) (ci := 1) (v := .int 1) (ty := t_M 0) (C := R_M) (T := T_M) (N := 26) hx hb (uw_M Z.1 hg.1) (fun _ h => h) t_M t_M_ok n_M hown hK hP hD hS 0 rfl rfl 0 (by decide) (kw604 Z.1 _ _ hg.1) (fun _ h9 => h9) rfl (by decide +kernel) rfl rfl (Nat.le_of_ble_eq_true rfl) d_M_wants_29 (fun H locs hP hD hS => ?_)
    have hP : va_P D ncl (w_M a cA (va_up ii 0 1) li ia la) H := hP
    have hD : va_D _ (w_M a cA (va_up ii 0 1) li ia la) := hD
    refine lv_aload_n hx hb d_M_wants_32 rfl (lv_at hl 0 rfl) ?_
    refine va_get (D := D) (ci := 1) (v := .int 1) (C := R_M) (T := T_M) (N := 26) hx hb (uw_M Z.1 hg.1) (fun _ h => h) hown hK hP 0 rfl rfl 0 (by decide) (kw604 Z.1 _ _ hg.1) (fun _ h9 => h9) rfl d_M_wants_33 ?_
    refine lv_if_ne (tgt := 49) hx hb d_M_wants_36 (by decide) (fun _ => ?_) (fun k2 => by first | exact absurd (show ¬ (1 : Int32) = 0 by decide) k2 | exact absurd k2 (show ¬ (1 : Int32) = 0 by decide))
    refine lv_iconst (v := 0) hx hb d_M_wants_49 (by decide) ?_
    exact w_zret hx hb hr rfl hlk hP hD hS ((va_up ii 0 1), li, ia, la) rfl (Or.inr (Or.inl ⟨hno, rfl⟩)) d_M_wants_50
set_option maxHeartbeats 4000000 in
set_option maxRecDepth 100000 in
theorem m_M_proved {l : Launch} {s0 : State} {D : va_G} {cA sa : Nat → Nat} (Z : zE l s0 D cA sa) (a : Nat → Nat) (ii : Nat → Int32) (li : Nat → Int64) (ia : Nat → Nat → Int32) (la : Nat → Nat → Int64) (hz : ii 16 = 0 ∨ ii 16 = 1) (sz : Nat) : Met l y_M_proved [.code y_M_proved c_M_proved 1 (some .boolean)] ({ frames := 0, cells := 0, slots := 0, locals := 0 }) (wP s0 D [.ref (a 0)] (w_M a cA ii li ia la) sz) (va_Qi (fun (r : Int32) (u : St) => r = ii 16 ∧ u = (va_up ii 0 0, li, ia, la)) (wB D (va_A (w_M a cA ii li ia la) sz) (fun (u : St) => w_M a cA u.1 u.2.1 u.2.2.1 u.2.2.2)) (va_A (w_M a cA ii li ia la) sz)) 0 0 (va_A (w_M a cA ii li ia la) sz) := by
  refine wMet Z (by decide) (Nat.le_of_ble_eq_true rfl) ?_
  intro p e s m below meth c hx hb hr hml hown hlk hin hg hK hsz hP hD hA hlo hS ls hl
  subst hsz
  have hown : s.vm.findClass R_M = some m.cls := hown
  refine lv_aload_n hx hb d_M_proved_0 rfl (lv_at hl 0 rfl) ?_
  refine lv_iconst (v := 0) hx hb d_M_proved_1 (by decide) ?_
  refine va_put (D := D) (ci := 1) (v := .int 0) (ty := t_M 0) (C := R_M) (T := T_M) (N := 26) hx hb (uw_M Z.1 hg.1) (fun _ h => h) t_M t_M_ok n_M hown hK hP hD hS 0 rfl rfl 0 (by decide) (kw604 Z.1 _ _ hg.1) (fun _ h9 => h9) rfl (by decide +kernel) rfl rfl (Nat.le_of_ble_eq_true rfl) d_M_proved_2 (fun H locs hP hD hS => ?_)
  have hP : va_P D ncl (w_M a cA (va_up ii 0 0) li ia la) H := hP
  have hD : va_D _ (w_M a cA (va_up ii 0 0) li ia la) := hD
  refine lv_aload_n hx hb d_M_proved_5 rfl (lv_at hl 0 rfl) ?_
  refine va_get (D := D) (ci := 1) (v := .int (ii 16)) (C := R_M) (T := T_M) (N := 26) hx hb (uw_M Z.1 hg.1) (fun _ h => h) hown hK hP 0 rfl rfl 16 (by decide) (kw620 Z.1 _ _ hg.1) (fun _ h9 => h9) rfl d_M_proved_6 ?_
  exact w_zret hx hb hr (nar01 hz) hlk hP hD hS ((va_up ii 0 0), li, ia, la) rfl ⟨rfl, rfl⟩ d_M_proved_9
set_option maxHeartbeats 4000000 in
set_option maxRecDepth 100000 in
theorem m_M_overlaps {l : Launch} {s0 : State} {D : va_G} {cA sa : Nat → Nat} (Z : zE l s0 D cA sa) (a : Nat → Nat) (ii : Nat → Int32) (li : Nat → Int64) (ia : Nat → Nat → Int32) (la : Nat → Nat → Int64) (sz : Nat) : Met l y_M_overlaps [.code y_M_overlaps c_M_overlaps 1 (some .boolean)] ({ frames := 0, cells := 0, slots := 0, locals := 0 }) (wP s0 D [.ref (a 0)] (w_M a cA ii li ia la) sz) (va_Qi (fun (r : Int32) (u : St) => r = 0 ∧ u = (va_up ii 0 0, li, ia, la)) (wB D (va_A (w_M a cA ii li ia la) sz) (fun (u : St) => w_M a cA u.1 u.2.1 u.2.2.1 u.2.2.2)) (va_A (w_M a cA ii li ia la) sz)) 0 0 (va_A (w_M a cA ii li ia la) sz) := by
  refine wMet Z (by decide) (Nat.le_of_ble_eq_true rfl) ?_
  intro p e s m below meth c hx hb hr hml hown hlk hin hg hK hsz hP hD hA hlo hS ls hl
  subst hsz
  have hown : s.vm.findClass R_M = some m.cls := hown
  refine lv_aload_n hx hb d_M_overlaps_0 rfl (lv_at hl 0 rfl) ?_
  refine lv_iconst (v := 0) hx hb d_M_overlaps_1 (by decide) ?_
  refine va_put (D := D) (ci := 1) (v := .int 0) (ty := t_M 0) (C := R_M) (T := T_M) (N := 26) hx hb (uw_M Z.1 hg.1) (fun _ h => h) t_M t_M_ok n_M hown hK hP hD hS 0 rfl rfl 0 (by decide) (kw604 Z.1 _ _ hg.1) (fun _ h9 => h9) rfl (by decide +kernel) rfl rfl (Nat.le_of_ble_eq_true rfl) d_M_overlaps_2 (fun H locs hP hD hS => ?_)
  have hP : va_P D ncl (w_M a cA (va_up ii 0 0) li ia la) H := hP
  have hD : va_D _ (w_M a cA (va_up ii 0 0) li ia la) := hD
  refine lv_iconst (v := 0) hx hb d_M_overlaps_5 (by decide) ?_
  exact w_zret hx hb hr rfl hlk hP hD hS ((va_up ii 0 0), li, ia, la) rfl ⟨rfl, rfl⟩ d_M_overlaps_6
