theorem sc_bd2 {s : List (Nat × Nat)} {y n B : Nat} (h : ∀ p ∈ s, p.2 ≤ B) : ∀ p ∈ sc_add s y n, p.2 ≤ B + n := by
  intro p hp
  unfold sc_add at hp
  split at hp
  · rename_i hc
    rcases List.mem_append.mp hp with g | g
    · have := h p (List.dropLast_subset s g); omega
    · rw [List.mem_singleton.mp g]
      have := h _ (gd_mem s (0, 0) (j := s.length - 1) (by omega))
      show _ + n ≤ _; omega
  · rcases List.mem_append.mp hp with g | g
    · have := h p g; omega
    · rw [List.mem_singleton.mp g]; show n ≤ _; omega
theorem ly_s_bd2 (g : Nat) : ∀ (rw : List Rw) (p : Nat × List (Nat × Nat)) (B : Nat), (∀ q ∈ rw, q.2.2.1 ≤ 20) → (∀ z ∈ p.2, z.2 ≤ B) → ∀ z ∈ (rw.foldl (ly_f g) p).2, z.2 ≤ B + 40 * rw.length := by
  intro rw
  induction rw with
  | nil => intro p B _ h z hz; simpa using h z hz
  | cons q rw ih =>
    intro p B hq h z hz
    rw [List.foldl_cons] at hz
    have h1 := hq q List.mem_cons_self
    have h2 : ∀ z ∈ (ly_f g p q).2, z.2 ≤ B + 40 := fun z hz => by
      have := sc_bd2 (sc_bd2 h) z hz
      omega
    have := ih (ly_f g p q) (B + 40) (fun z hz => hq z (List.mem_cons_of_mem _ hz)) h2 z hz
    rw [List.length_cons]; omega
set_option maxHeartbeats 4000000 in
set_option maxRecDepth 100000 in
theorem m_P_order {l : Launch} {s0 : State} {D : va_G} {cA sa : Nat → Nat} (Z : zE l s0 D cA sa) (a : Nat → Nat) (ii : Nat → Int32) (li : Nat → Int64) (ia : Nat → Nat → Int32) (la : Nat → Nat → Int64) (bd : Nat → Nat) (y : Nat → Nat) (iy : Nat → Int32) (ly : Nat → Int64) (jy : Nat → Nat → Int32) (ky : Nat → Nat → Int64) (hya : y 0 = a 6) (l0 y0 g : Nat) (rw : List Rw) (bf : Nat → Bool) (hy : yR l0 y0 g rw bf (iy, ly, jy, ky)) (hok : okR l0 y0 g rw) (k : Int32) (sz : Nat) : th_Met l y_P_order [.code y_P_order c_P_order 2 (some .int)] ({ frames := 10, cells := 0, slots := 0, locals := 300 }) (wP s0 D [.ref (a 0), .int k] ((w_P a cA ii li ia la bd) ++ (w_Y y cA iy ly jy ky)) sz) (th_Qi (fun r (_ : Unit) => yo (jy 8) (ly_n rw) k r) (wB D (va_A ((w_P a cA ii li ia la bd) ++ (w_Y y cA iy ly jy ky)) sz) (fun _ => (w_P a cA ii li ia la bd) ++ (w_Y y cA iy ly jy ky))) (va_A ((w_P a cA ii li ia la bd) ++ (w_Y y cA iy ly jy ky)) sz) (fun _ _ _ => False)) 0 0 (va_A ((w_P a cA ii li ia la bd) ++ (w_Y y cA iy ly jy ky)) sz) := by
  refine wMetT Z (by decide) (Nat.le_of_ble_eq_true rfl) ?_
  intro p e s m below meth c hx hb hr hml hown hlk hem hg hK hsz hP hD hA hlo hS ls hl
  subst hsz
  have hown : s.vm.findClass R_P = some m.cls := hown
  have hS0 : va_S (fun q => s.heap.size ≤ q) s.heap s.heap [] := va_S.rf
  have hn160 : ly_n rw ≤ 160 := Nat.le_trans (ok_n (fun z hz => (hok.2.2.2.2 z hz).2.2.2.1)) (by have := hok.2.2.2.1; omega)
  have h01 : ∀ j, j < ly_n rw → jy 8 j = 0 ∨ jy 8 j = 1 := fun j hj => by have := hy.2.2.2.1 j hj; dsimp only at this; rw [this]; split; exact Or.inr rfl; exact Or.inl rfl
  refine lv_aload_n hx hb d_P_order_0 rfl (lv_at hl 0 rfl) ?_
  refine va_get (D := D) (ci := 0) (v := .ref (a 6)) (C := R_P) (T := T_P) (N := 10) hx hb (uw_P Z.1 hg.1) (fun _ h => h) hown hK hP 0 rfl rfl 5 (by decide) (kw203 Z.1 _ _ hg.1) (fun _ h9 => h9) rfl d_P_order_1 ?_
  rw [← hya]
  refine lv_iload_n hx hb d_P_order_4 rfl (lv_at hl 1 rfl) ?_
  refine w_rcalli (w_runVN (rest := []) hx hb hml hown hl.1 hg hlo hK hP hD (qS hS0 hA) (r_Y_copyInOrder Z y iy ly jy ky k (ly_n rw) hy.1.2 hn160 h01 s.heap.size) (kw245 Z.1) (kw247 Z.1) (kp_Y_copyInOrder Z.1) (kw248 Z.1) (kw5 Z.1) ⟨by decide, by decide, (by decide +kernel : (parseMethodDescriptor y_Y_copyInOrder.desc).map (fun d => d.parameters.length) = some 1)⟩ ⟨Nat.le_of_ble_eq_true rfl, Nat.le_of_ble_eq_true rfl⟩ [3, 4, 5, 6, 7, 8, 9, 10, 11, 12, 13, 14] rfl rfl (ci := 3) (q0 := 3) rfl rfl rfl (Nat.le_of_ble_eq_true rfl) d_P_order_5 ⟨Nat.le_of_ble_eq_true rfl, Nat.le_of_ble_eq_true rfl⟩) hP hS0 (fun r1 H locs hq hP hS0 => ?_)
  refine W.widen (k := 0) (n := 0) (Nat.le_of_ble_eq_true rfl) (Nat.le_of_ble_eq_true rfl) ?_
  have hS := qS hS0 hA
  refine W.widen (k := 0) (n := 0) (Nat.le_of_ble_eq_true rfl) (Nat.le_of_ble_eq_true rfl) ?_
  exact wt_iret hx hb hr hlk hP hD hS () rfl hq d_P_order_8
set_option maxHeartbeats 4000000 in
set_option maxRecDepth 100000 in
theorem m_P_score {l : Launch} {s0 : State} {D : va_G} {cA sa : Nat → Nat} (Z : zE l s0 D cA sa) (a : Nat → Nat) (ii : Nat → Int32) (li : Nat → Int64) (ia : Nat → Nat → Int32) (la : Nat → Nat → Int64) (bd : Nat → Nat) (y : Nat → Nat) (iy : Nat → Int32) (ly : Nat → Int64) (jy : Nat → Nat → Int32) (ky : Nat → Nat → Int64) (hya : y 0 = a 6) (l0 y0 g : Nat) (rw : List Rw) (bf : Nat → Bool) (hy : yR l0 y0 g rw bf (iy, ly, jy, ky)) (hok : okR l0 y0 g rw) (v k : Int32) (sz : Nat) : th_Met l y_P_score [.code y_P_score c_P_score 3 (some .long)] ({ frames := 10, cells := 3, slots := 18, locals := 300 }) (wP s0 D [.ref (a 0), .int v, .int k] ((w_P a cA ii li ia la bd) ++ (w_Y y cA iy ly jy ky)) sz) (th_Ql (fun (r : Int64) (_ : Unit) => ∃ j i, j < (ly_s y0 g rw).length ∧ v = nI j ∧ i < 2 ∧ k = nI i ∧ r = lN (if i = 0 then ((ly_s y0 g rw).getD j (0, 0)).1 else ((ly_s y0 g rw).getD j (0, 0)).2)) (wB D (va_A ((w_P a cA ii li ia la bd) ++ (w_Y y cA iy ly jy ky)) sz) (fun _ => (w_P a cA ii li ia la bd) ++ (w_Y y cA iy ly jy ky))) (va_A ((w_P a cA ii li ia la bd) ++ (w_Y y cA iy ly jy ky)) sz) (fun x H t => ¬ ((∃ j, j < (ly_s y0 g rw).length ∧ v = nI j) ∧ ∃ i, i < 2 ∧ k = nI i) ∧ th_X "java/lang/IndexOutOfBoundsException" x H t)) 3 18 (va_A ((w_P a cA ii li ia la bd) ++ (w_Y y cA iy ly jy ky)) sz) := by
  refine wMetT Z (by decide) (Nat.le_of_ble_eq_true rfl) ?_
  intro p e s m below meth c hx hb hr hml hown hlk hem hg hK hsz hP hD hA hlo hS ls hl
  subst hsz
  have hown : s.vm.findClass R_P = some m.cls := hown
  have hS0 : va_S (fun q => s.heap.size ≤ q) s.heap s.heap [] := va_S.rf
  obtain ⟨⟨s13, s9⟩, sl, sb⟩ := hy.2.2.2.2
  dsimp only at s13 s9
  have h8 := hok.2.2.2.1
  have sb2 : ∀ z ∈ (ly_s y0 g rw), z.2 ≤ 0 + 40 * rw.length := ly_s_bd2 g rw (y0, []) 0 (fun z hz => (hok.2.2.2.2 z hz).2.2.2.1) (fun z hz => by simp at hz)
  refine lv_iload_n hx hb d_P_score_0 rfl (lv_at hl 1 rfl) ?_
  refine lv_i2l hx hb d_P_score_1 rfl ?_
  refine lv_lconst (v := 0) hx hb d_P_score_2 (by decide) ?_
  refine lv_aload_n hx hb d_P_score_3 rfl (lv_at hl 0 rfl) ?_
  refine va_get (D := D) (ci := 0) (v := .ref (a 6)) (C := R_P) (T := T_P) (N := 10) hx hb (uw_P Z.1 hg.1) (fun _ h => h) hown hK hP 0 rfl rfl 5 (by decide) (kw203 Z.1 _ _ hg.1) (fun _ h9 => h9) rfl d_P_score_4 ?_
  rw [← hya]
  refine va_getN (D := D) (ci := 3) (v := .int (iy 13)) (C := R_Y) (T := T_Y) (N := 17) hx hb (uw_Y Z.1 hg.1) (fun _ h => h) hown hK hP 3 rfl rfl 13 (by decide) (kw158 Z.1 _ _ hg.1) (fun _ h9 => h9) rfl d_P_score_7 ?_
  refine lv_iconst (v := 1) hx hb d_P_score_10 (by decide) ?_
  rw [s13]
  refine lv_isub hx hb d_P_score_11 ?_
  refine lv_i2l hx hb d_P_score_12 rfl ?_
  refine w_purei (w_runS (rest := []) hx hb hml hown hl.1 hg hlo hP hD (qS hS0 hA) (m_P_isWithin Z v.toInt64 0 (nI (ly_s y0 g rw).length - 1).toInt64 s.heap.size) (kw273 Z.1) (kw274 Z.1) (kw275 Z.1) (kw1 Z.1) ⟨by decide, by decide, (by decide +kernel : (parseMethodDescriptor y_P_isWithin.desc).map (fun d => d.parameters.length) = some 3)⟩ ⟨Nat.le_of_ble_eq_true rfl, Nat.le_of_ble_eq_true rfl⟩ [] rfl rfl rfl (Nat.le_of_ble_eq_true rfl) d_P_score_13 ⟨Nat.le_of_ble_eq_true rfl, Nat.le_of_ble_eq_true rfl⟩) hP hS0 (fun r1 _ H locs hr1 hP hS0 => ?_)
  refine W.widen (k := 0) (n := 0) (Nat.le_of_ble_eq_true rfl) (Nat.le_of_ble_eq_true rfl) ?_
  subst hr1
  refine lv_if_ne (tgt := 29) hx hb d_P_score_16 (by decide) (fun d1 => ?_) (fun d1 => ?_)
  · have hv : ∃ j, j < (ly_s y0 g rw).length ∧ v = nI j := (ib_iff (by omega) (nm1_toInt (by omega))).mp (Classical.byContradiction (fun z => d1 (if_neg z)))
    refine lv_iload_n hx hb d_P_score_29 rfl (lv_at hl 2 rfl) ?_
    refine w_check (wt_runS (rest := []) hx hb hml hown hl.1 hg hlo hP hD (qS hS0 hA) (m_P_checkOneOfTwo Z k H.size) (kw484 Z.1) (kw485 Z.1) (kw486 Z.1) (kw1 Z.1) ⟨by decide, by decide, (by decide +kernel : (parseMethodDescriptor y_P_checkOneOfTwo.desc).map (fun d => d.parameters.length) = some 1)⟩ ⟨Nat.le_of_ble_eq_true rfl, Nat.le_of_ble_eq_true rfl⟩ [] rfl rfl rfl (Nat.le_of_ble_eq_true rfl) d_P_score_30 ⟨Nat.le_of_ble_eq_true rfl, Nat.le_of_ble_eq_true rfl⟩) hP hS0 (fun H locs hc2 hP hS0 => ?_) (fun x t locs1 al hth hS1 => ?_)
    · skip
      refine W.widen (k := 1) (n := 6) (Nat.le_of_ble_eq_true rfl) (Nat.le_of_ble_eq_true rfl) ?_
      have hS := qS hS0 hA
      obtain ⟨j, hj, rfl⟩ := hv
      obtain ⟨i, hi, rfl⟩ := hc2
      refine lv_iload_n hx hb d_P_score_33 rfl (lv_at hl 2 rfl) ?_
      refine lv_if_ne (tgt := 49) hx hb d_P_score_34 (by decide) (fun g2 => ?_) (fun g2 => ?_)
      · refine lv_aload_n hx hb d_P_score_49 rfl (lv_at hl 0 rfl) ?_
        refine va_get (D := D) (ci := 0) (v := .ref (a 6)) (C := R_P) (T := T_P) (N := 10) hx hb (uw_P Z.1 hg.1) (fun _ h => h) hown hK hP 0 rfl rfl 5 (by decide) (kw203 Z.1 _ _ hg.1) (fun _ h9 => h9) rfl d_P_score_50 ?_
        rw [← hya]
        refine va_getN (D := D) (ci := 3) (v := .ref (y 11)) (C := R_Y) (T := T_Y) (N := 17) hx hb (uw_Y Z.1 hg.1) (fun _ h => h) hown hK hP 3 rfl rfl 10 (by decide) (kw152 Z.1 _ _ hg.1) (fun _ h9 => h9) rfl d_P_score_53 ?_
        refine lv_iload_n hx hb d_P_score_56 rfl (lv_at hl 1 rfl) ?_
        refine va_iald hx hb hK hP 14 0 rfl rfl (vp_in_nI (n := j) (N := 16) (by omega) (by decide)) d_P_score_57 ?_
        refine lv_topi (fun z3 ez3 => ?_)
        rw [nI_clamp (n := j) (by omega)] at ez3
        obtain rfl : z3 = ((jy 10) j) := ez3
        refine lv_i2l hx hb d_P_score_58 rfl ?_
        have hi1 : ¬ i = 0 := fun z => g2 (by rw [z]; rfl)
        have hbb := sb2 _ (gd_mem (ly_s y0 g rw) (0, 0) hj)
        refine W.widen (k := 3) (n := 18) (Nat.le_of_ble_eq_true rfl) (Nat.le_of_ble_eq_true rfl) ?_
        exact wt_lret hx hb hr hlk hP hD hS () rfl ⟨j, i, hj, rfl, hi, rfl, by rw [(s9 j hj).2, if_neg hi1, iN_i2l (by omega), lZ_nat]⟩ d_P_score_59
      · refine lv_aload_n hx hb d_P_score_37 rfl (lv_at hl 0 rfl) ?_
        refine va_get (D := D) (ci := 0) (v := .ref (a 6)) (C := R_P) (T := T_P) (N := 10) hx hb (uw_P Z.1 hg.1) (fun _ h => h) hown hK hP 0 rfl rfl 5 (by decide) (kw203 Z.1 _ _ hg.1) (fun _ h9 => h9) rfl d_P_score_38 ?_
        rw [← hya]
        refine va_getN (D := D) (ci := 3) (v := .ref (y 10)) (C := R_Y) (T := T_Y) (N := 17) hx hb (uw_Y Z.1 hg.1) (fun _ h => h) hown hK hP 3 rfl rfl 9 (by decide) (kw150 Z.1 _ _ hg.1) (fun _ h9 => h9) rfl d_P_score_41 ?_
        refine lv_iload_n hx hb d_P_score_44 rfl (lv_at hl 1 rfl) ?_
        refine va_lald hx hb hK hP 13 1 rfl rfl (vp_in_nI (n := j) (N := 16) (by omega) (by decide)) d_P_score_45 ?_
        refine lv_topl (fun z4 ez4 => ?_)
        rw [nI_clamp (n := j) (by omega)] at ez4
        obtain rfl : z4 = ((ky 9) j) := ez4
        refine lv_goto (tgt := 59) hx hb d_P_score_46 (by decide) ?_
        have hi0 : i = 0 := (nI_eq (b := 0) (by omega) (by decide)).mp g2
        refine W.widen (k := 3) (n := 18) (Nat.le_of_ble_eq_true rfl) (Nat.le_of_ble_eq_true rfl) ?_
        exact wt_lret hx hb hr hlk hP hD hS () rfl ⟨j, i, hj, rfl, hi, rfl, by rw [(s9 j hj).1, if_pos hi0]⟩ d_P_score_59
    · refine th_wid (k := 3) (n := 18) (Nat.le_of_ble_eq_true rfl) (Nat.le_of_ble_eq_true rfl) ?_
      exact wt_pass hem hlk hA hS1 (fun t1 ht hW => have hX := th_up hth.2 hS0 ht al hW; ⟨Or.inr ⟨x, rfl, fun z => hth.1 z.2, hX⟩, xF hX⟩)
  · refine W.widen (k := 2) (n := 12) (Nat.le_of_ble_eq_true rfl) (Nat.le_of_ble_eq_true rfl) ?_
    exact w_throwF (C := "java/lang/IndexOutOfBoundsException") hx hb hml hl.1 hown hlk hem Z.2.2.1 hS0 (kw276 Z.1 _ _ hg.1) (kw277 Z.1 _ _ hg.1) (kw10 Z.1 _ _ hg.1) (vk_R.warm hg.1 (Z.2.2.2.1 (158, "no such score") (by decide))) (ow_132 Z hg) (by decide) d_P_score_19 d_P_score_22 d_P_score_23 d_P_score_25 d_P_score_28 (Nat.le_of_ble_eq_true rfl) (Nat.le_of_ble_eq_true rfl) (Nat.le_of_ble_eq_true rfl) (Nat.le_of_ble_eq_true rfl) (fun x t hW hX => ⟨Or.inr ⟨x, rfl, fun z => absurd d1 (by rw [if_pos ((ib_iff (by omega) (nm1_toInt (by omega))).mpr z.1)]; decide), hX⟩, xF hX⟩)
def tb_x (q : Cp) (sd : Nat) : Int64 := if sd = 0 then 0 else if sd = 2 then lN (cpk q 4) else lN (cpk q 4) / 2
def tb_y (q : Cp) (sd : Nat) : Int64 := if sd = 1 then 0 else if sd = 3 then lN (cpk q 5) else lN (cpk q 5) / 2
set_option maxHeartbeats 4000000 in
set_option maxRecDepth 100000 in
theorem m_P_tab {l : Launch} {s0 : State} {D : va_G} {cA sa : Nat → Nat} (Z : zE l s0 D cA sa) (a : Nat → Nat) (ii : Nat → Int32) (li : Nat → Int64) (ia : Nat → Nat → Int32) (la : Nat → Nat → Int64) (bd : Nat → Nat) (y : Nat → Nat) (iy : Nat → Int32) (ly : Nat → Int64) (jy : Nat → Nat → Int32) (ky : Nat → Nat → Int64) (hya : y 0 = a 6) (l0 y0 g : Nat) (rw : List Rw) (bf : Nat → Bool) (hy : yR l0 y0 g rw bf (iy, ly, jy, ky)) (hok : okR l0 y0 g rw) (b : Nat → Nat) (ib : Nat → Int32) (lb : Nat → Int64) (jb : Nat → Nat → Int32) (kb : Nat → Nat → Int64) (v k wt : Int32) (np : Nat) (hnp : ib 6 = nI np) (hnp2 : np ≤ 10) (hbd : ∀ c, c < ly_n rw → v = nI c → bd (cpk ((lcp l0 g y0 rw).getD c cp0) 0) = b 0) (sz : Nat) : th_Met l y_P_tab [.code y_P_tab c_P_tab 9 (some .long)] ({ frames := 10, cells := 4, slots := 24, locals := 300 }) (wP s0 D [.ref (a 0), .int v, .int k, .int wt] ((w_P a cA ii li ia la bd) ++ (w_Y y cA iy ly jy ky) ++ (w_B b cA ib lb jb kb)) sz) (th_Ql (fun (r : Int64) (_ : Unit) => ∃ c sd wh, c < ly_n rw ∧ v = nI c ∧ sd < 4 ∧ k = nI sd ∧ wh < 2 ∧ wt = nI wh ∧ (List.range np).any (bn kb lb (tb_x ((lcp l0 g y0 rw).getD c cp0) sd) (tb_y ((lcp l0 g y0 rw).getD c cp0) sd) (nI (cpk ((lcp l0 g y0 rw).getD c cp0) 3))) = false ∧ r = if wh = 0 then lN (cpk ((lcp l0 g y0 rw).getD c cp0) 1) + tb_x ((lcp l0 g y0 rw).getD c cp0) sd else lN (cpk ((lcp l0 g y0 rw).getD c cp0) 2) + tb_y ((lcp l0 g y0 rw).getD c cp0) sd) (wB D (va_A ((w_P a cA ii li ia la bd) ++ (w_Y y cA iy ly jy ky) ++ (w_B b cA ib lb jb kb)) sz) (fun _ => (w_P a cA ii li ia la bd) ++ (w_Y y cA iy ly jy ky) ++ (w_B b cA ib lb jb kb))) (va_A ((w_P a cA ii li ia la bd) ++ (w_Y y cA iy ly jy ky) ++ (w_B b cA ib lb jb kb)) sz) (fun x H t => (¬ ((∃ c, c < ly_n rw ∧ v = nI c) ∧ (∃ sd, sd < 4 ∧ k = nI sd) ∧ ∃ wh, wh < 2 ∧ wt = nI wh) ∧ th_X "java/lang/IndexOutOfBoundsException" x H t) ∨ ((∃ c sd, c < ly_n rw ∧ v = nI c ∧ sd < 4 ∧ k = nI sd ∧ (∃ wh, wh < 2 ∧ wt = nI wh) ∧ (List.range np).any (bn kb lb (tb_x ((lcp l0 g y0 rw).getD c cp0) sd) (tb_y ((lcp l0 g y0 rw).getD c cp0) sd) (nI (cpk ((lcp l0 g y0 rw).getD c cp0) 3))) = true) ∧ th_X "java/lang/IllegalStateException" x H t))) 4 24 (va_A ((w_P a cA ii li ia la bd) ++ (w_Y y cA iy ly jy ky) ++ (w_B b cA ib lb jb kb)) sz) := by
  refine wMetT Z (by decide) (Nat.le_of_ble_eq_true rfl) ?_
  intro p e s m below meth c hx hb hr hml hown hlk hem hg hK hsz hP hD hA hlo hS ls hl
  subst hsz
  have hown : s.vm.findClass R_P = some m.cls := hown
  have hS0 : va_S (fun q => s.heap.size ≤ q) s.heap s.heap [] := va_S.rf
  have hn160 : ly_n rw ≤ 160 := Nat.le_trans (ok_n (fun z hz => (hok.2.2.2.2 z hz).2.2.2.1)) (by have := hok.2.2.2.1; omega)
  have h8 := hok.2.2.2.1
  refine lv_aload_n hx hb d_P_tab_0 rfl (lv_at hl 0 rfl) ?_
  refine lv_iload_n hx hb d_P_tab_1 rfl (lv_at hl 1 rfl) ?_
  refine w_check (wt_runV (rest := []) hx hb hml hown hl.1 hg hlo hK hP hD (qS hS0 hA) (m_P_checkCopy Z a ii li ia la bd y iy ly jy ky hya v (ly_n rw) hy.1.2 (by omega) s.heap.size) (kw458 Z.1) (kw460 Z.1) (kp_P_checkCopy Z.1) (kw461 Z.1) (kw1 Z.1) ⟨by decide, by decide, (by decide +kernel : (parseMethodDescriptor y_P_checkCopy.desc).map (fun d => d.parameters.length) = some 1)⟩ ⟨Nat.le_of_ble_eq_true rfl, Nat.le_of_ble_eq_true rfl⟩ [0, 1, 2, 3, 4, 5, 6, 7, 8, 9, 10, 11, 12, 13, 14] rfl rfl (ci := 0) (q0 := 0) rfl rfl rfl (Nat.le_of_ble_eq_true rfl) d_P_tab_2 ⟨Nat.le_of_ble_eq_true rfl, Nat.le_of_ble_eq_true rfl⟩) hP hS0 (fun H locs hc1 hP hS0 => ?_) (fun x t locs1 al hth hS1 => ?_)
  · skip
    refine W.widen (k := 1) (n := 6) (Nat.le_of_ble_eq_true rfl) (Nat.le_of_ble_eq_true rfl) ?_
    refine lv_iload_n hx hb d_P_tab_5 rfl (lv_at hl 2 rfl) ?_
    refine w_check (wt_runS (rest := []) hx hb hml hown hl.1 hg hlo hP hD (qS hS0 hA) (m_P_checkSide Z k H.size) (kw479 Z.1) (kw480 Z.1) (kw481 Z.1) (kw1 Z.1) ⟨by decide, by decide, (by decide +kernel : (parseMethodDescriptor y_P_checkSide.desc).map (fun d => d.parameters.length) = some 1)⟩ ⟨Nat.le_of_ble_eq_true rfl, Nat.le_of_ble_eq_true rfl⟩ [] rfl rfl rfl (Nat.le_of_ble_eq_true rfl) d_P_tab_6 ⟨Nat.le_of_ble_eq_true rfl, Nat.le_of_ble_eq_true rfl⟩) hP hS0 (fun H locs hc2 hP hS0 => ?_) (fun x t locs1 al hth hS1 => ?_)
    · skip
      refine W.widen (k := 2) (n := 12) (Nat.le_of_ble_eq_true rfl) (Nat.le_of_ble_eq_true rfl) ?_
      refine lv_iload_n hx hb d_P_tab_9 rfl (lv_at hl 3 rfl) ?_
      refine w_check (wt_runS (rest := []) hx hb hml hown hl.1 hg hlo hP hD (qS hS0 hA) (m_P_checkOneOfTwo Z wt H.size) (kw484 Z.1) (kw485 Z.1) (kw486 Z.1) (kw1 Z.1) ⟨by decide, by decide, (by decide +kernel : (parseMethodDescriptor y_P_checkOneOfTwo.desc).map (fun d => d.parameters.length) = some 1)⟩ ⟨Nat.le_of_ble_eq_true rfl, Nat.le_of_ble_eq_true rfl⟩ [] rfl rfl rfl (Nat.le_of_ble_eq_true rfl) d_P_tab_10 ⟨Nat.le_of_ble_eq_true rfl, Nat.le_of_ble_eq_true rfl⟩) hP hS0 (fun H locs hc3 hP hS0 => ?_) (fun x t locs1 al hth hS1 => ?_)
      · skip
        refine W.widen (k := 3) (n := 18) (Nat.le_of_ble_eq_true rfl) (Nat.le_of_ble_eq_true rfl) ?_
        have hc3s := hc3
        obtain ⟨c0, hc, rfl⟩ := hc1
        obtain ⟨sd, hsd, rfl⟩ := hc2
        obtain ⟨wh, hwh, rfl⟩ := hc3
        obtain ⟨r0, w1, w2, w3, w4, w5, w6, w7, w8, w9, w10, w11⟩ := yR_cp hy hc
        dsimp only at w2 w3 w4 w5 w6 w7 w8
        have hb4 := (hok.2.2.2.2 _ w9).1
        have ht2 := (hok.2.2.2.2 _ w9).2.1
        obtain ⟨q0, hq0⟩ : ∃ z, z = (lcp l0 g y0 rw).getD c0 cp0 := ⟨_, rfl⟩
        have hbd0 := hbd c0 hc rfl
        rw [← hq0] at w3 w4 w5 w6 w7 w8 w10 w11 hbd0
        refine lv_aload_n hx hb d_P_tab_13 rfl (lv_at hl 0 rfl) ?_
        refine va_get (D := D) (ci := 0) (v := .ref (a 6)) (C := R_P) (T := T_P) (N := 10) hx hb (uw_P Z.1 hg.1) (fun _ h => h) hown hK hP 0 rfl rfl 5 (by decide) (kw203 Z.1 _ _ hg.1) (fun _ h9 => h9) rfl d_P_tab_14 ?_
        rw [← hya]
        refine va_getN (D := D) (ci := 3) (v := .ref (y 7)) (C := R_Y) (T := T_Y) (N := 17) hx hb (uw_Y Z.1 hg.1) (fun _ h => h) hown hK hP 3 rfl rfl 6 (by decide) (kw144 Z.1 _ _ hg.1) (fun _ h9 => h9) rfl d_P_tab_17 ?_
        refine lv_iload_n hx hb d_P_tab_20 rfl (lv_at hl 1 rfl) ?_
        refine va_iald hx hb hK hP 10 0 rfl rfl (vp_in_nI (n := c0) (N := 160) (by omega) (by decide)) d_P_tab_21 ?_
        refine lv_topi (fun z1 ez1 => ?_)
        rw [nI_clamp (n := c0) (by omega)] at ez1
        obtain rfl : z1 = ((jy 6) c0) := ez1
        refine lv_topi (fun z2 ez2 => ?_)
        obtain rfl : z2 = (nI r0) := by rw [ez2]; exact w2
        refine lv_istore (lv' := [(4, .int (nI r0)), (0, .ref (a 0)), (1, .int (nI c0)), (2, .int (nI sd)), (3, .int (nI wh))]) hx hb d_P_tab_22 hl (by decide) rfl (fun ls hl => ?_)
        refine lv_iload_n hx hb d_P_tab_24 rfl (lv_at hl 3 rfl) ?_
        refine lv_iconst (v := 0) hx hb d_P_tab_25 (by decide) ?_
        refine lv_iconst (v := 2) hx hb d_P_tab_26 (by decide) ?_
        refine lv_aload_n hx hb d_P_tab_27 rfl (lv_at hl 1 rfl) ?_
        refine va_get (D := D) (ci := 0) (v := .ref (a 6)) (C := R_P) (T := T_P) (N := 10) hx hb (uw_P Z.1 hg.1) (fun _ h => h) hown hK hP 0 rfl rfl 5 (by decide) (kw203 Z.1 _ _ hg.1) (fun _ h9 => h9) rfl d_P_tab_28 ?_
        rw [← hya]
        refine va_getN (D := D) (ci := 3) (v := .ref (y 5)) (C := R_Y) (T := T_Y) (N := 17) hx hb (uw_Y Z.1 hg.1) (fun _ h => h) hown hK hP 3 rfl rfl 4 (by decide) (kw140 Z.1 _ _ hg.1) (fun _ h9 => h9) rfl d_P_tab_31 ?_
        refine lv_iload hx hb d_P_tab_34 (lv_at hl 0 rfl) ?_
        refine va_lald hx hb hK hP 8 1 rfl rfl (vp_in_nI (n := r0) (N := 8) (by omega) (by decide)) d_P_tab_36 ?_
        refine lv_topl (fun z3 ez3 => ?_)
        rw [nI_clamp (n := r0) (by omega)] at ez3
        obtain rfl : z3 = ((ky 4) r0) := ez3
        rw [w7]
        refine w_rcalll (w_runS (rest := []) hx hb hml hown hl.1 hg hlo hP hD (qS hS0 hA) (r_P_tabOffset Z (nI sd) 0 2 (lN (cpk q0 4)) H.size) (kw488 Z.1) (kw489 Z.1) (kw490 Z.1) (kw1 Z.1) ⟨by decide, by decide, (by decide +kernel : (parseMethodDescriptor y_P_tabOffset.desc).map (fun d => d.parameters.length) = some 4)⟩ ⟨Nat.le_of_ble_eq_true rfl, Nat.le_of_ble_eq_true rfl⟩ [] rfl rfl rfl (Nat.le_of_ble_eq_true rfl) d_P_tab_37 ⟨Nat.le_of_ble_eq_true rfl, Nat.le_of_ble_eq_true rfl⟩) hP hS0 (fun rx H locs hrx hP hS0 => ?_)
        refine W.widen (k := 3) (n := 18) (Nat.le_of_ble_eq_true rfl) (Nat.le_of_ble_eq_true rfl) ?_
        refine lv_topl (fun z4 ez4 => ?_)
        obtain rfl : z4 = (tb_x q0 sd) := by rw [ez4]; rw [hrx]; unfold tb_x; have z0 : (nI sd = 0) = (sd = 0) := propext (nI_eq (b := 0) (by omega) (by decide)); have z2 : (nI sd = 2) = (sd = 2) := propext (nI_eq (b := 2) (by omega) (by decide)); simp only [z0, z2]
        refine lv_lstore (lv' := [(5, .long (tb_x q0 sd)), (4, .int (nI r0)), (0, .ref (a 0)), (1, .int (nI c0)), (2, .int (nI sd)), (3, .int (nI wh))]) hx hb d_P_tab_40 hl (by decide) rfl (fun ls hl => ?_)
        refine lv_iload_n hx hb d_P_tab_42 rfl (lv_at hl 4 rfl) ?_
        refine lv_iconst (v := 1) hx hb d_P_tab_43 (by decide) ?_
        refine lv_iconst (v := 3) hx hb d_P_tab_44 (by decide) ?_
        refine lv_aload_n hx hb d_P_tab_45 rfl (lv_at hl 2 rfl) ?_
        refine va_get (D := D) (ci := 0) (v := .ref (a 6)) (C := R_P) (T := T_P) (N := 10) hx hb (uw_P Z.1 hg.1) (fun _ h => h) hown hK hP 0 rfl rfl 5 (by decide) (kw203 Z.1 _ _ hg.1) (fun _ h9 => h9) rfl d_P_tab_46 ?_
        rw [← hya]
        refine va_getN (D := D) (ci := 3) (v := .ref (y 6)) (C := R_Y) (T := T_Y) (N := 17) hx hb (uw_Y Z.1 hg.1) (fun _ h => h) hown hK hP 3 rfl rfl 5 (by decide) (kw142 Z.1 _ _ hg.1) (fun _ h9 => h9) rfl d_P_tab_49 ?_
        refine lv_iload hx hb d_P_tab_52 (lv_at hl 1 rfl) ?_
        refine va_lald hx hb hK hP 9 1 rfl rfl (vp_in_nI (n := r0) (N := 8) (by omega) (by decide)) d_P_tab_54 ?_
        refine lv_topl (fun z5 ez5 => ?_)
        rw [nI_clamp (n := r0) (by omega)] at ez5
        obtain rfl : z5 = ((ky 5) r0) := ez5
        rw [w8]
        refine w_rcalll (w_runS (rest := []) hx hb hml hown hl.1 hg hlo hP hD (qS hS0 hA) (r_P_tabOffset Z (nI sd) 1 3 (lN (cpk q0 5)) H.size) (kw488 Z.1) (kw489 Z.1) (kw490 Z.1) (kw1 Z.1) ⟨by decide, by decide, (by decide +kernel : (parseMethodDescriptor y_P_tabOffset.desc).map (fun d => d.parameters.length) = some 4)⟩ ⟨Nat.le_of_ble_eq_true rfl, Nat.le_of_ble_eq_true rfl⟩ [] rfl rfl rfl (Nat.le_of_ble_eq_true rfl) d_P_tab_55 ⟨Nat.le_of_ble_eq_true rfl, Nat.le_of_ble_eq_true rfl⟩) hP hS0 (fun ry H locs hry hP hS0 => ?_)
        refine W.widen (k := 3) (n := 18) (Nat.le_of_ble_eq_true rfl) (Nat.le_of_ble_eq_true rfl) ?_
        refine lv_topl (fun z6 ez6 => ?_)
        obtain rfl : z6 = (tb_y q0 sd) := by rw [ez6]; rw [hry]; unfold tb_y; have z0 : (nI sd = 1) = (sd = 1) := propext (nI_eq (b := 1) (by omega) (by decide)); have z2 : (nI sd = 3) = (sd = 3) := propext (nI_eq (b := 3) (by omega) (by decide)); simp only [z0, z2]
        refine lv_lstore (lv' := [(7, .long (tb_y q0 sd)), (5, .long (tb_x q0 sd)), (4, .int (nI r0)), (0, .ref (a 0)), (1, .int (nI c0)), (2, .int (nI sd)), (3, .int (nI wh))]) hx hb d_P_tab_58 hl (by decide) rfl (fun ls hl => ?_)
        refine lv_aload_n hx hb d_P_tab_60 rfl (lv_at hl 3 rfl) ?_
        refine va_get (D := D) (ci := 0) (v := .ref (a 3)) (C := R_P) (T := T_P) (N := 10) hx hb (uw_P Z.1 hg.1) (fun _ h => h) hown hK hP 0 rfl rfl 2 (by decide) (kw200 Z.1 _ _ hg.1) (fun _ h9 => h9) rfl d_P_tab_61 ?_
        refine lv_aload_n hx hb d_P_tab_64 rfl (lv_at hl 3 rfl) ?_
        refine va_get (D := D) (ci := 0) (v := .ref (a 6)) (C := R_P) (T := T_P) (N := 10) hx hb (uw_P Z.1 hg.1) (fun _ h => h) hown hK hP 0 rfl rfl 5 (by decide) (kw203 Z.1 _ _ hg.1) (fun _ h9 => h9) rfl d_P_tab_65 ?_
        rw [← hya]
        refine va_getN (D := D) (ci := 3) (v := .ref (y 1)) (C := R_Y) (T := T_Y) (N := 17) hx hb (uw_Y Z.1 hg.1) (fun _ h => h) hown hK hP 3 rfl rfl 0 (by decide) (kw132 Z.1 _ _ hg.1) (fun _ h9 => h9) rfl d_P_tab_68 ?_
        refine lv_iload hx hb d_P_tab_71 (lv_at hl 2 rfl) ?_
        refine va_iald hx hb hK hP 4 0 rfl rfl (vp_in_nI (n := r0) (N := 8) (by omega) (by decide)) d_P_tab_73 ?_
        refine lv_topi (fun z7 ez7 => ?_)
        rw [nI_clamp (n := r0) (by omega)] at ez7
        obtain rfl : z7 = ((jy 0) r0) := ez7
        refine lv_topi (fun z8 ez8 => ?_)
        obtain rfl : z8 = (nI (cpk q0 0)) := by rw [ez8]; exact w3
        refine va_aldq hx hb hK hP 1 3 rfl rfl (vp_in_nI (n := (cpk q0 0)) (N := 4) (by omega) (by decide)) d_P_tab_74 ?_
        rw [nI_clamp (n := (cpk q0 0)) (by omega)]
        rw [show va_rf ((fun j => some (bd j)) (cpk q0 0)) = .ref (b 0) from congrArg Value.ref hbd0]
        refine lv_lload hx hb d_P_tab_75 (lv_at hl 1 rfl) ?_
        refine lv_lload hx hb d_P_tab_77 (lv_at hl 0 rfl) ?_
        refine lv_aload_n hx hb d_P_tab_79 rfl (lv_at hl 3 rfl) ?_
        refine va_get (D := D) (ci := 0) (v := .ref (a 6)) (C := R_P) (T := T_P) (N := 10) hx hb (uw_P Z.1 hg.1) (fun _ h => h) hown hK hP 0 rfl rfl 5 (by decide) (kw203 Z.1 _ _ hg.1) (fun _ h9 => h9) rfl d_P_tab_80 ?_
        rw [← hya]
        refine va_getN (D := D) (ci := 3) (v := .ref (y 2)) (C := R_Y) (T := T_Y) (N := 17) hx hb (uw_Y Z.1 hg.1) (fun _ h => h) hown hK hP 3 rfl rfl 1 (by decide) (kw134 Z.1 _ _ hg.1) (fun _ h9 => h9) rfl d_P_tab_83 ?_
        refine lv_iload hx hb d_P_tab_86 (lv_at hl 2 rfl) ?_
        refine va_iald hx hb hK hP 5 0 rfl rfl (vp_in_nI (n := r0) (N := 8) (by omega) (by decide)) d_P_tab_88 ?_
        refine lv_topi (fun z9 ez9 => ?_)
        rw [nI_clamp (n := r0) (by omega)] at ez9
        obtain rfl : z9 = ((jy 1) r0) := ez9
        refine lv_topi (fun z10 ez10 => ?_)
        obtain rfl : z10 = (nI (cpk q0 3)) := by rw [ez10]; exact w6
        refine w_rcalli (w_runVN (rest := []) hx hb hml hown hl.1 hg hlo hK hP hD (qS hS0 hA) (r_B_hasPartNear Z b ib lb jb kb (tb_x q0 sd) (tb_y q0 sd) (nI (cpk q0 3)) np hnp hnp2 H.size) (kw492 Z.1) (kw494 Z.1) (kp_B_hasPartNear Z.1) (kw495 Z.1) (kw3 Z.1) ⟨by decide, by decide, (by decide +kernel : (parseMethodDescriptor y_B_hasPartNear.desc).map (fun d => d.parameters.length) = some 3)⟩ ⟨Nat.le_of_ble_eq_true rfl, Nat.le_of_ble_eq_true rfl⟩ [15, 16, 17, 18, 19, 20] rfl rfl (ci := 2) (q0 := 15) rfl rfl rfl (Nat.le_of_ble_eq_true rfl) d_P_tab_89 ⟨Nat.le_of_ble_eq_true rfl, Nat.le_of_ble_eq_true rfl⟩) hP hS0 (fun rh H locs hrh hP hS0 => ?_)
        refine W.widen (k := 3) (n := 18) (Nat.le_of_ble_eq_true rfl) (Nat.le_of_ble_eq_true rfl) ?_
        subst hrh
        refine lv_if_eq (tgt := 105) hx hb d_P_tab_92 (by decide) (fun d11 => ?_) (fun d11 => ?_)
        · have hno : (List.range np).any (bn kb lb (tb_x q0 sd) (tb_y q0 sd) (nI (cpk q0 3))) = false := by apply Bool.eq_false_iff.mpr; intro z; rw [if_pos z] at d11; exact absurd d11 (by decide)
          have hS := qS hS0 hA
          refine lv_iload_n hx hb d_P_tab_105 rfl (lv_at hl 6 rfl) ?_
          refine lv_if_ne (tgt := 124) hx hb d_P_tab_106 (by decide) (fun g12 => ?_) (fun g12 => ?_)
          · refine lv_aload_n hx hb d_P_tab_124 rfl (lv_at hl 3 rfl) ?_
            refine va_get (D := D) (ci := 0) (v := .ref (a 6)) (C := R_P) (T := T_P) (N := 10) hx hb (uw_P Z.1 hg.1) (fun _ h => h) hown hK hP 0 rfl rfl 5 (by decide) (kw203 Z.1 _ _ hg.1) (fun _ h9 => h9) rfl d_P_tab_125 ?_
            rw [← hya]
            refine va_getN (D := D) (ci := 3) (v := .ref (y 4)) (C := R_Y) (T := T_Y) (N := 17) hx hb (uw_Y Z.1 hg.1) (fun _ h => h) hown hK hP 3 rfl rfl 3 (by decide) (kw138 Z.1 _ _ hg.1) (fun _ h9 => h9) rfl d_P_tab_128 ?_
            refine lv_iload hx hb d_P_tab_131 (lv_at hl 2 rfl) ?_
            refine va_lald hx hb hK hP 7 1 rfl rfl (vp_in_nI (n := r0) (N := 8) (by omega) (by decide)) d_P_tab_133 ?_
            refine lv_topl (fun z13 ez13 => ?_)
            rw [nI_clamp (n := r0) (by omega)] at ez13
            obtain rfl : z13 = ((ky 3) r0) := ez13
            refine lv_lload hx hb d_P_tab_134 (lv_at hl 0 rfl) ?_
            rw [w5]
            refine lv_ladd hx hb d_P_tab_136 ?_
            refine W.widen (k := 4) (n := 24) (Nat.le_of_ble_eq_true rfl) (Nat.le_of_ble_eq_true rfl) ?_
            exact wt_lret hx hb hr hlk hP hD hS () rfl ⟨c0, sd, wh, hc, rfl, hsd, rfl, hwh, rfl, by rw [← hq0]; exact hno, by rw [← hq0, if_neg (fun z => g12 (by rw [z]; rfl))]⟩ d_P_tab_137
          · refine lv_aload_n hx hb d_P_tab_109 rfl (lv_at hl 3 rfl) ?_
            refine va_get (D := D) (ci := 0) (v := .ref (a 6)) (C := R_P) (T := T_P) (N := 10) hx hb (uw_P Z.1 hg.1) (fun _ h => h) hown hK hP 0 rfl rfl 5 (by decide) (kw203 Z.1 _ _ hg.1) (fun _ h9 => h9) rfl d_P_tab_110 ?_
            rw [← hya]
            refine va_getN (D := D) (ci := 3) (v := .ref (y 8)) (C := R_Y) (T := T_Y) (N := 17) hx hb (uw_Y Z.1 hg.1) (fun _ h => h) hown hK hP 3 rfl rfl 7 (by decide) (kw146 Z.1 _ _ hg.1) (fun _ h9 => h9) rfl d_P_tab_113 ?_
            refine lv_iload_n hx hb d_P_tab_116 rfl (lv_at hl 4 rfl) ?_
            refine va_lald hx hb hK hP 11 1 rfl rfl (vp_in_nI (n := c0) (N := 160) (by omega) (by decide)) d_P_tab_117 ?_
            refine lv_topl (fun z14 ez14 => ?_)
            rw [nI_clamp (n := c0) (by omega)] at ez14
            obtain rfl : z14 = ((ky 7) c0) := ez14
            refine lv_lload hx hb d_P_tab_118 (lv_at hl 1 rfl) ?_
            rw [w4]
            refine lv_ladd hx hb d_P_tab_120 ?_
            refine lv_goto (tgt := 137) hx hb d_P_tab_121 (by decide) ?_
            refine W.widen (k := 4) (n := 24) (Nat.le_of_ble_eq_true rfl) (Nat.le_of_ble_eq_true rfl) ?_
            exact wt_lret hx hb hr hlk hP hD hS () rfl ⟨c0, sd, wh, hc, rfl, hsd, rfl, hwh, rfl, by rw [← hq0]; exact hno, by rw [← hq0, if_pos ((nI_eq (b := 0) (by omega) (by decide)).mp g12)]⟩ d_P_tab_137
        · refine W.widen (k := 3) (n := 18) (Nat.le_of_ble_eq_true rfl) (Nat.le_of_ble_eq_true rfl) ?_
          exact w_throwF (C := "java/lang/IllegalStateException") hx hb hml hl.1 hown hlk hem Z.2.2.1 hS0 (kw497 Z.1 _ _ hg.1) (kw498 Z.1 _ _ hg.1) (kw12 Z.1 _ _ hg.1) (vk_R.warm hg.1 (Z.2.2.2.1 (152, "a part is in the tab's way") (by decide))) (ow_154 Z hg) (by decide) d_P_tab_95 d_P_tab_98 d_P_tab_99 d_P_tab_101 d_P_tab_104 (Nat.le_of_ble_eq_true rfl) (Nat.le_of_ble_eq_true rfl) (Nat.le_of_ble_eq_true rfl) (Nat.le_of_ble_eq_true rfl) (fun x t hW hX => ⟨Or.inr ⟨x, rfl, Or.inr ⟨⟨c0, sd, hc, rfl, hsd, rfl, hc3s, by rw [← hq0]; exact Classical.byContradiction (fun z => d11 (if_neg z))⟩, hX⟩⟩, xF hX⟩)
      · refine th_wid (k := 4) (n := 24) (Nat.le_of_ble_eq_true rfl) (Nat.le_of_ble_eq_true rfl) ?_
        exact wt_pass hem hlk hA hS1 (fun t1 ht hW => have hX := th_up hth.2 hS0 ht al hW; ⟨Or.inr ⟨x, rfl, Or.inl ⟨fun z => hth.1 z.2.2, hX⟩⟩, xF hX⟩)
    · refine th_wid (k := 4) (n := 24) (Nat.le_of_ble_eq_true rfl) (Nat.le_of_ble_eq_true rfl) ?_
      exact wt_pass hem hlk hA hS1 (fun t1 ht hW => have hX := th_up hth.2 hS0 ht al hW; ⟨Or.inr ⟨x, rfl, Or.inl ⟨fun z => hth.1 z.2.1, hX⟩⟩, xF hX⟩)
  · refine th_wid (k := 4) (n := 24) (Nat.le_of_ble_eq_true rfl) (Nat.le_of_ble_eq_true rfl) ?_
    exact wt_pass hem hlk hA hS1 (fun t1 ht hW => have hX := th_up hth.2 hS0 ht al hW; ⟨Or.inr ⟨x, rfl, Or.inl ⟨fun z => hth.1 z.1, hX⟩⟩, xF hX⟩)
