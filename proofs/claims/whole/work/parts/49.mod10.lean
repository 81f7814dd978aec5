theorem ftF_le (ac : Int) (g nb kn : Nat) (bw bh : Nat → Nat) (k : Nat) : ftF ac g nb kn bw bh k ≤ 20 := by
  unfold ftF; split
  · unfold rm_; split
    · omega
    · exact Nat.min_le_right _ _
  · omega
theorem lN_of {v : Int64} (h0 : 0 ≤ v) (h1 : v ≤ 8) : ∃ n, n < 9 ∧ v = lN n := by
  rw [Int64.le_iff_toInt_le, show (0 : Int64).toInt = 0 from rfl] at h0
  rw [Int64.le_iff_toInt_le, show (8 : Int64).toInt = 8 from rfl] at h1
  refine ⟨v.toInt.toNat, by omega, ?_⟩
  rw [← lZ_nat, Int.toNat_of_nonneg h0]; exact (lZ_of v).symm
theorem gn_sm {ft : Nat → Nat} {mo : Nat} : ∀ f k (cn c2 : Nat → Nat), k + f = 8 → gn ft mo f k cn = some c2 → sm c2 8 ≤ mo := by
  intro f
  induction f with
  | zero => intro k cn c2 _ h; cases h
  | succ f ih =>
    intro k cn c2 hk h
    rw [gn] at h
    split at h
    · rename_i hz
      have := sm_up cn k (cn k + 1) 8 (by omega)
      cases h; omega
    · exact ih _ _ _ (by omega) h
theorem wg_c (bw bh : Nat → Nat) (g : Nat) (fr : Int) (ft wt cn : Nat → Nat) (s : Bst) : wg bw bh g fr ft wt cn s = s ∨ (wg bw bh g fr ft wt cn s).2.2 = cn := by
  unfold wg
  split
  · exact Or.inl rfl
  · split
    · exact Or.inl rfl
    · split
      · exact Or.inl rfl
      · exact Or.inr rfl
theorem srM_sm {ft : Nat → Nat} {mo : Nat} {F : (Nat → Nat) → Bst → Bst} (hF : ∀ c s, F c s = s ∨ (F c s).2.2 = c) : ∀ f cn s, sm s.2.2 8 ≤ mo → sm (srM ft mo F f cn s).2.2 8 ≤ mo := by
  intro f
  induction f with
  | zero => intro cn s h; exact h
  | succ f ih =>
    intro cn s h
    rw [srM]
    split
    · exact h
    · rename_i c2 hc
      refine ih _ _ ?_
      rcases hF c2 s with z | z
      · rw [z]; exact h
      · rw [z]; exact gn_sm 8 0 cn c2 rfl hc
theorem rwL_n {ft bw bh : Nat → Nat} : ∀ (ks : List Nat) (wl : Nat → Nat), (∀ k ∈ ks, ft k ≤ 20) → ly_n (rwL ft bw bh ks wl) ≤ 20 * ks.length := by
  intro ks
  induction ks with
  | nil => intro wl _; exact Nat.le_refl _
  | cons k ks ih =>
    intro wl h
    have h1 := ih (va_up wl (k / 2) (wl (k / 2) - min (ft k) (wl (k / 2)))) (fun z hz => h z (List.mem_cons_of_mem _ hz))
    have h2 := h k List.mem_cons_self
    rw [rwL, List.length_cons]
    simp only [ly_n, List.map_cons, List.sum_cons] at h1 ⊢
    omega
theorem full_len {ft bw bh wt bs : Nat → Nat} {l0 g y0 : Nat} (hft : ∀ k, k < 8 → ft k ≤ 20) (h : sm bs 8 ≤ 9) : (lcp l0 g y0 (rwL ft bw bh (rwF bs 8 0) wt)).length ≤ 200 := by
  rw [lcp_len]
  have := rwL_n (ft := ft) (bw := bw) (bh := bh) (rwF bs 8 0) wt (fun k hk => hft k (rwF_mem bs 8 0 k hk).2)
  rw [rw8_len] at this
  omega
noncomputable def sM (bw bh : Nat → Nat) (g : Nat) (fr : Int) (ft wt : Nat → Nat) (mo F : Nat) : Bst := srM ft mo (fun cn s => wg bw bh g fr ft wt cn s) F (fun _ => 0) b00
/-- what a run leaves untouched -/
def ruI (ii : Nat → Int32) (ia : Nat → Nat → Int32) (la : Nat → Nat → Int64) (u : St) : Prop := (∀ z, z ≠ 0 → z ≠ 13 → z ≠ 16 → z ≠ 24 → z ≠ 25 → u.1 z = ii z) ∧ (∀ z, z ≠ 15 → z ≠ 21 → z ≠ 22 → z ≠ 23 → u.2.2.1 z = ia z) ∧ ∀ z, z ≠ 14 → z ≠ 17 → z ≠ 18 → z ≠ 19 → z ≠ 20 → u.2.2.2 z = la z
noncomputable def ruF (bw bh : Nat → Nat) (g : Nat) (fr : Int) (ft wt : Nat → Nat) (l0 y0 n F : Nat) : List Cp := lcp l0 g y0 (rwL ft bw bh (rwF (sM bw bh g fr ft wt n F).2.2 8 0) wt)
set_option maxHeartbeats 4000000 in
set_option maxRecDepth 100000 in
theorem m_M_run {l : Launch} {s0 : State} {D : va_G} {cA sa : Nat → Nat} (Z : zE l s0 D cA sa) (a : Nat → Nat) (ii : Nat → Int32) (li : Nat → Int64) (ia : Nat → Nat → Int32) (la : Nat → Nat → Int64) (kv : Int32) (nv : Int64) (nb g l0 y0 : Nat) (nc bw bh wt : Nat → Nat) (fx fy : Nat → Nat → Int64) (ac fr : Int) (hnb : ii 3 = nI nb) (hnb2 : nb ≤ 4) (hnc : ∀ b, b < 4 → ia 4 b = nI (nc b) ∧ nc b ≤ 12) (hfx : ∀ b j, b < 4 → j < nc b → la 5 (12 * b + j) = fx b j) (hfy : ∀ b j, b < 4 → j < nc b → la 6 (12 * b + j) = fy b j) (hbx : ∀ b, b < 4 → mxF (fx b) (nc b) - mnF (fx b) (nc b) = lN (bw b) ∧ bw b ≤ 65536) (hby : ∀ b, b < 4 → mxF (fy b) (nc b) - mnF (fy b) (nc b) = lN (bh b) ∧ bh b ≤ 65536) (hzz : ∀ b, b < 4 → nb ≤ b → la 19 b = lN (bw b) ∧ la 20 b = lN (bh b)) (hwt : ∀ k, k < 4 → ia 7 k = nI (wt k) ∧ wt k ≤ 200) (hg2 : li 11 = lN g) (hg3 : g ≤ 65536) (hac : li 1 - la 10 0 - la 10 2 = lZ ac) (ha1 : -200000 ≤ ac) (ha2 : ac ≤ 65536) (hfr : li 2 - la 10 1 - la 10 3 = lZ fr) (hf1 : -200000 ≤ fr) (hf2 : fr ≤ 65536) (hl0 : la 10 0 = lN l0) (hy0 : la 10 1 = lN y0) (sz : Nat) : Met l y_M_run [.code y_M_run c_M_run 5 (some .int)] ({ frames := 4, cells := 0, slots := 0, locals := 220 }) (wP s0 D [.ref (a 0), .int kv, .long nv] (w_M a cA ii li ia la) sz) (va_Qi (fun (r : Int32) (u : St) => (∃ kn n F F9, kn < 5 ∧ n < 9 ∧ kv = nI kn ∧ nv = lN n ∧ 100000000 < F ∧ 100000000 < F9 ∧ r = nI (ruF bw bh g fr (ftF ac g nb kn bw bh) wt l0 y0 n F).length ∧ u.2.1 = li ∧ ruI ii ia la u ∧ u.1 0 = 0 ∧ u.1 16 = (if nb ≤ kn ∧ (sM bw bh g fr (ftF ac g nb kn bw bh) wt (n + 1) F9).1 = (sM bw bh g fr (ftF ac g nb kn bw bh) wt n F).1 then 1 else 0) ∧ rwR (ruF bw bh g fr (ftF ac g nb kn bw bh) wt l0 y0 n F) u.1 u.2.2.1 u.2.2.2 ∧ (ruF bw bh g fr (ftF ac g nb kn bw bh) wt l0 y0 n F).length ≤ 200 ∧ ∀ b, b < 4 → u.2.2.2 19 b = lN (bw b) ∧ u.2.2.2 20 b = lN (bh b)) ∨ (¬ (∃ kn n, kn < 5 ∧ n < 9 ∧ kv = nI kn ∧ nv = lN n) ∧ u = (va_up ii 0 1, li, ia, la))) (wB D (va_A (w_M a cA ii li ia la) sz) (fun (u : St) => w_M a cA u.1 u.2.1 u.2.2.1 u.2.2.2)) (va_A (w_M a cA ii li ia la) sz)) 0 0 (va_A (w_M a cA ii li ia la) sz) := by
  refine wMet Z (by decide) (Nat.le_of_ble_eq_true rfl) ?_
  intro p e s m below meth c hx hb hr hml hown hlk hin hg hK hsz hP hD hA hlo hS ls hl
  subst hsz
  have hown : s.vm.findClass R_M = some m.cls := hown
  refine lv_aload_n hx hb d_M_run_0 rfl (lv_at hl 0 rfl) ?_
  refine lv_iload_n hx hb d_M_run_1 rfl (lv_at hl 1 rfl) ?_
  refine lv_if_lt (tgt := 28) hx hb d_M_run_2 (by decide) (fun c1 => ?_) (fun c1 => ?_)
  · refine lv_iconst (v := 1) hx hb d_M_run_28 (by decide) ?_
    refine va_put (D := D) (ci := 1) (v := .int 1) (ty := t_M 0) (C := R_M) (T := T_M) (N := 26) hx hb (uw_M Z.1 hg.1) (fun _ h => h) t_M t_M_ok n_M hown hK hP hD hS 0 rfl rfl 0 (by decide) (kw604 Z.1 _ _ hg.1) (fun _ h9 => h9) rfl (by decide +kernel) rfl rfl (Nat.le_of_ble_eq_true rfl) d_M_run_29 (fun H locs hP hD hS => ?_)
    have hP : va_P D ncl (w_M a cA (va_up ii 0 1) li ia la) H := hP
    have hD : va_D _ (w_M a cA (va_up ii 0 1) li ia la) := hD
    refine lv_aload_n hx hb d_M_run_32 rfl (lv_at hl 0 rfl) ?_
    refine va_get (D := D) (ci := 1) (v := .int 1) (C := R_M) (T := T_M) (N := 26) hx hb (uw_M Z.1 hg.1) (fun _ h => h) hown hK hP 0 rfl rfl 0 (by decide) (kw604 Z.1 _ _ hg.1) (fun _ h9 => h9) rfl d_M_run_33 ?_
    refine lv_if_eq (tgt := 41) hx hb d_M_run_36 (by decide) (fun k2 => by first | exact absurd (show ¬ (1 : Int32) = 0 by decide) k2 | exact absurd k2 (show ¬ (1 : Int32) = 0 by decide)) (fun _ => ?_)
    refine lv_iconst (v := 0) hx hb d_M_run_39 (by decide) ?_
    exact w_iret hx hb hr hlk hP hD hS ((va_up ii 0 1), li, ia, la) rfl (Or.inr ⟨fun z => by obtain ⟨kn, n, z1, z2, z3, z4⟩ := z; rw [z3] at c1; exact nI_pos (by omega) c1, rfl⟩) d_M_run_40
  · refine lv_iload_n hx hb d_M_run_5 rfl (lv_at hl 1 rfl) ?_
    refine lv_iconst (v := 4) hx hb d_M_run_6 (by decide) ?_
    refine lv_icmp_gt (tgt := 28) hx hb d_M_run_7 (by decide) (fun d3 => ?_) (fun d3 => ?_)
    · refine lv_iconst (v := 1) hx hb d_M_run_28 (by decide) ?_
      refine va_put (D := D) (ci := 1) (v := .int 1) (ty := t_M 0) (C := R_M) (T := T_M) (N := 26) hx hb (uw_M Z.1 hg.1) (fun _ h => h) t_M t_M_ok n_M hown hK hP hD hS 0 rfl rfl 0 (by decide) (kw604 Z.1 _ _ hg.1) (fun _ h9 => h9) rfl (by decide +kernel) rfl rfl (Nat.le_of_ble_eq_true rfl) d_M_run_29 (fun H locs hP hD hS => ?_)
      have hP : va_P D ncl (w_M a cA (va_up ii 0 1) li ia la) H := hP
      have hD : va_D _ (w_M a cA (va_up ii 0 1) li ia la) := hD
      refine lv_aload_n hx hb d_M_run_32 rfl (lv_at hl 0 rfl) ?_
      refine va_get (D := D) (ci := 1) (v := .int 1) (C := R_M) (T := T_M) (N := 26) hx hb (uw_M Z.1 hg.1) (fun _ h => h) hown hK hP 0 rfl rfl 0 (by decide) (kw604 Z.1 _ _ hg.1) (fun _ h9 => h9) rfl d_M_run_33 ?_
      refine lv_if_eq (tgt := 41) hx hb d_M_run_36 (by decide) (fun k4 => by first | exact absurd (show ¬ (1 : Int32) = 0 by decide) k4 | exact absurd k4 (show ¬ (1 : Int32) = 0 by decide)) (fun _ => ?_)
      refine lv_iconst (v := 0) hx hb d_M_run_39 (by decide) ?_
      exact w_iret hx hb hr hlk hP hD hS ((va_up ii 0 1), li, ia, la) rfl (Or.inr ⟨fun z => by obtain ⟨kn, n, z1, z2, z3, z4⟩ := z; rw [z3] at d3; have := (nI_ltI (a := 4) (by decide) (by omega)).mp d3; omega, rfl⟩) d_M_run_40
    · refine lv_lload_n hx hb d_M_run_10 rfl (lv_at hl 2 rfl) ?_
      refine lv_lconst (v := 0) hx hb d_M_run_11 (by decide) ?_
      refine W.lcmp hx hb d_M_run_12 ?_
      refine lv_if_lt (tgt := 28) hx hb d_M_run_13 (by decide) (fun e5 => ?_) (fun e5 => ?_)
      · refine lv_iconst (v := 1) hx hb d_M_run_28 (by decide) ?_
        refine va_put (D := D) (ci := 1) (v := .int 1) (ty := t_M 0) (C := R_M) (T := T_M) (N := 26) hx hb (uw_M Z.1 hg.1) (fun _ h => h) t_M t_M_ok n_M hown hK hP hD hS 0 rfl rfl 0 (by decide) (kw604 Z.1 _ _ hg.1) (fun _ h9 => h9) rfl (by decide +kernel) rfl rfl (Nat.le_of_ble_eq_true rfl) d_M_run_29 (fun H locs hP hD hS => ?_)
        have hP : va_P D ncl (w_M a cA (va_up ii 0 1) li ia la) H := hP
        have hD : va_D _ (w_M a cA (va_up ii 0 1) li ia la) := hD
        refine lv_aload_n hx hb d_M_run_32 rfl (lv_at hl 0 rfl) ?_
        refine va_get (D := D) (ci := 1) (v := .int 1) (C := R_M) (T := T_M) (N := 26) hx hb (uw_M Z.1 hg.1) (fun _ h => h) hown hK hP 0 rfl rfl 0 (by decide) (kw604 Z.1 _ _ hg.1) (fun _ h9 => h9) rfl d_M_run_33 ?_
        refine lv_if_eq (tgt := 41) hx hb d_M_run_36 (by decide) (fun k6 => by first | exact absurd (show ¬ (1 : Int32) = 0 by decide) k6 | exact absurd k6 (show ¬ (1 : Int32) = 0 by decide)) (fun _ => ?_)
        refine lv_iconst (v := 0) hx hb d_M_run_39 (by decide) ?_
        exact w_iret hx hb hr hlk hP hD hS ((va_up ii 0 1), li, ia, la) rfl (Or.inr ⟨fun z => by obtain ⟨kn, n, z1, z2, z3, z4⟩ := z; have h9 := (lg_cmp_lt _ _).mp e5; rw [z4, ← lZ_nat] at h9; have := (lZ_lt (a := (n : Int)) (b := 0) (by omega) (by omega) (by omega) (by omega)).mp h9; omega, rfl⟩) d_M_run_40
      · refine lv_lload_n hx hb d_M_run_16 rfl (lv_at hl 2 rfl) ?_
        refine lv_ldc2 (v := 8) hx hb hown (kw726 Z.1 _ _ hg.1) d_M_run_17 ?_
        refine W.lcmp hx hb d_M_run_20 ?_
        refine lv_if_gt (tgt := 28) hx hb d_M_run_21 (by decide) (fun g7 => ?_) (fun g7 => ?_)
        · refine lv_iconst (v := 1) hx hb d_M_run_28 (by decide) ?_
          refine va_put (D := D) (ci := 1) (v := .int 1) (ty := t_M 0) (C := R_M) (T := T_M) (N := 26) hx hb (uw_M Z.1 hg.1) (fun _ h => h) t_M t_M_ok n_M hown hK hP hD hS 0 rfl rfl 0 (by decide) (kw604 Z.1 _ _ hg.1) (fun _ h9 => h9) rfl (by decide +kernel) rfl rfl (Nat.le_of_ble_eq_true rfl) d_M_run_29 (fun H locs hP hD hS => ?_)
          have hP : va_P D ncl (w_M a cA (va_up ii 0 1) li ia la) H := hP
          have hD : va_D _ (w_M a cA (va_up ii 0 1) li ia la) := hD
          refine lv_aload_n hx hb d_M_run_32 rfl (lv_at hl 0 rfl) ?_
          refine va_get (D := D) (ci := 1) (v := .int 1) (C := R_M) (T := T_M) (N := 26) hx hb (uw_M Z.1 hg.1) (fun _ h => h) hown hK hP 0 rfl rfl 0 (by decide) (kw604 Z.1 _ _ hg.1) (fun _ h9 => h9) rfl d_M_run_33 ?_
          refine lv_if_eq (tgt := 41) hx hb d_M_run_36 (by decide) (fun k8 => by first | exact absurd (show ¬ (1 : Int32) = 0 by decide) k8 | exact absurd k8 (show ¬ (1 : Int32) = 0 by decide)) (fun _ => ?_)
          refine lv_iconst (v := 0) hx hb d_M_run_39 (by decide) ?_
          exact w_iret hx hb hr hlk hP hD hS ((va_up ii 0 1), li, ia, la) rfl (Or.inr ⟨fun z => by obtain ⟨kn, n, z1, z2, z3, z4⟩ := z; have h9 := (lg_cmp_gt _ _).mp g7; rw [z4, ← lZ_nat] at h9; have := (lZ_lt (a := 8) (b := (n : Int)) (by omega) (by omega) (by omega) (by omega)).mp h9; omega, rfl⟩) d_M_run_40
        · obtain ⟨kn, hkn, hkv⟩ : ∃ k, k < 5 ∧ kv = nI k := bk_lt (n := 5) (by decide) c1 (fun z => d3 (by rw [Int32.le_iff_toInt_le, nI_toInt (by decide)] at z; rw [Int32.lt_iff_toInt_lt, show (4 : Int32).toInt = 4 from rfl]; omega))
          obtain ⟨n, hn9, hnv⟩ := lN_of (v := nv) (Int64.not_lt.mp (fun z => e5 ((lg_cmp_lt _ _).mpr z))) (Int64.not_lt.mp (fun z => g7 ((lg_cmp_gt _ _).mpr z)))
          rw [hkv, hnv] at hl
          refine lv_iconst (v := 0) hx hb d_M_run_24 (by decide) ?_
          refine lv_goto (tgt := 29) hx hb d_M_run_25 (by decide) ?_
          refine va_put (D := D) (ci := 1) (v := .int 0) (ty := t_M 0) (C := R_M) (T := T_M) (N := 26) hx hb (uw_M Z.1 hg.1) (fun _ h => h) t_M t_M_ok n_M hown hK hP hD hS 0 rfl rfl 0 (by decide) (kw604 Z.1 _ _ hg.1) (fun _ h9 => h9) rfl (by decide +kernel) rfl rfl (Nat.le_of_ble_eq_true rfl) d_M_run_29 (fun H locs hP hD hS => ?_)
          have hP : va_P D ncl (w_M a cA (va_up ii 0 0) li ia la) H := hP
          have hD : va_D _ (w_M a cA (va_up ii 0 0) li ia la) := hD
          refine lv_aload_n hx hb d_M_run_32 rfl (lv_at hl 0 rfl) ?_
          refine va_get (D := D) (ci := 1) (v := .int 0) (C := R_M) (T := T_M) (N := 26) hx hb (uw_M Z.1 hg.1) (fun _ h => h) hown hK hP 0 rfl rfl 0 (by decide) (kw604 Z.1 _ _ hg.1) (fun _ h9 => h9) rfl d_M_run_33 ?_
          refine lv_if_eq (tgt := 41) hx hb d_M_run_36 (by decide) (fun _ => ?_) (fun k9 => by first | exact absurd (show (0 : Int32) = 0 from rfl) k9 | exact absurd k9 (show (0 : Int32) = 0 from rfl))
          refine lv_iconst (v := 0) hx hb d_M_run_41 (by decide) ?_
          refine lv_topi (fun z10 ez10 => ?_)
          obtain rfl : z10 = (nI 0) := by rw [ez10]; rfl
          refine lv_istore (lv' := [(4, .int (nI 0)), (0, .ref (a 0)), (1, .int (nI kn)), (2, .long (lN n))]) hx hb d_M_run_42 hl (by decide) rfl (fun ls hl => ?_)
          obtain ⟨ft, hft0⟩ : ∃ z, z = (ftF ac g nb kn bw bh) := ⟨_, rfl⟩
          have hft1 : ∀ k, ft k ≤ 20 := fun k => by rw [hft0]; exact ftF_le _ _ _ _ _ _ _
          have lp2 : ∀ (f : Nat) (k : Nat) (ib : Nat → Nat → Int32) (lb : Nat → Nat → Int64), 8 - k < f → k ≤ 8 → (∀ z, z ≠ 21 → ib z = ia z) → (∀ j, j < k → ib 21 j = nI (ft j)) → (∀ z, z ≠ 17 → z ≠ 18 → z ≠ 19 → z ≠ 20 → lb z = la z) → (∀ b, b < 4 → lb 19 b = lN (bw b) ∧ bw b ≤ 65536) → (∀ b, b < 4 → lb 20 b = lN (bh b) ∧ bh b ≤ 65536) → ∀ (H : Heap) (locs : List Loc), va_P D ncl (w_M a cA (va_up ii 0 0) li ib lb) H → va_D (va_A (w_M a cA ii li ia la) s.heap.size) (w_M a cA (va_up ii 0 0) li ib lb) → va_S (va_A (w_M a cA ii li ia la) s.heap.size) s.heap H locs → ∀ (ls : Array Slot), lv_has ls 5 [(0, .ref (a 0)), (1, .int (nI kn)), (2, .long (lN n)), (4, .int (nI k))] → W p l e ({ frames := 4, cells := 0, slots := 0, locals := 220 }) s m ([.ref (a 0), .int kv, .long nv] : List Value).toArray below meth c H locs 0 0 (MQ below (va_Qi (fun (r : Int32) (u : St) => (∃ kn n F F9, kn < 5 ∧ n < 9 ∧ kv = nI kn ∧ nv = lN n ∧ 100000000 < F ∧ 100000000 < F9 ∧ r = nI (ruF bw bh g fr (ftF ac g nb kn bw bh) wt l0 y0 n F).length ∧ u.2.1 = li ∧ ruI ii ia la u ∧ u.1 0 = 0 ∧ u.1 16 = (if nb ≤ kn ∧ (sM bw bh g fr (ftF ac g nb kn bw bh) wt (n + 1) F9).1 = (sM bw bh g fr (ftF ac g nb kn bw bh) wt n F).1 then 1 else 0) ∧ rwR (ruF bw bh g fr (ftF ac g nb kn bw bh) wt l0 y0 n F) u.1 u.2.2.1 u.2.2.2 ∧ (ruF bw bh g fr (ftF ac g nb kn bw bh) wt l0 y0 n F).length ≤ 200 ∧ ∀ b, b < 4 → u.2.2.2 19 b = lN (bw b) ∧ u.2.2.2 20 b = lN (bh b)) ∨ (¬ (∃ kn n, kn < 5 ∧ n < 9 ∧ kv = nI kn ∧ nv = lN n) ∧ u = (va_up ii 0 1, li, ia, la))) (wB D (va_A (w_M a cA ii li ia la) s.heap.size) (fun (u : St) => w_M a cA u.1 u.2.1 u.2.2.1 u.2.2.2)) (va_A (w_M a cA ii li ia la) s.heap.size)) ([.ref (a 0), .int kv, .long nv] : List Value).toArray s 0 0 (va_A (w_M a cA ii li ia la) s.heap.size)) (F0 m 68 ls []) := by
            intro f
            induction f with
            | zero => intro k ib lb h; exact absurd h (Nat.not_lt_zero _)
            | succ f ih =>
              intro k ib lb hf hk i1 i2 l1 l2 l3 H locs hP hD hS ls hl
              have lb10 : lb 10 = la 10 := l1 10 (by decide) (by decide) (by decide) (by decide)
              have i0e : ∀ z, z ≠ 0 → (va_up ii 0 0) z = ii z := fun z hz => up_n _ _ hz
              refine lv_iload hx hb d_M_run_68 (lv_at hl 3 rfl) ?_
              refine lv_bipush (v := 8) hx hb d_M_run_70 (by decide) ?_
              refine lv_icmp_ge (tgt := 95) hx hb d_M_run_72 (by decide) (fun c11 => ?_) (fun c11 => ?_)
              · obtain rfl : k = 8 := by have := (nI_leI (a := 8) (by decide) (by omega)).mp c11; omega
                refine lv_aload_n hx hb d_M_run_95 rfl (lv_at hl 0 rfl) ?_
                refine lv_lload_n hx hb d_M_run_96 rfl (lv_at hl 2 rfl) ?_
                refine lv_l2i hx hb d_M_run_97 rfl ?_
                refine lv_topi (fun z13 ez13 => ?_)
                obtain rfl : z13 = (nI n) := by rw [ez13]; exact lN_i _
                refine lv_iconst (v := 1) hx hb d_M_run_98 (by decide) ?_
                refine lv_iadd hx hb d_M_run_99 ?_
                refine lv_topi (fun z14 ez14 => ?_)
                obtain rfl : z14 = (nI (n + 1)) := by rw [ez14]; exact nI_1 n
                refine w_callv (wr := ([] : va_W)) (w_runV (rest := []) hx hb hml hown hl.1 hg hlo hK hP hD hS (m_M_search Z a (va_up ii 0 0) li ib lb g (n + 1) ft wt fr bw bh l2 l3 (fun k hk => ⟨i2 k hk, hft1 k⟩) (fun k hk => ⟨by rw [i1 7 (by decide)]; exact (hwt k hk).1, (hwt k hk).2⟩) hg2 hg3 (by rw [lb10]; exact hfr) hf1 hf2 (by omega) H.size) (kw740 Z.1) (kw742 Z.1) (kp_M_search Z.1) (kw743 Z.1) (kw6 Z.1) ⟨by decide, by decide, (by decide +kernel : (parseMethodDescriptor y_M_search.desc).map (fun d => d.parameters.length) = some 1)⟩ ⟨Nat.le_of_ble_eq_true rfl, Nat.le_of_ble_eq_true rfl⟩ [0, 1, 2, 3, 4, 5, 6, 7, 8, 9, 10, 11, 12, 13, 14, 15, 16] rfl rfl (ci := 1) (q0 := 0) rfl rfl rfl (Nat.le_of_ble_eq_true rfl) d_M_run_100 ⟨Nat.le_of_ble_eq_true rfl, Nat.le_of_ble_eq_true rfl⟩) hP hD hS hA [0, 1, 2, 3, 4, 5, 6, 7, 8, 9, 10, 11, 12, 13, 14, 15, 16] [] rfl rfl rfl (by decide) (fun (u : (Nat → Int32) × (Nat → Nat → Int32)) => w_M a cA u.1 li u.2 lb) [0, 1, 2, 3, 4, 5, 6, 7, 8, 9, 10, 11, 12, 13, 14, 15, 16] rfl (fun _ => rfl) (fun u1 H locs hq1 hP hD hS => ?_)
                refine W.widen (k := 0) (n := 0) (Nat.le_of_ble_eq_true rfl) (Nat.le_of_ble_eq_true rfl) ?_
                obtain ⟨g1, F9, hF9, b9⟩ := hq1
                refine lv_aload_n hx hb d_M_run_103 rfl (lv_at hl 0 rfl) ?_
                refine va_get (D := D) (ci := 1) (v := .int (u1.1 24)) (C := R_M) (T := T_M) (N := 26) hx hb (uw_M Z.1 hg.1) (fun _ h => h) hown hK hP 0 rfl rfl 24 (by decide) (kw628 Z.1 _ _ hg.1) (fun _ h9 => h9) rfl d_M_run_104 ?_
                refine lv_topi (fun z16 ez16 => ?_)
                obtain rfl : z16 = (nI (sM bw bh g fr ft wt (n + 1) F9).1) := by rw [ez16]; exact b9.1
                refine lv_istore (lv' := [(4, .int (nI (sM bw bh g fr ft wt (n + 1) F9).1)), (0, .ref (a 0)), (1, .int (nI kn)), (2, .long (lN n))]) hx hb d_M_run_107 hl (by decide) rfl (fun ls hl => ?_)
                refine lv_aload_n hx hb d_M_run_109 rfl (lv_at hl 1 rfl) ?_
                refine lv_lload_n hx hb d_M_run_110 rfl (lv_at hl 3 rfl) ?_
                refine lv_l2i hx hb d_M_run_111 rfl ?_
                refine lv_topi (fun z17 ez17 => ?_)
                obtain rfl : z17 = (nI n) := by rw [ez17]; exact lN_i _
                have a21 : ∀ k, k < 8 → u1.2 21 k = nI (ft k) := fun k hk => by rw [g1.2 21 (by decide) (by decide)]; exact i2 k hk
                have a7 : ∀ k, k < 4 → u1.2 7 k = nI (wt k) := fun k hk => by rw [g1.2 7 (by decide) (by decide), i1 7 (by decide)]; exact (hwt k hk).1
                refine w_callv (wr := ([] : va_W)) (w_runV (rest := []) hx hb hml hown hl.1 hg hlo hK hP hD hS (m_M_search Z a u1.1 li u1.2 lb g n ft wt fr bw bh l2 l3 (fun k hk => ⟨a21 k hk, hft1 k⟩) (fun k hk => ⟨a7 k hk, (hwt k hk).2⟩) hg2 hg3 (by rw [lb10]; exact hfr) hf1 hf2 (by omega) H.size) (kw740 Z.1) (kw742 Z.1) (kp_M_search Z.1) (kw743 Z.1) (kw6 Z.1) ⟨by decide, by decide, (by decide +kernel : (parseMethodDescriptor y_M_search.desc).map (fun d => d.parameters.length) = some 1)⟩ ⟨Nat.le_of_ble_eq_true rfl, Nat.le_of_ble_eq_true rfl⟩ [0, 1, 2, 3, 4, 5, 6, 7, 8, 9, 10, 11, 12, 13, 14, 15, 16] rfl rfl (ci := 1) (q0 := 0) rfl rfl rfl (Nat.le_of_ble_eq_true rfl) d_M_run_112 ⟨Nat.le_of_ble_eq_true rfl, Nat.le_of_ble_eq_true rfl⟩) hP hD hS hA [0, 1, 2, 3, 4, 5, 6, 7, 8, 9, 10, 11, 12, 13, 14, 15, 16] [] rfl rfl rfl (by decide) (fun (u : (Nat → Int32) × (Nat → Nat → Int32)) => w_M a cA u.1 li u.2 lb) [0, 1, 2, 3, 4, 5, 6, 7, 8, 9, 10, 11, 12, 13, 14, 15, 16] rfl (fun _ => rfl) (fun u2 H locs hq2 hP hD hS => ?_)
                refine W.widen (k := 0) (n := 0) (Nat.le_of_ble_eq_true rfl) (Nat.le_of_ble_eq_true rfl) ?_
                obtain ⟨g2, F, hF, b8⟩ := hq2
                have b8 : bsR (sM bw bh g fr ft wt n F) u2.1 u2.2 := b8
                have hsm : sm (sM bw bh g fr ft wt n F).2.2 8 ≤ 9 := Nat.le_trans (srM_sm (fun c s => wg_c _ _ _ _ _ _ _ _) F _ b00 (by show sm (fun _ => 0) 8 ≤ n; exact Nat.le_trans (Nat.le_of_eq rfl) (Nat.zero_le _))) (by omega)
                have hful := full_len (ft := ft) (bw := bw) (bh := bh) (wt := wt) (l0 := l0) (g := g) (y0 := y0) (fun k _ => hft1 k) hsm
                refine lv_aload_n hx hb d_M_run_115 rfl (lv_at hl 1 rfl) ?_
                refine w_callv (wr := ([] : va_W)) (w_runV (rest := []) hx hb hml hown hl.1 hg hlo hK hP hD hS (m_M_layOut Z a u2.1 li u2.2 lb g l0 y0 ft wt (sM bw bh g fr ft wt n F).2.2 bw bh l2 l3 (fun k hk => ⟨by rw [g2.2 21 (by decide) (by decide)]; exact a21 k hk, hft1 k⟩) (fun k hk => ⟨by rw [g2.2 7 (by decide) (by decide)]; exact a7 k hk, (hwt k hk).2⟩) (fun k hk => ⟨b8.2.2.1 k hk, b8.2.2.2.2.2 k hk⟩) hg2 (by rw [lb10]; exact hl0) (by rw [lb10]; exact hy0) hful H.size) (kw772 Z.1) (kw774 Z.1) (kp_M_layOut Z.1) (kw775 Z.1) (kw6 Z.1) ⟨by decide, by decide, (by decide +kernel : (parseMethodDescriptor y_M_layOut.desc).map (fun d => d.parameters.length) = some 0)⟩ ⟨Nat.le_of_ble_eq_true rfl, Nat.le_of_ble_eq_true rfl⟩ [0, 1, 2, 3, 4, 5, 6, 7, 8, 9, 10, 11, 12, 13, 14, 15, 16] rfl rfl (ci := 1) (q0 := 0) rfl rfl rfl (Nat.le_of_ble_eq_true rfl) d_M_run_116 ⟨Nat.le_of_ble_eq_true rfl, Nat.le_of_ble_eq_true rfl⟩) hP hD hS hA [0, 1, 2, 3, 4, 5, 6, 7, 8, 9, 10, 11, 12, 13, 14, 15, 16] [] rfl rfl rfl (by decide) (fun (u : (Nat → Int32) × (Nat → Nat → Int32) × (Nat → Nat → Int64)) => w_M a cA u.1 li u.2.1 u.2.2) [0, 1, 2, 3, 4, 5, 6, 7, 8, 9, 10, 11, 12, 13, 14, 15, 16] rfl (fun _ => rfl) (fun u3 H locs hq3 hP hD hS => ?_)
                refine W.widen (k := 0) (n := 0) (Nat.le_of_ble_eq_true rfl) (Nat.le_of_ble_eq_true rfl) ?_
                obtain ⟨p3, r3⟩ := hq3
                have e3 : u3.1 3 = nI nb := by rw [p3.1 3 (by decide), g2.1 3 (by decide) (by decide), g1.1 3 (by decide) (by decide), i0e 3 (by decide)]; exact hnb
                have e24 : u3.1 24 = nI (sM bw bh g fr ft wt n F).1 := by rw [p3.1 24 (by decide)]; exact b8.1
                have hru : ∀ x : Int32, ruI ii ia la (va_up u3.1 16 x, li, u3.2.1, u3.2.2) := fun x => ⟨fun z z0 z1 z2 z3 z4 => by dsimp only; rw [up_n _ _ z2, p3.1 z z1, g2.1 z z3 z4, g1.1 z z3 z4, i0e z z0], fun z z0 z1 z2 z3 => by dsimp only; rw [p3.2.1 z z0, g2.2 z z2 z3, g1.2 z z2 z3]; exact i1 z z1, fun z z0 z1 z2 z3 z4 => by dsimp only; rw [p3.2.2 z z0]; exact l1 z z1 z2 z3 z4⟩
                have h9b := b9.2.2.2.1
                have h9c : (sM bw bh g fr ft wt (n + 1) F9).1 ≤ 2000 := h9b
                have h8b := b8.2.2.2.1
                refine lv_aload_n hx hb d_M_run_119 rfl (lv_at hl 1 rfl) ?_
                refine lv_iload_n hx hb d_M_run_120 rfl (lv_at hl 2 rfl) ?_
                refine lv_aload_n hx hb d_M_run_121 rfl (lv_at hl 1 rfl) ?_
                refine va_get (D := D) (ci := 1) (v := .int (u3.1 3)) (C := R_M) (T := T_M) (N := 26) hx hb (uw_M Z.1 hg.1) (fun _ h => h) hown hK hP 0 rfl rfl 3 (by decide) (kw607 Z.1 _ _ hg.1) (fun _ h9 => h9) rfl d_M_run_122 ?_
                refine lv_topi (fun z20 ez20 => ?_)
                obtain rfl : z20 = (nI nb) := by rw [ez20]; exact e3
                refine lv_icmp_lt (tgt := 141) hx hb d_M_run_125 (by decide) (fun d21 => ?_) (fun d21 => ?_)
                · have hlt : ¬ nb ≤ kn := Nat.not_le.mpr ((nI_ltI (by omega) (by omega)).mp d21)
                  refine lv_iconst (v := 0) hx hb d_M_run_141 (by decide) ?_
                  refine va_put (D := D) (ci := 1) (v := .int 0) (ty := t_M 16) (C := R_M) (T := T_M) (N := 26) hx hb (uw_M Z.1 hg.1) (fun _ h => h) t_M t_M_ok n_M hown hK hP hD hS 0 rfl rfl 16 (by decide) (kw620 Z.1 _ _ hg.1) (fun _ h9 => h9) rfl (by decide +kernel) rfl rfl (Nat.le_of_ble_eq_true rfl) d_M_run_142 (fun H locs hP hD hS => ?_)
                  have hP : va_P D ncl (w_M a cA (va_up u3.1 16 0) li u3.2.1 u3.2.2) H := hP
                  have hD : va_D _ (w_M a cA (va_up u3.1 16 0) li u3.2.1 u3.2.2) := hD
                  refine lv_aload_n hx hb d_M_run_145 rfl (lv_at hl 1 rfl) ?_
                  refine va_get (D := D) (ci := 1) (v := .int (u3.1 13)) (C := R_M) (T := T_M) (N := 26) hx hb (uw_M Z.1 hg.1) (fun _ h => h) hown hK hP 0 rfl rfl 13 (by decide) (kw617 Z.1 _ _ hg.1) (fun _ h9 => h9) rfl d_M_run_146 ?_
                  refine lv_topi (fun z22 ez22 => ?_)
                  obtain rfl : z22 = (nI (ruF bw bh g fr ft wt l0 y0 n F).length) := by rw [ez22]; exact r3.1
                  exact w_iret hx hb hr hlk hP hD hS (va_up u3.1 16 0, li, u3.2.1, u3.2.2) rfl (Or.inl ⟨kn, n, F, F9, hkn, hn9, hkv, hnv, hF, hF9, by rw [← hft0], rfl, hru 0, by dsimp only; rw [up_n _ _ (by decide), p3.1 0 (by decide), g2.1 0 (by decide) (by decide), g1.1 0 (by decide) (by decide)]; exact up_s _ _ _, by rw [← hft0]; dsimp only; rw [up_s]; rw [if_neg (fun y => hlt y.1)], by rw [← hft0]; exact ⟨by dsimp only; rw [up_n _ _ (by decide)]; exact r3.1, r3.2⟩, by rw [← hft0]; exact hful, fun b hb => ⟨by dsimp only; rw [p3.2.2 19 (by decide)]; exact (l2 b hb).1, by dsimp only; rw [p3.2.2 20 (by decide)]; exact (l3 b hb).1⟩⟩) d_M_run_149
                · have hge : nb ≤ kn := Nat.le_of_not_lt (fun y => d21 ((nI_ltI (by omega) (by omega)).mpr y))
                  refine lv_iload hx hb d_M_run_128 (lv_at hl 0 rfl) ?_
                  refine lv_aload_n hx hb d_M_run_130 rfl (lv_at hl 1 rfl) ?_
                  refine va_get (D := D) (ci := 1) (v := .int (u3.1 24)) (C := R_M) (T := T_M) (N := 26) hx hb (uw_M Z.1 hg.1) (fun _ h => h) hown hK hP 0 rfl rfl 24 (by decide) (kw628 Z.1 _ _ hg.1) (fun _ h9 => h9) rfl d_M_run_131 ?_
                  refine lv_topi (fun z23 ez23 => ?_)
                  obtain rfl : z23 = (nI (sM bw bh g fr ft wt n F).1) := by rw [ez23]; exact e24
                  refine lv_icmp_ne (tgt := 141) hx hb d_M_run_134 (by decide) (fun e24 => ?_) (fun e24 => ?_)
                  · refine lv_iconst (v := 0) hx hb d_M_run_141 (by decide) ?_
                    refine va_put (D := D) (ci := 1) (v := .int 0) (ty := t_M 16) (C := R_M) (T := T_M) (N := 26) hx hb (uw_M Z.1 hg.1) (fun _ h => h) t_M t_M_ok n_M hown hK hP hD hS 0 rfl rfl 16 (by decide) (kw620 Z.1 _ _ hg.1) (fun _ h9 => h9) rfl (by decide +kernel) rfl rfl (Nat.le_of_ble_eq_true rfl) d_M_run_142 (fun H locs hP hD hS => ?_)
                    have hP : va_P D ncl (w_M a cA (va_up u3.1 16 0) li u3.2.1 u3.2.2) H := hP
                    have hD : va_D _ (w_M a cA (va_up u3.1 16 0) li u3.2.1 u3.2.2) := hD
                    refine lv_aload_n hx hb d_M_run_145 rfl (lv_at hl 1 rfl) ?_
                    refine va_get (D := D) (ci := 1) (v := .int (u3.1 13)) (C := R_M) (T := T_M) (N := 26) hx hb (uw_M Z.1 hg.1) (fun _ h => h) hown hK hP 0 rfl rfl 13 (by decide) (kw617 Z.1 _ _ hg.1) (fun _ h9 => h9) rfl d_M_run_146 ?_
                    refine lv_topi (fun z25 ez25 => ?_)
                    obtain rfl : z25 = (nI (ruF bw bh g fr ft wt l0 y0 n F).length) := by rw [ez25]; exact r3.1
                    exact w_iret hx hb hr hlk hP hD hS (va_up u3.1 16 0, li, u3.2.1, u3.2.2) rfl (Or.inl ⟨kn, n, F, F9, hkn, hn9, hkv, hnv, hF, hF9, by rw [← hft0], rfl, hru 0, by dsimp only; rw [up_n _ _ (by decide), p3.1 0 (by decide), g2.1 0 (by decide) (by decide), g1.1 0 (by decide) (by decide)]; exact up_s _ _ _, by rw [← hft0]; dsimp only; rw [up_s]; rw [if_neg (fun y => e24 (by rw [y.2]))], by rw [← hft0]; exact ⟨by dsimp only; rw [up_n _ _ (by decide)]; exact r3.1, r3.2⟩, by rw [← hft0]; exact hful, fun b hb => ⟨by dsimp only; rw [p3.2.2 19 (by decide)]; exact (l2 b hb).1, by dsimp only; rw [p3.2.2 20 (by decide)]; exact (l3 b hb).1⟩⟩) d_M_run_149
                  · refine lv_iconst (v := 1) hx hb d_M_run_137 (by decide) ?_
                    refine lv_goto (tgt := 142) hx hb d_M_run_138 (by decide) ?_
                    refine va_put (D := D) (ci := 1) (v := .int 1) (ty := t_M 16) (C := R_M) (T := T_M) (N := 26) hx hb (uw_M Z.1 hg.1) (fun _ h => h) t_M t_M_ok n_M hown hK hP hD hS 0 rfl rfl 16 (by decide) (kw620 Z.1 _ _ hg.1) (fun _ h9 => h9) rfl (by decide +kernel) rfl rfl (Nat.le_of_ble_eq_true rfl) d_M_run_142 (fun H locs hP hD hS => ?_)
                    have hP : va_P D ncl (w_M a cA (va_up u3.1 16 1) li u3.2.1 u3.2.2) H := hP
                    have hD : va_D _ (w_M a cA (va_up u3.1 16 1) li u3.2.1 u3.2.2) := hD
                    refine lv_aload_n hx hb d_M_run_145 rfl (lv_at hl 1 rfl) ?_
                    refine va_get (D := D) (ci := 1) (v := .int (u3.1 13)) (C := R_M) (T := T_M) (N := 26) hx hb (uw_M Z.1 hg.1) (fun _ h => h) hown hK hP 0 rfl rfl 13 (by decide) (kw617 Z.1 _ _ hg.1) (fun _ h9 => h9) rfl d_M_run_146 ?_
                    refine lv_topi (fun z26 ez26 => ?_)
                    obtain rfl : z26 = (nI (ruF bw bh g fr ft wt l0 y0 n F).length) := by rw [ez26]; exact r3.1
                    exact w_iret hx hb hr hlk hP hD hS (va_up u3.1 16 1, li, u3.2.1, u3.2.2) rfl (Or.inl ⟨kn, n, F, F9, hkn, hn9, hkv, hnv, hF, hF9, by rw [← hft0], rfl, hru 1, by dsimp only; rw [up_n _ _ (by decide), p3.1 0 (by decide), g2.1 0 (by decide) (by decide), g1.1 0 (by decide) (by decide)]; exact up_s _ _ _, by rw [← hft0]; dsimp only; rw [up_s]; rw [if_pos ⟨hge, (nI_eq (by omega) (by omega)).mp e24⟩], by rw [← hft0]; exact ⟨by dsimp only; rw [up_n _ _ (by decide)]; exact r3.1, r3.2⟩, by rw [← hft0]; exact hful, fun b hb => ⟨by dsimp only; rw [p3.2.2 19 (by decide)]; exact (l2 b hb).1, by dsimp only; rw [p3.2.2 20 (by decide)]; exact (l3 b hb).1⟩⟩) d_M_run_149
              · have hkn8 : k < 8 := Nat.lt_of_not_le (fun z => c11 ((nI_leI (a := 8) (by decide) (by omega)).mpr z))
                refine lv_aload_n hx hb d_M_run_75 rfl (lv_at hl 0 rfl) ?_
                refine va_get (D := D) (ci := 1) (v := .ref (a 22)) (C := R_M) (T := T_M) (N := 26) hx hb (uw_M Z.1 hg.1) (fun _ h => h) hown hK hP 0 rfl rfl 21 (by decide) (kw625 Z.1 _ _ hg.1) (fun _ h9 => h9) rfl d_M_run_76 ?_
                refine lv_iload hx hb d_M_run_79 (lv_at hl 3 rfl) ?_
                refine lv_aload_n hx hb d_M_run_81 rfl (lv_at hl 0 rfl) ?_
                refine lv_iload hx hb d_M_run_82 (lv_at hl 3 rfl) ?_
                refine lv_iload_n hx hb d_M_run_84 rfl (lv_at hl 1 rfl) ?_
                refine w_calli (wr := ([] : va_W)) (w_runV (rest := [.int (nI k), .ref (a 22)]) hx hb hml hown hl.1 hg hlo hK hP hD hS (m_M_fitsAlong Z a (va_up ii 0 0) li ib lb k kn nb g ac bw bh l2 l3 hkn8 (by omega) (by rw [i0e 3 (by decide)]; exact hnb) hnb2 hg2 hg3 (by rw [lb10]; exact hac) ha1 ha2 H.size) (kw731 Z.1) (kw733 Z.1) (kp_M_fitsAlong Z.1) (kw734 Z.1) (kw6 Z.1) ⟨by decide, by decide, (by decide +kernel : (parseMethodDescriptor y_M_fitsAlong.desc).map (fun d => d.parameters.length) = some 2)⟩ ⟨Nat.le_of_ble_eq_true rfl, Nat.le_of_ble_eq_true rfl⟩ [0, 1, 2, 3, 4, 5, 6, 7, 8, 9, 10, 11, 12, 13, 14, 15, 16] rfl rfl (ci := 1) (q0 := 0) rfl rfl rfl (Nat.le_of_ble_eq_true rfl) d_M_run_85 ⟨Nat.le_of_ble_eq_true rfl, Nat.le_of_ble_eq_true rfl⟩) hP hD hS hA [0, 1, 2, 3, 4, 5, 6, 7, 8, 9, 10, 11, 12, 13, 14, 15, 16] [] rfl rfl rfl (by decide) (fun _ => w_M a cA (va_up ii 0 0) li ib lb) [0, 1, 2, 3, 4, 5, 6, 7, 8, 9, 10, 11, 12, 13, 14, 15, 16] rfl (fun _ => rfl) (fun r1 u H locs hr1 hP hD hS => ?_)
                refine W.widen (k := 0) (n := 0) (Nat.le_of_ble_eq_true rfl) (Nat.le_of_ble_eq_true rfl) ?_
                obtain rfl : r1 = nI (ft k) := by rw [hr1, hft0]
                refine va_iast hx hb hK hP hD hS 14 0 rfl rfl (vp_in_nI (n := k) (N := 8) (by omega) (by decide)) d_M_run_88 (fun H locs hP hD hS => ?_)
                rw [nI_clamp (n := k) (by omega)] at hP hD
                have hP : va_P D ncl (w_M a cA (va_up ii 0 0) li (va_up ib 21 (upd (ib 21) k (nI (ft k)))) lb) H := hP
                have hD : va_D _ (w_M a cA (va_up ii 0 0) li (va_up ib 21 (upd (ib 21) k (nI (ft k)))) lb) := hD
                obtain ⟨v12, ev12⟩ : ∃ y : Int32, y = (nI k) + 1 := ⟨_, rfl⟩
                refine lv_iinc (v := v12) (lv' := [(4, .int v12), (0, .ref (a 0)), (1, .int (nI kn)), (2, .long (lN n))]) hx hb d_M_run_89 hl (k := 3) rfl (by rw [ev12]; rfl) (by decide) rfl (fun ls hl => ?_)
                refine lv_goto (tgt := 68) hx hb d_M_run_92 (by decide) ?_
                obtain rfl : v12 = nI (k + 1) := by rw [ev12]; exact nI_1 k
                exact ih (k + 1) (va_up ib 21 (upd (ib 21) k (nI (ft k)))) lb (by omega) (by omega) (fun z hz => by rw [up_n _ _ hz]; exact i1 z hz) (fun j hj => by rw [up_s]; by_cases hz : j = k; (subst hz; rw [upd_s]); rw [upd_n _ _ hz]; exact i2 j (by omega)) l1 l2 l3 _ _ hP hD hS ls (lv_sub hl [1, 2, 3, 0] rfl)
          have lp1 : ∀ (f : Nat) (k : Nat) (lb : Nat → Nat → Int64), nb - k < f → k ≤ nb → (∀ z, z ≠ 17 → z ≠ 18 → z ≠ 19 → z ≠ 20 → lb z = la z) → (∀ b, b < k → lb 19 b = lN (bw b) ∧ lb 20 b = lN (bh b)) → (∀ b, nb ≤ b → lb 19 b = la 19 b ∧ lb 20 b = la 20 b) → ∀ (H : Heap) (locs : List Loc), va_P D ncl (w_M a cA (va_up ii 0 0) li ia lb) H → va_D (va_A (w_M a cA ii li ia la) s.heap.size) (w_M a cA (va_up ii 0 0) li ia lb) → va_S (va_A (w_M a cA ii li ia la) s.heap.size) s.heap H locs → ∀ (ls : Array Slot), lv_has ls 5 [(0, .ref (a 0)), (1, .int (nI kn)), (2, .long (lN n)), (4, .int (nI k))] → W p l e ({ frames := 4, cells := 0, slots := 0, locals := 220 }) s m ([.ref (a 0), .int kv, .long nv] : List Value).toArray below meth c H locs 0 0 (MQ below (va_Qi (fun (r : Int32) (u : St) => (∃ kn n F F9, kn < 5 ∧ n < 9 ∧ kv = nI kn ∧ nv = lN n ∧ 100000000 < F ∧ 100000000 < F9 ∧ r = nI (ruF bw bh g fr (ftF ac g nb kn bw bh) wt l0 y0 n F).length ∧ u.2.1 = li ∧ ruI ii ia la u ∧ u.1 0 = 0 ∧ u.1 16 = (if nb ≤ kn ∧ (sM bw bh g fr (ftF ac g nb kn bw bh) wt (n + 1) F9).1 = (sM bw bh g fr (ftF ac g nb kn bw bh) wt n F).1 then 1 else 0) ∧ rwR (ruF bw bh g fr (ftF ac g nb kn bw bh) wt l0 y0 n F) u.1 u.2.2.1 u.2.2.2 ∧ (ruF bw bh g fr (ftF ac g nb kn bw bh) wt l0 y0 n F).length ≤ 200 ∧ ∀ b, b < 4 → u.2.2.2 19 b = lN (bw b) ∧ u.2.2.2 20 b = lN (bh b)) ∨ (¬ (∃ kn n, kn < 5 ∧ n < 9 ∧ kv = nI kn ∧ nv = lN n) ∧ u = (va_up ii 0 1, li, ia, la))) (wB D (va_A (w_M a cA ii li ia la) s.heap.size) (fun (u : St) => w_M a cA u.1 u.2.1 u.2.2.1 u.2.2.2)) (va_A (w_M a cA ii li ia la) s.heap.size)) ([.ref (a 0), .int kv, .long nv] : List Value).toArray s 0 0 (va_A (w_M a cA ii li ia la) s.heap.size)) (F0 m 44 ls []) := by
            intro f
            induction f with
            | zero => intro k lb h; exact absurd h (Nat.not_lt_zero _)
            | succ f ih =>
              intro k lb hf hk l1 l2 l3 H locs hP hD hS ls hl
              refine lv_iload hx hb d_M_run_44 (lv_at hl 3 rfl) ?_
              refine lv_aload_n hx hb d_M_run_46 rfl (lv_at hl 0 rfl) ?_
              refine va_get (D := D) (ci := 1) (v := .int (ii 3)) (C := R_M) (T := T_M) (N := 26) hx hb (uw_M Z.1 hg.1) (fun _ h => h) hown hK hP 0 rfl rfl 3 (by decide) (kw607 Z.1 _ _ hg.1) (fun _ h9 => h9) rfl d_M_run_47 ?_
              refine lv_topi (fun z27 ez27 => ?_)
              obtain rfl : z27 = (nI nb) := by rw [ez27]; exact hnb
              refine lv_icmp_ge (tgt := 65) hx hb d_M_run_50 (by decide) (fun c28 => ?_) (fun c28 => ?_)
              · obtain rfl : k = nb := by have := (nI_leI (by omega) (by omega)).mp c28; omega
                refine lv_iconst (v := 0) hx hb d_M_run_65 (by decide) ?_
                refine lv_topi (fun z29 ez29 => ?_)
                obtain rfl : z29 = (nI 0) := by rw [ez29]; rfl
                refine lv_istore (lv' := [(4, .int (nI 0)), (0, .ref (a 0)), (1, .int (nI kn)), (2, .long (lN n))]) hx hb d_M_run_66 hl (by decide) rfl (fun ls hl => ?_)
                have hb4 : ∀ b, b < 4 → lb 19 b = lN (bw b) ∧ lb 20 b = lN (bh b) := fun b hb => by rcases Nat.lt_or_ge b k with y | y; exact l2 b y; rw [(l3 b y).1, (l3 b y).2]; exact hzz b hb y
                exact lp2 9 0 ia lb (by omega) (by omega) (fun _ _ => rfl) (fun j hj => absurd hj (Nat.not_lt_zero _)) l1 (fun b hb => ⟨(hb4 b hb).1, (hbx b hb).2⟩) (fun b hb => ⟨(hb4 b hb).2, (hby b hb).2⟩) _ _ hP hD hS ls (lv_sub hl [1, 2, 3, 0] rfl)
              · have hkb : k < nb := Nat.lt_of_not_le (fun z => c28 ((nI_leI (by omega) (by omega)).mpr z))
                refine lv_aload_n hx hb d_M_run_53 rfl (lv_at hl 0 rfl) ?_
                refine lv_iload hx hb d_M_run_54 (lv_at hl 3 rfl) ?_
                refine w_callv (wr := ([] : va_W)) (w_runV (rest := []) hx hb hml hown hl.1 hg hlo hK hP hD hS (m_M_findBox Z a (va_up ii 0 0) li ia lb k (nc k) (fx k) (fy k) (by omega) (hnc k (by omega)).1 (hnc k (by omega)).2 (fun j hj => by rw [l1 5 (by decide) (by decide) (by decide) (by decide)]; exact hfx k j (by omega) hj) (fun j hj => by rw [l1 6 (by decide) (by decide) (by decide) (by decide)]; exact hfy k j (by omega) hj) H.size) (kw727 Z.1) (kw729 Z.1) (kp_M_findBox Z.1) (kw730 Z.1) (kw6 Z.1) ⟨by decide, by decide, (by decide +kernel : (parseMethodDescriptor y_M_findBox.desc).map (fun d => d.parameters.length) = some 1)⟩ ⟨Nat.le_of_ble_eq_true rfl, Nat.le_of_ble_eq_true rfl⟩ [0, 1, 2, 3, 4, 5, 6, 7, 8, 9, 10, 11, 12, 13, 14, 15, 16] rfl rfl (ci := 1) (q0 := 0) rfl rfl rfl (Nat.le_of_ble_eq_true rfl) d_M_run_56 ⟨Nat.le_of_ble_eq_true rfl, Nat.le_of_ble_eq_true rfl⟩) hP hD hS hA [0, 1, 2, 3, 4, 5, 6, 7, 8, 9, 10, 11, 12, 13, 14, 15, 16] [] rfl rfl rfl (by decide) (fun z => w_M a cA (va_up ii 0 0) li ia z) [0, 1, 2, 3, 4, 5, 6, 7, 8, 9, 10, 11, 12, 13, 14, 15, 16] rfl (fun _ => rfl) (fun u1 H locs hq hP hD hS => ?_)
                refine W.widen (k := 0) (n := 0) (Nat.le_of_ble_eq_true rfl) (Nat.le_of_ble_eq_true rfl) ?_
                obtain ⟨v31, ev31⟩ : ∃ y : Int32, y = (nI k) + 1 := ⟨_, rfl⟩
                refine lv_iinc (v := v31) (lv' := [(4, .int v31), (0, .ref (a 0)), (1, .int (nI kn)), (2, .long (lN n))]) hx hb d_M_run_59 hl (k := 3) rfl (by rw [ev31]; rfl) (by decide) rfl (fun ls hl => ?_)
                refine lv_goto (tgt := 44) hx hb d_M_run_62 (by decide) ?_
                obtain rfl : v31 = nI (k + 1) := by rw [ev31]; exact nI_1 k
                exact ih (k + 1) u1 (by omega) (by omega) (fun z z1 z2 z3 z4 => by rw [hq.1 z z1 z2 z3 z4]; exact l1 z z1 z2 z3 z4) (fun b hb => by by_cases hz : b = k; (subst hz; rw [hq.2.2.1, hq.2.2.2.1]; exact ⟨(hbx b (by omega)).1, (hby b (by omega)).1⟩); rw [(hq.2.1 b hz).2.2.1, (hq.2.1 b hz).2.2.2]; exact l2 b (by omega)) (fun b hb => by rw [(hq.2.1 b (by omega)).2.2.1, (hq.2.1 b (by omega)).2.2.2]; exact l3 b hb) _ _ hP hD hS ls (lv_sub hl [1, 2, 3, 0] rfl)
          exact lp1 (nb + 1) 0 la (by omega) (Nat.zero_le _) (fun _ _ _ _ _ => rfl) (fun j hj => absurd hj (Nat.not_lt_zero _)) (fun _ _ => ⟨rfl, rfl⟩) _ _ hP hD hS ls (lv_sub hl [1, 2, 3, 0] rfl)
