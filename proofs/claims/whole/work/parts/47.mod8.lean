theorem cpF_le {ft : Nat → Nat} : ∀ (ks : List Nat) (wl : Nat → Nat) (al n : Nat), (∀ k ∈ ks, ft k ≤ 20) → cpF ft ks wl al = some n → n ≤ al + 20 * ks.length := by
  intro ks
  induction ks with
  | nil => intro wl al n _ h; rw [cpF] at h; have := Option.some.inj h; omega
  | cons k ks ih =>
    intro wl al n hk h
    rw [cpF] at h
    split at h
    · cases h
    · have := ih _ _ _ (fun z hz => hk z (List.mem_cons_of_mem _ hz)) h
      have h3 := hk k List.mem_cons_self
      rw [List.length_cons]; omega
theorem rwF_len (cn : Nat → Nat) : ∀ f k, (rwF cn f k).length + sm cn k = sm cn (k + f) := by
  intro f
  induction f with
  | zero => intro k; simp [rwF]
  | succ f ih =>
    intro k
    have := ih (k + 1)
    rw [sm] at this
    rw [rwF, List.length_append, List.length_replicate, show k + (f + 1) = k + 1 + f by omega, ← this]; omega
theorem rwF_mem (cn : Nat → Nat) : ∀ f k z, z ∈ rwF cn f k → k ≤ z ∧ z < k + f := by
  intro f
  induction f with
  | zero => intro k z h; simp [rwF] at h
  | succ f ih =>
    intro k z h
    rw [rwF] at h
    rcases List.mem_append.mp h with h | h
    · have := List.eq_of_mem_replicate h; omega
    · have := ih (k + 1) z h; omega
theorem rw8_len (cn : Nat → Nat) : (rwF cn 8 0).length = sm cn 8 := by
  have := rwF_len cn 8 0
  simpa [sm] using this
abbrev Bst : Type := Nat × Nat × (Nat → Nat)
def lowF (bw bh : Nat → Nat) (g : Nat) (fr : Int) (cn : Nat → Nat) : Prop := ndF bw bh g cn = 0 ∨ (ndF bw bh g cn : Int) - g ≤ fr
noncomputable def wg (bw bh : Nat → Nat) (g : Nat) (fr : Int) (ft wt cn : Nat → Nat) (s : Bst) : Bst :=
  match cpF ft (rwF cn 8 0) wt 0 with
  | none => s
  | some n => haveI := Classical.propDecidable (lowF bw bh g fr cn); if n < s.1 ∨ ¬ lowF bw bh g fr cn then s else if n = s.1 ∧ (s.2.1 < sm cn 8 ∨ (sm cn 8 = s.2.1 ∧ ah cn s.2.2 8 0 = false)) then s else (n, sm cn 8, cn)
def bsR (s : Bst) (ii : Nat → Int32) (ia : Nat → Nat → Int32) : Prop := ii 24 = nI s.1 ∧ ii 25 = nI s.2.1 ∧ (∀ k, k < 8 → ia 23 k = nI (s.2.2 k)) ∧ s.1 ≤ 2000 ∧ s.2.1 ≤ 1000 ∧ ∀ k, k < 8 → s.2.2 k ≤ 9
def gnI (ii : Nat → Int32) (ia : Nat → Nat → Int32) (u : (Nat → Int32) × (Nat → Nat → Int32)) : Prop := (∀ z, z ≠ 24 → z ≠ 25 → u.1 z = ii z) ∧ (∀ z, z ≠ 22 → z ≠ 23 → u.2 z = ia z)
set_option maxHeartbeats 4000000 in
set_option maxRecDepth 100000 in
theorem m_M_weigh {l : Launch} {s0 : State} {D : va_G} {cA sa : Nat → Nat} (Z : zE l s0 D cA sa) (a : Nat → Nat) (ii : Nat → Int32) (li : Nat → Int64) (ia : Nat → Nat → Int32) (la : Nat → Nat → Int64) (g : Nat) (cn ft wt : Nat → Nat) (fr : Int) (bs : Bst) (bw bh : Nat → Nat) (hbw : ∀ b, b < 4 → la 19 b = lN (bw b) ∧ bw b ≤ 65536) (hbh : ∀ b, b < 4 → la 20 b = lN (bh b) ∧ bh b ≤ 65536) (hcn : ∀ k, k < 8 → ia 22 k = nI (cn k) ∧ cn k ≤ 9) (hft : ∀ k, k < 8 → ia 21 k = nI (ft k) ∧ ft k ≤ 20) (hwt : ∀ k, k < 4 → ia 7 k = nI (wt k) ∧ wt k ≤ 200) (hg2 : li 11 = lN g) (hg3 : g ≤ 65536) (hfr : li 2 - la 10 1 - la 10 3 = lZ fr) (h1 : -200000 ≤ fr) (h2 : fr ≤ 65536) (hbs : bsR bs ii ia) (sz : Nat) : Met l y_M_weigh [.code y_M_weigh c_M_weigh 4 none] ({ frames := 2, cells := 0, slots := 0, locals := 90 }) (wP s0 D [.ref (a 0)] (w_M a cA ii li ia la) sz) (va_Qv (fun u => gnI ii ia u ∧ u.2 22 = ia 22 ∧ bsR (wg bw bh g fr ft wt cn bs) u.1 u.2) (wB D (va_A (w_M a cA ii li ia la) sz) (fun (u : (Nat → Int32) × (Nat → Nat → Int32)) => w_M a cA u.1 li u.2 la)) (va_A (w_M a cA ii li ia la) sz)) 0 0 (va_A (w_M a cA ii li ia la) sz) := by
  refine wMet Z (by decide) (Nat.le_of_ble_eq_true rfl) ?_
  intro p e s m below meth c hx hb hr hml hown hlk hin hg hK hsz hP hD hA hlo hS ls hl
  subst hsz
  have hown : s.vm.findClass R_M = some m.cls := hown
  have hcl : sm cn 8 ≤ 72 := sm_bd (B := 9) 8 (fun k hk => (hcn k hk).2)
  obtain ⟨b1, b2, b3, b4, b5, b6⟩ := hbs
  obtain ⟨res, hres⟩ : ∃ z, z = cpF ft (rwF cn 8 0) wt 0 := ⟨_, rfl⟩
  obtain ⟨ws, hws⟩ : ∃ z, z = (wg bw bh g fr ft wt cn bs) := ⟨_, rfl⟩
  have hwk := hws
  unfold wg at hwk
  rw [← hres] at hwk
  refine lv_aload_n hx hb d_M_weigh_0 rfl (lv_at hl 0 rfl) ?_
  refine w_calli (wr := ([] : va_W)) (w_runV (rest := []) hx hb hml hown hl.1 hg hlo hK hP hD hS (m_M_copiesOf Z a ii li ia la cn ft wt hcn hft hwt s.heap.size) (kw756 Z.1) (kw758 Z.1) (kp_M_copiesOf Z.1) (kw759 Z.1) (kw6 Z.1) ⟨by decide, by decide, (by decide +kernel : (parseMethodDescriptor y_M_copiesOf.desc).map (fun d => d.parameters.length) = some 0)⟩ ⟨Nat.le_of_ble_eq_true rfl, Nat.le_of_ble_eq_true rfl⟩ [0, 1, 2, 3, 4, 5, 6, 7, 8, 9, 10, 11, 12, 13, 14, 15, 16] rfl rfl (ci := 1) (q0 := 0) rfl rfl rfl (Nat.le_of_ble_eq_true rfl) d_M_weigh_1 ⟨Nat.le_of_ble_eq_true rfl, Nat.le_of_ble_eq_true rfl⟩) hP hD hS hA [0, 1, 2, 3, 4, 5, 6, 7, 8, 9, 10, 11, 12, 13, 14, 15, 16] [] rfl rfl rfl (by decide) (fun _ => w_M a cA ii li ia la) [0, 1, 2, 3, 4, 5, 6, 7, 8, 9, 10, 11, 12, 13, 14, 15, 16] rfl (fun _ => rfl) (fun rc u H locs hrc hP hD hS => ?_)
  refine W.widen (k := 0) (n := 0) (Nat.le_of_ble_eq_true rfl) (Nat.le_of_ble_eq_true rfl) ?_
  rw [← hres] at hrc
  cases res with
  | none =>
    have hrc : rc = -1 := hrc
    subst hrc
    have hwk : ws = bs := hwk
    refine lv_istore_n (lv' := [(1, .int (-1)), (0, .ref (a 0))]) hx hb d_M_weigh_4 rfl hl (by decide) rfl (fun ls hl => ?_)
    refine lv_iload_n hx hb d_M_weigh_5 rfl (lv_at hl 0 rfl) ?_
    refine lv_aload_n hx hb d_M_weigh_6 rfl (lv_at hl 1 rfl) ?_
    refine va_get (D := D) (ci := 1) (v := .int (ii 24)) (C := R_M) (T := T_M) (N := 26) hx hb (uw_M Z.1 hg.1) (fun _ h => h) hown hK hP 0 rfl rfl 24 (by decide) (kw628 Z.1 _ _ hg.1) (fun _ h9 => h9) rfl d_M_weigh_7 ?_
    refine lv_topi (fun z1 ez1 => ?_)
    obtain rfl : z1 = (nI bs.1) := by rw [ez1]; exact b1
    refine lv_icmp_lt (tgt := 20) hx hb d_M_weigh_10 (by decide) (fun _ => ?_) (fun k2 => by first | exact absurd (show (-1 : Int32) < nI bs.1 by rw [Int32.lt_iff_toInt_lt, nI_toInt (by omega)]; show (-1 : Int) < _; omega) k2 | exact absurd k2 (show (-1 : Int32) < nI bs.1 by rw [Int32.lt_iff_toInt_lt, nI_toInt (by omega)]; show (-1 : Int) < _; omega))
    exact w_vret hx hb hr hlk hP hD hS (ii, ia) rfl (by rw [← hws, hwk]; exact ⟨⟨fun _ _ _ => rfl, fun _ _ _ => rfl⟩, rfl, b1, b2, b3, b4, b5, b6⟩) d_M_weigh_20
  | some n =>
    have hrc : rc = nI n := hrc
    subst hrc
    dsimp only at hwk
    have hn2 : n ≤ 1440 := by have := cpF_le _ _ _ _ (fun k hk => (hft k (rwF_mem cn 8 0 k hk).2).2) hres.symm; rw [rw8_len] at this; omega
    refine lv_istore_n (lv' := [(1, .int (nI n)), (0, .ref (a 0))]) hx hb d_M_weigh_4 rfl hl (by decide) rfl (fun ls hl => ?_)
    refine lv_iload_n hx hb d_M_weigh_5 rfl (lv_at hl 0 rfl) ?_
    refine lv_aload_n hx hb d_M_weigh_6 rfl (lv_at hl 1 rfl) ?_
    refine va_get (D := D) (ci := 1) (v := .int (ii 24)) (C := R_M) (T := T_M) (N := 26) hx hb (uw_M Z.1 hg.1) (fun _ h => h) hown hK hP 0 rfl rfl 24 (by decide) (kw628 Z.1 _ _ hg.1) (fun _ h9 => h9) rfl d_M_weigh_7 ?_
    refine lv_topi (fun z3 ez3 => ?_)
    obtain rfl : z3 = (nI bs.1) := by rw [ez3]; exact b1
    refine lv_icmp_lt (tgt := 20) hx hb d_M_weigh_10 (by decide) (fun c4 => ?_) (fun c4 => ?_)
    · rw [if_pos (Or.inl ((nI_ltI (by omega) (by omega)).mp c4))] at hwk
      exact w_vret hx hb hr hlk hP hD hS (ii, ia) rfl (by rw [← hws, hwk]; exact ⟨⟨fun _ _ _ => rfl, fun _ _ _ => rfl⟩, rfl, b1, b2, b3, b4, b5, b6⟩) d_M_weigh_20
    · have hge : ¬ n < bs.1 := fun z => c4 ((nI_ltI (by omega) (by omega)).mpr z)
      refine lv_aload_n hx hb d_M_weigh_13 rfl (lv_at hl 1 rfl) ?_
      refine w_calli (wr := ([] : va_W)) (w_runV (rest := []) hx hb hml hown hl.1 hg hlo hK hP hD hS (m_M_isLow Z a ii li ia la g cn fr bw bh hbw hbh hcn hg2 hg3 hfr h1 h2 H.size) (kw760 Z.1) (kw762 Z.1) (kp_M_isLow Z.1) (kw763 Z.1) (kw6 Z.1) ⟨by decide, by decide, (by decide +kernel : (parseMethodDescriptor y_M_isLow.desc).map (fun d => d.parameters.length) = some 0)⟩ ⟨Nat.le_of_ble_eq_true rfl, Nat.le_of_ble_eq_true rfl⟩ [0, 1, 2, 3, 4, 5, 6, 7, 8, 9, 10, 11, 12, 13, 14, 15, 16] rfl rfl (ci := 1) (q0 := 0) rfl rfl rfl (Nat.le_of_ble_eq_true rfl) d_M_weigh_14 ⟨Nat.le_of_ble_eq_true rfl, Nat.le_of_ble_eq_true rfl⟩) hP hD hS hA [0, 1, 2, 3, 4, 5, 6, 7, 8, 9, 10, 11, 12, 13, 14, 15, 16] [] rfl rfl rfl (by decide) (fun _ => w_M a cA ii li ia la) [0, 1, 2, 3, 4, 5, 6, 7, 8, 9, 10, 11, 12, 13, 14, 15, 16] rfl (fun _ => rfl) (fun r1 u H locs hr1 hP hD hS => ?_)
      refine W.widen (k := 0) (n := 0) (Nat.le_of_ble_eq_true rfl) (Nat.le_of_ble_eq_true rfl) ?_
      refine lv_if_ne (tgt := 21) hx hb d_M_weigh_17 (by decide) (fun d5 => ?_) (fun d5 => ?_)
      · have hl0 : lowF bw bh g fr cn := Classical.byContradiction (fun z => d5 (by rw [hr1]; exact if_neg z))
        rw [if_neg (fun z => z.elim hge (fun y => y hl0))] at hwk
        refine lv_aload_n hx hb d_M_weigh_21 rfl (lv_at hl 1 rfl) ?_
        refine w_calli (wr := ([] : va_W)) (w_runV (rest := []) hx hb hml hown hl.1 hg hlo hK hP hD hS (m_M_rowsOf Z a ii li ia la cn (fun k hk => (hcn k hk).1) H.size) (kw748 Z.1) (kw750 Z.1) (kp_M_rowsOf Z.1) (kw751 Z.1) (kw6 Z.1) ⟨by decide, by decide, (by decide +kernel : (parseMethodDescriptor y_M_rowsOf.desc).map (fun d => d.parameters.length) = some 0)⟩ ⟨Nat.le_of_ble_eq_true rfl, Nat.le_of_ble_eq_true rfl⟩ [0, 1, 2, 3, 4, 5, 6, 7, 8, 9, 10, 11, 12, 13, 14, 15, 16] rfl rfl (ci := 1) (q0 := 0) rfl rfl rfl (Nat.le_of_ble_eq_true rfl) d_M_weigh_22 ⟨Nat.le_of_ble_eq_true rfl, Nat.le_of_ble_eq_true rfl⟩) hP hD hS hA [0, 1, 2, 3, 4, 5, 6, 7, 8, 9, 10, 11, 12, 13, 14, 15, 16] [] rfl rfl rfl (by decide) (fun _ => w_M a cA ii li ia la) [0, 1, 2, 3, 4, 5, 6, 7, 8, 9, 10, 11, 12, 13, 14, 15, 16] rfl (fun _ => rfl) (fun r2 u H locs hr2 hP hD hS => ?_)
        refine W.widen (k := 0) (n := 0) (Nat.le_of_ble_eq_true rfl) (Nat.le_of_ble_eq_true rfl) ?_
        subst hr2
        refine lv_istore_n (lv' := [(2, .int (nI (sm cn 8))), (1, .int (nI n)), (0, .ref (a 0))]) hx hb d_M_weigh_25 rfl hl (by decide) rfl (fun ls hl => ?_)
        refine lv_iload_n hx hb d_M_weigh_26 rfl (lv_at hl 1 rfl) ?_
        refine lv_aload_n hx hb d_M_weigh_27 rfl (lv_at hl 2 rfl) ?_
        refine va_get (D := D) (ci := 1) (v := .int (ii 24)) (C := R_M) (T := T_M) (N := 26) hx hb (uw_M Z.1 hg.1) (fun _ h => h) hown hK hP 0 rfl rfl 24 (by decide) (kw628 Z.1 _ _ hg.1) (fun _ h9 => h9) rfl d_M_weigh_28 ?_
        refine lv_topi (fun z6 ez6 => ?_)
        obtain rfl : z6 = (nI bs.1) := by rw [ez6]; exact b1
        have hT : ws = (n, sm cn 8, cn) → ∀ (H : Heap) (locs : List Loc), va_P D ncl (w_M a cA ii li ia la) H → va_D (va_A (w_M a cA ii li ia la) s.heap.size) (w_M a cA ii li ia la) → va_S (va_A (w_M a cA ii li ia la) s.heap.size) s.heap H locs → W p l e ({ frames := 2, cells := 0, slots := 0, locals := 90 }) s m ([.ref (a 0)] : List Value).toArray below meth c H locs 0 0 (MQ below (va_Qv (fun u => gnI ii ia u ∧ u.2 22 = ia 22 ∧ bsR (wg bw bh g fr ft wt cn bs) u.1 u.2) (wB D (va_A (w_M a cA ii li ia la) s.heap.size) (fun (u : (Nat → Int32) × (Nat → Nat → Int32)) => w_M a cA u.1 li u.2 la)) (va_A (w_M a cA ii li ia la) s.heap.size)) ([.ref (a 0)] : List Value).toArray s 0 0 (va_A (w_M a cA ii li ia la) s.heap.size)) (F0 m 58 ls []) := by
          intro hw H locs hP hD hS
          refine lv_aload_n hx hb d_M_weigh_58 rfl (lv_at hl 2 rfl) ?_
          refine lv_iload_n hx hb d_M_weigh_59 rfl (lv_at hl 1 rfl) ?_
          refine va_put (D := D) (ci := 1) (v := .int (nI n)) (ty := t_M 24) (C := R_M) (T := T_M) (N := 26) hx hb (uw_M Z.1 hg.1) (fun _ h => h) t_M t_M_ok n_M hown hK hP hD hS 0 rfl rfl 24 (by decide) (kw628 Z.1 _ _ hg.1) (fun _ h9 => h9) rfl (by decide +kernel) rfl rfl (Nat.le_of_ble_eq_true rfl) d_M_weigh_60 (fun H locs hP hD hS => ?_)
          have hP : va_P D ncl (w_M a cA (va_up ii 24 (nI n)) li ia la) H := hP
          have hD : va_D _ (w_M a cA (va_up ii 24 (nI n)) li ia la) := hD
          refine lv_aload_n hx hb d_M_weigh_63 rfl (lv_at hl 2 rfl) ?_
          refine lv_iload_n hx hb d_M_weigh_64 rfl (lv_at hl 0 rfl) ?_
          refine va_put (D := D) (ci := 1) (v := .int (nI (sm cn 8))) (ty := t_M 25) (C := R_M) (T := T_M) (N := 26) hx hb (uw_M Z.1 hg.1) (fun _ h => h) t_M t_M_ok n_M hown hK hP hD hS 0 rfl rfl 25 (by decide) (kw629 Z.1 _ _ hg.1) (fun _ h9 => h9) rfl (by decide +kernel) rfl rfl (Nat.le_of_ble_eq_true rfl) d_M_weigh_65 (fun H locs hP hD hS => ?_)
          have hP : va_P D ncl (w_M a cA (va_up (va_up ii 24 (nI n)) 25 (nI (sm cn 8))) li ia la) H := hP
          have hD : va_D _ (w_M a cA (va_up (va_up ii 24 (nI n)) 25 (nI (sm cn 8))) li ia la) := hD
          refine lv_iconst (v := 0) hx hb d_M_weigh_68 (by decide) ?_
          refine lv_topi (fun z7 ez7 => ?_)
          obtain rfl : z7 = (nI 0) := by rw [ez7]; rfl
          refine lv_istore_n (lv' := [(3, .int (nI 0)), (2, .int (nI (sm cn 8))), (1, .int (nI n)), (0, .ref (a 0))]) hx hb d_M_weigh_69 rfl hl (by decide) rfl (fun ls hl => ?_)
          have loop : ∀ (f : Nat) (k : Nat) (ib : Nat → Nat → Int32), 8 - k < f → k ≤ 8 → (∀ z, z ≠ 23 → ib z = ia z) → (∀ j, j < k → ib 23 j = nI (cn j)) → ∀ (H : Heap) (locs : List Loc), va_P D ncl (w_M a cA (va_up (va_up ii 24 (nI n)) 25 (nI (sm cn 8))) li ib la) H → va_D (va_A (w_M a cA ii li ia la) s.heap.size) (w_M a cA (va_up (va_up ii 24 (nI n)) 25 (nI (sm cn 8))) li ib la) → va_S (va_A (w_M a cA ii li ia la) s.heap.size) s.heap H locs → ∀ (ls : Array Slot), lv_has ls 4 [(0, .ref (a 0)), (3, .int (nI k))] → W p l e ({ frames := 2, cells := 0, slots := 0, locals := 90 }) s m ([.ref (a 0)] : List Value).toArray below meth c H locs 0 0 (MQ below (va_Qv (fun u => gnI ii ia u ∧ u.2 22 = ia 22 ∧ bsR (wg bw bh g fr ft wt cn bs) u.1 u.2) (wB D (va_A (w_M a cA ii li ia la) s.heap.size) (fun (u : (Nat → Int32) × (Nat → Nat → Int32)) => w_M a cA u.1 li u.2 la)) (va_A (w_M a cA ii li ia la) s.heap.size)) ([.ref (a 0)] : List Value).toArray s 0 0 (va_A (w_M a cA ii li ia la) s.heap.size)) (F0 m 70 ls []) := by
            intro f
            induction f with
            | zero => intro k ib h; exact absurd h (Nat.not_lt_zero _)
            | succ f ih =>
              intro k ib hf hk i1 i2 H locs hP hD hS ls hl
              refine lv_iload_n hx hb d_M_weigh_70 rfl (lv_at hl 1 rfl) ?_
              refine lv_bipush (v := 8) hx hb d_M_weigh_71 (by decide) ?_
              refine lv_icmp_ge (tgt := 94) hx hb d_M_weigh_73 (by decide) (fun c8 => ?_) (fun c8 => ?_)
              · obtain rfl : k = 8 := by have := (nI_leI (a := 8) (by decide) (by omega)).mp c8; omega
                exact w_vret hx hb hr hlk hP hD hS ((va_up (va_up ii 24 (nI n)) 25 (nI (sm cn 8))), ib) rfl (by rw [← hws, hw]; exact ⟨⟨fun z z1 z2 => by dsimp only; rw [up_n _ _ z2, up_n _ _ z1], fun z z1 z2 => i1 z z2⟩, i1 22 (by decide), by dsimp only; rw [up_n _ _ (by decide), up_s], by dsimp only; rw [up_s], i2, by show n ≤ 2000; omega, by show sm cn 8 ≤ 1000; omega, fun k hk => (hcn k hk).2⟩) d_M_weigh_94
              · have hkn : k < 8 := Nat.lt_of_not_le (fun z => c8 ((nI_leI (a := 8) (by decide) (by omega)).mpr z))
                refine lv_aload_n hx hb d_M_weigh_76 rfl (lv_at hl 0 rfl) ?_
                refine va_get (D := D) (ci := 1) (v := .ref (a 24)) (C := R_M) (T := T_M) (N := 26) hx hb (uw_M Z.1 hg.1) (fun _ h => h) hown hK hP 0 rfl rfl 23 (by decide) (kw627 Z.1 _ _ hg.1) (fun _ h9 => h9) rfl d_M_weigh_77 ?_
                refine lv_iload_n hx hb d_M_weigh_80 rfl (lv_at hl 1 rfl) ?_
                refine lv_aload_n hx hb d_M_weigh_81 rfl (lv_at hl 0 rfl) ?_
                refine va_get (D := D) (ci := 1) (v := .ref (a 23)) (C := R_M) (T := T_M) (N := 26) hx hb (uw_M Z.1 hg.1) (fun _ h => h) hown hK hP 0 rfl rfl 22 (by decide) (kw626 Z.1 _ _ hg.1) (fun _ h9 => h9) rfl d_M_weigh_82 ?_
                refine lv_iload_n hx hb d_M_weigh_85 rfl (lv_at hl 1 rfl) ?_
                refine va_iald hx hb hK hP 15 0 rfl rfl (vp_in_nI (n := k) (N := 8) (by omega) (by decide)) d_M_weigh_86 ?_
                refine lv_topi (fun z9 ez9 => ?_)
                rw [nI_clamp (n := k) (by omega)] at ez9
                obtain rfl : z9 = ((ib 22) k) := ez9
                refine lv_topi (fun z10 ez10 => ?_)
                obtain rfl : z10 = (nI (cn k)) := by rw [ez10]; rw [i1 22 (by decide)]; exact (hcn k hkn).1
                refine va_iast hx hb hK hP hD hS 16 0 rfl rfl (vp_in_nI (n := k) (N := 8) (by omega) (by decide)) d_M_weigh_87 (fun H locs hP hD hS => ?_)
                rw [nI_clamp (n := k) (by omega)] at hP hD
                have hP : va_P D ncl (w_M a cA (va_up (va_up ii 24 (nI n)) 25 (nI (sm cn 8))) li (va_up ib 23 (upd (ib 23) k (nI (cn k)))) la) H := hP
                have hD : va_D _ (w_M a cA (va_up (va_up ii 24 (nI n)) 25 (nI (sm cn 8))) li (va_up ib 23 (upd (ib 23) k (nI (cn k)))) la) := hD
                obtain ⟨v11, ev11⟩ : ∃ y : Int32, y = (nI k) + 1 := ⟨_, rfl⟩
                refine lv_iinc (v := v11) (lv' := [(3, .int v11), (0, .ref (a 0))]) hx hb d_M_weigh_88 hl (k := 1) rfl (by rw [ev11]; rfl) (by decide) rfl (fun ls hl => ?_)
                refine lv_goto (tgt := 70) hx hb d_M_weigh_91 (by decide) ?_
                obtain rfl : v11 = nI (k + 1) := by rw [ev11]; exact nI_1 k
                exact ih (k + 1) (va_up ib 23 (upd (ib 23) k (nI (cn k)))) (by omega) (by omega) (fun z hz => by rw [up_n _ _ hz]; exact i1 z hz) (fun j hj => by rw [up_s]; by_cases hz : j = k; (subst hz; rw [upd_s]); rw [upd_n _ _ hz]; exact i2 j (by omega)) _ _ hP hD hS ls (lv_sub hl [1, 0] rfl)
          exact loop 9 0 ia (by omega) (by omega) (fun _ _ => rfl) (fun j hj => absurd hj (Nat.not_lt_zero _)) _ _ hP hD hS ls (lv_sub hl [3, 0] rfl)
        refine lv_icmp_ne (tgt := 58) hx hb d_M_weigh_31 (by decide) (fun e12 => ?_) (fun e12 => ?_)
        · rw [if_neg (fun z => e12 (by rw [z.1]))] at hwk
          exact hT hwk _ _ hP hD hS
        · have he : n = bs.1 := (nI_eq (by omega) (by omega)).mp e12
          refine lv_iload_n hx hb d_M_weigh_34 rfl (lv_at hl 0 rfl) ?_
          refine lv_aload_n hx hb d_M_weigh_35 rfl (lv_at hl 2 rfl) ?_
          refine va_get (D := D) (ci := 1) (v := .int (ii 25)) (C := R_M) (T := T_M) (N := 26) hx hb (uw_M Z.1 hg.1) (fun _ h => h) hown hK hP 0 rfl rfl 25 (by decide) (kw629 Z.1 _ _ hg.1) (fun _ h9 => h9) rfl d_M_weigh_36 ?_
          refine lv_topi (fun z13 ez13 => ?_)
          obtain rfl : z13 = (nI bs.2.1) := by rw [ez13]; exact b2
          refine lv_icmp_gt (tgt := 57) hx hb d_M_weigh_39 (by decide) (fun g14 => ?_) (fun g14 => ?_)
          · have hgt : bs.2.1 < sm cn 8 := (nI_ltI (by omega) (by omega)).mp g14
            rw [if_pos ⟨he, Or.inl hgt⟩] at hwk
            exact w_vret hx hb hr hlk hP hD hS (ii, ia) rfl (by rw [← hws, hwk]; exact ⟨⟨fun _ _ _ => rfl, fun _ _ _ => rfl⟩, rfl, b1, b2, b3, b4, b5, b6⟩) d_M_weigh_57
          · have hle : ¬ bs.2.1 < sm cn 8 := fun z => g14 ((nI_ltI (by omega) (by omega)).mpr z)
            refine lv_iload_n hx hb d_M_weigh_42 rfl (lv_at hl 0 rfl) ?_
            refine lv_aload_n hx hb d_M_weigh_43 rfl (lv_at hl 2 rfl) ?_
            refine va_get (D := D) (ci := 1) (v := .int (ii 25)) (C := R_M) (T := T_M) (N := 26) hx hb (uw_M Z.1 hg.1) (fun _ h => h) hown hK hP 0 rfl rfl 25 (by decide) (kw629 Z.1 _ _ hg.1) (fun _ h9 => h9) rfl d_M_weigh_44 ?_
            refine lv_topi (fun z15 ez15 => ?_)
            obtain rfl : z15 = (nI bs.2.1) := by rw [ez15]; exact b2
            refine lv_icmp_ne (tgt := 58) hx hb d_M_weigh_47 (by decide) (fun h16 => ?_) (fun h16 => ?_)
            · rw [if_neg (fun z => z.2.elim hle (fun y => h16 (by rw [y.1])))] at hwk
              exact hT hwk _ _ hP hD hS
            · have he2 : sm cn 8 = bs.2.1 := (nI_eq (by omega) (by omega)).mp h16
              refine lv_aload_n hx hb d_M_weigh_50 rfl (lv_at hl 2 rfl) ?_
              refine w_calli (wr := ([] : va_W)) (w_runV (rest := []) hx hb hml hown hl.1 hg hlo hK hP hD hS (m_M_isAhead Z a ii li ia la cn bs.2.2 (fun k hk => ⟨(hcn k hk).1, by have := (hcn k hk).2; omega⟩) (fun k hk => ⟨b3 k hk, by have := b6 k hk; omega⟩) H.size) (kw768 Z.1) (kw770 Z.1) (kp_M_isAhead Z.1) (kw771 Z.1) (kw6 Z.1) ⟨by decide, by decide, (by decide +kernel : (parseMethodDescriptor y_M_isAhead.desc).map (fun d => d.parameters.length) = some 0)⟩ ⟨Nat.le_of_ble_eq_true rfl, Nat.le_of_ble_eq_true rfl⟩ [0, 1, 2, 3, 4, 5, 6, 7, 8, 9, 10, 11, 12, 13, 14, 15, 16] rfl rfl (ci := 1) (q0 := 0) rfl rfl rfl (Nat.le_of_ble_eq_true rfl) d_M_weigh_51 ⟨Nat.le_of_ble_eq_true rfl, Nat.le_of_ble_eq_true rfl⟩) hP hD hS hA [0, 1, 2, 3, 4, 5, 6, 7, 8, 9, 10, 11, 12, 13, 14, 15, 16] [] rfl rfl rfl (by decide) (fun _ => w_M a cA ii li ia la) [0, 1, 2, 3, 4, 5, 6, 7, 8, 9, 10, 11, 12, 13, 14, 15, 16] rfl (fun _ => rfl) (fun r3 u H locs hr3 hP hD hS => ?_)
              refine W.widen (k := 0) (n := 0) (Nat.le_of_ble_eq_true rfl) (Nat.le_of_ble_eq_true rfl) ?_
              refine lv_if_ne (tgt := 58) hx hb d_M_weigh_54 (by decide) (fun w17 => ?_) (fun w17 => ?_)
              · rw [if_neg (fun z => z.2.elim hle (fun y => by rw [if_neg (by rw [y.2]; decide)] at hr3; exact w17 hr3))] at hwk
                exact hT hwk _ _ hP hD hS
              · have ha : ah cn bs.2.2 8 0 = false := by cases hz : ah cn bs.2.2 8 0 with | false => rfl | true => rw [if_pos hz] at hr3; rw [hr3] at w17; exact absurd w17 (by decide)
                rw [if_pos ⟨he, Or.inr ⟨he2, ha⟩⟩] at hwk
                exact w_vret hx hb hr hlk hP hD hS (ii, ia) rfl (by rw [← hws, hwk]; exact ⟨⟨fun _ _ _ => rfl, fun _ _ _ => rfl⟩, rfl, b1, b2, b3, b4, b5, b6⟩) d_M_weigh_57
      · have hl0 : ¬ lowF bw bh g fr cn := fun z => by rw [if_pos (show ndF bw bh g cn = 0 ∨ (ndF bw bh g cn : Int) - g ≤ fr from z)] at hr1; rw [hr1] at d5; exact absurd d5 (by decide)
        rw [if_pos (Or.inr hl0)] at hwk
        exact w_vret hx hb hr hlk hP hD hS (ii, ia) rfl (by rw [← hws, hwk]; exact ⟨⟨fun _ _ _ => rfl, fun _ _ _ => rfl⟩, rfl, b1, b2, b3, b4, b5, b6⟩) d_M_weigh_20
/-- the value of numbers read as digits, that of kind 0 the lowest -/
def vl (cn : Nat → Nat) : Nat := cn 0 + 10 * cn 1 + 100 * cn 2 + 1000 * cn 3 + 10000 * cn 4 + 100000 * cn 5 + 1000000 * cn 6 + 10000000 * cn 7
theorem gn_vl {ft : Nat → Nat} {mo : Nat} {cn c2 : Nat → Nat} (h9 : ∀ k, k < 8 → cn k ≤ 9) (h : gn ft mo 8 0 cn = some c2) : vl cn < vl c2 := by
  have a0 := h9 0 (by decide); have a1 := h9 1 (by decide); have a2 := h9 2 (by decide); have a3 := h9 3 (by decide); have a4 := h9 4 (by decide); have a5 := h9 5 (by decide); have a6 := h9 6 (by decide)
  simp only [gn] at h
  repeat' split at h
  all_goals cases h
  all_goals (simp [vl, va_up]; try omega)
theorem gn_0 (ft : Nat → Nat) : ∀ f k cn, gn ft 0 f k cn = none := by
  intro f
  induction f with
  | zero => intro k cn; rfl
  | succ f ih => intro k cn; rw [gn, if_neg (fun z => absurd z.2 (Nat.not_lt_zero _))]; exact ih _ _
def srM (ft : Nat → Nat) (mo : Nat) (F : (Nat → Nat) → Bst → Bst) : Nat → (Nat → Nat) → Bst → Bst
  | 0, _, s => s
  | f + 1, cn, s => match gn ft mo 8 0 cn with
    | none => s
    | some c2 => srM ft mo F f c2 (F c2 s)
def b00 : Bst := (0, 0, fun _ => 0)
set_option maxHeartbeats 4000000 in
set_option maxRecDepth 100000 in
theorem m_M_search {l : Launch} {s0 : State} {D : va_G} {cA sa : Nat → Nat} (Z : zE l s0 D cA sa) (a : Nat → Nat) (ii : Nat → Int32) (li : Nat → Int64) (ia : Nat → Nat → Int32) (la : Nat → Nat → Int64) (g mo : Nat) (ft wt : Nat → Nat) (fr : Int) (bw bh : Nat → Nat) (hbw : ∀ b, b < 4 → la 19 b = lN (bw b) ∧ bw b ≤ 65536) (hbh : ∀ b, b < 4 → la 20 b = lN (bh b) ∧ bh b ≤ 65536) (hft : ∀ k, k < 8 → ia 21 k = nI (ft k) ∧ ft k ≤ 20) (hwt : ∀ k, k < 4 → ia 7 k = nI (wt k) ∧ wt k ≤ 200) (hg2 : li 11 = lN g) (hg3 : g ≤ 65536) (hfr : li 2 - la 10 1 - la 10 3 = lZ fr) (h1 : -200000 ≤ fr) (h2 : fr ≤ 65536) (hmo : mo ≤ 9) (sz : Nat) : Met l y_M_search [.code y_M_search c_M_search 3 none] ({ frames := 3, cells := 0, slots := 0, locals := 130 }) (wP s0 D [.ref (a 0), .int (nI mo)] (w_M a cA ii li ia la) sz) (va_Qv (fun u => gnI ii ia u ∧ ∃ F, 100000000 < F ∧ bsR (srM ft mo (fun cn s => wg bw bh g fr ft wt cn s) F (fun _ => 0) b00) u.1 u.2) (wB D (va_A (w_M a cA ii li ia la) sz) (fun (u : (Nat → Int32) × (Nat → Nat → Int32)) => w_M a cA u.1 li u.2 la)) (va_A (w_M a cA ii li ia la) sz)) 0 0 (va_A (w_M a cA ii li ia la) sz) := by
  refine wMet Z (by decide) (Nat.le_of_ble_eq_true rfl) ?_
  intro p e s m below meth c hx hb hr hml hown hlk hin hg hK hsz hP hD hA hlo hS ls hl
  subst hsz
  have hown : s.vm.findClass R_M = some m.cls := hown
  refine lv_aload_n hx hb d_M_search_0 rfl (lv_at hl 0 rfl) ?_
  refine lv_iconst (v := 0) hx hb d_M_search_1 (by decide) ?_
  refine va_put (D := D) (ci := 1) (v := .int 0) (ty := t_M 24) (C := R_M) (T := T_M) (N := 26) hx hb (uw_M Z.1 hg.1) (fun _ h => h) t_M t_M_ok n_M hown hK hP hD hS 0 rfl rfl 24 (by decide) (kw628 Z.1 _ _ hg.1) (fun _ h9 => h9) rfl (by decide +kernel) rfl rfl (Nat.le_of_ble_eq_true rfl) d_M_search_2 (fun H locs hP hD hS => ?_)
  have hP : va_P D ncl (w_M a cA (va_up ii 24 0) li ia la) H := hP
  have hD : va_D _ (w_M a cA (va_up ii 24 0) li ia la) := hD
  refine lv_aload_n hx hb d_M_search_5 rfl (lv_at hl 0 rfl) ?_
  refine lv_iconst (v := 0) hx hb d_M_search_6 (by decide) ?_
  refine va_put (D := D) (ci := 1) (v := .int 0) (ty := t_M 25) (C := R_M) (T := T_M) (N := 26) hx hb (uw_M Z.1 hg.1) (fun _ h => h) t_M t_M_ok n_M hown hK hP hD hS 0 rfl rfl 25 (by decide) (kw629 Z.1 _ _ hg.1) (fun _ h9 => h9) rfl (by decide +kernel) rfl rfl (Nat.le_of_ble_eq_true rfl) d_M_search_7 (fun H locs hP hD hS => ?_)
  have hP : va_P D ncl (w_M a cA (va_up (va_up ii 24 0) 25 0) li ia la) H := hP
  have hD : va_D _ (w_M a cA (va_up (va_up ii 24 0) 25 0) li ia la) := hD
  refine lv_iconst (v := 0) hx hb d_M_search_10 (by decide) ?_
  refine lv_topi (fun z1 ez1 => ?_)
  obtain rfl : z1 = (nI 0) := by rw [ez1]; rfl
  refine lv_istore_n (lv' := [(2, .int (nI 0)), (0, .ref (a 0)), (1, .int (nI mo))]) hx hb d_M_search_11 rfl hl (by decide) rfl (fun ls hl => ?_)
  obtain ⟨FF, hFF⟩ : ∃ z : Nat, 100000001 < z := ⟨100000002, by decide⟩
  have main : ∀ (f : Nat) (u : (Nat → Int32) × (Nat → Nat → Int32)) (cn : Nat → Nat) (bs : Bst), 100000000 - vl cn < f → gnI ii ia u → (∀ k, k < 8 → u.2 22 k = nI (cn k)) → sm cn 8 ≤ 9 → bsR bs u.1 u.2 → srM ft mo (fun cn s => wg bw bh g fr ft wt cn s) f cn bs = srM ft mo (fun cn s => wg bw bh g fr ft wt cn s) FF (fun _ => 0) b00 → ∀ (H : Heap) (locs : List Loc), va_P D ncl (w_M a cA u.1 li u.2 la) H → va_D (va_A (w_M a cA ii li ia la) s.heap.size) (w_M a cA u.1 li u.2 la) → va_S (va_A (w_M a cA ii li ia la) s.heap.size) s.heap H locs → ∀ (ls : Array Slot), lv_has ls 3 [(0, .ref (a 0)), (1, .int (nI mo)), (2, .int 1)] → W p l e ({ frames := 3, cells := 0, slots := 0, locals := 130 }) s m ([.ref (a 0), .int (nI mo)] : List Value).toArray below meth c H locs 0 0 (MQ below (va_Qv (fun u => gnI ii ia u ∧ ∃ F, 100000000 < F ∧ bsR (srM ft mo (fun cn s => wg bw bh g fr ft wt cn s) F (fun _ => 0) b00) u.1 u.2) (wB D (va_A (w_M a cA ii li ia la) s.heap.size) (fun (u : (Nat → Int32) × (Nat → Nat → Int32)) => w_M a cA u.1 li u.2 la)) (va_A (w_M a cA ii li ia la) s.heap.size)) ([.ref (a 0), .int (nI mo)] : List Value).toArray s 0 0 (va_A (w_M a cA ii li ia la) s.heap.size)) (F0 m 48 ls []) := by
    intro f
    induction f with
    | zero => intro u cn bs h; exact absurd h (Nat.not_lt_zero _)
    | succ f ih =>
      intro u cn bs hf g0 g1 g2 g3 g4 H locs hP hD hS ls hl
      have hc9 : ∀ k, k < 8 → cn k ≤ 9 := fun k hk => Nat.le_trans (sm_le cn 8 hk) g2
      refine lv_iload_n hx hb d_M_search_48 rfl (lv_at hl 2 rfl) ?_
      refine lv_if_eq (tgt := 69) hx hb d_M_search_49 (by decide) (fun k2 => by first | exact absurd (show ¬ (1 : Int32) = 0 by decide) k2 | exact absurd k2 (show ¬ (1 : Int32) = 0 by decide)) (fun _ => ?_)
      refine lv_aload_n hx hb d_M_search_52 rfl (lv_at hl 0 rfl) ?_
      refine lv_iload_n hx hb d_M_search_53 rfl (lv_at hl 1 rfl) ?_
      refine w_calli (wr := ([] : va_W)) (w_runV (rest := []) hx hb hml hown hl.1 hg hlo hK hP hD hS (m_M_goOn Z a u.1 li u.2 la cn ft mo g1 (fun k hk => by rw [g0.2 21 (by decide) (by decide)]; exact hft k hk) g2 hmo H.size) (kw744 Z.1) (kw746 Z.1) (kp_M_goOn Z.1) (kw747 Z.1) (kw6 Z.1) ⟨by decide, by decide, (by decide +kernel : (parseMethodDescriptor y_M_goOn.desc).map (fun d => d.parameters.length) = some 1)⟩ ⟨Nat.le_of_ble_eq_true rfl, Nat.le_of_ble_eq_true rfl⟩ [0, 1, 2, 3, 4, 5, 6, 7, 8, 9, 10, 11, 12, 13, 14, 15, 16] rfl rfl (ci := 1) (q0 := 0) rfl rfl rfl (Nat.le_of_ble_eq_true rfl) d_M_search_54 ⟨Nat.le_of_ble_eq_true rfl, Nat.le_of_ble_eq_true rfl⟩) hP hD hS hA [0, 1, 2, 3, 4, 5, 6, 7, 8, 9, 10, 11, 12, 13, 14, 15, 16] [] rfl rfl rfl (by decide) (fun z => w_M a cA u.1 li z la) [0, 1, 2, 3, 4, 5, 6, 7, 8, 9, 10, 11, 12, 13, 14, 15, 16] rfl (fun _ => rfl) (fun r1 u1 H locs hq hP hD hS => ?_)
      refine W.widen (k := 0) (n := 0) (Nat.le_of_ble_eq_true rfl) (Nat.le_of_ble_eq_true rfl) ?_
      obtain ⟨q1, c2, q2, q3, q4⟩ := hq
      have g5 : gnI ii ia (u.1, u1) := ⟨g0.1, fun z z1 z2 => by show u1 z = _; rw [q1 z z1]; exact g0.2 z z1 z2⟩
      have g52 : ∀ z, z ≠ 22 → z ≠ 23 → u1 z = ia z := g5.2
      have g6 : bsR bs u.1 u1 := ⟨g3.1, g3.2.1, fun k hk => by rw [q1 23 (by decide)]; exact g3.2.2.1 k hk, g3.2.2.2⟩
      rcases q4 with ⟨rfl, q5⟩ | ⟨rfl, q5⟩
      · have hv := gn_vl hc9 q5
        have hc2 : ∀ k, k < 8 → c2 k ≤ 9 := fun k hk => Nat.le_trans (sm_le c2 8 hk) q3
        have hv2 : vl c2 ≤ 99999999 := by have a0 := hc2 0 (by decide); have a1 := hc2 1 (by decide); have a2 := hc2 2 (by decide); have a3 := hc2 3 (by decide); have a4 := hc2 4 (by decide); have a5 := hc2 5 (by decide); have a6 := hc2 6 (by decide); have a7 := hc2 7 (by decide); unfold vl; omega
        rw [srM, q5] at g4
        refine lv_istore_n (lv' := [(2, .int 1), (0, .ref (a 0)), (1, .int (nI mo))]) hx hb d_M_search_57 rfl hl (by decide) rfl (fun ls hl => ?_)
        refine lv_iload_n hx hb d_M_search_58 rfl (lv_at hl 0 rfl) ?_
        refine lv_if_eq (tgt := 48) hx hb d_M_search_59 (by decide) (fun k5 => by first | exact absurd (show ¬ (1 : Int32) = 0 by decide) k5 | exact absurd k5 (show ¬ (1 : Int32) = 0 by decide)) (fun _ => ?_)
        refine lv_aload_n hx hb d_M_search_62 rfl (lv_at hl 1 rfl) ?_
        refine w_callv (wr := ([] : va_W)) (w_runV (rest := []) hx hb hml hown hl.1 hg hlo hK hP hD hS (m_M_weigh Z a u.1 li u1 la g c2 ft wt fr bs bw bh hbw hbh (fun k hk => ⟨q2 k hk, hc2 k hk⟩) (fun k hk => by rw [g52 21 (by decide) (by decide)]; exact hft k hk) (fun k hk => by rw [g52 7 (by decide) (by decide)]; exact hwt k hk) hg2 hg3 hfr h1 h2 g6 H.size) (kw752 Z.1) (kw754 Z.1) (kp_M_weigh Z.1) (kw755 Z.1) (kw6 Z.1) ⟨by decide, by decide, (by decide +kernel : (parseMethodDescriptor y_M_weigh.desc).map (fun d => d.parameters.length) = some 0)⟩ ⟨Nat.le_of_ble_eq_true rfl, Nat.le_of_ble_eq_true rfl⟩ [0, 1, 2, 3, 4, 5, 6, 7, 8, 9, 10, 11, 12, 13, 14, 15, 16] rfl rfl (ci := 1) (q0 := 0) rfl rfl rfl (Nat.le_of_ble_eq_true rfl) d_M_search_63 ⟨Nat.le_of_ble_eq_true rfl, Nat.le_of_ble_eq_true rfl⟩) hP hD hS hA [0, 1, 2, 3, 4, 5, 6, 7, 8, 9, 10, 11, 12, 13, 14, 15, 16] [] rfl rfl rfl (by decide) (fun (z : (Nat → Int32) × (Nat → Nat → Int32)) => w_M a cA z.1 li z.2 la) [0, 1, 2, 3, 4, 5, 6, 7, 8, 9, 10, 11, 12, 13, 14, 15, 16] rfl (fun _ => rfl) (fun u2 H locs hq2 hP hD hS => ?_)
        refine W.widen (k := 0) (n := 0) (Nat.le_of_ble_eq_true rfl) (Nat.le_of_ble_eq_true rfl) ?_
        refine lv_goto (tgt := 48) hx hb d_M_search_66 (by decide) ?_
        exact ih u2 c2 _ (by omega) ⟨fun z z1 z2 => by rw [hq2.1.1 z z1 z2]; exact g0.1 z z1 z2, fun z z1 z2 => by rw [hq2.1.2 z z1 z2]; exact g52 z z1 z2⟩ (fun k hk => by rw [hq2.2.1]; exact q2 k hk) q3 hq2.2.2 g4 _ _ hP hD hS ls (lv_sub hl [1, 2, 0] rfl)
      · rw [srM, q5] at g4
        refine lv_istore_n (lv' := [(2, .int 0), (0, .ref (a 0)), (1, .int (nI mo))]) hx hb d_M_search_57 rfl hl (by decide) rfl (fun ls hl => ?_)
        refine lv_iload_n hx hb d_M_search_58 rfl (lv_at hl 0 rfl) ?_
        refine lv_if_eq (tgt := 48) hx hb d_M_search_59 (by decide) (fun _ => ?_) (fun k3 => by first | exact absurd (show (0 : Int32) = 0 from rfl) k3 | exact absurd k3 (show (0 : Int32) = 0 from rfl))
        refine lv_iload_n hx hb d_M_search_48 rfl (lv_at hl 0 rfl) ?_
        refine lv_if_eq (tgt := 69) hx hb d_M_search_49 (by decide) (fun _ => ?_) (fun k4 => by first | exact absurd (show (0 : Int32) = 0 from rfl) k4 | exact absurd k4 (show (0 : Int32) = 0 from rfl))
        exact w_vret hx hb hr hlk hP hD hS (u.1, u1) rfl ⟨g5, FF, by omega, by rw [← g4]; exact g6⟩ d_M_search_69
  have loop : ∀ (f : Nat) (k : Nat) (ib : Nat → Nat → Int32), 8 - k < f → k ≤ 8 → (∀ z, z ≠ 22 → z ≠ 23 → ib z = ia z) → (∀ j, j < k → ib 22 j = 0 ∧ ib 23 j = 0) → ∀ (H : Heap) (locs : List Loc), va_P D ncl (w_M a cA (va_up (va_up ii 24 0) 25 0) li ib la) H → va_D (va_A (w_M a cA ii li ia la) s.heap.size) (w_M a cA (va_up (va_up ii 24 0) 25 0) li ib la) → va_S (va_A (w_M a cA ii li ia la) s.heap.size) s.heap H locs → ∀ (ls : Array Slot), lv_has ls 3 [(0, .ref (a 0)), (1, .int (nI mo)), (2, .int (nI k))] → W p l e ({ frames := 3, cells := 0, slots := 0, locals := 130 }) s m ([.ref (a 0), .int (nI mo)] : List Value).toArray below meth c H locs 0 0 (MQ below (va_Qv (fun u => gnI ii ia u ∧ ∃ F, 100000000 < F ∧ bsR (srM ft mo (fun cn s => wg bw bh g fr ft wt cn s) F (fun _ => 0) b00) u.1 u.2) (wB D (va_A (w_M a cA ii li ia la) s.heap.size) (fun (u : (Nat → Int32) × (Nat → Nat → Int32)) => w_M a cA u.1 li u.2 la)) (va_A (w_M a cA ii li ia la) s.heap.size)) ([.ref (a 0), .int (nI mo)] : List Value).toArray s 0 0 (va_A (w_M a cA ii li ia la) s.heap.size)) (F0 m 12 ls []) := by
    intro f
    induction f with
    | zero => intro k ib h; exact absurd h (Nat.not_lt_zero _)
    | succ f ih =>
      intro k ib hf hk i1 i2 H locs hP hD hS ls hl
      refine lv_iload_n hx hb d_M_search_12 rfl (lv_at hl 2 rfl) ?_
      refine lv_bipush (v := 8) hx hb d_M_search_13 (by decide) ?_
      refine lv_icmp_ge (tgt := 38) hx hb d_M_search_15 (by decide) (fun c7 => ?_) (fun c7 => ?_)
      · obtain rfl : k = 8 := by have := (nI_leI (a := 8) (by decide) (by omega)).mp c7; omega
        have e0 : gnI ii ia ((va_up (va_up ii 24 0) 25 0), ib) := ⟨fun z z1 z2 => by dsimp only; rw [up_n _ _ z2, up_n _ _ z1], i1⟩
        have e1 : bsR b00 (va_up (va_up ii 24 0) 25 0) ib := ⟨by rw [up_n _ _ (by decide), up_s]; rfl, by rw [up_s]; rfl, fun k hk => (i2 k hk).2, by decide, by decide, fun _ _ => Nat.zero_le _⟩
        refine lv_iload_n hx hb d_M_search_38 rfl (lv_at hl 1 rfl) ?_
        refine lv_if_le (tgt := 46) hx hb d_M_search_39 (by decide) (fun d8 => ?_) (fun d8 => ?_)
        · have hm0 : mo = 0 := by have := (nI_leI (b := 0) (by omega) (by decide)).mp d8; omega
          have hz : srM ft mo (fun cn s => wg bw bh g fr ft wt cn s) FF (fun _ => 0) b00 = b00 := by rw [show FF = (FF - 1) + 1 by omega, srM, hm0, gn_0]
          refine lv_iconst (v := 0) hx hb d_M_search_46 (by decide) ?_
          refine lv_istore_n (lv' := [(2, .int 0), (0, .ref (a 0)), (1, .int (nI mo))]) hx hb d_M_search_47 rfl hl (by decide) rfl (fun ls hl => ?_)
          refine lv_iload_n hx hb d_M_search_48 rfl (lv_at hl 0 rfl) ?_
          refine lv_if_eq (tgt := 69) hx hb d_M_search_49 (by decide) (fun _ => ?_) (fun k9 => by first | exact absurd (show (0 : Int32) = 0 from rfl) k9 | exact absurd k9 (show (0 : Int32) = 0 from rfl))
          exact w_vret hx hb hr hlk hP hD hS ((va_up (va_up ii 24 0) 25 0), ib) rfl ⟨e0, FF, by omega, by rw [hz]; exact e1⟩ d_M_search_69
        · refine lv_iconst (v := 1) hx hb d_M_search_42 (by decide) ?_
          refine lv_goto (tgt := 47) hx hb d_M_search_43 (by decide) ?_
          refine lv_istore_n (lv' := [(2, .int 1), (0, .ref (a 0)), (1, .int (nI mo))]) hx hb d_M_search_47 rfl hl (by decide) rfl (fun ls hl => ?_)
          exact main FF ((va_up (va_up ii 24 0) 25 0), ib) (fun _ => 0) b00 (by omega) e0 (fun k hk => (i2 k hk).1) (by decide) e1 rfl _ _ hP hD hS ls (lv_sub hl [1, 2, 0] rfl)
      · have hkn : k < 8 := Nat.lt_of_not_le (fun z => c7 ((nI_leI (a := 8) (by decide) (by omega)).mpr z))
        refine lv_aload_n hx hb d_M_search_18 rfl (lv_at hl 0 rfl) ?_
        refine va_get (D := D) (ci := 1) (v := .ref (a 23)) (C := R_M) (T := T_M) (N := 26) hx hb (uw_M Z.1 hg.1) (fun _ h => h) hown hK hP 0 rfl rfl 22 (by decide) (kw626 Z.1 _ _ hg.1) (fun _ h9 => h9) rfl d_M_search_19 ?_
        refine lv_iload_n hx hb d_M_search_22 rfl (lv_at hl 2 rfl) ?_
        refine lv_iconst (v := 0) hx hb d_M_search_23 (by decide) ?_
        refine va_iast hx hb hK hP hD hS 15 0 rfl rfl (vp_in_nI (n := k) (N := 8) (by omega) (by decide)) d_M_search_24 (fun H locs hP hD hS => ?_)
        rw [nI_clamp (n := k) (by omega)] at hP hD
        have hP : va_P D ncl (w_M a cA (va_up (va_up ii 24 0) 25 0) li (va_up ib 22 (upd (ib 22) k 0)) la) H := hP
        have hD : va_D _ (w_M a cA (va_up (va_up ii 24 0) 25 0) li (va_up ib 22 (upd (ib 22) k 0)) la) := hD
        refine lv_aload_n hx hb d_M_search_25 rfl (lv_at hl 0 rfl) ?_
        refine va_get (D := D) (ci := 1) (v := .ref (a 24)) (C := R_M) (T := T_M) (N := 26) hx hb (uw_M Z.1 hg.1) (fun _ h => h) hown hK hP 0 rfl rfl 23 (by decide) (kw627 Z.1 _ _ hg.1) (fun _ h9 => h9) rfl d_M_search_26 ?_
        refine lv_iload_n hx hb d_M_search_29 rfl (lv_at hl 2 rfl) ?_
        refine lv_iconst (v := 0) hx hb d_M_search_30 (by decide) ?_
        refine va_iast hx hb hK hP hD hS 16 0 rfl rfl (vp_in_nI (n := k) (N := 8) (by omega) (by decide)) d_M_search_31 (fun H locs hP hD hS => ?_)
        rw [nI_clamp (n := k) (by omega)] at hP hD
        have hP : va_P D ncl (w_M a cA (va_up (va_up ii 24 0) 25 0) li (va_up (va_up ib 22 (upd (ib 22) k 0)) 23 (upd (ib 23) k 0)) la) H := hP
        have hD : va_D _ (w_M a cA (va_up (va_up ii 24 0) 25 0) li (va_up (va_up ib 22 (upd (ib 22) k 0)) 23 (upd (ib 23) k 0)) la) := hD
        obtain ⟨v10, ev10⟩ : ∃ y : Int32, y = (nI k) + 1 := ⟨_, rfl⟩
        refine lv_iinc (v := v10) (lv' := [(2, .int v10), (0, .ref (a 0)), (1, .int (nI mo))]) hx hb d_M_search_32 hl (k := 2) rfl (by rw [ev10]; rfl) (by decide) rfl (fun ls hl => ?_)
        refine lv_goto (tgt := 12) hx hb d_M_search_35 (by decide) ?_
        obtain rfl : v10 = nI (k + 1) := by rw [ev10]; exact nI_1 k
        exact ih (k + 1) (va_up (va_up ib 22 (upd (ib 22) k 0)) 23 (upd (ib 23) k 0)) (by omega) (by omega) (fun z z1 z2 => by rw [up_n _ _ z2, up_n _ _ z1]; exact i1 z z1 z2) (fun j hj => by rw [up_n _ _ (show 22 ≠ 23 by decide), up_s, up_s]; by_cases hz : j = k; (subst hz; rw [upd_s, upd_s]; exact ⟨rfl, rfl⟩); rw [upd_n _ _ hz, upd_n _ _ hz]; exact i2 j (by omega)) _ _ hP hD hS ls (lv_sub hl [1, 2, 0] rfl)
  exact loop 9 0 ia (by omega) (by omega) (fun _ _ _ => rfl) (fun j hj => absurd hj (Nat.not_lt_zero _)) _ _ hP hD hS ls (lv_sub hl [1, 2, 0] rfl)
