/-- what the searcher's cells hold: room and height of each kind, what is wanted, most rows and room, the gap, the rows laid, the best ones -/
def sR (room hi wl : Nat → Nat) (M mr gap : Nat) (pre best : List (Nat × Nat)) (u : St) : Prop :=
  (∀ k, k < 8 → u.2.2.1 0 k = nI (room k) ∧ room k ≤ 20 ∧ u.2.2.2 1 k = lN (hi k) ∧ hi k ≤ 65536) ∧ (∀ b, b < 4 → u.2.2.1 2 b = nI (wl b) ∧ wl b ≤ 200) ∧ (u.1 7 = nI best.length ∧ u.1 8 = nI (sr_cop best) ∧ best.length ≤ 9 ∧ sr_cop best ≤ 180) ∧ (u.1 9 = nI M ∧ M ≤ 9 ∧ u.1 10 = nI mr ∧ mr ≤ 20 ∧ u.2.1 11 = lN gap ∧ gap ≤ 65536) ∧
  (∀ j, j < pre.length → u.2.2.1 3 j = nI (pre.getD j (0, 0)).1 ∧ u.2.2.1 4 j = nI (pre.getD j (0, 0)).2) ∧ (∀ j, j < best.length → u.2.2.1 5 j = nI (best.getD j (0, 0)).1 ∧ u.2.2.1 6 j = nI (best.getD j (0, 0)).2)
set_option maxHeartbeats 4000000 in
set_option maxRecDepth 100000 in
theorem m_S_keepIfBetter {l : Launch} {s0 : State} {D : va_G} {cA sa : Nat → Nat} (Z : zE l s0 D cA sa) (a : Nat → Nat) (ii : Nat → Int32) (li : Nat → Int64) (ia : Nat → Nat → Int32) (la : Nat → Nat → Int64) (room hi wl : Nat → Nat) (M mr gap : Nat) (pre best : List (Nat × Nat)) (hu : sR room hi wl M mr gap pre best (ii, li, ia, la)) (hp : pre.length ≤ 9) (hc : sr_cop pre ≤ 180) (sz : Nat) : Met l y_S_keepIfBetter [.code y_S_keepIfBetter c_S_keepIfBetter 4 none] ({ frames := 0, cells := 0, slots := 0, locals := 0 }) (wP s0 D [.ref (a 0), .int (nI pre.length), .int (nI (sr_cop pre))] (w_S a cA ii li ia la) sz) (va_Qv (fun u => sR room hi wl M mr gap pre (sr_keep best pre) u) (wB D (va_A (w_S a cA ii li ia la) sz) (fun u => w_S a cA u.1 u.2.1 u.2.2.1 u.2.2.2)) (va_A (w_S a cA ii li ia la) sz)) 0 0 (va_A (w_S a cA ii li ia la) sz) := by
  refine wMet Z (by decide) (Nat.le_of_ble_eq_true rfl) ?_
  intro p e s m below meth c hx hb hr hml hown hlk hin hg hK hsz hP hD hA hlo hS ls hl
  subst hsz
  have hown : s.vm.findClass R_S = some m.cls := hown
  obtain ⟨u1, u2, ⟨u3, u4, u5, u6⟩, u7, u8, u9⟩ := id hu
  dsimp only at u3 u4
  refine lv_iload_n hx hb d_S_keepIfBetter_0 rfl (lv_at hl 2 rfl) ?_
  refine lv_aload_n hx hb d_S_keepIfBetter_1 rfl (lv_at hl 0 rfl) ?_
  refine va_get (D := D) (ci := 4) (v := .int (ii 8)) (C := R_S) (T := T_S) (N := 12) hx hb (uw_S Z.1 hg.1) (fun _ h => h) hown hK hP 0 rfl rfl 8 (by decide) (kw95 Z.1 _ _ hg.1) (fun _ h9 => h9) rfl d_S_keepIfBetter_2 ?_
  refine lv_icmp_lt (tgt := 24) hx hb d_S_keepIfBetter_5 (by decide) (fun c1 => ?_) (fun c1 => ?_)
  · have h1 : sr_cop pre < sr_cop best := by rw [u4] at c1; exact (nI_ltI (by omega) (by omega)).mp c1
    exact w_vret hx hb hr hlk hP hD hS (ii, li, ia, la) rfl (by have e : sr_keep best pre = best := if_neg (by simp only [sr_bet, Bool.or_eq_true, Bool.and_eq_true, decide_eq_true_eq]; omega); rw [e]; exact hu) d_S_keepIfBetter_24
  · have h1 : ¬ sr_cop pre < sr_cop best := fun q => c1 (by rw [u4]; exact (nI_ltI (by omega) (by omega)).mpr q)
    refine lv_iload_n hx hb d_S_keepIfBetter_8 rfl (lv_at hl 2 rfl) ?_
    refine lv_aload_n hx hb d_S_keepIfBetter_9 rfl (lv_at hl 0 rfl) ?_
    refine va_get (D := D) (ci := 4) (v := .int (ii 8)) (C := R_S) (T := T_S) (N := 12) hx hb (uw_S Z.1 hg.1) (fun _ h => h) hown hK hP 0 rfl rfl 8 (by decide) (kw95 Z.1 _ _ hg.1) (fun _ h9 => h9) rfl d_S_keepIfBetter_10 ?_
    refine lv_icmp_ne (tgt := 25) hx hb d_S_keepIfBetter_13 (by decide) (fun d2 => ?_) (fun d2 => ?_)
    · have h2 : ¬ sr_cop pre = sr_cop best := fun q => d2 (by rw [u4, q])
      have hbt : sr_keep best pre = pre := if_pos (by simp only [sr_bet, Bool.or_eq_true, Bool.and_eq_true, decide_eq_true_eq]; omega)
      refine lv_aload_n hx hb d_S_keepIfBetter_25 rfl (lv_at hl 0 rfl) ?_
      refine lv_iload_n hx hb d_S_keepIfBetter_26 rfl (lv_at hl 2 rfl) ?_
      refine va_put (D := D) (ci := 4) (v := .int (nI (sr_cop pre))) (ty := t_S 8) (C := R_S) (T := T_S) (N := 12) hx hb (uw_S Z.1 hg.1) (fun _ h => h) t_S t_S_ok n_S hown hK hP hD hS 0 rfl rfl 8 (by decide) (kw95 Z.1 _ _ hg.1) (fun _ h9 => h9) rfl (by decide +kernel) rfl rfl (Nat.le_of_ble_eq_true rfl) d_S_keepIfBetter_27 (fun H locs hP hD hS => ?_)
      have hP : va_P D ncl (w_S a cA (va_up ii 8 (nI (sr_cop pre))) li ia la) H := hP
      have hD : va_D _ (w_S a cA (va_up ii 8 (nI (sr_cop pre))) li ia la) := hD
      refine lv_aload_n hx hb d_S_keepIfBetter_30 rfl (lv_at hl 0 rfl) ?_
      refine lv_iload_n hx hb d_S_keepIfBetter_31 rfl (lv_at hl 1 rfl) ?_
      refine va_put (D := D) (ci := 4) (v := .int (nI pre.length)) (ty := t_S 7) (C := R_S) (T := T_S) (N := 12) hx hb (uw_S Z.1 hg.1) (fun _ h => h) t_S t_S_ok n_S hown hK hP hD hS 0 rfl rfl 7 (by decide) (kw93 Z.1 _ _ hg.1) (fun _ h9 => h9) rfl (by decide +kernel) rfl rfl (Nat.le_of_ble_eq_true rfl) d_S_keepIfBetter_32 (fun H locs hP hD hS => ?_)
      have hP : va_P D ncl (w_S a cA (va_up (va_up ii 8 (nI (sr_cop pre))) 7 (nI pre.length)) li ia la) H := hP
      have hD : va_D _ (w_S a cA (va_up (va_up ii 8 (nI (sr_cop pre))) 7 (nI pre.length)) li ia la) := hD
      refine lv_iconst (v := 0) hx hb d_S_keepIfBetter_35 (by decide) ?_
      refine lv_topi (fun z9 ez9 => ?_)
      obtain rfl : z9 = (nI 0) := by rw [ez9]; rfl
      refine lv_istore_n (lv' := [(3, .int (nI 0)), (0, .ref (a 0)), (1, .int (nI pre.length)), (2, .int (nI (sr_cop pre)))]) hx hb d_S_keepIfBetter_36 rfl hl (by decide) rfl (fun ls hl => ?_)
      have loop : ∀ (f : Nat) (k : Nat) (ib : Nat → Nat → Int32), pre.length - k < f → k ≤ pre.length → (∀ z, z ≠ 5 → z ≠ 6 → ib z = ia z) → (∀ j, j < k → ib 5 j = ia 3 j ∧ ib 6 j = ia 4 j) → ∀ (H : Heap) (locs : List Loc), va_P D ncl (w_S a cA (va_up (va_up ii 8 (nI (sr_cop pre))) 7 (nI pre.length)) li ib la) H → va_D (va_A (w_S a cA ii li ia la) s.heap.size) (w_S a cA (va_up (va_up ii 8 (nI (sr_cop pre))) 7 (nI pre.length)) li ib la) → va_S (va_A (w_S a cA ii li ia la) s.heap.size) s.heap H locs → ∀ (ls : Array Slot), lv_has ls 4 [(0, .ref (a 0)), (1, .int (nI pre.length)), (3, .int (nI k))] → W p l e ({ frames := 0, cells := 0, slots := 0, locals := 0 }) s m ([.ref (a 0), .int (nI pre.length), .int (nI (sr_cop pre))] : List Value).toArray below meth c H locs 0 0 (MQ below (va_Qv (fun u => sR room hi wl M mr gap pre (sr_keep best pre) u) (wB D (va_A (w_S a cA ii li ia la) s.heap.size) (fun u => w_S a cA u.1 u.2.1 u.2.2.1 u.2.2.2)) (va_A (w_S a cA ii li ia la) s.heap.size)) ([.ref (a 0), .int (nI pre.length), .int (nI (sr_cop pre))] : List Value).toArray s 0 0 (va_A (w_S a cA ii li ia la) s.heap.size)) (F0 m 37 ls []) := by
        intro f
        induction f with
        | zero => intro k ib h; exact absurd h (Nat.not_lt_zero _)
        | succ f ih =>
          intro k ib hf hk h5 h6 H locs hP hD hS ls hl
          refine lv_iload_n hx hb d_S_keepIfBetter_37 rfl (lv_at hl 2 rfl) ?_
          refine lv_iload_n hx hb d_S_keepIfBetter_38 rfl (lv_at hl 1 rfl) ?_
          refine lv_icmp_ge (tgt := 72) hx hb d_S_keepIfBetter_39 (by decide) (fun e10 => ?_) (fun e10 => ?_)
          · have hkn : k = pre.length := by have := (nI_leI (by omega) (by omega)).mp e10; omega
            exact w_vret hx hb hr hlk hP hD hS ((va_up (va_up ii 8 (nI (sr_cop pre))) 7 (nI pre.length)), li, ib, la) rfl (by rw [hbt]; exact ⟨fun z hz => by rw [show ((va_up (va_up ii 8 (nI (sr_cop pre))) 7 (nI pre.length)), li, ib, la).2.2.1 = ib from rfl, h5 0 (by decide) (by decide)]; exact u1 z hz, fun z hz => by rw [show ((va_up (va_up ii 8 (nI (sr_cop pre))) 7 (nI pre.length)), li, ib, la).2.2.1 = ib from rfl, h5 2 (by decide) (by decide)]; exact u2 z hz, ⟨rfl, rfl, hp, hc⟩, u7, fun j hj => by rw [show ((va_up (va_up ii 8 (nI (sr_cop pre))) 7 (nI pre.length)), li, ib, la).2.2.1 = ib from rfl, h5 3 (by decide) (by decide), h5 4 (by decide) (by decide)]; exact u8 j hj, fun j hj => by have := h6 j (by omega); rw [show ((va_up (va_up ii 8 (nI (sr_cop pre))) 7 (nI pre.length)), li, ib, la).2.2.1 = ib from rfl, this.1, this.2]; exact u8 j hj⟩) d_S_keepIfBetter_72
          · have hkn : k < pre.length := Nat.lt_of_not_le (fun z => e10 ((nI_leI (by omega) (by omega)).mpr z))
            refine lv_aload_n hx hb d_S_keepIfBetter_42 rfl (lv_at hl 0 rfl) ?_
            refine va_get (D := D) (ci := 4) (v := .ref (a 6)) (C := R_S) (T := T_S) (N := 12) hx hb (uw_S Z.1 hg.1) (fun _ h => h) hown hK hP 0 rfl rfl 5 (by decide) (kw89 Z.1 _ _ hg.1) (fun _ h9 => h9) rfl d_S_keepIfBetter_43 ?_
            refine lv_iload_n hx hb d_S_keepIfBetter_46 rfl (lv_at hl 2 rfl) ?_
            refine lv_aload_n hx hb d_S_keepIfBetter_47 rfl (lv_at hl 0 rfl) ?_
            refine va_get (D := D) (ci := 4) (v := .ref (a 4)) (C := R_S) (T := T_S) (N := 12) hx hb (uw_S Z.1 hg.1) (fun _ h => h) hown hK hP 0 rfl rfl 3 (by decide) (kw87 Z.1 _ _ hg.1) (fun _ h9 => h9) rfl d_S_keepIfBetter_48 ?_
            refine lv_iload_n hx hb d_S_keepIfBetter_51 rfl (lv_at hl 2 rfl) ?_
            refine va_iald hx hb hK hP 4 0 rfl rfl (vp_in_nI (n := k) (N := 9) (by omega) (by decide)) d_S_keepIfBetter_52 ?_
            refine lv_topi (fun z11 ez11 => ?_)
            rw [nI_clamp (n := k) (by omega)] at ez11
            obtain rfl : z11 = ((ib 3) k) := ez11
            refine va_iast hx hb hK hP hD hS 6 0 rfl rfl (vp_in_nI (n := k) (N := 9) (by omega) (by decide)) d_S_keepIfBetter_53 (fun H locs hP hD hS => ?_)
            rw [nI_clamp (n := k) (by omega)] at hP hD
            have hP : va_P D ncl (w_S a cA (va_up (va_up ii 8 (nI (sr_cop pre))) 7 (nI pre.length)) li (va_up ib 5 (upd (ib 5) k ((ib 3) k))) la) H := hP
            have hD : va_D _ (w_S a cA (va_up (va_up ii 8 (nI (sr_cop pre))) 7 (nI pre.length)) li (va_up ib 5 (upd (ib 5) k ((ib 3) k))) la) := hD
            refine lv_aload_n hx hb d_S_keepIfBetter_54 rfl (lv_at hl 0 rfl) ?_
            refine va_get (D := D) (ci := 4) (v := .ref (a 7)) (C := R_S) (T := T_S) (N := 12) hx hb (uw_S Z.1 hg.1) (fun _ h => h) hown hK hP 0 rfl rfl 6 (by decide) (kw91 Z.1 _ _ hg.1) (fun _ h9 => h9) rfl d_S_keepIfBetter_55 ?_
            refine lv_iload_n hx hb d_S_keepIfBetter_58 rfl (lv_at hl 2 rfl) ?_
            refine lv_aload_n hx hb d_S_keepIfBetter_59 rfl (lv_at hl 0 rfl) ?_
            refine va_get (D := D) (ci := 4) (v := .ref (a 5)) (C := R_S) (T := T_S) (N := 12) hx hb (uw_S Z.1 hg.1) (fun _ h => h) hown hK hP 0 rfl rfl 4 (by decide) (kw88 Z.1 _ _ hg.1) (fun _ h9 => h9) rfl d_S_keepIfBetter_60 ?_
            refine lv_iload_n hx hb d_S_keepIfBetter_63 rfl (lv_at hl 2 rfl) ?_
            refine va_iald hx hb hK hP 5 0 rfl rfl (vp_in_nI (n := k) (N := 9) (by omega) (by decide)) d_S_keepIfBetter_64 ?_
            refine lv_topi (fun z12 ez12 => ?_)
            rw [nI_clamp (n := k) (by omega)] at ez12
            obtain rfl : z12 = ((ib 4) k) := ez12
            refine va_iast hx hb hK hP hD hS 7 0 rfl rfl (vp_in_nI (n := k) (N := 9) (by omega) (by decide)) d_S_keepIfBetter_65 (fun H locs hP hD hS => ?_)
            rw [nI_clamp (n := k) (by omega)] at hP hD
            have hP : va_P D ncl (w_S a cA (va_up (va_up ii 8 (nI (sr_cop pre))) 7 (nI pre.length)) li (va_up (va_up ib 5 (upd (ib 5) k ((ib 3) k))) 6 (upd (ib 6) k ((ib 4) k))) la) H := hP
            have hD : va_D _ (w_S a cA (va_up (va_up ii 8 (nI (sr_cop pre))) 7 (nI pre.length)) li (va_up (va_up ib 5 (upd (ib 5) k ((ib 3) k))) 6 (upd (ib 6) k ((ib 4) k))) la) := hD
            obtain ⟨v13, ev13⟩ : ∃ y : Int32, y = (nI k) + 1 := ⟨_, rfl⟩
            refine lv_iinc (v := v13) (lv' := [(3, .int v13), (0, .ref (a 0)), (1, .int (nI pre.length))]) hx hb d_S_keepIfBetter_66 hl (k := 2) rfl (by rw [ev13]; rfl) (by decide) rfl (fun ls hl => ?_)
            refine lv_goto (tgt := 37) hx hb d_S_keepIfBetter_69 (by decide) ?_
            obtain rfl : v13 = nI (k + 1) := by rw [ev13]; exact nI_1 k
            exact ih (k + 1) _ (by omega) (by omega) (fun z h1 h2 => by rw [up_n _ _ h2, up_n _ _ h1]; exact h5 z h1 h2) (fun j hj => by rw [up_n _ _ (by decide), up_s, up_s]; rcases Nat.lt_or_ge j k with q | q; (rw [upd_n _ _ (by omega), upd_n _ _ (by omega)]; exact h6 j q); (have : j = k := by omega); subst this; rw [upd_s, upd_s, h5 3 (by decide) (by decide), h5 4 (by decide) (by decide)]; exact ⟨rfl, rfl⟩) _ _ hP hD hS ls (lv_sub hl [1, 2, 0] rfl)
      exact loop (pre.length + 1) 0 ia (by omega) (by omega) (fun _ _ _ => rfl) lt_0 _ _ hP hD hS ls (lv_sub hl [1, 2, 0] rfl)
    · have h2 : sr_cop pre = sr_cop best := by rw [u4] at d2; exact (nI_eq (by omega) (by omega)).mp d2
      refine lv_iload_n hx hb d_S_keepIfBetter_16 rfl (lv_at hl 1 rfl) ?_
      refine lv_aload_n hx hb d_S_keepIfBetter_17 rfl (lv_at hl 0 rfl) ?_
      refine va_get (D := D) (ci := 4) (v := .int (ii 7)) (C := R_S) (T := T_S) (N := 12) hx hb (uw_S Z.1 hg.1) (fun _ h => h) hown hK hP 0 rfl rfl 7 (by decide) (kw93 Z.1 _ _ hg.1) (fun _ h9 => h9) rfl d_S_keepIfBetter_18 ?_
      refine lv_icmp_lt (tgt := 25) hx hb d_S_keepIfBetter_21 (by decide) (fun g3 => ?_) (fun g3 => ?_)
      · have h3 : pre.length < best.length := by rw [u3] at g3; exact (nI_ltI (by omega) (by omega)).mp g3
        have hbt : sr_keep best pre = pre := if_pos (by simp only [sr_bet, Bool.or_eq_true, Bool.and_eq_true, decide_eq_true_eq]; omega)
        refine lv_aload_n hx hb d_S_keepIfBetter_25 rfl (lv_at hl 0 rfl) ?_
        refine lv_iload_n hx hb d_S_keepIfBetter_26 rfl (lv_at hl 2 rfl) ?_
        refine va_put (D := D) (ci := 4) (v := .int (nI (sr_cop pre))) (ty := t_S 8) (C := R_S) (T := T_S) (N := 12) hx hb (uw_S Z.1 hg.1) (fun _ h => h) t_S t_S_ok n_S hown hK hP hD hS 0 rfl rfl 8 (by decide) (kw95 Z.1 _ _ hg.1) (fun _ h9 => h9) rfl (by decide +kernel) rfl rfl (Nat.le_of_ble_eq_true rfl) d_S_keepIfBetter_27 (fun H locs hP hD hS => ?_)
        have hP : va_P D ncl (w_S a cA (va_up ii 8 (nI (sr_cop pre))) li ia la) H := hP
        have hD : va_D _ (w_S a cA (va_up ii 8 (nI (sr_cop pre))) li ia la) := hD
        refine lv_aload_n hx hb d_S_keepIfBetter_30 rfl (lv_at hl 0 rfl) ?_
        refine lv_iload_n hx hb d_S_keepIfBetter_31 rfl (lv_at hl 1 rfl) ?_
        refine va_put (D := D) (ci := 4) (v := .int (nI pre.length)) (ty := t_S 7) (C := R_S) (T := T_S) (N := 12) hx hb (uw_S Z.1 hg.1) (fun _ h => h) t_S t_S_ok n_S hown hK hP hD hS 0 rfl rfl 7 (by decide) (kw93 Z.1 _ _ hg.1) (fun _ h9 => h9) rfl (by decide +kernel) rfl rfl (Nat.le_of_ble_eq_true rfl) d_S_keepIfBetter_32 (fun H locs hP hD hS => ?_)
        have hP : va_P D ncl (w_S a cA (va_up (va_up ii 8 (nI (sr_cop pre))) 7 (nI pre.length)) li ia la) H := hP
        have hD : va_D _ (w_S a cA (va_up (va_up ii 8 (nI (sr_cop pre))) 7 (nI pre.length)) li ia la) := hD
        refine lv_iconst (v := 0) hx hb d_S_keepIfBetter_35 (by decide) ?_
        refine lv_topi (fun z4 ez4 => ?_)
        obtain rfl : z4 = (nI 0) := by rw [ez4]; rfl
        refine lv_istore_n (lv' := [(3, .int (nI 0)), (0, .ref (a 0)), (1, .int (nI pre.length)), (2, .int (nI (sr_cop pre)))]) hx hb d_S_keepIfBetter_36 rfl hl (by decide) rfl (fun ls hl => ?_)
        have loop : ∀ (f : Nat) (k : Nat) (ib : Nat → Nat → Int32), pre.length - k < f → k ≤ pre.length → (∀ z, z ≠ 5 → z ≠ 6 → ib z = ia z) → (∀ j, j < k → ib 5 j = ia 3 j ∧ ib 6 j = ia 4 j) → ∀ (H : Heap) (locs : List Loc), va_P D ncl (w_S a cA (va_up (va_up ii 8 (nI (sr_cop pre))) 7 (nI pre.length)) li ib la) H → va_D (va_A (w_S a cA ii li ia la) s.heap.size) (w_S a cA (va_up (va_up ii 8 (nI (sr_cop pre))) 7 (nI pre.length)) li ib la) → va_S (va_A (w_S a cA ii li ia la) s.heap.size) s.heap H locs → ∀ (ls : Array Slot), lv_has ls 4 [(0, .ref (a 0)), (1, .int (nI pre.length)), (3, .int (nI k))] → W p l e ({ frames := 0, cells := 0, slots := 0, locals := 0 }) s m ([.ref (a 0), .int (nI pre.length), .int (nI (sr_cop pre))] : List Value).toArray below meth c H locs 0 0 (MQ below (va_Qv (fun u => sR room hi wl M mr gap pre (sr_keep best pre) u) (wB D (va_A (w_S a cA ii li ia la) s.heap.size) (fun u => w_S a cA u.1 u.2.1 u.2.2.1 u.2.2.2)) (va_A (w_S a cA ii li ia la) s.heap.size)) ([.ref (a 0), .int (nI pre.length), .int (nI (sr_cop pre))] : List Value).toArray s 0 0 (va_A (w_S a cA ii li ia la) s.heap.size)) (F0 m 37 ls []) := by
          intro f
          induction f with
          | zero => intro k ib h; exact absurd h (Nat.not_lt_zero _)
          | succ f ih =>
            intro k ib hf hk h5 h6 H locs hP hD hS ls hl
            refine lv_iload_n hx hb d_S_keepIfBetter_37 rfl (lv_at hl 2 rfl) ?_
            refine lv_iload_n hx hb d_S_keepIfBetter_38 rfl (lv_at hl 1 rfl) ?_
            refine lv_icmp_ge (tgt := 72) hx hb d_S_keepIfBetter_39 (by decide) (fun e5 => ?_) (fun e5 => ?_)
            · have hkn : k = pre.length := by have := (nI_leI (by omega) (by omega)).mp e5; omega
              exact w_vret hx hb hr hlk hP hD hS ((va_up (va_up ii 8 (nI (sr_cop pre))) 7 (nI pre.length)), li, ib, la) rfl (by rw [hbt]; exact ⟨fun z hz => by rw [show ((va_up (va_up ii 8 (nI (sr_cop pre))) 7 (nI pre.length)), li, ib, la).2.2.1 = ib from rfl, h5 0 (by decide) (by decide)]; exact u1 z hz, fun z hz => by rw [show ((va_up (va_up ii 8 (nI (sr_cop pre))) 7 (nI pre.length)), li, ib, la).2.2.1 = ib from rfl, h5 2 (by decide) (by decide)]; exact u2 z hz, ⟨rfl, rfl, hp, hc⟩, u7, fun j hj => by rw [show ((va_up (va_up ii 8 (nI (sr_cop pre))) 7 (nI pre.length)), li, ib, la).2.2.1 = ib from rfl, h5 3 (by decide) (by decide), h5 4 (by decide) (by decide)]; exact u8 j hj, fun j hj => by have := h6 j (by omega); rw [show ((va_up (va_up ii 8 (nI (sr_cop pre))) 7 (nI pre.length)), li, ib, la).2.2.1 = ib from rfl, this.1, this.2]; exact u8 j hj⟩) d_S_keepIfBetter_72
            · have hkn : k < pre.length := Nat.lt_of_not_le (fun z => e5 ((nI_leI (by omega) (by omega)).mpr z))
              refine lv_aload_n hx hb d_S_keepIfBetter_42 rfl (lv_at hl 0 rfl) ?_
              refine va_get (D := D) (ci := 4) (v := .ref (a 6)) (C := R_S) (T := T_S) (N := 12) hx hb (uw_S Z.1 hg.1) (fun _ h => h) hown hK hP 0 rfl rfl 5 (by decide) (kw89 Z.1 _ _ hg.1) (fun _ h9 => h9) rfl d_S_keepIfBetter_43 ?_
              refine lv_iload_n hx hb d_S_keepIfBetter_46 rfl (lv_at hl 2 rfl) ?_
              refine lv_aload_n hx hb d_S_keepIfBetter_47 rfl (lv_at hl 0 rfl) ?_
              refine va_get (D := D) (ci := 4) (v := .ref (a 4)) (C := R_S) (T := T_S) (N := 12) hx hb (uw_S Z.1 hg.1) (fun _ h => h) hown hK hP 0 rfl rfl 3 (by decide) (kw87 Z.1 _ _ hg.1) (fun _ h9 => h9) rfl d_S_keepIfBetter_48 ?_
              refine lv_iload_n hx hb d_S_keepIfBetter_51 rfl (lv_at hl 2 rfl) ?_
              refine va_iald hx hb hK hP 4 0 rfl rfl (vp_in_nI (n := k) (N := 9) (by omega) (by decide)) d_S_keepIfBetter_52 ?_
              refine lv_topi (fun z6 ez6 => ?_)
              rw [nI_clamp (n := k) (by omega)] at ez6
              obtain rfl : z6 = ((ib 3) k) := ez6
              refine va_iast hx hb hK hP hD hS 6 0 rfl rfl (vp_in_nI (n := k) (N := 9) (by omega) (by decide)) d_S_keepIfBetter_53 (fun H locs hP hD hS => ?_)
              rw [nI_clamp (n := k) (by omega)] at hP hD
              have hP : va_P D ncl (w_S a cA (va_up (va_up ii 8 (nI (sr_cop pre))) 7 (nI pre.length)) li (va_up ib 5 (upd (ib 5) k ((ib 3) k))) la) H := hP
              have hD : va_D _ (w_S a cA (va_up (va_up ii 8 (nI (sr_cop pre))) 7 (nI pre.length)) li (va_up ib 5 (upd (ib 5) k ((ib 3) k))) la) := hD
              refine lv_aload_n hx hb d_S_keepIfBetter_54 rfl (lv_at hl 0 rfl) ?_
              refine va_get (D := D) (ci := 4) (v := .ref (a 7)) (C := R_S) (T := T_S) (N := 12) hx hb (uw_S Z.1 hg.1) (fun _ h => h) hown hK hP 0 rfl rfl 6 (by decide) (kw91 Z.1 _ _ hg.1) (fun _ h9 => h9) rfl d_S_keepIfBetter_55 ?_
              refine lv_iload_n hx hb d_S_keepIfBetter_58 rfl (lv_at hl 2 rfl) ?_
              refine lv_aload_n hx hb d_S_keepIfBetter_59 rfl (lv_at hl 0 rfl) ?_
              refine va_get (D := D) (ci := 4) (v := .ref (a 5)) (C := R_S) (T := T_S) (N := 12) hx hb (uw_S Z.1 hg.1) (fun _ h => h) hown hK hP 0 rfl rfl 4 (by decide) (kw88 Z.1 _ _ hg.1) (fun _ h9 => h9) rfl d_S_keepIfBetter_60 ?_
              refine lv_iload_n hx hb d_S_keepIfBetter_63 rfl (lv_at hl 2 rfl) ?_
              refine va_iald hx hb hK hP 5 0 rfl rfl (vp_in_nI (n := k) (N := 9) (by omega) (by decide)) d_S_keepIfBetter_64 ?_
              refine lv_topi (fun z7 ez7 => ?_)
              rw [nI_clamp (n := k) (by omega)] at ez7
              obtain rfl : z7 = ((ib 4) k) := ez7
              refine va_iast hx hb hK hP hD hS 7 0 rfl rfl (vp_in_nI (n := k) (N := 9) (by omega) (by decide)) d_S_keepIfBetter_65 (fun H locs hP hD hS => ?_)
              rw [nI_clamp (n := k) (by omega)] at hP hD
              have hP : va_P D ncl (w_S a cA (va_up (va_up ii 8 (nI (sr_cop pre))) 7 (nI pre.length)) li (va_up (va_up ib 5 (upd (ib 5) k ((ib 3) k))) 6 (upd (ib 6) k ((ib 4) k))) la) H := hP
              have hD : va_D _ (w_S a cA (va_up (va_up ii 8 (nI (sr_cop pre))) 7 (nI pre.length)) li (va_up (va_up ib 5 (upd (ib 5) k ((ib 3) k))) 6 (upd (ib 6) k ((ib 4) k))) la) := hD
              obtain ⟨v8, ev8⟩ : ∃ y : Int32, y = (nI k) + 1 := ⟨_, rfl⟩
              refine lv_iinc (v := v8) (lv' := [(3, .int v8), (0, .ref (a 0)), (1, .int (nI pre.length))]) hx hb d_S_keepIfBetter_66 hl (k := 2) rfl (by rw [ev8]; rfl) (by decide) rfl (fun ls hl => ?_)
              refine lv_goto (tgt := 37) hx hb d_S_keepIfBetter_69 (by decide) ?_
              obtain rfl : v8 = nI (k + 1) := by rw [ev8]; exact nI_1 k
              exact ih (k + 1) _ (by omega) (by omega) (fun z h1 h2 => by rw [up_n _ _ h2, up_n _ _ h1]; exact h5 z h1 h2) (fun j hj => by rw [up_n _ _ (by decide), up_s, up_s]; rcases Nat.lt_or_ge j k with q | q; (rw [upd_n _ _ (by omega), upd_n _ _ (by omega)]; exact h6 j q); (have : j = k := by omega); subst this; rw [upd_s, upd_s, h5 3 (by decide) (by decide), h5 4 (by decide) (by decide)]; exact ⟨rfl, rfl⟩) _ _ hP hD hS ls (lv_sub hl [1, 2, 0] rfl)
        exact loop (pre.length + 1) 0 ia (by omega) (by omega) (fun _ _ _ => rfl) lt_0 _ _ hP hD hS ls (lv_sub hl [1, 2, 0] rfl)
      · have h3 : ¬ pre.length < best.length := fun q => g3 (by rw [u3]; exact (nI_ltI (by omega) (by omega)).mpr q)
        exact w_vret hx hb hr hlk hP hD hS (ii, li, ia, la) rfl (by have e : sr_keep best pre = best := if_neg (by simp only [sr_bet, Bool.or_eq_true, Bool.and_eq_true, decide_eq_true_eq]; omega); rw [e]; exact hu) d_S_keepIfBetter_24
