/-- a board's box -/
def boxR (lb : Nat → Int64) (w h : Nat) : Prop := ∃ x7 x8 x9 x10 : Nat, lb 7 = lN x7 ∧ lb 8 = lN x8 ∧ lb 9 = lN x9 ∧ lb 10 = lN x10 ∧ x7 ≤ x9 ∧ x8 ≤ x10 ∧ x9 ≤ 65536 ∧ x10 ≤ 65536 ∧ w = x9 - x7 ∧ h = x10 - x8
theorem bx_w {lb : Nat → Int64} {w h : Nat} (x : boxR lb w h) : lb 9 - lb 7 = lN w := by
  obtain ⟨x7, x8, x9, x10, e7, e8, e9, e10, h1, h2, h3, h4, h5, h6⟩ := x
  rw [e9, e7, lN_sub h1, h5]
theorem bx_h {lb : Nat → Int64} {w h : Nat} (x : boxR lb w h) : lb 10 - lb 8 = lN h := by
  obtain ⟨x7, x8, x9, x10, e7, e8, e9, e10, h1, h2, h3, h4, h5, h6⟩ := x
  rw [e10, e8, lN_sub h2, h6]
theorem bx_le {lb : Nat → Int64} {w h : Nat} (x : boxR lb w h) : w ≤ 65536 ∧ h ≤ 65536 := by
  obtain ⟨x7, x8, x9, x10, e7, e8, e9, e10, h1, h2, h3, h4, h5, h6⟩ := x
  omega
theorem bx_ar {lb : Nat → Int64} {w h : Nat} (x : boxR lb w h) : (lb 7 < lb 9 ∧ lb 8 < lb 10) ↔ (w ≠ 0 ∧ h ≠ 0) := by
  obtain ⟨x7, x8, x9, x10, e7, e8, e9, e10, h1, h2, h3, h4, h5, h6⟩ := x
  rw [e7, e8, e9, e10, lN_lt (by omega) (by omega), lN_lt (by omega) (by omega)]
  omega
def rF8 (ac : Int) (g : Nat) (bw bh : Nat → Nat) (k : Nat) : Nat := if bw (k / 2) ≠ 0 ∧ bh (k / 2) ≠ 0 then rm_ ac (wkF bw bh k) g else 0
def rfN (ac : Int) (g : Nat) (bw bh : Nat → Nat) (m k : Nat) : Nat := if k < m then rF8 ac g bw bh k else 0
theorem rm_le (ac : Int) (w g : Nat) : rm_ ac w g ≤ 20 := by unfold rm_; split; exact Nat.zero_le _; exact Nat.min_le_right _ _
theorem rfN_le (ac : Int) (g : Nat) (bw bh : Nat → Nat) (m k : Nat) : rfN ac g bw bh m k ≤ 20 := by
  unfold rfN rF8; split; split; exact rm_le _ _ _; exact Nat.zero_le _; exact Nat.zero_le _
/-- the searcher, readied for the first m kinds -/
def prJ (ac : Int) (g : Nat) (bw bh wt : Nat → Nat) (M m : Nat) (u : St) : Prop := ∃ (hi wl : Nat → Nat) (mr : Nat), sR (rfN ac g bw bh m) hi wl M mr g [] [] u ∧ (∀ k, rfN ac g bw bh m k ≤ mr) ∧ (∀ k, k < m → bw (k / 2) ≠ 0 → bh (k / 2) ≠ 0 → hi k = hgF bw bh k ∧ wl (k / 2) = wt (k / 2))
theorem prJ_0 {ac : Int} {g M mr gap : Nat} {bw bh wt room hi wl : Nat → Nat} {best : List (Nat × Nat)} {v u : St} (hg : g ≤ 65536) (h : sR room hi wl M mr gap [] best v) (h1 : u.1 = va_up (va_up (va_up v.1 7 0) 8 0) 10 0) (h2 : u.2.1 = va_up v.2.1 11 (lN g)) (h3 : ∀ z, z ≠ 0 → u.2.2.1 z = v.2.2.1 z) (h4 : ∀ k, k < 8 → u.2.2.1 0 k = 0) (h5 : u.2.2.2 = v.2.2.2) : prJ ac g bw bh wt M 0 u := by
  obtain ⟨a1, a2, a3, a4, a5, a6⟩ := h
  refine ⟨hi, wl, 0, ⟨fun k hk => ⟨h4 k hk, Nat.zero_le _, by rw [h5]; exact (a1 k hk).2.2.1, (a1 k hk).2.2.2⟩, fun b hb => ⟨by rw [h3 2 (by decide)]; exact (a2 b hb).1, (a2 b hb).2⟩, ⟨by rw [h1]; rfl, by rw [h1]; rfl, by decide, by decide⟩, ⟨by rw [h1]; exact a4.1, a4.2.1, by rw [h1]; rfl, by decide, by rw [h2]; exact up_s _ _ _, hg⟩, fun j hj => absurd hj (Nat.not_lt_zero _), fun j hj => absurd hj (Nat.not_lt_zero _)⟩, fun k => Nat.le_refl 0, fun k hk => absurd hk (Nat.not_lt_zero _)⟩
theorem rfN_no {ac : Int} {g : Nat} {bw bh : Nat → Nat} {n : Nat} (h : ¬ (bw n ≠ 0 ∧ bh n ≠ 0)) : rfN ac g bw bh (2 * n) = rfN ac g bw bh (2 * (n + 1)) := by
  funext k
  unfold rfN
  by_cases h1 : k < 2 * n
  · rw [if_pos h1, if_pos (by omega)]
  · rw [if_neg h1]
    by_cases h2 : k < 2 * (n + 1)
    · rw [if_pos h2, rF8, if_neg (by rw [show k / 2 = n by omega]; exact h)]
    · rw [if_neg h2]
theorem prJ_no {ac : Int} {g M n : Nat} {bw bh wt : Nat → Nat} {u : St} (hn : ¬ (bw n ≠ 0 ∧ bh n ≠ 0)) (h : prJ ac g bw bh wt M (2 * n) u) : prJ ac g bw bh wt M (2 * (n + 1)) u := by
  obtain ⟨hi, wl, mr, h1, h2, h3⟩ := h
  refine ⟨hi, wl, mr, by rw [← rfN_no hn]; exact h1, fun k => by rw [← rfN_no hn]; exact h2 k, fun k hk hw hh => ?_⟩
  by_cases hk2 : k < 2 * n
  · exact h3 k hk2 hw hh
  · rw [show k / 2 = n by omega] at hw hh; exact absurd ⟨hw, hh⟩ hn
/-- within a board's turns -/
def prK (ac : Int) (g : Nat) (bw bh wt : Nat → Nat) (M n t : Nat) (u : St) : Prop := ∃ (hi wl : Nat → Nat) (mr : Nat), sR (rfN ac g bw bh (2 * n + t)) hi wl M mr g [] [] u ∧ (∀ k, rfN ac g bw bh (2 * n + t) k ≤ mr) ∧ (∀ k, k < 2 * n + t → bw (k / 2) ≠ 0 → bh (k / 2) ≠ 0 → hi k = hgF bw bh k ∧ wl (k / 2) = wt (k / 2)) ∧ wl n = wt n
theorem prK_0 {ac : Int} {g M n : Nat} {bw bh wt : Nat → Nat} {u : St} (hn : n < 4) (hw : wt n ≤ 200) (h : prJ ac g bw bh wt M (2 * n) u) : prK ac g bw bh wt M n 0 (u.1, u.2.1, va_up u.2.2.1 2 (upd (u.2.2.1 2) n (nI (wt n))), u.2.2.2) := by
  obtain ⟨hi, wl, mr, ⟨a1, a2, a3, a4, a5, a6⟩, h2, h3⟩ := h
  refine ⟨hi, va_up wl n (wt n), mr, ⟨fun k hk => ?_, fun b hb => ?_, a3, a4, fun j hj => absurd hj (Nat.not_lt_zero _), fun j hj => absurd hj (Nat.not_lt_zero _)⟩, h2, fun k hk w1 w2 => ?_, up_s _ _ _⟩
  · exact ⟨(a1 k hk).1, (a1 k hk).2⟩
  · show upd (u.2.2.1 2) n (nI (wt n)) b = _ ∧ _
    by_cases hb2 : b = n
    · rw [hb2, upd_s, up_s]; exact ⟨rfl, hw⟩
    · rw [upd_n _ _ hb2, up_n _ _ hb2]; exact a2 b hb
  · have := h3 k hk w1 w2
    rw [up_n _ _ (by omega)]; exact this
theorem prK_1 {ac : Int} {g M n t mr : Nat} {bw bh wt hi wl : Nat → Nat} {u : St} (hn : n < 4) (ht : t < 2) (hw0 : bw n ≠ 0) (hh0 : bh n ≠ 0) (hhg : hgF bw bh (2 * n + t) ≤ 65536) (h1 : sR (rfN ac g bw bh (2 * n + t)) hi wl M mr g [] [] u) (h2 : ∀ k, rfN ac g bw bh (2 * n + t) k ≤ mr) (h3 : ∀ k, k < 2 * n + t → bw (k / 2) ≠ 0 → bh (k / 2) ≠ 0 → hi k = hgF bw bh k ∧ wl (k / 2) = wt (k / 2)) (h4 : wl n = wt n) :
    prK ac g bw bh wt M n (t + 1) (va_up u.1 10 (nI (max mr (rm_ ac (wkF bw bh (2 * n + t)) g))), u.2.1, va_up u.2.2.1 0 (upd (u.2.2.1 0) (2 * n + t) (nI (rm_ ac (wkF bw bh (2 * n + t)) g))), va_up u.2.2.2 1 (vp_updL (u.2.2.2 1) (2 * n + t) (lN (hgF bw bh (2 * n + t))))) := by
  obtain ⟨a1, a2, a3, a4, a5, a6⟩ := h1
  have hk2 : (2 * n + t) / 2 = n := by omega
  have e : ∀ k, rfN ac g bw bh (2 * n + (t + 1)) k = if k = 2 * n + t then rm_ ac (wkF bw bh (2 * n + t)) g else rfN ac g bw bh (2 * n + t) k := by
    intro k
    unfold rfN
    by_cases hk : k = 2 * n + t
    · rw [if_pos hk, if_pos (by omega), rF8, hk, hk2, if_pos ⟨hw0, hh0⟩]
    · rw [if_neg hk]
      by_cases hk3 : k < 2 * n + t
      · rw [if_pos hk3, if_pos (by omega)]
      · rw [if_neg hk3, if_neg (by omega)]
  have hrm := rm_le ac (wkF bw bh (2 * n + t)) g
  refine ⟨va_up hi (2 * n + t) (hgF bw bh (2 * n + t)), wl, max mr (rm_ ac (wkF bw bh (2 * n + t)) g), ⟨fun k hk => ?_, fun b hb => ?_, a3, ⟨a4.1, a4.2.1, rfl, by have := a4.2.2.2.1; omega, a4.2.2.2.2⟩, fun j hj => absurd hj (Nat.not_lt_zero _), fun j hj => absurd hj (Nat.not_lt_zero _)⟩, fun k => ?_, fun k hk w1 w2 => ?_, h4⟩
  · show upd (u.2.2.1 0) (2 * n + t) (nI (rm_ ac (wkF bw bh (2 * n + t)) g)) k = _ ∧ _ ∧ vp_updL (u.2.2.2 1) (2 * n + t) (lN (hgF bw bh (2 * n + t))) k = _ ∧ _
    rw [e k]
    by_cases hkk : k = 2 * n + t
    · rw [hkk, upd_s, updL_s, up_s, if_pos rfl]; exact ⟨rfl, hrm, rfl, hhg⟩
    · rw [upd_n _ _ hkk, updL_n _ _ hkk, up_n _ _ hkk, if_neg hkk]; exact a1 k hk
  · exact ⟨(a2 b hb).1, (a2 b hb).2⟩
  · rw [e k]; have := h2 k; split <;> omega
  · by_cases hkk : k = 2 * n + t
    · rw [hkk, up_s, hk2]; exact ⟨rfl, h4⟩
    · rw [up_n _ _ hkk]; exact h3 k (by omega) w1 w2
theorem prK_2 {ac : Int} {g M n : Nat} {bw bh wt : Nat → Nat} {u : St} (h : prK ac g bw bh wt M n 2 u) : prJ ac g bw bh wt M (2 * (n + 1)) u := by
  obtain ⟨hi, wl, mr, h1, h2, h3, h4⟩ := h
  exact ⟨hi, wl, mr, h1, h2, h3⟩
theorem wk_2 (bw bh : Nat → Nat) {n t : Nat} (ht : t < 2) : wkF bw bh (2 * n + t) = if t = 0 then bw n else bh n := by
  unfold wkF
  rw [show (2 * n + t) / 2 = n by omega, show (2 * n + t) % 2 = t by omega]
theorem hg_2 (bw bh : Nat → Nat) {n t : Nat} (ht : t < 2) : hgF bw bh (2 * n + t) = if t = 0 then bh n else bw n := by
  unfold hgF
  rw [show (2 * n + t) / 2 = n by omega, show (2 * n + t) % 2 = t by omega]
set_option maxHeartbeats 4000000 in
set_option maxRecDepth 100000 in
theorem m_P_prepareSearch {l : Launch} {s0 : State} {D : va_G} {cA sa : Nat → Nat} (Z : zE l s0 D cA sa) (a : Nat → Nat) (ii : Nat → Int32) (li : Nat → Int64) (ia : Nat → Nat → Int32) (la : Nat → Nat → Int64) (bd : Nat → Nat) (sb : Nat → Nat) (is_ : Nat → Int32) (ls_ : Nat → Int64) (js : Nat → Nat → Int32) (ks : Nat → Nat → Int64) (hsa : sb 0 = a 5) (room hi wl : Nat → Nat) (M mr gap : Nat) (best : List (Nat × Nat)) (hs : sR room hi wl M mr gap [] best (is_, ls_, js, ks)) (bb : Nat → Nat → Nat) (Bi : Nat → Nat → Int32) (Bl : Nat → Nat → Int64) (Bj : Nat → Nat → Nat → Int32) (Bk : Nat → Nat → Nat → Int64) (hbd : ∀ k, k < 4 → bd k = bb k 0) (bw bh wt : Nat → Nat) (hbx : ∀ k, k < 4 → boxR (Bl k) (bw k) (bh k)) (hwt : ∀ k, k < 4 → Bi k 11 = nI (wt k) ∧ wt k ≤ 200) (ac : Int) (g lk : Nat) (hac : li 0 - la 3 0 - la 3 2 = lZ ac) (ha1 : -200000 ≤ ac) (ha2 : ac ≤ 65536) (hg7 : li 7 = lN g) (hg65 : g ≤ 65536) (hlk4 : lk ≤ 4) (sz : Nat) : Met l y_P_prepareSearch [.code y_P_prepareSearch c_P_prepareSearch 8 none] ({ frames := 2, cells := 0, slots := 0, locals := 200 }) (wP s0 D [.ref (a 0), .int (nI lk)] ((w_P a cA ii li ia la bd) ++ (w_S sb cA is_ ls_ js ks) ++ (w_B (bb 0) cA (Bi 0) (Bl 0) (Bj 0) (Bk 0)) ++ (w_B (bb 1) cA (Bi 1) (Bl 1) (Bj 1) (Bk 1)) ++ (w_B (bb 2) cA (Bi 2) (Bl 2) (Bj 2) (Bk 2)) ++ (w_B (bb 3) cA (Bi 3) (Bl 3) (Bj 3) (Bk 3))) sz) (va_Qv (fun (u : St) => prJ ac g bw bh wt M (2 * lk) u) (wB D (va_A ((w_P a cA ii li ia la bd) ++ (w_S sb cA is_ ls_ js ks) ++ (w_B (bb 0) cA (Bi 0) (Bl 0) (Bj 0) (Bk 0)) ++ (w_B (bb 1) cA (Bi 1) (Bl 1) (Bj 1) (Bk 1)) ++ (w_B (bb 2) cA (Bi 2) (Bl 2) (Bj 2) (Bk 2)) ++ (w_B (bb 3) cA (Bi 3) (Bl 3) (Bj 3) (Bk 3))) sz) (fun (u : St) => (w_P a cA ii li ia la bd) ++ (w_S sb cA u.1 u.2.1 u.2.2.1 u.2.2.2) ++ (w_B (bb 0) cA (Bi 0) (Bl 0) (Bj 0) (Bk 0)) ++ (w_B (bb 1) cA (Bi 1) (Bl 1) (Bj 1) (Bk 1)) ++ (w_B (bb 2) cA (Bi 2) (Bl 2) (Bj 2) (Bk 2)) ++ (w_B (bb 3) cA (Bi 3) (Bl 3) (Bj 3) (Bk 3)))) (va_A ((w_P a cA ii li ia la bd) ++ (w_S sb cA is_ ls_ js ks) ++ (w_B (bb 0) cA (Bi 0) (Bl 0) (Bj 0) (Bk 0)) ++ (w_B (bb 1) cA (Bi 1) (Bl 1) (Bj 1) (Bk 1)) ++ (w_B (bb 2) cA (Bi 2) (Bl 2) (Bj 2) (Bk 2)) ++ (w_B (bb 3) cA (Bi 3) (Bl 3) (Bj 3) (Bk 3))) sz)) 0 0 (va_A ((w_P a cA ii li ia la bd) ++ (w_S sb cA is_ ls_ js ks) ++ (w_B (bb 0) cA (Bi 0) (Bl 0) (Bj 0) (Bk 0)) ++ (w_B (bb 1) cA (Bi 1) (Bl 1) (Bj 1) (Bk 1)) ++ (w_B (bb 2) cA (Bi 2) (Bl 2) (Bj 2) (Bk 2)) ++ (w_B (bb 3) cA (Bi 3) (Bl 3) (Bj 3) (Bk 3))) sz) := by
  refine wMet Z (by decide) (Nat.le_of_ble_eq_true rfl) ?_
  intro p e s m below meth c hx hb hr hml hown hlk hin hg hK hsz hP hD hA hlo hS ls hl
  subst hsz
  have hown : s.vm.findClass R_P = some m.cls := hown
  refine lv_aload_n hx hb d_P_prepareSearch_0 rfl (lv_at hl 0 rfl) ?_
  refine va_get (D := D) (ci := 0) (v := .long (li 0)) (C := R_P) (T := T_P) (N := 10) hx hb (uw_P Z.1 hg.1) (fun _ h => h) hown hK hP 0 rfl rfl 0 (by decide) (kw198 Z.1 _ _ hg.1) (fun _ h9 => h9) rfl d_P_prepareSearch_1 ?_
  refine lv_aload_n hx hb d_P_prepareSearch_4 rfl (lv_at hl 0 rfl) ?_
  refine va_get (D := D) (ci := 0) (v := .ref (a 4)) (C := R_P) (T := T_P) (N := 10) hx hb (uw_P Z.1 hg.1) (fun _ h => h) hown hK hP 0 rfl rfl 3 (by decide) (kw201 Z.1 _ _ hg.1) (fun _ h9 => h9) rfl d_P_prepareSearch_5 ?_
  refine lv_iconst (v := 0) hx hb d_P_prepareSearch_8 (by decide) ?_
  refine va_lald hx hb hK hP 2 1 rfl rfl (by unfold vp_in; decide) d_P_prepareSearch_9 ?_
  refine lv_lsub hx hb d_P_prepareSearch_10 ?_
  refine lv_aload_n hx hb d_P_prepareSearch_11 rfl (lv_at hl 0 rfl) ?_
  refine va_get (D := D) (ci := 0) (v := .ref (a 4)) (C := R_P) (T := T_P) (N := 10) hx hb (uw_P Z.1 hg.1) (fun _ h => h) hown hK hP 0 rfl rfl 3 (by decide) (kw201 Z.1 _ _ hg.1) (fun _ h9 => h9) rfl d_P_prepareSearch_12 ?_
  refine lv_iconst (v := 2) hx hb d_P_prepareSearch_15 (by decide) ?_
  refine va_lald hx hb hK hP 2 1 rfl rfl (by unfold vp_in; decide) d_P_prepareSearch_16 ?_
  refine lv_lsub hx hb d_P_prepareSearch_17 ?_
  refine lv_topl (fun z1 ez1 => ?_)
  obtain rfl : z1 = (lZ ac) := by rw [ez1]; exact hac
  refine lv_lstore_n (lv' := [(2, .long (lZ ac)), (0, .ref (a 0)), (1, .int (nI lk))]) hx hb d_P_prepareSearch_18 rfl hl (by decide) rfl (fun ls hl => ?_)
  refine lv_aload_n hx hb d_P_prepareSearch_19 rfl (lv_at hl 1 rfl) ?_
  refine va_get (D := D) (ci := 0) (v := .ref (a 5)) (C := R_P) (T := T_P) (N := 10) hx hb (uw_P Z.1 hg.1) (fun _ h => h) hown hK hP 0 rfl rfl 4 (by decide) (kw202 Z.1 _ _ hg.1) (fun _ h9 => h9) rfl d_P_prepareSearch_20 ?_
  rw [← hsa]
  refine lv_aload_n hx hb d_P_prepareSearch_23 rfl (lv_at hl 1 rfl) ?_
  refine va_get (D := D) (ci := 0) (v := .long (li 7)) (C := R_P) (T := T_P) (N := 10) hx hb (uw_P Z.1 hg.1) (fun _ h => h) hown hK hP 0 rfl rfl 7 (by decide) (kw205 Z.1 _ _ hg.1) (fun _ h9 => h9) rfl d_P_prepareSearch_24 ?_
  rw [hg7]
  refine w_callv (wr := (w_P a cA ii li ia la bd) ++ (w_B (bb 0) cA (Bi 0) (Bl 0) (Bj 0) (Bk 0)) ++ (w_B (bb 1) cA (Bi 1) (Bl 1) (Bj 1) (Bk 1)) ++ (w_B (bb 2) cA (Bi 2) (Bl 2) (Bj 2) (Bk 2)) ++ (w_B (bb 3) cA (Bi 3) (Bl 3) (Bj 3) (Bk 3))) (w_runVN (rest := []) hx hb hml hown hl.1 hg hlo hK hP hD hS (m_S_begin Z sb is_ ls_ js ks (lN g) s.heap.size) (kw386 Z.1) (kw388 Z.1) (kp_S_begin Z.1) (kw389 Z.1) (kw4 Z.1) ⟨by decide, by decide, (by decide +kernel : (parseMethodDescriptor y_S_begin.desc).map (fun d => d.parameters.length) = some 1)⟩ ⟨Nat.le_of_ble_eq_true rfl, Nat.le_of_ble_eq_true rfl⟩ [3, 4, 5, 6, 7, 8, 9, 10] rfl rfl (ci := 4) (q0 := 3) rfl rfl rfl (Nat.le_of_ble_eq_true rfl) d_P_prepareSearch_27 ⟨Nat.le_of_ble_eq_true rfl, Nat.le_of_ble_eq_true rfl⟩) hP hD hS hA [3, 4, 5, 6, 7, 8, 9, 10] [0, 1, 2, 11, 12, 13, 14, 15, 16, 17, 18, 19, 20, 21, 22, 23, 24, 25, 26, 27, 28, 29, 30, 31, 32, 33, 34] rfl rfl rfl (by decide) (fun (u : St) => (w_P a cA ii li ia la bd) ++ (w_S sb cA u.1 u.2.1 u.2.2.1 u.2.2.2) ++ (w_B (bb 0) cA (Bi 0) (Bl 0) (Bj 0) (Bk 0)) ++ (w_B (bb 1) cA (Bi 1) (Bl 1) (Bj 1) (Bk 1)) ++ (w_B (bb 2) cA (Bi 2) (Bl 2) (Bj 2) (Bk 2)) ++ (w_B (bb 3) cA (Bi 3) (Bl 3) (Bj 3) (Bk 3))) [0, 1, 2, 27, 28, 29, 30, 31, 32, 33, 34, 3, 4, 5, 6, 7, 8, 9, 10, 11, 12, 13, 14, 15, 16, 17, 18, 19, 20, 21, 22, 23, 24, 25, 26] rfl (fun _ => rfl) (fun u0 H locs hq hP hD hS => ?_)
  refine W.widen (k := 0) (n := 0) (Nat.le_of_ble_eq_true rfl) (Nat.le_of_ble_eq_true rfl) ?_
  obtain ⟨q1, q2, q3, q4, q5⟩ := hq
  have hJ0 : prJ ac g bw bh wt M (2 * 0) u0 := prJ_0 hg65 hs q1 q2 q3 q4 q5
  refine lv_iconst (v := 0) hx hb d_P_prepareSearch_30 (by decide) ?_
  refine lv_topi (fun z3 ez3 => ?_)
  obtain rfl : z3 = (nI 0) := by rw [ez3]; rfl
  refine lv_istore (lv' := [(4, .int (nI 0)), (2, .long (lZ ac)), (0, .ref (a 0)), (1, .int (nI lk))]) hx hb d_P_prepareSearch_31 hl (by decide) rfl (fun ls hl => ?_)
  have loop : ∀ (f : Nat) (n : Nat) (u : St), lk - n < f → n ≤ lk → prJ ac g bw bh wt M (2 * n) u → ∀ (H : Heap) (locs : List Loc), va_P D ncl ((w_P a cA ii li ia la bd) ++ (w_S sb cA u.1 u.2.1 u.2.2.1 u.2.2.2) ++ (w_B (bb 0) cA (Bi 0) (Bl 0) (Bj 0) (Bk 0)) ++ (w_B (bb 1) cA (Bi 1) (Bl 1) (Bj 1) (Bk 1)) ++ (w_B (bb 2) cA (Bi 2) (Bl 2) (Bj 2) (Bk 2)) ++ (w_B (bb 3) cA (Bi 3) (Bl 3) (Bj 3) (Bk 3))) H → va_D (va_A ((w_P a cA ii li ia la bd) ++ (w_S sb cA is_ ls_ js ks) ++ (w_B (bb 0) cA (Bi 0) (Bl 0) (Bj 0) (Bk 0)) ++ (w_B (bb 1) cA (Bi 1) (Bl 1) (Bj 1) (Bk 1)) ++ (w_B (bb 2) cA (Bi 2) (Bl 2) (Bj 2) (Bk 2)) ++ (w_B (bb 3) cA (Bi 3) (Bl 3) (Bj 3) (Bk 3))) s.heap.size) ((w_P a cA ii li ia la bd) ++ (w_S sb cA u.1 u.2.1 u.2.2.1 u.2.2.2) ++ (w_B (bb 0) cA (Bi 0) (Bl 0) (Bj 0) (Bk 0)) ++ (w_B (bb 1) cA (Bi 1) (Bl 1) (Bj 1) (Bk 1)) ++ (w_B (bb 2) cA (Bi 2) (Bl 2) (Bj 2) (Bk 2)) ++ (w_B (bb 3) cA (Bi 3) (Bl 3) (Bj 3) (Bk 3))) → va_S (va_A ((w_P a cA ii li ia la bd) ++ (w_S sb cA is_ ls_ js ks) ++ (w_B (bb 0) cA (Bi 0) (Bl 0) (Bj 0) (Bk 0)) ++ (w_B (bb 1) cA (Bi 1) (Bl 1) (Bj 1) (Bk 1)) ++ (w_B (bb 2) cA (Bi 2) (Bl 2) (Bj 2) (Bk 2)) ++ (w_B (bb 3) cA (Bi 3) (Bl 3) (Bj 3) (Bk 3))) s.heap.size) s.heap H locs → ∀ (ls : Array Slot), lv_has ls 8 [(0, .ref (a 0)), (1, .int (nI lk)), (2, .long (lZ ac)), (4, .int (nI n))] → W p l e ({ frames := 2, cells := 0, slots := 0, locals := 200 }) s m ([.ref (a 0), .int (nI lk)] : List Value).toArray below meth c H locs 0 0 (MQ below (va_Qv (fun (u : St) => prJ ac g bw bh wt M (2 * lk) u) (wB D (va_A ((w_P a cA ii li ia la bd) ++ (w_S sb cA is_ ls_ js ks) ++ (w_B (bb 0) cA (Bi 0) (Bl 0) (Bj 0) (Bk 0)) ++ (w_B (bb 1) cA (Bi 1) (Bl 1) (Bj 1) (Bk 1)) ++ (w_B (bb 2) cA (Bi 2) (Bl 2) (Bj 2) (Bk 2)) ++ (w_B (bb 3) cA (Bi 3) (Bl 3) (Bj 3) (Bk 3))) s.heap.size) (fun (u : St) => (w_P a cA ii li ia la bd) ++ (w_S sb cA u.1 u.2.1 u.2.2.1 u.2.2.2) ++ (w_B (bb 0) cA (Bi 0) (Bl 0) (Bj 0) (Bk 0)) ++ (w_B (bb 1) cA (Bi 1) (Bl 1) (Bj 1) (Bk 1)) ++ (w_B (bb 2) cA (Bi 2) (Bl 2) (Bj 2) (Bk 2)) ++ (w_B (bb 3) cA (Bi 3) (Bl 3) (Bj 3) (Bk 3)))) (va_A ((w_P a cA ii li ia la bd) ++ (w_S sb cA is_ ls_ js ks) ++ (w_B (bb 0) cA (Bi 0) (Bl 0) (Bj 0) (Bk 0)) ++ (w_B (bb 1) cA (Bi 1) (Bl 1) (Bj 1) (Bk 1)) ++ (w_B (bb 2) cA (Bi 2) (Bl 2) (Bj 2) (Bk 2)) ++ (w_B (bb 3) cA (Bi 3) (Bl 3) (Bj 3) (Bk 3))) s.heap.size)) ([.ref (a 0), .int (nI lk)] : List Value).toArray s 0 0 (va_A ((w_P a cA ii li ia la bd) ++ (w_S sb cA is_ ls_ js ks) ++ (w_B (bb 0) cA (Bi 0) (Bl 0) (Bj 0) (Bk 0)) ++ (w_B (bb 1) cA (Bi 1) (Bl 1) (Bj 1) (Bk 1)) ++ (w_B (bb 2) cA (Bi 2) (Bl 2) (Bj 2) (Bk 2)) ++ (w_B (bb 3) cA (Bi 3) (Bl 3) (Bj 3) (Bk 3))) s.heap.size)) (F0 m 33 ls []) := by
    intro f
    induction f with
    | zero => intro n u h; exact absurd h (Nat.not_lt_zero _)
    | succ f ih =>
      intro n u hf hn1 hJ H locs hP hD hS ls hl
      have ihO := ih
      refine lv_iload hx hb d_P_prepareSearch_33 (lv_at hl 3 rfl) ?_
      refine lv_iload_n hx hb d_P_prepareSearch_35 rfl (lv_at hl 1 rfl) ?_
      refine lv_icmp_ge (tgt := 132) hx hb d_P_prepareSearch_36 (by decide) (fun c4 => ?_) (fun c4 => ?_)
      · obtain rfl : n = lk := by have := (nI_leI (by omega) (by omega)).mp c4; omega
        exact w_vret hx hb hr hlk hP hD hS u rfl hJ d_P_prepareSearch_132
      · have hnk : n < lk := Nat.lt_of_not_le (fun z => c4 ((nI_leI (by omega) (by omega)).mpr z))
        have hn4 : n < 4 := by omega
        have hbn := hbx n hn4
        have hbl := bx_le hbn
        refine lv_aload_n hx hb d_P_prepareSearch_39 rfl (lv_at hl 0 rfl) ?_
        refine va_get (D := D) (ci := 0) (v := .ref (a 3)) (C := R_P) (T := T_P) (N := 10) hx hb (uw_P Z.1 hg.1) (fun _ h => h) hown hK hP 0 rfl rfl 2 (by decide) (kw200 Z.1 _ _ hg.1) (fun _ h9 => h9) rfl d_P_prepareSearch_40 ?_
        refine lv_iload hx hb d_P_prepareSearch_43 (lv_at hl 3 rfl) ?_
        refine va_aldq hx hb hK hP 1 3 rfl rfl (vp_in_nI (n := n) (N := 4) (by omega) (by decide)) d_P_prepareSearch_45 ?_
        rw [nI_clamp (n := n) (by omega)]
        rw [show va_rf ((fun j => some (bd j)) n) = .ref ((bb n) 0) from congrArg Value.ref (hbd n hn4)]
        obtain ⟨hP, hD⟩ := bq_in (F := (fun k => w_B (bb k) cA (Bi k) (Bl k) (Bj k) (Bk k))) (X := (w_P a cA ii li ia la bd) ++ (w_S sb cA u.1 u.2.1 u.2.2.1 u.2.2.2)) (n := n) hn4 hP hD
        have hP : va_P D ncl ((w_P a cA ii li ia la bd) ++ (w_S sb cA u.1 u.2.1 u.2.2.1 u.2.2.2) ++ (w_B (bb n) cA (Bi n) (Bl n) (Bj n) (Bk n)) ++ (w_B (bb (pn n 0)) cA (Bi (pn n 0)) (Bl (pn n 0)) (Bj (pn n 0)) (Bk (pn n 0))) ++ (w_B (bb (pn n 1)) cA (Bi (pn n 1)) (Bl (pn n 1)) (Bj (pn n 1)) (Bk (pn n 1))) ++ (w_B (bb (pn n 2)) cA (Bi (pn n 2)) (Bl (pn n 2)) (Bj (pn n 2)) (Bk (pn n 2)))) H := hP
        have hD : va_D _ ((w_P a cA ii li ia la bd) ++ (w_S sb cA u.1 u.2.1 u.2.2.1 u.2.2.2) ++ (w_B (bb n) cA (Bi n) (Bl n) (Bj n) (Bk n)) ++ (w_B (bb (pn n 0)) cA (Bi (pn n 0)) (Bl (pn n 0)) (Bj (pn n 0)) (Bk (pn n 0))) ++ (w_B (bb (pn n 1)) cA (Bi (pn n 1)) (Bl (pn n 1)) (Bj (pn n 1)) (Bk (pn n 1))) ++ (w_B (bb (pn n 2)) cA (Bi (pn n 2)) (Bl (pn n 2)) (Bj (pn n 2)) (Bk (pn n 2)))) := hD
        refine lv_astore (lv' := [(5, .ref ((bb n) 0)), (0, .ref (a 0)), (1, .int (nI lk)), (2, .long (lZ ac)), (4, .int (nI n))]) hx hb d_P_prepareSearch_46 hl (by decide) rfl (fun ls hl => ?_)
        refine lv_aload hx hb d_P_prepareSearch_48 (lv_at hl 0 rfl) ?_
        refine w_calli (wr := (w_P a cA ii li ia la bd) ++ (w_S sb cA u.1 u.2.1 u.2.2.1 u.2.2.2) ++ (w_B (bb (pn n 0)) cA (Bi (pn n 0)) (Bl (pn n 0)) (Bj (pn n 0)) (Bk (pn n 0))) ++ (w_B (bb (pn n 1)) cA (Bi (pn n 1)) (Bl (pn n 1)) (Bj (pn n 1)) (Bk (pn n 1))) ++ (w_B (bb (pn n 2)) cA (Bi (pn n 2)) (Bl (pn n 2)) (Bj (pn n 2)) (Bk (pn n 2)))) (w_runVN (rest := []) hx hb hml hown hl.1 hg hlo hK hP hD hS (m_B_hasArea Z (bb n) (Bi n) (Bl n) (Bj n) (Bk n) H.size) (kw390 Z.1) (kw392 Z.1) (kp_B_hasArea Z.1) (kw393 Z.1) (kw3 Z.1) ⟨by decide, by decide, (by decide +kernel : (parseMethodDescriptor y_B_hasArea.desc).map (fun d => d.parameters.length) = some 0)⟩ ⟨Nat.le_of_ble_eq_true rfl, Nat.le_of_ble_eq_true rfl⟩ [11, 12, 13, 14, 15, 16] rfl rfl (ci := 2) (q0 := 11) rfl rfl rfl (Nat.le_of_ble_eq_true rfl) d_P_prepareSearch_50 ⟨Nat.le_of_ble_eq_true rfl, Nat.le_of_ble_eq_true rfl⟩) hP hD hS hA [11, 12, 13, 14, 15, 16] [0, 1, 2, 3, 4, 5, 6, 7, 8, 9, 10, 17, 18, 19, 20, 21, 22, 23, 24, 25, 26, 27, 28, 29, 30, 31, 32, 33, 34] rfl rfl rfl (by decide) (fun _ => (w_P a cA ii li ia la bd) ++ (w_S sb cA u.1 u.2.1 u.2.2.1 u.2.2.2) ++ (w_B (bb n) cA (Bi n) (Bl n) (Bj n) (Bk n)) ++ (w_B (bb (pn n 0)) cA (Bi (pn n 0)) (Bl (pn n 0)) (Bj (pn n 0)) (Bk (pn n 0))) ++ (w_B (bb (pn n 1)) cA (Bi (pn n 1)) (Bl (pn n 1)) (Bj (pn n 1)) (Bk (pn n 1))) ++ (w_B (bb (pn n 2)) cA (Bi (pn n 2)) (Bl (pn n 2)) (Bj (pn n 2)) (Bk (pn n 2)))) [0, 1, 2, 3, 4, 5, 6, 7, 8, 9, 10, 29, 30, 31, 32, 33, 34, 11, 12, 13, 14, 15, 16, 17, 18, 19, 20, 21, 22, 23, 24, 25, 26, 27, 28] rfl (fun _ => rfl) (fun rh u9 H locs hrh hP hD hS => ?_)
        refine W.widen (k := 0) (n := 0) (Nat.le_of_ble_eq_true rfl) (Nat.le_of_ble_eq_true rfl) ?_
        subst hrh
        refine lv_if_eq (tgt := 126) hx hb d_P_prepareSearch_53 (by decide) (fun d5 => ?_) (fun d5 => ?_)
        · have hno : ¬ (bw n ≠ 0 ∧ bh n ≠ 0) := fun z => absurd d5 (by rw [if_pos ((bx_ar hbn).mpr z)]; decide)
          obtain ⟨hP, hD⟩ := bq_out (F := (fun k => w_B (bb k) cA (Bi k) (Bl k) (Bj k) (Bk k))) (X := (w_P a cA ii li ia la bd) ++ (w_S sb cA u.1 u.2.1 u.2.2.1 u.2.2.2)) (n := n) hn4 hP hD
          have hP : va_P D ncl ((w_P a cA ii li ia la bd) ++ (w_S sb cA u.1 u.2.1 u.2.2.1 u.2.2.2) ++ (w_B (bb 0) cA (Bi 0) (Bl 0) (Bj 0) (Bk 0)) ++ (w_B (bb 1) cA (Bi 1) (Bl 1) (Bj 1) (Bk 1)) ++ (w_B (bb 2) cA (Bi 2) (Bl 2) (Bj 2) (Bk 2)) ++ (w_B (bb 3) cA (Bi 3) (Bl 3) (Bj 3) (Bk 3))) H := hP
          have hD : va_D _ ((w_P a cA ii li ia la bd) ++ (w_S sb cA u.1 u.2.1 u.2.2.1 u.2.2.2) ++ (w_B (bb 0) cA (Bi 0) (Bl 0) (Bj 0) (Bk 0)) ++ (w_B (bb 1) cA (Bi 1) (Bl 1) (Bj 1) (Bk 1)) ++ (w_B (bb 2) cA (Bi 2) (Bl 2) (Bj 2) (Bk 2)) ++ (w_B (bb 3) cA (Bi 3) (Bl 3) (Bj 3) (Bk 3))) := hD
          obtain ⟨v6, ev6⟩ : ∃ y : Int32, y = (nI n) + 1 := ⟨_, rfl⟩
          refine lv_iinc (v := v6) (lv' := [(4, .int v6), (5, .ref ((bb n) 0)), (0, .ref (a 0)), (1, .int (nI lk)), (2, .long (lZ ac))]) hx hb d_P_prepareSearch_126 hl (k := 4) rfl (by rw [ev6]; rfl) (by decide) rfl (fun ls hl => ?_)
          refine lv_goto (tgt := 33) hx hb d_P_prepareSearch_129 (by decide) ?_
          obtain rfl : v6 = nI (n + 1) := by rw [ev6]; exact nI_1 n
          exact ihO (n + 1) u (by omega) (by omega) (prJ_no hno hJ) _ _ hP hD hS ls (lv_sub hl [2, 3, 4, 0] rfl)
        · have hya : bw n ≠ 0 ∧ bh n ≠ 0 := (bx_ar hbn).mp (Classical.byContradiction (fun z => d5 (if_neg z)))
          refine lv_aload_n hx hb d_P_prepareSearch_56 rfl (lv_at hl 1 rfl) ?_
          refine va_get (D := D) (ci := 0) (v := .ref (a 5)) (C := R_P) (T := T_P) (N := 10) hx hb (uw_P Z.1 hg.1) (fun _ h => h) hown hK hP 0 rfl rfl 4 (by decide) (kw202 Z.1 _ _ hg.1) (fun _ h9 => h9) rfl d_P_prepareSearch_57 ?_
          rw [← hsa]
          refine va_getN (D := D) (ci := 4) (v := .ref (sb 3)) (C := R_S) (T := T_S) (N := 12) hx hb (uw_S Z.1 hg.1) (fun _ h => h) hown hK hP 3 rfl rfl 2 (by decide) (kw86 Z.1 _ _ hg.1) (fun _ h9 => h9) rfl d_P_prepareSearch_60 ?_
          refine lv_iload hx hb d_P_prepareSearch_63 (lv_at hl 4 rfl) ?_
          refine lv_aload hx hb d_P_prepareSearch_65 (lv_at hl 0 rfl) ?_
          refine va_getN (D := D) (ci := 2) (v := .int ((Bi n) 11)) (C := R_B) (T := T_B) (N := 12) hx hb (uw_B Z.1 hg.1) (fun _ h => h) hown hK hP 11 rfl rfl 11 (by decide) (kw50 Z.1 _ _ hg.1) (fun _ h9 => h9) rfl d_P_prepareSearch_67 ?_
          refine lv_topi (fun z7 ez7 => ?_)
          obtain rfl : z7 = (nI (wt n)) := by rw [ez7]; exact (hwt n hn4).1
          refine va_iast hx hb hK hP hD hS 6 0 rfl rfl (vp_in_nI (n := n) (N := 4) (by omega) (by decide)) d_P_prepareSearch_70 (fun H locs hP hD hS => ?_)
          rw [nI_clamp (n := n) (by omega)] at hP hD
          have hP : va_P D ncl ((w_P a cA ii li ia la bd) ++ (w_S sb cA u.1 u.2.1 (va_up u.2.2.1 2 (upd (u.2.2.1 2) n (nI (wt n)))) u.2.2.2) ++ (w_B (bb n) cA (Bi n) (Bl n) (Bj n) (Bk n)) ++ (w_B (bb (pn n 0)) cA (Bi (pn n 0)) (Bl (pn n 0)) (Bj (pn n 0)) (Bk (pn n 0))) ++ (w_B (bb (pn n 1)) cA (Bi (pn n 1)) (Bl (pn n 1)) (Bj (pn n 1)) (Bk (pn n 1))) ++ (w_B (bb (pn n 2)) cA (Bi (pn n 2)) (Bl (pn n 2)) (Bj (pn n 2)) (Bk (pn n 2)))) H := hP
          have hD : va_D _ ((w_P a cA ii li ia la bd) ++ (w_S sb cA u.1 u.2.1 (va_up u.2.2.1 2 (upd (u.2.2.1 2) n (nI (wt n)))) u.2.2.2) ++ (w_B (bb n) cA (Bi n) (Bl n) (Bj n) (Bk n)) ++ (w_B (bb (pn n 0)) cA (Bi (pn n 0)) (Bl (pn n 0)) (Bj (pn n 0)) (Bk (pn n 0))) ++ (w_B (bb (pn n 1)) cA (Bi (pn n 1)) (Bl (pn n 1)) (Bj (pn n 1)) (Bk (pn n 1))) ++ (w_B (bb (pn n 2)) cA (Bi (pn n 2)) (Bl (pn n 2)) (Bj (pn n 2)) (Bk (pn n 2)))) := hD
          refine lv_iconst (v := 0) hx hb d_P_prepareSearch_71 (by decide) ?_
          refine lv_topi (fun z8 ez8 => ?_)
          obtain rfl : z8 = (nI 0) := by rw [ez8]; rfl
          refine lv_istore (lv' := [(6, .int (nI 0)), (5, .ref ((bb n) 0)), (0, .ref (a 0)), (1, .int (nI lk)), (2, .long (lZ ac)), (4, .int (nI n))]) hx hb d_P_prepareSearch_72 hl (by decide) rfl (fun ls hl => ?_)
          have hK0 : prK ac g bw bh wt M n 0 (u.1, u.2.1, (va_up u.2.2.1 2 (upd (u.2.2.1 2) n (nI (wt n)))), u.2.2.2) := prK_0 hn4 (hwt n hn4).2 hJ
          have lop2 : ∀ (f : Nat) (t : Nat) (v : St), 2 - t < f → t ≤ 2 → prK ac g bw bh wt M n t v → ∀ (H : Heap) (locs : List Loc), va_P D ncl ((w_P a cA ii li ia la bd) ++ (w_S sb cA v.1 v.2.1 v.2.2.1 v.2.2.2) ++ (w_B (bb n) cA (Bi n) (Bl n) (Bj n) (Bk n)) ++ (w_B (bb (pn n 0)) cA (Bi (pn n 0)) (Bl (pn n 0)) (Bj (pn n 0)) (Bk (pn n 0))) ++ (w_B (bb (pn n 1)) cA (Bi (pn n 1)) (Bl (pn n 1)) (Bj (pn n 1)) (Bk (pn n 1))) ++ (w_B (bb (pn n 2)) cA (Bi (pn n 2)) (Bl (pn n 2)) (Bj (pn n 2)) (Bk (pn n 2)))) H → va_D (va_A ((w_P a cA ii li ia la bd) ++ (w_S sb cA is_ ls_ js ks) ++ (w_B (bb 0) cA (Bi 0) (Bl 0) (Bj 0) (Bk 0)) ++ (w_B (bb 1) cA (Bi 1) (Bl 1) (Bj 1) (Bk 1)) ++ (w_B (bb 2) cA (Bi 2) (Bl 2) (Bj 2) (Bk 2)) ++ (w_B (bb 3) cA (Bi 3) (Bl 3) (Bj 3) (Bk 3))) s.heap.size) ((w_P a cA ii li ia la bd) ++ (w_S sb cA v.1 v.2.1 v.2.2.1 v.2.2.2) ++ (w_B (bb n) cA (Bi n) (Bl n) (Bj n) (Bk n)) ++ (w_B (bb (pn n 0)) cA (Bi (pn n 0)) (Bl (pn n 0)) (Bj (pn n 0)) (Bk (pn n 0))) ++ (w_B (bb (pn n 1)) cA (Bi (pn n 1)) (Bl (pn n 1)) (Bj (pn n 1)) (Bk (pn n 1))) ++ (w_B (bb (pn n 2)) cA (Bi (pn n 2)) (Bl (pn n 2)) (Bj (pn n 2)) (Bk (pn n 2)))) → va_S (va_A ((w_P a cA ii li ia la bd) ++ (w_S sb cA is_ ls_ js ks) ++ (w_B (bb 0) cA (Bi 0) (Bl 0) (Bj 0) (Bk 0)) ++ (w_B (bb 1) cA (Bi 1) (Bl 1) (Bj 1) (Bk 1)) ++ (w_B (bb 2) cA (Bi 2) (Bl 2) (Bj 2) (Bk 2)) ++ (w_B (bb 3) cA (Bi 3) (Bl 3) (Bj 3) (Bk 3))) s.heap.size) s.heap H locs → ∀ (ls : Array Slot), lv_has ls 8 [(0, .ref (a 0)), (1, .int (nI lk)), (2, .long (lZ ac)), (4, .int (nI n)), (5, .ref ((bb n) 0)), (6, .int (nI t))] → W p l e ({ frames := 2, cells := 0, slots := 0, locals := 200 }) s m ([.ref (a 0), .int (nI lk)] : List Value).toArray below meth c H locs 0 0 (MQ below (va_Qv (fun (u : St) => prJ ac g bw bh wt M (2 * lk) u) (wB D (va_A ((w_P a cA ii li ia la bd) ++ (w_S sb cA is_ ls_ js ks) ++ (w_B (bb 0) cA (Bi 0) (Bl 0) (Bj 0) (Bk 0)) ++ (w_B (bb 1) cA (Bi 1) (Bl 1) (Bj 1) (Bk 1)) ++ (w_B (bb 2) cA (Bi 2) (Bl 2) (Bj 2) (Bk 2)) ++ (w_B (bb 3) cA (Bi 3) (Bl 3) (Bj 3) (Bk 3))) s.heap.size) (fun (u : St) => (w_P a cA ii li ia la bd) ++ (w_S sb cA u.1 u.2.1 u.2.2.1 u.2.2.2) ++ (w_B (bb 0) cA (Bi 0) (Bl 0) (Bj 0) (Bk 0)) ++ (w_B (bb 1) cA (Bi 1) (Bl 1) (Bj 1) (Bk 1)) ++ (w_B (bb 2) cA (Bi 2) (Bl 2) (Bj 2) (Bk 2)) ++ (w_B (bb 3) cA (Bi 3) (Bl 3) (Bj 3) (Bk 3)))) (va_A ((w_P a cA ii li ia la bd) ++ (w_S sb cA is_ ls_ js ks) ++ (w_B (bb 0) cA (Bi 0) (Bl 0) (Bj 0) (Bk 0)) ++ (w_B (bb 1) cA (Bi 1) (Bl 1) (Bj 1) (Bk 1)) ++ (w_B (bb 2) cA (Bi 2) (Bl 2) (Bj 2) (Bk 2)) ++ (w_B (bb 3) cA (Bi 3) (Bl 3) (Bj 3) (Bk 3))) s.heap.size)) ([.ref (a 0), .int (nI lk)] : List Value).toArray s 0 0 (va_A ((w_P a cA ii li ia la bd) ++ (w_S sb cA is_ ls_ js ks) ++ (w_B (bb 0) cA (Bi 0) (Bl 0) (Bj 0) (Bk 0)) ++ (w_B (bb 1) cA (Bi 1) (Bl 1) (Bj 1) (Bk 1)) ++ (w_B (bb 2) cA (Bi 2) (Bl 2) (Bj 2) (Bk 2)) ++ (w_B (bb 3) cA (Bi 3) (Bl 3) (Bj 3) (Bk 3))) s.heap.size)) (F0 m 74 ls []) := by
            intro f
            induction f with
            | zero => intro t v h; exact absurd h (Nat.not_lt_zero _)
            | succ f ih =>
              intro t v hf ht1 hKt H locs hP hD hS ls hl
              refine lv_iload hx hb d_P_prepareSearch_74 (lv_at hl 5 rfl) ?_
              refine lv_iconst (v := 2) hx hb d_P_prepareSearch_76 (by decide) ?_
              refine lv_icmp_ge (tgt := 126) hx hb d_P_prepareSearch_77 (by decide) (fun g9 => ?_) (fun g9 => ?_)
              · have ht3 : t = 2 := by have := (nI_leI (a := 2) (by omega) (by omega)).mp g9; omega
                rw [ht3] at hKt
                obtain ⟨hP, hD⟩ := bq_out (F := (fun k => w_B (bb k) cA (Bi k) (Bl k) (Bj k) (Bk k))) (X := (w_P a cA ii li ia la bd) ++ (w_S sb cA v.1 v.2.1 v.2.2.1 v.2.2.2)) (n := n) hn4 hP hD
                have hP : va_P D ncl ((w_P a cA ii li ia la bd) ++ (w_S sb cA v.1 v.2.1 v.2.2.1 v.2.2.2) ++ (w_B (bb 0) cA (Bi 0) (Bl 0) (Bj 0) (Bk 0)) ++ (w_B (bb 1) cA (Bi 1) (Bl 1) (Bj 1) (Bk 1)) ++ (w_B (bb 2) cA (Bi 2) (Bl 2) (Bj 2) (Bk 2)) ++ (w_B (bb 3) cA (Bi 3) (Bl 3) (Bj 3) (Bk 3))) H := hP
                have hD : va_D _ ((w_P a cA ii li ia la bd) ++ (w_S sb cA v.1 v.2.1 v.2.2.1 v.2.2.2) ++ (w_B (bb 0) cA (Bi 0) (Bl 0) (Bj 0) (Bk 0)) ++ (w_B (bb 1) cA (Bi 1) (Bl 1) (Bj 1) (Bk 1)) ++ (w_B (bb 2) cA (Bi 2) (Bl 2) (Bj 2) (Bk 2)) ++ (w_B (bb 3) cA (Bi 3) (Bl 3) (Bj 3) (Bk 3))) := hD
                obtain ⟨v10, ev10⟩ : ∃ y : Int32, y = (nI n) + 1 := ⟨_, rfl⟩
                refine lv_iinc (v := v10) (lv' := [(4, .int v10), (0, .ref (a 0)), (1, .int (nI lk)), (2, .long (lZ ac)), (5, .ref ((bb n) 0)), (6, .int (nI t))]) hx hb d_P_prepareSearch_126 hl (k := 3) rfl (by rw [ev10]; rfl) (by decide) rfl (fun ls hl => ?_)
                refine lv_goto (tgt := 33) hx hb d_P_prepareSearch_129 (by decide) ?_
                obtain rfl : v10 = nI (n + 1) := by rw [ev10]; exact nI_1 n
                exact ihO (n + 1) v (by omega) (by omega) (prK_2 hKt) _ _ hP hD hS ls (lv_sub hl [1, 2, 3, 0] rfl)
              · have ht2 : t < 2 := Nat.lt_of_not_le (fun z => g9 ((nI_leI (a := 2) (by omega) (by omega)).mpr z))
                obtain ⟨hi1, wl1, mr1, k1, k2, k3, k4⟩ := hKt
                have tz : (nI t = 0) = (t = 0) := propext (nI_eq (b := 0) (by omega) (by decide))
                obtain ⟨wk, hwk⟩ : ∃ z, z = wkF bw bh (2 * n + t) := ⟨_, rfl⟩
                obtain ⟨hk, hhk⟩ : ∃ z, z = hgF bw bh (2 * n + t) := ⟨_, rfl⟩
                have hwk2 : wk ≤ 65536 := by rw [hwk, wk_2 _ _ ht2]; split <;> omega
                have hhk2 : hk ≤ 65536 := by rw [hhk, hg_2 _ _ ht2]; split <;> omega
                refine lv_lload_n hx hb d_P_prepareSearch_80 rfl (lv_at hl 2 rfl) ?_
                refine lv_aload hx hb d_P_prepareSearch_81 (lv_at hl 4 rfl) ?_
                refine lv_iload hx hb d_P_prepareSearch_83 (lv_at hl 5 rfl) ?_
                refine w_calll (wr := (w_P a cA ii li ia la bd) ++ (w_S sb cA v.1 v.2.1 v.2.2.1 v.2.2.2) ++ (w_B (bb (pn n 0)) cA (Bi (pn n 0)) (Bl (pn n 0)) (Bj (pn n 0)) (Bk (pn n 0))) ++ (w_B (bb (pn n 1)) cA (Bi (pn n 1)) (Bl (pn n 1)) (Bj (pn n 1)) (Bk (pn n 1))) ++ (w_B (bb (pn n 2)) cA (Bi (pn n 2)) (Bl (pn n 2)) (Bj (pn n 2)) (Bk (pn n 2)))) (w_runVN (rest := [.long (lZ ac)]) hx hb hml hown hl.1 hg hlo hK hP hD hS (m_B_wide Z (bb n) (Bi n) (Bl n) (Bj n) (Bk n) (nI t) H.size) (kw394 Z.1) (kw396 Z.1) (kp_B_wide Z.1) (kw397 Z.1) (kw3 Z.1) ⟨by decide, by decide, (by decide +kernel : (parseMethodDescriptor y_B_wide.desc).map (fun d => d.parameters.length) = some 1)⟩ ⟨Nat.le_of_ble_eq_true rfl, Nat.le_of_ble_eq_true rfl⟩ [11, 12, 13, 14, 15, 16] rfl rfl (ci := 2) (q0 := 11) rfl rfl rfl (Nat.le_of_ble_eq_true rfl) d_P_prepareSearch_85 ⟨Nat.le_of_ble_eq_true rfl, Nat.le_of_ble_eq_true rfl⟩) hP hD hS hA [11, 12, 13, 14, 15, 16] [0, 1, 2, 3, 4, 5, 6, 7, 8, 9, 10, 17, 18, 19, 20, 21, 22, 23, 24, 25, 26, 27, 28, 29, 30, 31, 32, 33, 34] rfl rfl rfl (by decide) (fun _ => (w_P a cA ii li ia la bd) ++ (w_S sb cA v.1 v.2.1 v.2.2.1 v.2.2.2) ++ (w_B (bb n) cA (Bi n) (Bl n) (Bj n) (Bk n)) ++ (w_B (bb (pn n 0)) cA (Bi (pn n 0)) (Bl (pn n 0)) (Bj (pn n 0)) (Bk (pn n 0))) ++ (w_B (bb (pn n 1)) cA (Bi (pn n 1)) (Bl (pn n 1)) (Bj (pn n 1)) (Bk (pn n 1))) ++ (w_B (bb (pn n 2)) cA (Bi (pn n 2)) (Bl (pn n 2)) (Bj (pn n 2)) (Bk (pn n 2)))) [0, 1, 2, 3, 4, 5, 6, 7, 8, 9, 10, 29, 30, 31, 32, 33, 34, 11, 12, 13, 14, 15, 16, 17, 18, 19, 20, 21, 22, 23, 24, 25, 26, 27, 28] rfl (fun _ => rfl) (fun rw1 u9 H locs hrw1 hP hD hS => ?_)
                refine W.widen (k := 0) (n := 0) (Nat.le_of_ble_eq_true rfl) (Nat.le_of_ble_eq_true rfl) ?_
                obtain rfl : rw1 = lN wk := by rw [hrw1, hwk, wk_2 _ _ ht2]; simp only [tz]; split; exact bx_w hbn; exact bx_h hbn
                refine lv_aload_n hx hb d_P_prepareSearch_88 rfl (lv_at hl 0 rfl) ?_
                refine va_get (D := D) (ci := 0) (v := .long (li 7)) (C := R_P) (T := T_P) (N := 10) hx hb (uw_P Z.1 hg.1) (fun _ h => h) hown hK hP 0 rfl rfl 7 (by decide) (kw205 Z.1 _ _ hg.1) (fun _ h9 => h9) rfl d_P_prepareSearch_89 ?_
                rw [hg7]
                refine w_calli (wr := (w_P a cA ii li ia la bd) ++ (w_S sb cA v.1 v.2.1 v.2.2.1 v.2.2.2) ++ (w_B (bb n) cA (Bi n) (Bl n) (Bj n) (Bk n)) ++ (w_B (bb (pn n 0)) cA (Bi (pn n 0)) (Bl (pn n 0)) (Bj (pn n 0)) (Bk (pn n 0))) ++ (w_B (bb (pn n 1)) cA (Bi (pn n 1)) (Bl (pn n 1)) (Bj (pn n 1)) (Bk (pn n 1))) ++ (w_B (bb (pn n 2)) cA (Bi (pn n 2)) (Bl (pn n 2)) (Bj (pn n 2)) (Bk (pn n 2)))) (w_runS (rest := []) hx hb hml hown hl.1 hg hlo hP hD hS (m_P_roomInRow Z ac wk g ha1 ha2 hwk2 hg65 H.size) (kw398 Z.1) (kw399 Z.1) (kw400 Z.1) (kw1 Z.1) ⟨by decide, by decide, (by decide +kernel : (parseMethodDescriptor y_P_roomInRow.desc).map (fun d => d.parameters.length) = some 3)⟩ ⟨Nat.le_of_ble_eq_true rfl, Nat.le_of_ble_eq_true rfl⟩ [] rfl rfl rfl (Nat.le_of_ble_eq_true rfl) d_P_prepareSearch_92 ⟨Nat.le_of_ble_eq_true rfl, Nat.le_of_ble_eq_true rfl⟩) hP hD hS hA [] [0, 1, 2, 3, 4, 5, 6, 7, 8, 9, 10, 11, 12, 13, 14, 15, 16, 17, 18, 19, 20, 21, 22, 23, 24, 25, 26, 27, 28, 29, 30, 31, 32, 33, 34] rfl rfl rfl (by decide) (fun _ => (w_P a cA ii li ia la bd) ++ (w_S sb cA v.1 v.2.1 v.2.2.1 v.2.2.2) ++ (w_B (bb n) cA (Bi n) (Bl n) (Bj n) (Bk n)) ++ (w_B (bb (pn n 0)) cA (Bi (pn n 0)) (Bl (pn n 0)) (Bj (pn n 0)) (Bk (pn n 0))) ++ (w_B (bb (pn n 1)) cA (Bi (pn n 1)) (Bl (pn n 1)) (Bj (pn n 1)) (Bk (pn n 1))) ++ (w_B (bb (pn n 2)) cA (Bi (pn n 2)) (Bl (pn n 2)) (Bj (pn n 2)) (Bk (pn n 2)))) [0, 1, 2, 3, 4, 5, 6, 7, 8, 9, 10, 11, 12, 13, 14, 15, 16, 17, 18, 19, 20, 21, 22, 23, 24, 25, 26, 27, 28, 29, 30, 31, 32, 33, 34] rfl (fun _ => rfl) (fun rr u9 H locs hrr hP hD hS => ?_)
                refine W.widen (k := 0) (n := 0) (Nat.le_of_ble_eq_true rfl) (Nat.le_of_ble_eq_true rfl) ?_
                obtain rfl : rr = nI (rm_ ac wk g) := hrr
                refine lv_istore (lv' := [(7, .int (nI (rm_ ac wk g))), (0, .ref (a 0)), (1, .int (nI lk)), (2, .long (lZ ac)), (4, .int (nI n)), (5, .ref ((bb n) 0)), (6, .int (nI t))]) hx hb d_P_prepareSearch_95 hl (by decide) rfl (fun ls hl => ?_)
                refine lv_aload_n hx hb d_P_prepareSearch_97 rfl (lv_at hl 1 rfl) ?_
                refine va_get (D := D) (ci := 0) (v := .ref (a 5)) (C := R_P) (T := T_P) (N := 10) hx hb (uw_P Z.1 hg.1) (fun _ h => h) hown hK hP 0 rfl rfl 4 (by decide) (kw202 Z.1 _ _ hg.1) (fun _ h9 => h9) rfl d_P_prepareSearch_98 ?_
                rw [← hsa]
                refine lv_iload hx hb d_P_prepareSearch_101 (lv_at hl 4 rfl) ?_
                refine lv_iconst (v := 2) hx hb d_P_prepareSearch_103 (by decide) ?_
                refine lv_imul hx hb d_P_prepareSearch_104 ?_
                refine lv_topi (fun z11 ez11 => ?_)
                obtain rfl : z11 = (nI (2 * n)) := by rw [ez11]; rw [Nat.mul_comm 2 n]; exact pk_mul n 2
                refine lv_iload hx hb d_P_prepareSearch_105 (lv_at hl 6 rfl) ?_
                refine lv_iadd hx hb d_P_prepareSearch_107 ?_
                refine lv_topi (fun z12 ez12 => ?_)
                obtain rfl : z12 = (nI (2 * n + t)) := by rw [ez12]; exact nI_add _ _
                refine lv_iload hx hb d_P_prepareSearch_108 (lv_at hl 0 rfl) ?_
                refine lv_aload hx hb d_P_prepareSearch_110 (lv_at hl 5 rfl) ?_
                refine lv_iload hx hb d_P_prepareSearch_112 (lv_at hl 6 rfl) ?_
                refine w_calll (wr := (w_P a cA ii li ia la bd) ++ (w_S sb cA v.1 v.2.1 v.2.2.1 v.2.2.2) ++ (w_B (bb (pn n 0)) cA (Bi (pn n 0)) (Bl (pn n 0)) (Bj (pn n 0)) (Bk (pn n 0))) ++ (w_B (bb (pn n 1)) cA (Bi (pn n 1)) (Bl (pn n 1)) (Bj (pn n 1)) (Bk (pn n 1))) ++ (w_B (bb (pn n 2)) cA (Bi (pn n 2)) (Bl (pn n 2)) (Bj (pn n 2)) (Bk (pn n 2)))) (w_runVN (rest := [.int (nI (rm_ ac wk g)), .int (nI (2 * n + t)), .ref (sb 0)]) hx hb hml hown hl.1 hg hlo hK hP hD hS (m_B_high Z (bb n) (Bi n) (Bl n) (Bj n) (Bk n) (nI t) H.size) (kw402 Z.1) (kw404 Z.1) (kp_B_high Z.1) (kw405 Z.1) (kw3 Z.1) ⟨by decide, by decide, (by decide +kernel : (parseMethodDescriptor y_B_high.desc).map (fun d => d.parameters.length) = some 1)⟩ ⟨Nat.le_of_ble_eq_true rfl, Nat.le_of_ble_eq_true rfl⟩ [11, 12, 13, 14, 15, 16] rfl rfl (ci := 2) (q0 := 11) rfl rfl rfl (Nat.le_of_ble_eq_true rfl) d_P_prepareSearch_114 ⟨Nat.le_of_ble_eq_true rfl, Nat.le_of_ble_eq_true rfl⟩) hP hD hS hA [11, 12, 13, 14, 15, 16] [0, 1, 2, 3, 4, 5, 6, 7, 8, 9, 10, 17, 18, 19, 20, 21, 22, 23, 24, 25, 26, 27, 28, 29, 30, 31, 32, 33, 34] rfl rfl rfl (by decide) (fun _ => (w_P a cA ii li ia la bd) ++ (w_S sb cA v.1 v.2.1 v.2.2.1 v.2.2.2) ++ (w_B (bb n) cA (Bi n) (Bl n) (Bj n) (Bk n)) ++ (w_B (bb (pn n 0)) cA (Bi (pn n 0)) (Bl (pn n 0)) (Bj (pn n 0)) (Bk (pn n 0))) ++ (w_B (bb (pn n 1)) cA (Bi (pn n 1)) (Bl (pn n 1)) (Bj (pn n 1)) (Bk (pn n 1))) ++ (w_B (bb (pn n 2)) cA (Bi (pn n 2)) (Bl (pn n 2)) (Bj (pn n 2)) (Bk (pn n 2)))) [0, 1, 2, 3, 4, 5, 6, 7, 8, 9, 10, 29, 30, 31, 32, 33, 34, 11, 12, 13, 14, 15, 16, 17, 18, 19, 20, 21, 22, 23, 24, 25, 26, 27, 28] rfl (fun _ => rfl) (fun rh1 u9 H locs hrh1 hP hD hS => ?_)
                refine W.widen (k := 0) (n := 0) (Nat.le_of_ble_eq_true rfl) (Nat.le_of_ble_eq_true rfl) ?_
                obtain rfl : rh1 = lN hk := by rw [hrh1, hhk, hg_2 _ _ ht2]; simp only [tz]; split; exact bx_h hbn; exact bx_w hbn
                refine w_callv (wr := (w_P a cA ii li ia la bd) ++ (w_B (bb n) cA (Bi n) (Bl n) (Bj n) (Bk n)) ++ (w_B (bb (pn n 0)) cA (Bi (pn n 0)) (Bl (pn n 0)) (Bj (pn n 0)) (Bk (pn n 0))) ++ (w_B (bb (pn n 1)) cA (Bi (pn n 1)) (Bl (pn n 1)) (Bj (pn n 1)) (Bk (pn n 1))) ++ (w_B (bb (pn n 2)) cA (Bi (pn n 2)) (Bl (pn n 2)) (Bj (pn n 2)) (Bk (pn n 2)))) (w_runVN (rest := []) hx hb hml hown hl.1 hg hlo hK hP hD hS (m_S_allowKind Z sb v.1 v.2.1 v.2.2.1 v.2.2.2 (2 * n + t) (rm_ ac wk g) mr1 (lN hk) (by omega) (rm_le _ _ _) k1.2.2.2.1.2.2.2.1 k1.2.2.2.1.2.2.1 H.size) (kw406 Z.1) (kw408 Z.1) (kp_S_allowKind Z.1) (kw409 Z.1) (kw4 Z.1) ⟨by decide, by decide, (by decide +kernel : (parseMethodDescriptor y_S_allowKind.desc).map (fun d => d.parameters.length) = some 3)⟩ ⟨Nat.le_of_ble_eq_true rfl, Nat.le_of_ble_eq_true rfl⟩ [3, 4, 5, 6, 7, 8, 9, 10] rfl rfl (ci := 4) (q0 := 3) rfl rfl rfl (Nat.le_of_ble_eq_true rfl) d_P_prepareSearch_117 ⟨Nat.le_of_ble_eq_true rfl, Nat.le_of_ble_eq_true rfl⟩) hP hD hS hA [3, 4, 5, 6, 7, 8, 9, 10] [0, 1, 2, 11, 12, 13, 14, 15, 16, 17, 18, 19, 20, 21, 22, 23, 24, 25, 26, 27, 28, 29, 30, 31, 32, 33, 34] rfl rfl rfl (by decide) (fun (u2 : St) => (w_P a cA ii li ia la bd) ++ (w_S sb cA u2.1 u2.2.1 u2.2.2.1 u2.2.2.2) ++ (w_B (bb n) cA (Bi n) (Bl n) (Bj n) (Bk n)) ++ (w_B (bb (pn n 0)) cA (Bi (pn n 0)) (Bl (pn n 0)) (Bj (pn n 0)) (Bk (pn n 0))) ++ (w_B (bb (pn n 1)) cA (Bi (pn n 1)) (Bl (pn n 1)) (Bj (pn n 1)) (Bk (pn n 1))) ++ (w_B (bb (pn n 2)) cA (Bi (pn n 2)) (Bl (pn n 2)) (Bj (pn n 2)) (Bk (pn n 2)))) [0, 1, 2, 27, 28, 29, 30, 31, 32, 33, 34, 3, 4, 5, 6, 7, 8, 9, 10, 11, 12, 13, 14, 15, 16, 17, 18, 19, 20, 21, 22, 23, 24, 25, 26] rfl (fun _ => rfl) (fun u2 H locs hu2 hP hD hS => ?_)
                refine W.widen (k := 0) (n := 0) (Nat.le_of_ble_eq_true rfl) (Nat.le_of_ble_eq_true rfl) ?_
                obtain ⟨v14, ev14⟩ : ∃ y : Int32, y = (nI t) + 1 := ⟨_, rfl⟩
                refine lv_iinc (v := v14) (lv' := [(6, .int v14), (7, .int (nI (rm_ ac wk g))), (0, .ref (a 0)), (1, .int (nI lk)), (2, .long (lZ ac)), (4, .int (nI n)), (5, .ref ((bb n) 0))]) hx hb d_P_prepareSearch_120 hl (k := 6) rfl (by rw [ev14]; rfl) (by decide) rfl (fun ls hl => ?_)
                refine lv_goto (tgt := 74) hx hb d_P_prepareSearch_123 (by decide) ?_
                obtain rfl : v14 = nI (t + 1) := by rw [ev14]; exact nI_1 t
                exact ih (t + 1) u2 (by omega) (by omega) (by rw [hu2, hwk, hhk]; exact prK_1 hn4 ht2 hya.1 hya.2 (by rw [← hhk]; exact hhk2) k1 k2 k3 k4) _ _ hP hD hS ls (lv_sub hl [2, 3, 4, 5, 6, 0] rfl)
          exact lop2 3 0 (u.1, u.2.1, (va_up u.2.2.1 2 (upd (u.2.2.1 2) n (nI (wt n)))), u.2.2.2) (by omega) (by omega) hK0 _ _ hP hD hS ls (lv_sub hl [2, 3, 4, 5, 1, 0] rfl)
  exact loop (lk + 1) 0 u0 (by omega) (Nat.zero_le _) hJ0 _ _ hP hD hS ls (lv_sub hl [2, 3, 1, 0] rfl)
