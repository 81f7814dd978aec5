theorem sr_fold_mem {α : Type} (l : List α) (g : α → List (Nat × Nat)) : ∀ best : List (Nat × Nat), l.foldl (fun b c => sr_keep b (g c)) best = best ∨ ∃ c ∈ l, l.foldl (fun b c => sr_keep b (g c)) best = g c := by
  induction l with
  | nil => intro best; exact Or.inl rfl
  | cons c l ih =>
    intro best
    rw [List.foldl_cons]
    rcases ih (sr_keep best (g c)) with h | ⟨d, hd, h⟩
    · rw [h]
      unfold sr_keep
      split
      · exact Or.inr ⟨c, List.mem_cons_self, rfl⟩
      · exact Or.inl rfl
    · exact Or.inr ⟨d, List.mem_cons_of_mem _ hd, h⟩
theorem sr_cands_el (room : Nat → Nat) (hi : Nat → Int) (gap : Int) : ∀ (f first : Nat) (free : Int) (wl : Nat → Nat) (c : List (Nat × Nat)), c ∈ sr_cands room hi gap f first free wl → ∀ q ∈ c, q.1 < 8 ∧ 0 < q.2 ∧ q.2 ≤ room q.1 := by
  intro f
  induction f with
  | zero => intro first free wl c h; simp [sr_cands] at h
  | succ f ih =>
    intro first free wl c h
    simp only [sr_cands, List.mem_flatMap] at h
    obtain ⟨k, hk, h⟩ := h
    have hk8 : k < 8 := by
      obtain ⟨i, hi, e⟩ := List.mem_range'.mp hk
      omega
    split at h
    · rename_i hc
      have hkq : ∀ q : Nat × Nat, q = (k, min (room k) (wl (k / 2))) → q.1 < 8 ∧ 0 < q.2 ∧ q.2 ≤ room q.1 := fun q e => by
        rw [e]; exact ⟨hk8, hc.1, Nat.min_le_left _ _⟩
      rcases List.mem_cons.mp h with rfl | h
      · intro q hq; exact hkq q (List.mem_singleton.mp hq)
      · obtain ⟨d, hd, rfl⟩ := List.mem_map.mp h
        intro q hq
        rcases List.mem_cons.mp hq with e | hq
        · exact hkq q e
        · exact ih _ _ _ _ hd q hq
    · simp at h
theorem sr_try_be {ac : Int} {g m mr n : Nat} {bw bh wl : Nat → Nat} {hi : Nat → Int} {gap fr : Int} (hm : ∀ k, rfN ac g bw bh m k ≤ mr) (hn : n ≤ 8) : beR bw bh (sr_try (rfN ac g bw bh m) hi gap mr n [] 0 fr wl []) := by
  rw [sr_try_eq _ _ _ _ hm n [] 0 fr wl [] (Nat.zero_le _)]
  rcases sr_fold_mem (sr_cands (rfN ac g bw bh m) hi gap n 0 fr wl) (fun c => [] ++ c) [] with h | ⟨c, hc, h⟩
  · rw [h]; exact ⟨Nat.zero_le _, fun q hq => absurd hq List.not_mem_nil⟩
  · rw [h]
    show beR bw bh c
    refine ⟨Nat.le_trans (sr_cands_spec _ _ _ mr hm n 0 fr wl c hc).2.1 hn, fun q hq => ?_⟩
    obtain ⟨h1, h2, h3⟩ := sr_cands_el _ _ _ n 0 fr wl c hc q hq
    refine ⟨h1, h2, Nat.le_trans h3 (rfN_le _ _ _ _ _ _), ?_⟩
    have h4 : 0 < rfN ac g bw bh m q.1 := by omega
    unfold rfN rF8 at h4
    split at h4
    · split at h4
      · rename_i z; exact z
      · exact absurd h4 (Nat.lt_irrefl 0)
    · exact absurd h4 (Nat.lt_irrefl 0)
def sV (u : St) : Prop := ∃ (room hi wl : Nat → Nat) (M mr gap : Nat) (best : List (Nat × Nat)), sR room hi wl M mr gap [] best u
abbrev RU : Type := St × (Nat → Int32) × St
/-- what a run of the class leaves -/
def prR (ac fr : Int) (g nb l0 y0 : Nat) (bw bh wt : Nat → Nat) (ii : Nat → Int32) (kn n : Nat) (r : Int32) (u : RU) : Prop := ∃ (hi wl : Nat → Nat) (mr : Nat) (best : List (Nat × Nat)), (∀ k, rfN ac g bw bh (2 * min kn nb) k ≤ mr) ∧ (∀ k, k < 2 * min kn nb → bw (k / 2) ≠ 0 → bh (k / 2) ≠ 0 → hi k = hgF bw bh k ∧ wl (k / 2) = wt (k / 2)) ∧
  best = sr_try (rfN ac g bw bh (2 * min kn nb)) (fun k => (hi k : Int)) g mr n [] 0 fr wl [] ∧ beR bw bh best ∧ r = nI (ly_n (best.map (rwB bw bh))) ∧ sV u.1 ∧ u.2.1 = va_up ii 9 (if min kn nb = nb ∧ ¬ sr_cop best < sr_cop (sr_try (rfN ac g bw bh (2 * min kn nb)) (fun k => (hi k : Int)) g mr (n + 1) [] 0 fr wl best) then 1 else 0) ∧ yR l0 y0 g (best.map (rwB bw bh)) (fun _ => false) u.2.2
set_option maxHeartbeats 4000000 in
set_option maxRecDepth 100000 in
theorem m_P_run {l : Launch} {s0 : State} {D : va_G} {cA sa : Nat → Nat} (Z : zE l s0 D cA sa) (a : Nat → Nat) (ii : Nat → Int32) (li : Nat → Int64) (ia : Nat → Nat → Int32) (la : Nat → Nat → Int64) (bd : Nat → Nat) (sb : Nat → Nat) (is_ : Nat → Int32) (ls_ : Nat → Int64) (js : Nat → Nat → Int32) (ks : Nat → Nat → Int64) (hsa : sb 0 = a 5) (hsV : sV (is_, ls_, js, ks)) (y : Nat → Nat) (iy : Nat → Int32) (ly : Nat → Int64) (jy : Nat → Nat → Int32) (ky : Nat → Nat → Int64) (hya : y 0 = a 6) (bb : Nat → Nat → Nat) (Bi : Nat → Nat → Int32) (Bl : Nat → Nat → Int64) (Bj : Nat → Nat → Nat → Int32) (Bk : Nat → Nat → Nat → Int64) (hbd : ∀ k, k < 4 → bd k = bb k 0) (bw bh wt : Nat → Nat) (hbx : ∀ k, k < 4 → boxR (Bl k) (bw k) (bh k)) (hwt : ∀ k, k < 4 → Bi k 11 = nI (wt k) ∧ wt k ≤ 200) (g l0 y0 : Nat) (hg7 : li 7 = lN g) (hg65 : g ≤ 65536) (hl0 : la 3 0 = lN l0) (hl65 : l0 ≤ 65536) (hy0 : la 3 1 = lN y0) (hy65 : y0 ≤ 65536) (ac fr : Int) (hac : li 0 - la 3 0 - la 3 2 = lZ ac) (ha1 : -200000 ≤ ac) (ha2 : ac ≤ 65536) (hfr : li 1 - la 3 1 - la 3 3 = lZ fr) (hf1 : -200000 ≤ fr) (hf2 : fr ≤ 65536) (nb : Nat) (hnb : ii 6 = nI nb) (hnb4 : nb ≤ 4) (kv : Int32) (nv : Int64) (sz : Nat) : th_Met l y_P_run [.code y_P_run c_P_run 8 (some .int)] ({ frames := 20, cells := 1, slots := 6, locals := 1500 }) (wP s0 D [.ref (a 0), .int kv, .long nv] ((w_P a cA ii li ia la bd) ++ (w_S sb cA is_ ls_ js ks) ++ (w_Y y cA iy ly jy ky) ++ (w_B (bb 0) cA (Bi 0) (Bl 0) (Bj 0) (Bk 0)) ++ (w_B (bb 1) cA (Bi 1) (Bl 1) (Bj 1) (Bk 1)) ++ (w_B (bb 2) cA (Bi 2) (Bl 2) (Bj 2) (Bk 2)) ++ (w_B (bb 3) cA (Bi 3) (Bl 3) (Bj 3) (Bk 3))) sz) (th_Qi (fun (r : Int32) (u : RU) => ∃ kn n, kn < 5 ∧ n < 9 ∧ kv = nI kn ∧ nv = lN n ∧ prR ac fr g nb l0 y0 bw bh wt ii kn n r u) (wB D (va_A ((w_P a cA ii li ia la bd) ++ (w_S sb cA is_ ls_ js ks) ++ (w_Y y cA iy ly jy ky) ++ (w_B (bb 0) cA (Bi 0) (Bl 0) (Bj 0) (Bk 0)) ++ (w_B (bb 1) cA (Bi 1) (Bl 1) (Bj 1) (Bk 1)) ++ (w_B (bb 2) cA (Bi 2) (Bl 2) (Bj 2) (Bk 2)) ++ (w_B (bb 3) cA (Bi 3) (Bl 3) (Bj 3) (Bk 3))) sz) (fun (u : RU) => (w_P a cA u.2.1 li ia la bd) ++ (w_S sb cA u.1.1 u.1.2.1 u.1.2.2.1 u.1.2.2.2) ++ (w_Y y cA u.2.2.1 u.2.2.2.1 u.2.2.2.2.1 u.2.2.2.2.2) ++ (w_B (bb 0) cA (Bi 0) (Bl 0) (Bj 0) (Bk 0)) ++ (w_B (bb 1) cA (Bi 1) (Bl 1) (Bj 1) (Bk 1)) ++ (w_B (bb 2) cA (Bi 2) (Bl 2) (Bj 2) (Bk 2)) ++ (w_B (bb 3) cA (Bi 3) (Bl 3) (Bj 3) (Bk 3)))) (va_A ((w_P a cA ii li ia la bd) ++ (w_S sb cA is_ ls_ js ks) ++ (w_Y y cA iy ly jy ky) ++ (w_B (bb 0) cA (Bi 0) (Bl 0) (Bj 0) (Bk 0)) ++ (w_B (bb 1) cA (Bi 1) (Bl 1) (Bj 1) (Bk 1)) ++ (w_B (bb 2) cA (Bi 2) (Bl 2) (Bj 2) (Bk 2)) ++ (w_B (bb 3) cA (Bi 3) (Bl 3) (Bj 3) (Bk 3))) sz) (fun x H t => ¬ (∃ kn n, kn < 5 ∧ n < 9 ∧ kv = nI kn ∧ nv = lN n) ∧ th_X "java/lang/IllegalArgumentException" x H t)) 1 6 (va_A ((w_P a cA ii li ia la bd) ++ (w_S sb cA is_ ls_ js ks) ++ (w_Y y cA iy ly jy ky) ++ (w_B (bb 0) cA (Bi 0) (Bl 0) (Bj 0) (Bk 0)) ++ (w_B (bb 1) cA (Bi 1) (Bl 1) (Bj 1) (Bk 1)) ++ (w_B (bb 2) cA (Bi 2) (Bl 2) (Bj 2) (Bk 2)) ++ (w_B (bb 3) cA (Bi 3) (Bl 3) (Bj 3) (Bk 3))) sz) := by
  refine wMetT Z (by decide) (Nat.le_of_ble_eq_true rfl) ?_
  intro p e s m below meth c hx hb hr hml hown hlk hem hg hK hsz hP hD hA hlo hS ls hl
  subst hsz
  have hown : s.vm.findClass R_P = some m.cls := hown
  have hS0 : va_S (fun q => s.heap.size ≤ q) s.heap s.heap [] := va_S.rf
  refine lv_iload_n hx hb d_P_run_0 rfl (lv_at hl 1 rfl) ?_
  refine lv_i2l hx hb d_P_run_1 rfl ?_
  refine lv_lconst (v := 0) hx hb d_P_run_2 (by decide) ?_
  refine lv_ldc2 (v := 4) hx hb hown (kw376 Z.1 _ _ hg.1) d_P_run_3 ?_
  refine w_purei (w_runS (rest := []) hx hb hml hown hl.1 hg hlo hP hD (qS hS0 hA) (m_P_isWithin Z kv.toInt64 0 4 s.heap.size) (kw273 Z.1) (kw274 Z.1) (kw275 Z.1) (kw1 Z.1) ⟨by decide, by decide, (by decide +kernel : (parseMethodDescriptor y_P_isWithin.desc).map (fun d => d.parameters.length) = some 3)⟩ ⟨Nat.le_of_ble_eq_true rfl, Nat.le_of_ble_eq_true rfl⟩ [] rfl rfl rfl (Nat.le_of_ble_eq_true rfl) d_P_run_6 ⟨Nat.le_of_ble_eq_true rfl, Nat.le_of_ble_eq_true rfl⟩) hP hS0 (fun r1 _ H locs hr1 hP hS0 => ?_)
  refine W.widen (k := 0) (n := 0) (Nat.le_of_ble_eq_true rfl) (Nat.le_of_ble_eq_true rfl) ?_
  subst hr1
  refine lv_if_eq (tgt := 23) hx hb d_P_run_9 (by decide) (fun d1 => ?_) (fun d1 => ?_)
  · refine W.widen (k := 0) (n := 0) (Nat.le_of_ble_eq_true rfl) (Nat.le_of_ble_eq_true rfl) ?_
    exact w_throwF (C := "java/lang/IllegalArgumentException") hx hb hml hl.1 hown hlk hem Z.2.2.1 hS0 (kw347 Z.1 _ _ hg.1) (kw348 Z.1 _ _ hg.1) (kw11 Z.1 _ _ hg.1) (vk_R.warm hg.1 (Z.2.2.2.1 (71, "boards are 0 to 4, rows 0 to 8") (by decide))) (ow_73 Z hg) (by decide) d_P_run_23 d_P_run_26 d_P_run_27 d_P_run_29 d_P_run_32 (Nat.le_of_ble_eq_true rfl) (Nat.le_of_ble_eq_true rfl) (Nat.le_of_ble_eq_true rfl) (Nat.le_of_ble_eq_true rfl) (fun x t hW hX => ⟨Or.inr ⟨x, rfl, fun z => by obtain ⟨kn, n, z1, z2, z3, z4⟩ := z; exact absurd d1 (by rw [if_pos ((ib_iff (n := 5) (hi := 4) (by decide) rfl).mpr ⟨kn, z1, z3⟩)]; decide), hX⟩, xF hX⟩)
  · have hkn : ∃ k, k < 5 ∧ kv = nI k := (ib_iff (n := 5) (hi := 4) (by decide) rfl).mp (Classical.byContradiction (fun z => d1 (if_neg z)))
    refine lv_lload_n hx hb d_P_run_12 rfl (lv_at hl 2 rfl) ?_
    refine lv_lconst (v := 0) hx hb d_P_run_13 (by decide) ?_
    refine lv_ldc2 (v := 8) hx hb hown (kw377 Z.1 _ _ hg.1) d_P_run_14 ?_
    refine w_purei (w_runS (rest := []) hx hb hml hown hl.1 hg hlo hP hD (qS hS0 hA) (m_P_isWithin Z nv 0 8 H.size) (kw273 Z.1) (kw274 Z.1) (kw275 Z.1) (kw1 Z.1) ⟨by decide, by decide, (by decide +kernel : (parseMethodDescriptor y_P_isWithin.desc).map (fun d => d.parameters.length) = some 3)⟩ ⟨Nat.le_of_ble_eq_true rfl, Nat.le_of_ble_eq_true rfl⟩ [] rfl rfl rfl (Nat.le_of_ble_eq_true rfl) d_P_run_17 ⟨Nat.le_of_ble_eq_true rfl, Nat.le_of_ble_eq_true rfl⟩) hP hS0 (fun r2 _ H locs hr2 hP hS0 => ?_)
    refine W.widen (k := 0) (n := 0) (Nat.le_of_ble_eq_true rfl) (Nat.le_of_ble_eq_true rfl) ?_
    subst hr2
    refine lv_if_ne (tgt := 33) hx hb d_P_run_20 (by decide) (fun e2 => ?_) (fun e2 => ?_)
    · have hnn : ∃ n, n < 9 ∧ nv = lN n := by have z : (0 : Int64) ≤ nv ∧ nv ≤ 8 := Classical.byContradiction (fun z => e2 (if_neg z)); exact lN_of z.1 z.2
      have hS := qS hS0 hA
      obtain ⟨kn, hkn5, rfl⟩ := hkn
      obtain ⟨n, hn9, rfl⟩ := hnn
      refine lv_lload_n hx hb d_P_run_33 rfl (lv_at hl 2 rfl) ?_
      refine lv_l2i hx hb d_P_run_34 rfl ?_
      refine lv_topi (fun z3 ez3 => ?_)
      obtain rfl : z3 = (nI n) := by rw [ez3]; exact lN_i n
      refine lv_istore (lv' := [(4, .int (nI n)), (0, .ref (a 0)), (1, .int (nI kn)), (2, .long (lN n))]) hx hb d_P_run_35 hl (by decide) rfl (fun ls hl => ?_)
      refine lv_iload_n hx hb d_P_run_37 rfl (lv_at hl 2 rfl) ?_
      refine lv_aload_n hx hb d_P_run_38 rfl (lv_at hl 1 rfl) ?_
      refine va_get (D := D) (ci := 0) (v := .int (ii 6)) (C := R_P) (T := T_P) (N := 10) hx hb (uw_P Z.1 hg.1) (fun _ h => h) hown hK hP 0 rfl rfl 6 (by decide) (kw204 Z.1 _ _ hg.1) (fun _ h9 => h9) rfl d_P_run_39 ?_
      rw [hnb]
      refine va_mmin hx hb (hml.trans hl.1.symm) hown (kw379 Z.1 _ _ hg.1) (kw380 Z.1 _ _ hg.1) (kw2 Z.1 _ _ hg.1) (kw381 Z.1 _ _ hg.1) (Nat.le_of_ble_eq_true rfl) (Nat.le_of_ble_eq_true rfl) (Nat.le_of_ble_eq_true rfl) (Nat.le_of_ble_eq_true rfl) d_P_run_42 ?_
      refine lv_topi (fun z4 ez4 => ?_)
      obtain ⟨lk, hlq⟩ : ∃ z, z = min kn nb := ⟨_, rfl⟩
      obtain rfl : z4 = nI lk := by rw [ez4, hlq]; exact mmin_n (by omega) (by omega)
      have hlk4 : lk ≤ 4 := by omega
      refine lv_istore (lv' := [(5, .int (nI lk)), (4, .int (nI n)), (0, .ref (a 0)), (1, .int (nI kn)), (2, .long (lN n))]) hx hb d_P_run_45 hl (by decide) rfl (fun ls hl => ?_)
      refine lv_aload_n hx hb d_P_run_47 rfl (lv_at hl 2 rfl) ?_
      refine va_get (D := D) (ci := 0) (v := .long (li 1)) (C := R_P) (T := T_P) (N := 10) hx hb (uw_P Z.1 hg.1) (fun _ h => h) hown hK hP 0 rfl rfl 1 (by decide) (kw199 Z.1 _ _ hg.1) (fun _ h9 => h9) rfl d_P_run_48 ?_
      refine lv_aload_n hx hb d_P_run_51 rfl (lv_at hl 2 rfl) ?_
      refine va_get (D := D) (ci := 0) (v := .ref (a 4)) (C := R_P) (T := T_P) (N := 10) hx hb (uw_P Z.1 hg.1) (fun _ h => h) hown hK hP 0 rfl rfl 3 (by decide) (kw201 Z.1 _ _ hg.1) (fun _ h9 => h9) rfl d_P_run_52 ?_
      refine lv_iconst (v := 1) hx hb d_P_run_55 (by decide) ?_
      refine va_lald hx hb hK hP 2 1 rfl rfl (by unfold vp_in; decide) d_P_run_56 ?_
      refine lv_lsub hx hb d_P_run_57 ?_
      refine lv_aload_n hx hb d_P_run_58 rfl (lv_at hl 2 rfl) ?_
      refine va_get (D := D) (ci := 0) (v := .ref (a 4)) (C := R_P) (T := T_P) (N := 10) hx hb (uw_P Z.1 hg.1) (fun _ h => h) hown hK hP 0 rfl rfl 3 (by decide) (kw201 Z.1 _ _ hg.1) (fun _ h9 => h9) rfl d_P_run_59 ?_
      refine lv_iconst (v := 3) hx hb d_P_run_62 (by decide) ?_
      refine va_lald hx hb hK hP 2 1 rfl rfl (by unfold vp_in; decide) d_P_run_63 ?_
      refine lv_lsub hx hb d_P_run_64 ?_
      refine lv_topl (fun z5 ez5 => ?_)
      obtain rfl : z5 = (lZ fr) := by rw [ez5]; exact hfr
      refine lv_lstore (lv' := [(6, .long (lZ fr)), (5, .int (nI lk)), (4, .int (nI n)), (0, .ref (a 0)), (1, .int (nI kn)), (2, .long (lN n))]) hx hb d_P_run_65 hl (by decide) rfl (fun ls hl => ?_)
      refine lv_aload_n hx hb d_P_run_67 rfl (lv_at hl 3 rfl) ?_
      refine lv_iload hx hb d_P_run_68 (lv_at hl 1 rfl) ?_
      obtain ⟨room0, hi0, wl0, M0, mr0, gap0, best0, hs0⟩ := hsV
      refine w_callv (wr := (w_Y y cA iy ly jy ky)) (w_runV (rest := []) hx hb hml hown hl.1 hg hlo hK hP hD hS (m_P_prepareSearch Z a ii li ia la bd sb is_ ls_ js ks hsa room0 hi0 wl0 M0 mr0 gap0 best0 hs0 bb Bi Bl Bj Bk hbd bw bh wt hbx hwt ac g lk hac ha1 ha2 hg7 hg65 hlk4 H.size) (kw382 Z.1) (kw384 Z.1) (kp_P_prepareSearch Z.1) (kw385 Z.1) (kw1 Z.1) ⟨by decide, by decide, (by decide +kernel : (parseMethodDescriptor y_P_prepareSearch.desc).map (fun d => d.parameters.length) = some 1)⟩ ⟨Nat.le_of_ble_eq_true rfl, Nat.le_of_ble_eq_true rfl⟩ [0, 1, 2, 3, 4, 5, 6, 7, 8, 9, 10, 23, 24, 25, 26, 27, 28, 29, 30, 31, 32, 33, 34, 35, 36, 37, 38, 39, 40, 41, 42, 43, 44, 45, 46] rfl rfl (ci := 0) (q0 := 0) rfl rfl rfl (Nat.le_of_ble_eq_true rfl) d_P_run_70 ⟨Nat.le_of_ble_eq_true rfl, Nat.le_of_ble_eq_true rfl⟩) hP hD hS hA [0, 1, 2, 3, 4, 5, 6, 7, 8, 9, 10, 23, 24, 25, 26, 27, 28, 29, 30, 31, 32, 33, 34, 35, 36, 37, 38, 39, 40, 41, 42, 43, 44, 45, 46] [11, 12, 13, 14, 15, 16, 17, 18, 19, 20, 21, 22] rfl rfl rfl (by decide) (fun (u : St) => (w_P a cA ii li ia la bd) ++ (w_S sb cA u.1 u.2.1 u.2.2.1 u.2.2.2) ++ (w_Y y cA iy ly jy ky) ++ (w_B (bb 0) cA (Bi 0) (Bl 0) (Bj 0) (Bk 0)) ++ (w_B (bb 1) cA (Bi 1) (Bl 1) (Bj 1) (Bk 1)) ++ (w_B (bb 2) cA (Bi 2) (Bl 2) (Bj 2) (Bk 2)) ++ (w_B (bb 3) cA (Bi 3) (Bl 3) (Bj 3) (Bk 3))) [12, 13, 14, 15, 16, 17, 18, 19, 20, 21, 22, 0, 1, 2, 3, 4, 5, 6, 7, 8, 9, 10, 11, 23, 24, 25, 26, 27, 28, 29, 30, 31, 32, 33, 34, 35, 36, 37, 38, 39, 40, 41, 42, 43, 44, 45, 46] rfl (fun _ => rfl) (fun u1 H locs hJ hP hD hS => ?_)
      refine W.widen (k := 0) (n := 0) (Nat.le_of_ble_eq_true rfl) (Nat.le_of_ble_eq_true rfl) ?_
      obtain ⟨hi, wl, mr, hs1, hm, hh⟩ := hJ
      refine lv_aload_n hx hb d_P_run_73 rfl (lv_at hl 3 rfl) ?_
      refine va_get (D := D) (ci := 0) (v := .ref (a 5)) (C := R_P) (T := T_P) (N := 10) hx hb (uw_P Z.1 hg.1) (fun _ h => h) hown hK hP 0 rfl rfl 4 (by decide) (kw202 Z.1 _ _ hg.1) (fun _ h9 => h9) rfl d_P_run_74 ?_
      rw [← hsa]
      refine lv_iload hx hb d_P_run_77 (lv_at hl 2 rfl) ?_
      refine lv_lload hx hb d_P_run_79 (lv_at hl 0 rfl) ?_
      refine w_callv (wr := (w_P a cA ii li ia la bd) ++ (w_Y y cA iy ly jy ky) ++ (w_B (bb 0) cA (Bi 0) (Bl 0) (Bj 0) (Bk 0)) ++ (w_B (bb 1) cA (Bi 1) (Bl 1) (Bj 1) (Bk 1)) ++ (w_B (bb 2) cA (Bi 2) (Bl 2) (Bj 2) (Bk 2)) ++ (w_B (bb 3) cA (Bi 3) (Bl 3) (Bj 3) (Bk 3))) (w_runVN (rest := []) hx hb hml hown hl.1 hg hlo hK hP hD hS (m_S_look Z sb u1.1 u1.2.1 u1.2.2.1 u1.2.2.2 (rfN ac g bw bh (2 * lk)) hi wl M0 mr g [] n fr hs1 (by omega) hf1 hf2 H.size) (kw413 Z.1) (kw415 Z.1) (kp_S_look Z.1) (kw416 Z.1) (kw4 Z.1) ⟨by decide, by decide, (by decide +kernel : (parseMethodDescriptor y_S_look.desc).map (fun d => d.parameters.length) = some 2)⟩ ⟨Nat.le_of_ble_eq_true rfl, Nat.le_of_ble_eq_true rfl⟩ [3, 4, 5, 6, 7, 8, 9, 10] rfl rfl (ci := 4) (q0 := 3) rfl rfl rfl (Nat.le_of_ble_eq_true rfl) d_P_run_81 ⟨Nat.le_of_ble_eq_true rfl, Nat.le_of_ble_eq_true rfl⟩) hP hD hS hA [3, 4, 5, 6, 7, 8, 9, 10] [0, 1, 2, 11, 12, 13, 14, 15, 16, 17, 18, 19, 20, 21, 22, 23, 24, 25, 26, 27, 28, 29, 30, 31, 32, 33, 34, 35, 36, 37, 38, 39, 40, 41, 42, 43, 44, 45, 46] rfl rfl rfl (by decide) (fun (u : St) => (w_P a cA ii li ia la bd) ++ (w_S sb cA u.1 u.2.1 u.2.2.1 u.2.2.2) ++ (w_Y y cA iy ly jy ky) ++ (w_B (bb 0) cA (Bi 0) (Bl 0) (Bj 0) (Bk 0)) ++ (w_B (bb 1) cA (Bi 1) (Bl 1) (Bj 1) (Bk 1)) ++ (w_B (bb 2) cA (Bi 2) (Bl 2) (Bj 2) (Bk 2)) ++ (w_B (bb 3) cA (Bi 3) (Bl 3) (Bj 3) (Bk 3))) [0, 1, 2, 39, 40, 41, 42, 43, 44, 45, 46, 3, 4, 5, 6, 7, 8, 9, 10, 11, 12, 13, 14, 15, 16, 17, 18, 19, 20, 21, 22, 23, 24, 25, 26, 27, 28, 29, 30, 31, 32, 33, 34, 35, 36, 37, 38] rfl (fun _ => rfl) (fun u2 H locs hs2 hP hD hS => ?_)
      refine W.widen (k := 0) (n := 0) (Nat.le_of_ble_eq_true rfl) (Nat.le_of_ble_eq_true rfl) ?_
      have hbe := sr_try_be (hi := fun k => (hi k : Int)) (gap := (g : Int)) (fr := fr) (wl := wl) (n := n) hm (by omega)
      obtain ⟨best, hbq⟩ : ∃ z, z = sr_try (rfN ac g bw bh (2 * lk)) (fun k => (hi k : Int)) (g : Int) mr n [] 0 fr wl [] := ⟨_, rfl⟩
      rw [← hbq] at hbe hs2
      refine lv_aload_n hx hb d_P_run_84 rfl (lv_at hl 3 rfl) ?_
      refine w_callv (wr := ([] : va_W)) (w_runV (rest := []) hx hb hml hown hl.1 hg hlo hK hP hD hS (m_P_layOutBest Z a ii li ia la bd sb u2.1 u2.2.1 u2.2.2.1 u2.2.2.2 hsa (rfN ac g bw bh (2 * lk)) hi wl n mr g best hs2 y iy ly jy ky hya bb Bi Bl Bj Bk hbd bw bh wt hbx hwt g l0 y0 hg7 hg65 hl0 hl65 hy0 hy65 hbe H.size) (kw426 Z.1) (kw428 Z.1) (kp_P_layOutBest Z.1) (kw429 Z.1) (kw1 Z.1) ⟨by decide, by decide, (by decide +kernel : (parseMethodDescriptor y_P_layOutBest.desc).map (fun d => d.parameters.length) = some 0)⟩ ⟨Nat.le_of_ble_eq_true rfl, Nat.le_of_ble_eq_true rfl⟩ [0, 1, 2, 3, 4, 5, 6, 7, 8, 9, 10, 11, 12, 13, 14, 15, 16, 17, 18, 19, 20, 21, 22, 23, 24, 25, 26, 27, 28, 29, 30, 31, 32, 33, 34, 35, 36, 37, 38, 39, 40, 41, 42, 43, 44, 45, 46] rfl rfl (ci := 0) (q0 := 0) rfl rfl rfl (Nat.le_of_ble_eq_true rfl) d_P_run_85 ⟨Nat.le_of_ble_eq_true rfl, Nat.le_of_ble_eq_true rfl⟩) hP hD hS hA [0, 1, 2, 3, 4, 5, 6, 7, 8, 9, 10, 11, 12, 13, 14, 15, 16, 17, 18, 19, 20, 21, 22, 23, 24, 25, 26, 27, 28, 29, 30, 31, 32, 33, 34, 35, 36, 37, 38, 39, 40, 41, 42, 43, 44, 45, 46] [] rfl rfl rfl (by decide) (fun (u : St) => (w_P a cA ii li ia la bd) ++ (w_S sb cA u2.1 u2.2.1 u2.2.2.1 u2.2.2.2) ++ (w_Y y cA u.1 u.2.1 u.2.2.1 u.2.2.2) ++ (w_B (bb 0) cA (Bi 0) (Bl 0) (Bj 0) (Bk 0)) ++ (w_B (bb 1) cA (Bi 1) (Bl 1) (Bj 1) (Bk 1)) ++ (w_B (bb 2) cA (Bi 2) (Bl 2) (Bj 2) (Bk 2)) ++ (w_B (bb 3) cA (Bi 3) (Bl 3) (Bj 3) (Bk 3))) [0, 1, 2, 3, 4, 5, 6, 7, 8, 9, 10, 11, 12, 13, 14, 15, 16, 17, 18, 19, 20, 21, 22, 23, 24, 25, 26, 27, 28, 29, 30, 31, 32, 33, 34, 35, 36, 37, 38, 39, 40, 41, 42, 43, 44, 45, 46] rfl (fun _ => rfl) (fun u3 H locs hY hP hD hS => ?_)
      refine W.widen (k := 0) (n := 0) (Nat.le_of_ble_eq_true rfl) (Nat.le_of_ble_eq_true rfl) ?_
      refine lv_aload_n hx hb d_P_run_88 rfl (lv_at hl 3 rfl) ?_
      refine lv_iload hx hb d_P_run_89 (lv_at hl 1 rfl) ?_
      refine lv_aload_n hx hb d_P_run_91 rfl (lv_at hl 3 rfl) ?_
      refine va_get (D := D) (ci := 0) (v := .int (ii 6)) (C := R_P) (T := T_P) (N := 10) hx hb (uw_P Z.1 hg.1) (fun _ h => h) hown hK hP 0 rfl rfl 6 (by decide) (kw204 Z.1 _ _ hg.1) (fun _ h9 => h9) rfl d_P_run_92 ?_
      rw [hnb]
      refine lv_icmp_ne (tgt := 118) hx hb d_P_run_95 (by decide) (fun g9 => ?_) (fun g9 => ?_)
      · refine lv_iconst (v := 0) hx hb d_P_run_118 (by decide) ?_
        refine va_put (D := D) (ci := 0) (v := .int 0) (ty := t_P 9) (C := R_P) (T := T_P) (N := 10) hx hb (uw_P Z.1 hg.1) (fun _ h => h) t_P t_P_ok n_P hown hK hP hD hS 0 rfl rfl 9 (by decide) (kw207 Z.1 _ _ hg.1) (fun _ h9 => h9) rfl (by decide +kernel) rfl rfl (Nat.le_of_ble_eq_true rfl) d_P_run_119 (fun H locs hP hD hS => ?_)
        have hP : va_P D ncl ((w_P a cA (va_up ii 9 0) li ia la bd) ++ (w_S sb cA u2.1 u2.2.1 u2.2.2.1 u2.2.2.2) ++ (w_Y y cA u3.1 u3.2.1 u3.2.2.1 u3.2.2.2) ++ (w_B (bb 0) cA (Bi 0) (Bl 0) (Bj 0) (Bk 0)) ++ (w_B (bb 1) cA (Bi 1) (Bl 1) (Bj 1) (Bk 1)) ++ (w_B (bb 2) cA (Bi 2) (Bl 2) (Bj 2) (Bk 2)) ++ (w_B (bb 3) cA (Bi 3) (Bl 3) (Bj 3) (Bk 3))) H := hP
        have hD : va_D _ ((w_P a cA (va_up ii 9 0) li ia la bd) ++ (w_S sb cA u2.1 u2.2.1 u2.2.2.1 u2.2.2.2) ++ (w_Y y cA u3.1 u3.2.1 u3.2.2.1 u3.2.2.2) ++ (w_B (bb 0) cA (Bi 0) (Bl 0) (Bj 0) (Bk 0)) ++ (w_B (bb 1) cA (Bi 1) (Bl 1) (Bj 1) (Bk 1)) ++ (w_B (bb 2) cA (Bi 2) (Bl 2) (Bj 2) (Bk 2)) ++ (w_B (bb 3) cA (Bi 3) (Bl 3) (Bj 3) (Bk 3))) := hD
        refine lv_aload_n hx hb d_P_run_122 rfl (lv_at hl 3 rfl) ?_
        refine va_get (D := D) (ci := 0) (v := .ref (a 6)) (C := R_P) (T := T_P) (N := 10) hx hb (uw_P Z.1 hg.1) (fun _ h => h) hown hK hP 0 rfl rfl 5 (by decide) (kw203 Z.1 _ _ hg.1) (fun _ h9 => h9) rfl d_P_run_123 ?_
        rw [← hya]
        refine va_getN (D := D) (ci := 3) (v := .int (u3.1 12)) (C := R_Y) (T := T_Y) (N := 17) hx hb (uw_Y Z.1 hg.1) (fun _ h => h) hown hK hP 11 rfl rfl 12 (by decide) (kw156 Z.1 _ _ hg.1) (fun _ h9 => h9) rfl d_P_run_126 ?_
        refine lv_topi (fun z10 ez10 => ?_)
        obtain rfl : z10 = (nI (ly_n (best.map (rwB bw bh)))) := by rw [ez10]; exact hY.1.2
        refine W.widen (k := 1) (n := 6) (Nat.le_of_ble_eq_true rfl) (Nat.le_of_ble_eq_true rfl) ?_
        exact wt_iret hx hb hr hlk hP hD hS ((u2, (va_up ii 9 0), u3) : RU) rfl ⟨kn, n, hkn5, hn9, rfl, rfl, hi, wl, mr, best, by rw [← hlq]; exact hm, by rw [← hlq]; exact hh, by rw [← hlq]; exact hbq, hbe, rfl, ⟨_, _, _, _, _, _, _, hs2⟩, by rw [← hlq, if_neg (fun z => g9 (by rw [z.1]))], hY⟩ d_P_run_129
      · have heq : lk = nb := (nI_eq (by omega) (by omega)).mp g9
        refine lv_aload_n hx hb d_P_run_98 rfl (lv_at hl 3 rfl) ?_
        refine va_get (D := D) (ci := 0) (v := .ref (a 5)) (C := R_P) (T := T_P) (N := 10) hx hb (uw_P Z.1 hg.1) (fun _ h => h) hown hK hP 0 rfl rfl 4 (by decide) (kw202 Z.1 _ _ hg.1) (fun _ h9 => h9) rfl d_P_run_99 ?_
        rw [← hsa]
        refine lv_iload hx hb d_P_run_102 (lv_at hl 2 rfl) ?_
        refine lv_iconst (v := 1) hx hb d_P_run_104 (by decide) ?_
        refine lv_iadd hx hb d_P_run_105 ?_
        refine lv_topi (fun z11 ez11 => ?_)
        obtain rfl : z11 = (nI (n + 1)) := by rw [ez11]; exact nI_1 n
        refine lv_lload hx hb d_P_run_106 (lv_at hl 0 rfl) ?_
        refine w_calli (wr := (w_P a cA ii li ia la bd) ++ (w_Y y cA u3.1 u3.2.1 u3.2.2.1 u3.2.2.2) ++ (w_B (bb 0) cA (Bi 0) (Bl 0) (Bj 0) (Bk 0)) ++ (w_B (bb 1) cA (Bi 1) (Bl 1) (Bj 1) (Bk 1)) ++ (w_B (bb 2) cA (Bi 2) (Bl 2) (Bj 2) (Bk 2)) ++ (w_B (bb 3) cA (Bi 3) (Bl 3) (Bj 3) (Bk 3))) (w_runVN (rest := [.ref (a 0)]) hx hb hml hown hl.1 hg hlo hK hP hD hS (m_S_findsMore Z sb u2.1 u2.2.1 u2.2.2.1 u2.2.2.2 (rfN ac g bw bh (2 * lk)) hi wl n mr g best (n + 1) fr hs2 (by omega) hf1 hf2 H.size) (kw446 Z.1) (kw448 Z.1) (kp_S_findsMore Z.1) (kw449 Z.1) (kw4 Z.1) ⟨by decide, by decide, (by decide +kernel : (parseMethodDescriptor y_S_findsMore.desc).map (fun d => d.parameters.length) = some 2)⟩ ⟨Nat.le_of_ble_eq_true rfl, Nat.le_of_ble_eq_true rfl⟩ [3, 4, 5, 6, 7, 8, 9, 10] rfl rfl (ci := 4) (q0 := 3) rfl rfl rfl (Nat.le_of_ble_eq_true rfl) d_P_run_108 ⟨Nat.le_of_ble_eq_true rfl, Nat.le_of_ble_eq_true rfl⟩) hP hD hS hA [3, 4, 5, 6, 7, 8, 9, 10] [0, 1, 2, 11, 12, 13, 14, 15, 16, 17, 18, 19, 20, 21, 22, 23, 24, 25, 26, 27, 28, 29, 30, 31, 32, 33, 34, 35, 36, 37, 38, 39, 40, 41, 42, 43, 44, 45, 46] rfl rfl rfl (by decide) (fun (u : St) => (w_P a cA ii li ia la bd) ++ (w_S sb cA u.1 u.2.1 u.2.2.1 u.2.2.2) ++ (w_Y y cA u3.1 u3.2.1 u3.2.2.1 u3.2.2.2) ++ (w_B (bb 0) cA (Bi 0) (Bl 0) (Bj 0) (Bk 0)) ++ (w_B (bb 1) cA (Bi 1) (Bl 1) (Bj 1) (Bk 1)) ++ (w_B (bb 2) cA (Bi 2) (Bl 2) (Bj 2) (Bk 2)) ++ (w_B (bb 3) cA (Bi 3) (Bl 3) (Bj 3) (Bk 3))) [0, 1, 2, 39, 40, 41, 42, 43, 44, 45, 46, 3, 4, 5, 6, 7, 8, 9, 10, 11, 12, 13, 14, 15, 16, 17, 18, 19, 20, 21, 22, 23, 24, 25, 26, 27, 28, 29, 30, 31, 32, 33, 34, 35, 36, 37, 38] rfl (fun _ => rfl) (fun rf u4 H locs hfm hP hD hS => ?_)
        refine W.widen (k := 0) (n := 0) (Nat.le_of_ble_eq_true rfl) (Nat.le_of_ble_eq_true rfl) ?_
        obtain ⟨hf, hs4⟩ := hfm
        subst hf
        refine lv_if_ne (tgt := 118) hx hb d_P_run_111 (by decide) (fun m12 => ?_) (fun m12 => ?_)
        · refine lv_iconst (v := 0) hx hb d_P_run_118 (by decide) ?_
          refine va_put (D := D) (ci := 0) (v := .int 0) (ty := t_P 9) (C := R_P) (T := T_P) (N := 10) hx hb (uw_P Z.1 hg.1) (fun _ h => h) t_P t_P_ok n_P hown hK hP hD hS 0 rfl rfl 9 (by decide) (kw207 Z.1 _ _ hg.1) (fun _ h9 => h9) rfl (by decide +kernel) rfl rfl (Nat.le_of_ble_eq_true rfl) d_P_run_119 (fun H locs hP hD hS => ?_)
          have hP : va_P D ncl ((w_P a cA (va_up ii 9 0) li ia la bd) ++ (w_S sb cA u4.1 u4.2.1 u4.2.2.1 u4.2.2.2) ++ (w_Y y cA u3.1 u3.2.1 u3.2.2.1 u3.2.2.2) ++ (w_B (bb 0) cA (Bi 0) (Bl 0) (Bj 0) (Bk 0)) ++ (w_B (bb 1) cA (Bi 1) (Bl 1) (Bj 1) (Bk 1)) ++ (w_B (bb 2) cA (Bi 2) (Bl 2) (Bj 2) (Bk 2)) ++ (w_B (bb 3) cA (Bi 3) (Bl 3) (Bj 3) (Bk 3))) H := hP
          have hD : va_D _ ((w_P a cA (va_up ii 9 0) li ia la bd) ++ (w_S sb cA u4.1 u4.2.1 u4.2.2.1 u4.2.2.2) ++ (w_Y y cA u3.1 u3.2.1 u3.2.2.1 u3.2.2.2) ++ (w_B (bb 0) cA (Bi 0) (Bl 0) (Bj 0) (Bk 0)) ++ (w_B (bb 1) cA (Bi 1) (Bl 1) (Bj 1) (Bk 1)) ++ (w_B (bb 2) cA (Bi 2) (Bl 2) (Bj 2) (Bk 2)) ++ (w_B (bb 3) cA (Bi 3) (Bl 3) (Bj 3) (Bk 3))) := hD
          refine lv_aload_n hx hb d_P_run_122 rfl (lv_at hl 3 rfl) ?_
          refine va_get (D := D) (ci := 0) (v := .ref (a 6)) (C := R_P) (T := T_P) (N := 10) hx hb (uw_P Z.1 hg.1) (fun _ h => h) hown hK hP 0 rfl rfl 5 (by decide) (kw203 Z.1 _ _ hg.1) (fun _ h9 => h9) rfl d_P_run_123 ?_
          rw [← hya]
          refine va_getN (D := D) (ci := 3) (v := .int (u3.1 12)) (C := R_Y) (T := T_Y) (N := 17) hx hb (uw_Y Z.1 hg.1) (fun _ h => h) hown hK hP 11 rfl rfl 12 (by decide) (kw156 Z.1 _ _ hg.1) (fun _ h9 => h9) rfl d_P_run_126 ?_
          refine lv_topi (fun z13 ez13 => ?_)
          obtain rfl : z13 = (nI (ly_n (best.map (rwB bw bh)))) := by rw [ez13]; exact hY.1.2
          refine W.widen (k := 1) (n := 6) (Nat.le_of_ble_eq_true rfl) (Nat.le_of_ble_eq_true rfl) ?_
          exact wt_iret hx hb hr hlk hP hD hS ((u4, (va_up ii 9 0), u3) : RU) rfl ⟨kn, n, hkn5, hn9, rfl, rfl, hi, wl, mr, best, by rw [← hlq]; exact hm, by rw [← hlq]; exact hh, by rw [← hlq]; exact hbq, hbe, rfl, ⟨_, _, _, _, _, _, _, hs4⟩, by rw [← hlq, if_neg (fun z => m12 (by rw [if_neg z.2]))], hY⟩ d_P_run_129
        · refine lv_iconst (v := 1) hx hb d_P_run_114 (by decide) ?_
          refine lv_goto (tgt := 119) hx hb d_P_run_115 (by decide) ?_
          refine va_put (D := D) (ci := 0) (v := .int 1) (ty := t_P 9) (C := R_P) (T := T_P) (N := 10) hx hb (uw_P Z.1 hg.1) (fun _ h => h) t_P t_P_ok n_P hown hK hP hD hS 0 rfl rfl 9 (by decide) (kw207 Z.1 _ _ hg.1) (fun _ h9 => h9) rfl (by decide +kernel) rfl rfl (Nat.le_of_ble_eq_true rfl) d_P_run_119 (fun H locs hP hD hS => ?_)
          have hP : va_P D ncl ((w_P a cA (va_up ii 9 1) li ia la bd) ++ (w_S sb cA u4.1 u4.2.1 u4.2.2.1 u4.2.2.2) ++ (w_Y y cA u3.1 u3.2.1 u3.2.2.1 u3.2.2.2) ++ (w_B (bb 0) cA (Bi 0) (Bl 0) (Bj 0) (Bk 0)) ++ (w_B (bb 1) cA (Bi 1) (Bl 1) (Bj 1) (Bk 1)) ++ (w_B (bb 2) cA (Bi 2) (Bl 2) (Bj 2) (Bk 2)) ++ (w_B (bb 3) cA (Bi 3) (Bl 3) (Bj 3) (Bk 3))) H := hP
          have hD : va_D _ ((w_P a cA (va_up ii 9 1) li ia la bd) ++ (w_S sb cA u4.1 u4.2.1 u4.2.2.1 u4.2.2.2) ++ (w_Y y cA u3.1 u3.2.1 u3.2.2.1 u3.2.2.2) ++ (w_B (bb 0) cA (Bi 0) (Bl 0) (Bj 0) (Bk 0)) ++ (w_B (bb 1) cA (Bi 1) (Bl 1) (Bj 1) (Bk 1)) ++ (w_B (bb 2) cA (Bi 2) (Bl 2) (Bj 2) (Bk 2)) ++ (w_B (bb 3) cA (Bi 3) (Bl 3) (Bj 3) (Bk 3))) := hD
          refine lv_aload_n hx hb d_P_run_122 rfl (lv_at hl 3 rfl) ?_
          refine va_get (D := D) (ci := 0) (v := .ref (a 6)) (C := R_P) (T := T_P) (N := 10) hx hb (uw_P Z.1 hg.1) (fun _ h => h) hown hK hP 0 rfl rfl 5 (by decide) (kw203 Z.1 _ _ hg.1) (fun _ h9 => h9) rfl d_P_run_123 ?_
          rw [← hya]
          refine va_getN (D := D) (ci := 3) (v := .int (u3.1 12)) (C := R_Y) (T := T_Y) (N := 17) hx hb (uw_Y Z.1 hg.1) (fun _ h => h) hown hK hP 11 rfl rfl 12 (by decide) (kw156 Z.1 _ _ hg.1) (fun _ h9 => h9) rfl d_P_run_126 ?_
          refine lv_topi (fun z14 ez14 => ?_)
          obtain rfl : z14 = (nI (ly_n (best.map (rwB bw bh)))) := by rw [ez14]; exact hY.1.2
          refine W.widen (k := 1) (n := 6) (Nat.le_of_ble_eq_true rfl) (Nat.le_of_ble_eq_true rfl) ?_
          exact wt_iret hx hb hr hlk hP hD hS ((u4, (va_up ii 9 1), u3) : RU) rfl ⟨kn, n, hkn5, hn9, rfl, rfl, hi, wl, mr, best, by rw [← hlq]; exact hm, by rw [← hlq]; exact hh, by rw [← hlq]; exact hbq, hbe, rfl, ⟨_, _, _, _, _, _, _, hs4⟩, by rw [← hlq, if_pos ⟨heq, fun z => absurd m12 (by rw [if_pos z]; decide)⟩], hY⟩ d_P_run_129
    · refine W.widen (k := 0) (n := 0) (Nat.le_of_ble_eq_true rfl) (Nat.le_of_ble_eq_true rfl) ?_
      exact w_throwF (C := "java/lang/IllegalArgumentException") hx hb hml hl.1 hown hlk hem Z.2.2.1 hS0 (kw347 Z.1 _ _ hg.1) (kw348 Z.1 _ _ hg.1) (kw11 Z.1 _ _ hg.1) (vk_R.warm hg.1 (Z.2.2.2.1 (71, "boards are 0 to 4, rows 0 to 8") (by decide))) (ow_73 Z hg) (by decide) d_P_run_23 d_P_run_26 d_P_run_27 d_P_run_29 d_P_run_32 (Nat.le_of_ble_eq_true rfl) (Nat.le_of_ble_eq_true rfl) (Nat.le_of_ble_eq_true rfl) (Nat.le_of_ble_eq_true rfl) (fun x t hW hX => ⟨Or.inr ⟨x, rfl, fun z => by obtain ⟨kn, n, z1, z2, z3, z4⟩ := z; exact absurd e2 (by rw [if_pos (by rw [z4]; exact ⟨(lN_le (a := 0) (by decide) (by omega)).mpr (Nat.zero_le _), (lN_le (b := 8) (by omega) (by decide)).mpr (by omega)⟩)]; decide), hX⟩, xF hX⟩)
