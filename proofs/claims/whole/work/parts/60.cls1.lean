/-- the other boards -/
def pn (n i : Nat) : Nat := if i < n then i else i + 1
theorem b_pm {α : Type} (F : Nat → List α) (X : List α) {n : Nat} (hn : n < 4) : (X ++ F 0 ++ F 1 ++ F 2 ++ F 3).Perm (X ++ F n ++ F (pn n 0) ++ F (pn n 1) ++ F (pn n 2)) := by
  rcases (by omega : n = 0 ∨ n = 1 ∨ n = 2 ∨ n = 3) with rfl | rfl | rfl | rfl
  · exact List.Perm.refl _
  · show (X ++ F 0 ++ F 1 ++ F 2 ++ F 3).Perm (X ++ F 1 ++ F 0 ++ F 2 ++ F 3)
    simp only [List.append_assoc]
    exact List.Perm.append_left _ (List.perm_append_comm_assoc _ _ _)
  · show (X ++ F 0 ++ F 1 ++ F 2 ++ F 3).Perm (X ++ F 2 ++ F 0 ++ F 1 ++ F 3)
    simp only [List.append_assoc]
    exact List.Perm.append_left _ ((List.Perm.append_left _ (List.perm_append_comm_assoc _ _ _)).trans (List.perm_append_comm_assoc _ _ _))
  · show (X ++ F 0 ++ F 1 ++ F 2 ++ F 3).Perm (X ++ F 3 ++ F 0 ++ F 1 ++ F 2)
    simp only [List.append_assoc]
    refine List.Perm.append_left _ ?_
    refine List.Perm.trans ?_ (List.perm_append_comm (l₁ := F 0 ++ (F 1 ++ F 2)) (l₂ := F 3))
    simp only [List.append_assoc]
    exact List.Perm.refl _
theorem vP_perm {D : va_G} {cl : List vw_C} {ws ws' : va_W} {H : Heap} (h : ws.Perm ws') (hP : va_P D cl ws H) : va_P D cl ws' H := by
  intro k q hk
  obtain ⟨j, hj⟩ := List.getElem?_of_mem (h.mem_iff.mpr (List.mem_of_getElem? hk))
  exact hP j q hj
theorem vD_nd {A : Nat → Prop} {ws : va_W} : va_D A ws ↔ (ws.map Prod.fst).Nodup ∧ ∀ q ∈ ws, A q.1 := by
  constructor
  · intro h
    refine ⟨?_, fun q hq => ?_⟩
    · rw [List.Nodup, List.pairwise_iff_getElem]
      intro i j hi hj hij e
      rw [List.length_map] at hi hj
      rw [List.getElem_map, List.getElem_map] at e
      have := h.1 i j _ _ (List.getElem?_eq_getElem hi) (List.getElem?_eq_getElem hj) e
      omega
    · obtain ⟨j, hj⟩ := List.getElem?_of_mem hq
      exact h.2 j q hj
  · intro h
    refine ⟨fun i j p q hi hj e => ?_, fun k q hk => h.2 q (List.mem_of_getElem? hk)⟩
    have h1 := h.1
    rw [List.Nodup, List.pairwise_iff_getElem] at h1
    obtain ⟨li, ei⟩ := List.getElem?_eq_some_iff.mp hi
    obtain ⟨lj, ej⟩ := List.getElem?_eq_some_iff.mp hj
    rcases Nat.lt_trichotomy i j with z | z | z
    · exact absurd (by rw [List.getElem_map, List.getElem_map, ei, ej]; exact e) (h1 i j (by rw [List.length_map]; exact li) (by rw [List.length_map]; exact lj) z)
    · exact z
    · exact absurd (by rw [List.getElem_map, List.getElem_map, ei, ej]; exact e.symm) (h1 j i (by rw [List.length_map]; exact lj) (by rw [List.length_map]; exact li) z)
theorem vD_perm {A : Nat → Prop} {ws ws' : va_W} (h : ws.Perm ws') (hD : va_D A ws) : va_D A ws' := by
  rw [vD_nd] at hD ⊢
  exact ⟨(h.map _).nodup_iff.mp hD.1, fun q hq => hD.2 q (h.mem_iff.mpr hq)⟩
theorem bq_in {D : va_G} {A : Nat → Prop} {H : Heap} {F : Nat → va_W} {X : va_W} {n : Nat} (hn : n < 4) (hP : va_P D ncl (X ++ F 0 ++ F 1 ++ F 2 ++ F 3) H) (hD : va_D A (X ++ F 0 ++ F 1 ++ F 2 ++ F 3)) : va_P D ncl (X ++ F n ++ F (pn n 0) ++ F (pn n 1) ++ F (pn n 2)) H ∧ va_D A (X ++ F n ++ F (pn n 0) ++ F (pn n 1) ++ F (pn n 2)) :=
  ⟨vP_perm (b_pm F X hn) hP, vD_perm (b_pm F X hn) hD⟩
theorem bq_out {D : va_G} {A : Nat → Prop} {H : Heap} {F : Nat → va_W} {X : va_W} {n : Nat} (hn : n < 4) (hP : va_P D ncl (X ++ F n ++ F (pn n 0) ++ F (pn n 1) ++ F (pn n 2)) H) (hD : va_D A (X ++ F n ++ F (pn n 0) ++ F (pn n 1) ++ F (pn n 2))) : va_P D ncl (X ++ F 0 ++ F 1 ++ F 2 ++ F 3) H ∧ va_D A (X ++ F 0 ++ F 1 ++ F 2 ++ F 3) :=
  ⟨vP_perm (b_pm F X hn).symm hP, vD_perm (b_pm F X hn).symm hD⟩
/-- twice the areas of the copies in the first rows -/
def tsN (A2 : Nat → Nat) (rw : List Rw) (r : Nat) : Nat := sm (fun j => (rw.getD j rw0).2.2.1 * A2 (rw.getD j rw0).1) r
def abL (x : Int64) : Int64 := if 0 < x then x else -x
set_option maxHeartbeats 4000000 in
set_option maxRecDepth 100000 in
theorem m_P_twiceAreaOfCopies {l : Launch} {s0 : State} {D : va_G} {cA sa : Nat → Nat} (Z : zE l s0 D cA sa) (a : Nat → Nat) (ii : Nat → Int32) (li : Nat → Int64) (ia : Nat → Nat → Int32) (la : Nat → Nat → Int64) (bd : Nat → Nat) (y : Nat → Nat) (iy : Nat → Int32) (ly : Nat → Int64) (jy : Nat → Nat → Int32) (ky : Nat → Nat → Int64) (hya : y 0 = a 6) (l0 y0 g : Nat) (rw : List Rw) (bf : Nat → Bool) (hy : yR l0 y0 g rw bf (iy, ly, jy, ky)) (hok : okR l0 y0 g rw) (bb : Nat → Nat → Nat) (Bi : Nat → Nat → Int32) (Bl : Nat → Nat → Int64) (Bj : Nat → Nat → Nat → Int32) (Bk : Nat → Nat → Nat → Int64) (hbd : ∀ k, k < 4 → bd k = bb k 0) (nc A2 : Nat → Nat) (hnc : ∀ k, k < 4 → Bi k 5 = nI (nc k) ∧ nc k ≤ 12) (hA2 : ∀ k, k < 4 → abL (ba_sum (Bk k) (nc k) (nc k)) = lN (A2 k) ∧ A2 k ≤ 1000000000000) (sz : Nat) : Met l y_P_twiceAreaOfCopies [.code y_P_twiceAreaOfCopies c_P_twiceAreaOfCopies 4 (some .long)] ({ frames := 2, cells := 0, slots := 0, locals := 100 }) (wP s0 D [.ref (a 0)] ((w_P a cA ii li ia la bd) ++ (w_Y y cA iy ly jy ky) ++ (w_B (bb 0) cA (Bi 0) (Bl 0) (Bj 0) (Bk 0)) ++ (w_B (bb 1) cA (Bi 1) (Bl 1) (Bj 1) (Bk 1)) ++ (w_B (bb 2) cA (Bi 2) (Bl 2) (Bj 2) (Bk 2)) ++ (w_B (bb 3) cA (Bi 3) (Bl 3) (Bj 3) (Bk 3))) sz) (va_Ql (fun r (_ : Unit) => r = lN (tsN A2 rw rw.length)) (wB D (va_A ((w_P a cA ii li ia la bd) ++ (w_Y y cA iy ly jy ky) ++ (w_B (bb 0) cA (Bi 0) (Bl 0) (Bj 0) (Bk 0)) ++ (w_B (bb 1) cA (Bi 1) (Bl 1) (Bj 1) (Bk 1)) ++ (w_B (bb 2) cA (Bi 2) (Bl 2) (Bj 2) (Bk 2)) ++ (w_B (bb 3) cA (Bi 3) (Bl 3) (Bj 3) (Bk 3))) sz) (fun _ => (w_P a cA ii li ia la bd) ++ (w_Y y cA iy ly jy ky) ++ (w_B (bb 0) cA (Bi 0) (Bl 0) (Bj 0) (Bk 0)) ++ (w_B (bb 1) cA (Bi 1) (Bl 1) (Bj 1) (Bk 1)) ++ (w_B (bb 2) cA (Bi 2) (Bl 2) (Bj 2) (Bk 2)) ++ (w_B (bb 3) cA (Bi 3) (Bl 3) (Bj 3) (Bk 3)))) (va_A ((w_P a cA ii li ia la bd) ++ (w_Y y cA iy ly jy ky) ++ (w_B (bb 0) cA (Bi 0) (Bl 0) (Bj 0) (Bk 0)) ++ (w_B (bb 1) cA (Bi 1) (Bl 1) (Bj 1) (Bk 1)) ++ (w_B (bb 2) cA (Bi 2) (Bl 2) (Bj 2) (Bk 2)) ++ (w_B (bb 3) cA (Bi 3) (Bl 3) (Bj 3) (Bk 3))) sz)) 0 0 (va_A ((w_P a cA ii li ia la bd) ++ (w_Y y cA iy ly jy ky) ++ (w_B (bb 0) cA (Bi 0) (Bl 0) (Bj 0) (Bk 0)) ++ (w_B (bb 1) cA (Bi 1) (Bl 1) (Bj 1) (Bk 1)) ++ (w_B (bb 2) cA (Bi 2) (Bl 2) (Bj 2) (Bk 2)) ++ (w_B (bb 3) cA (Bi 3) (Bl 3) (Bj 3) (Bk 3))) sz) := by
  refine wMet Z (by decide) (Nat.le_of_ble_eq_true rfl) ?_
  intro p e s m below meth c hx hb hr hml hown hlk hin hg hK hsz hP hD hA hlo hS ls hl
  subst hsz
  have hown : s.vm.findClass R_P = some m.cls := hown
  have h8 := hok.2.2.2.1
  refine lv_lconst (v := 0) hx hb d_P_twiceAreaOfCopies_0 (by decide) ?_
  refine lv_topl (fun z1 ez1 => ?_)
  obtain rfl : z1 = (lN (tsN A2 rw 0)) := by rw [ez1]; rfl
  refine lv_lstore_n (lv' := [(1, .long (lN (tsN A2 rw 0))), (0, .ref (a 0))]) hx hb d_P_twiceAreaOfCopies_1 rfl hl (by decide) rfl (fun ls hl => ?_)
  refine lv_iconst (v := 0) hx hb d_P_twiceAreaOfCopies_2 (by decide) ?_
  refine lv_topi (fun z2 ez2 => ?_)
  obtain rfl : z2 = (nI 0) := by rw [ez2]; rfl
  refine lv_istore_n (lv' := [(3, .int (nI 0)), (1, .long (lN (tsN A2 rw 0))), (0, .ref (a 0))]) hx hb d_P_twiceAreaOfCopies_3 rfl hl (by decide) rfl (fun ls hl => ?_)
  have loop : ∀ (f : Nat) (r : Nat), rw.length - r < f → r ≤ rw.length → ∀ (H : Heap) (locs : List Loc), va_P D ncl ((w_P a cA ii li ia la bd) ++ (w_Y y cA iy ly jy ky) ++ (w_B (bb 0) cA (Bi 0) (Bl 0) (Bj 0) (Bk 0)) ++ (w_B (bb 1) cA (Bi 1) (Bl 1) (Bj 1) (Bk 1)) ++ (w_B (bb 2) cA (Bi 2) (Bl 2) (Bj 2) (Bk 2)) ++ (w_B (bb 3) cA (Bi 3) (Bl 3) (Bj 3) (Bk 3))) H → va_D (va_A ((w_P a cA ii li ia la bd) ++ (w_Y y cA iy ly jy ky) ++ (w_B (bb 0) cA (Bi 0) (Bl 0) (Bj 0) (Bk 0)) ++ (w_B (bb 1) cA (Bi 1) (Bl 1) (Bj 1) (Bk 1)) ++ (w_B (bb 2) cA (Bi 2) (Bl 2) (Bj 2) (Bk 2)) ++ (w_B (bb 3) cA (Bi 3) (Bl 3) (Bj 3) (Bk 3))) s.heap.size) ((w_P a cA ii li ia la bd) ++ (w_Y y cA iy ly jy ky) ++ (w_B (bb 0) cA (Bi 0) (Bl 0) (Bj 0) (Bk 0)) ++ (w_B (bb 1) cA (Bi 1) (Bl 1) (Bj 1) (Bk 1)) ++ (w_B (bb 2) cA (Bi 2) (Bl 2) (Bj 2) (Bk 2)) ++ (w_B (bb 3) cA (Bi 3) (Bl 3) (Bj 3) (Bk 3))) → va_S (va_A ((w_P a cA ii li ia la bd) ++ (w_Y y cA iy ly jy ky) ++ (w_B (bb 0) cA (Bi 0) (Bl 0) (Bj 0) (Bk 0)) ++ (w_B (bb 1) cA (Bi 1) (Bl 1) (Bj 1) (Bk 1)) ++ (w_B (bb 2) cA (Bi 2) (Bl 2) (Bj 2) (Bk 2)) ++ (w_B (bb 3) cA (Bi 3) (Bl 3) (Bj 3) (Bk 3))) s.heap.size) s.heap H locs → ∀ (ls : Array Slot), lv_has ls 4 [(0, .ref (a 0)), (1, .long (lN (tsN A2 rw r))), (3, .int (nI r))] → W p l e ({ frames := 2, cells := 0, slots := 0, locals := 100 }) s m ([.ref (a 0)] : List Value).toArray below meth c H locs 0 0 (MQ below (va_Ql (fun r (_ : Unit) => r = lN (tsN A2 rw rw.length)) (wB D (va_A ((w_P a cA ii li ia la bd) ++ (w_Y y cA iy ly jy ky) ++ (w_B (bb 0) cA (Bi 0) (Bl 0) (Bj 0) (Bk 0)) ++ (w_B (bb 1) cA (Bi 1) (Bl 1) (Bj 1) (Bk 1)) ++ (w_B (bb 2) cA (Bi 2) (Bl 2) (Bj 2) (Bk 2)) ++ (w_B (bb 3) cA (Bi 3) (Bl 3) (Bj 3) (Bk 3))) s.heap.size) (fun _ => (w_P a cA ii li ia la bd) ++ (w_Y y cA iy ly jy ky) ++ (w_B (bb 0) cA (Bi 0) (Bl 0) (Bj 0) (Bk 0)) ++ (w_B (bb 1) cA (Bi 1) (Bl 1) (Bj 1) (Bk 1)) ++ (w_B (bb 2) cA (Bi 2) (Bl 2) (Bj 2) (Bk 2)) ++ (w_B (bb 3) cA (Bi 3) (Bl 3) (Bj 3) (Bk 3)))) (va_A ((w_P a cA ii li ia la bd) ++ (w_Y y cA iy ly jy ky) ++ (w_B (bb 0) cA (Bi 0) (Bl 0) (Bj 0) (Bk 0)) ++ (w_B (bb 1) cA (Bi 1) (Bl 1) (Bj 1) (Bk 1)) ++ (w_B (bb 2) cA (Bi 2) (Bl 2) (Bj 2) (Bk 2)) ++ (w_B (bb 3) cA (Bi 3) (Bl 3) (Bj 3) (Bk 3))) s.heap.size)) ([.ref (a 0)] : List Value).toArray s 0 0 (va_A ((w_P a cA ii li ia la bd) ++ (w_Y y cA iy ly jy ky) ++ (w_B (bb 0) cA (Bi 0) (Bl 0) (Bj 0) (Bk 0)) ++ (w_B (bb 1) cA (Bi 1) (Bl 1) (Bj 1) (Bk 1)) ++ (w_B (bb 2) cA (Bi 2) (Bl 2) (Bj 2) (Bk 2)) ++ (w_B (bb 3) cA (Bi 3) (Bl 3) (Bj 3) (Bk 3))) s.heap.size)) (F0 m 4 ls []) := by
    intro f
    induction f with
    | zero => intro r h; exact absurd h (Nat.not_lt_zero _)
    | succ f ih =>
      intro r hf hr1 H locs hP hD hS ls hl
      refine lv_iload_n hx hb d_P_twiceAreaOfCopies_4 rfl (lv_at hl 2 rfl) ?_
      refine lv_aload_n hx hb d_P_twiceAreaOfCopies_5 rfl (lv_at hl 0 rfl) ?_
      refine va_get (D := D) (ci := 0) (v := .ref (a 6)) (C := R_P) (T := T_P) (N := 10) hx hb (uw_P Z.1 hg.1) (fun _ h => h) hown hK hP 0 rfl rfl 5 (by decide) (kw203 Z.1 _ _ hg.1) (fun _ h9 => h9) rfl d_P_twiceAreaOfCopies_6 ?_
      rw [← hya]
      refine va_getN (D := D) (ci := 3) (v := .int (iy 11)) (C := R_Y) (T := T_Y) (N := 17) hx hb (uw_Y Z.1 hg.1) (fun _ h => h) hown hK hP 3 rfl rfl 11 (by decide) (kw154 Z.1 _ _ hg.1) (fun _ h9 => h9) rfl d_P_twiceAreaOfCopies_9 ?_
      refine lv_topi (fun z3 ez3 => ?_)
      obtain rfl : z3 = (nI rw.length) := by rw [ez3]; exact hy.1.1
      refine lv_icmp_ge (tgt := 52) hx hb d_P_twiceAreaOfCopies_12 (by decide) (fun c4 => ?_) (fun c4 => ?_)
      · obtain rfl : r = rw.length := by have := (nI_leI (by omega) (by omega)).mp c4; omega
        refine lv_lload_n hx hb d_P_twiceAreaOfCopies_52 rfl (lv_at hl 1 rfl) ?_
        exact w_lret hx hb hr hlk hP hD hS () rfl rfl d_P_twiceAreaOfCopies_53
      · have hrl : r < rw.length := Nat.lt_of_not_le (fun z => c4 ((nI_leI (by omega) (by omega)).mpr z))
        have hq := gd_mem rw rw0 hrl
        have hok1 := hok.2.2.2.2 _ hq
        have hrF := hy.2.2.1 r hrl
        obtain ⟨b, hbq⟩ : ∃ z, z = (rw.getD r rw0).1 := ⟨_, rfl⟩
        obtain ⟨n, hnq⟩ : ∃ z, z = (rw.getD r rw0).2.2.1 := ⟨_, rfl⟩
        have hb4 : b < 4 := by rw [hbq]; exact hok1.1
        have hn20 : n ≤ 20 := by rw [hnq]; exact hok1.2.2.2.1
        refine lv_lload_n hx hb d_P_twiceAreaOfCopies_15 rfl (lv_at hl 1 rfl) ?_
        refine lv_aload_n hx hb d_P_twiceAreaOfCopies_16 rfl (lv_at hl 0 rfl) ?_
        refine va_get (D := D) (ci := 0) (v := .ref (a 6)) (C := R_P) (T := T_P) (N := 10) hx hb (uw_P Z.1 hg.1) (fun _ h => h) hown hK hP 0 rfl rfl 5 (by decide) (kw203 Z.1 _ _ hg.1) (fun _ h9 => h9) rfl d_P_twiceAreaOfCopies_17 ?_
        rw [← hya]
        refine va_getN (D := D) (ci := 3) (v := .ref (y 3)) (C := R_Y) (T := T_Y) (N := 17) hx hb (uw_Y Z.1 hg.1) (fun _ h => h) hown hK hP 3 rfl rfl 2 (by decide) (kw136 Z.1 _ _ hg.1) (fun _ h9 => h9) rfl d_P_twiceAreaOfCopies_20 ?_
        refine lv_iload_n hx hb d_P_twiceAreaOfCopies_23 rfl (lv_at hl 2 rfl) ?_
        refine va_iald hx hb hK hP 6 0 rfl rfl (vp_in_nI (n := r) (N := 8) (by omega) (by decide)) d_P_twiceAreaOfCopies_24 ?_
        refine lv_topi (fun z5 ez5 => ?_)
        rw [nI_clamp (n := r) (by omega)] at ez5
        obtain rfl : z5 = ((jy 2) r) := ez5
        refine lv_topi (fun z6 ez6 => ?_)
        obtain rfl : z6 = (nI n) := by rw [ez6]; rw [hnq]; exact hrF.2.2.1
        refine lv_i2l hx hb d_P_twiceAreaOfCopies_25 rfl ?_
        refine lv_topl (fun z7 ez7 => ?_)
        obtain rfl : z7 = (lN n) := by rw [ez7]; rw [iN_i2l (by omega), lZ_nat]
        refine lv_aload_n hx hb d_P_twiceAreaOfCopies_26 rfl (lv_at hl 0 rfl) ?_
        refine va_get (D := D) (ci := 0) (v := .ref (a 3)) (C := R_P) (T := T_P) (N := 10) hx hb (uw_P Z.1 hg.1) (fun _ h => h) hown hK hP 0 rfl rfl 2 (by decide) (kw200 Z.1 _ _ hg.1) (fun _ h9 => h9) rfl d_P_twiceAreaOfCopies_27 ?_
        refine lv_aload_n hx hb d_P_twiceAreaOfCopies_30 rfl (lv_at hl 0 rfl) ?_
        refine va_get (D := D) (ci := 0) (v := .ref (a 6)) (C := R_P) (T := T_P) (N := 10) hx hb (uw_P Z.1 hg.1) (fun _ h => h) hown hK hP 0 rfl rfl 5 (by decide) (kw203 Z.1 _ _ hg.1) (fun _ h9 => h9) rfl d_P_twiceAreaOfCopies_31 ?_
        rw [← hya]
        refine va_getN (D := D) (ci := 3) (v := .ref (y 1)) (C := R_Y) (T := T_Y) (N := 17) hx hb (uw_Y Z.1 hg.1) (fun _ h => h) hown hK hP 3 rfl rfl 0 (by decide) (kw132 Z.1 _ _ hg.1) (fun _ h9 => h9) rfl d_P_twiceAreaOfCopies_34 ?_
        refine lv_iload_n hx hb d_P_twiceAreaOfCopies_37 rfl (lv_at hl 2 rfl) ?_
        refine va_iald hx hb hK hP 4 0 rfl rfl (vp_in_nI (n := r) (N := 8) (by omega) (by decide)) d_P_twiceAreaOfCopies_38 ?_
        refine lv_topi (fun z8 ez8 => ?_)
        rw [nI_clamp (n := r) (by omega)] at ez8
        obtain rfl : z8 = ((jy 0) r) := ez8
        refine lv_topi (fun z9 ez9 => ?_)
        obtain rfl : z9 = (nI b) := by rw [ez9]; rw [hbq]; exact hrF.1
        refine va_aldq hx hb hK hP 1 3 rfl rfl (vp_in_nI (n := b) (N := 4) (by omega) (by decide)) d_P_twiceAreaOfCopies_39 ?_
        rw [nI_clamp (n := b) (by omega)]
        rw [show va_rf ((fun j => some (bd j)) b) = .ref ((bb b) 0) from congrArg Value.ref (hbd b hb4)]
        obtain ⟨hP, hD⟩ := bq_in (F := (fun k => w_B (bb k) cA (Bi k) (Bl k) (Bj k) (Bk k))) (X := (w_P a cA ii li ia la bd) ++ (w_Y y cA iy ly jy ky)) (n := b) hb4 hP hD
        have hP : va_P D ncl ((w_P a cA ii li ia la bd) ++ (w_Y y cA iy ly jy ky) ++ (w_B (bb b) cA (Bi b) (Bl b) (Bj b) (Bk b)) ++ (w_B (bb (pn b 0)) cA (Bi (pn b 0)) (Bl (pn b 0)) (Bj (pn b 0)) (Bk (pn b 0))) ++ (w_B (bb (pn b 1)) cA (Bi (pn b 1)) (Bl (pn b 1)) (Bj (pn b 1)) (Bk (pn b 1))) ++ (w_B (bb (pn b 2)) cA (Bi (pn b 2)) (Bl (pn b 2)) (Bj (pn b 2)) (Bk (pn b 2)))) H := hP
        have hD : va_D _ ((w_P a cA ii li ia la bd) ++ (w_Y y cA iy ly jy ky) ++ (w_B (bb b) cA (Bi b) (Bl b) (Bj b) (Bk b)) ++ (w_B (bb (pn b 0)) cA (Bi (pn b 0)) (Bl (pn b 0)) (Bj (pn b 0)) (Bk (pn b 0))) ++ (w_B (bb (pn b 1)) cA (Bi (pn b 1)) (Bl (pn b 1)) (Bj (pn b 1)) (Bk (pn b 1))) ++ (w_B (bb (pn b 2)) cA (Bi (pn b 2)) (Bl (pn b 2)) (Bj (pn b 2)) (Bk (pn b 2)))) := hD
        refine w_calll (wr := (w_P a cA ii li ia la bd) ++ (w_Y y cA iy ly jy ky) ++ (w_B (bb (pn b 0)) cA (Bi (pn b 0)) (Bl (pn b 0)) (Bj (pn b 0)) (Bk (pn b 0))) ++ (w_B (bb (pn b 1)) cA (Bi (pn b 1)) (Bl (pn b 1)) (Bj (pn b 1)) (Bk (pn b 1))) ++ (w_B (bb (pn b 2)) cA (Bi (pn b 2)) (Bl (pn b 2)) (Bj (pn b 2)) (Bk (pn b 2)))) (w_runVN (rest := [.long (lN n), .long (lN (tsN A2 rw r))]) hx hb hml hown hl.1 hg hlo hK hP hD hS (m_B_twiceArea Z (bb b) (Bi b) (Bl b) (Bj b) (Bk b) (nc b) (hnc b hb4).1 (hnc b hb4).2 H.size) (kw544 Z.1) (kw546 Z.1) (kp_B_twiceArea Z.1) (kw547 Z.1) (kw3 Z.1) ⟨by decide, by decide, (by decide +kernel : (parseMethodDescriptor y_B_twiceArea.desc).map (fun d => d.parameters.length) = some 0)⟩ ⟨Nat.le_of_ble_eq_true rfl, Nat.le_of_ble_eq_true rfl⟩ [15, 16, 17, 18, 19, 20] rfl rfl (ci := 2) (q0 := 15) rfl rfl rfl (Nat.le_of_ble_eq_true rfl) d_P_twiceAreaOfCopies_40 ⟨Nat.le_of_ble_eq_true rfl, Nat.le_of_ble_eq_true rfl⟩) hP hD hS hA [15, 16, 17, 18, 19, 20] [0, 1, 2, 3, 4, 5, 6, 7, 8, 9, 10, 11, 12, 13, 14, 21, 22, 23, 24, 25, 26, 27, 28, 29, 30, 31, 32, 33, 34, 35, 36, 37, 38] rfl rfl rfl (by decide) (fun _ => (w_P a cA ii li ia la bd) ++ (w_Y y cA iy ly jy ky) ++ (w_B (bb b) cA (Bi b) (Bl b) (Bj b) (Bk b)) ++ (w_B (bb (pn b 0)) cA (Bi (pn b 0)) (Bl (pn b 0)) (Bj (pn b 0)) (Bk (pn b 0))) ++ (w_B (bb (pn b 1)) cA (Bi (pn b 1)) (Bl (pn b 1)) (Bj (pn b 1)) (Bk (pn b 1))) ++ (w_B (bb (pn b 2)) cA (Bi (pn b 2)) (Bl (pn b 2)) (Bj (pn b 2)) (Bk (pn b 2)))) [0, 1, 2, 3, 4, 5, 6, 7, 8, 9, 10, 11, 12, 13, 14, 33, 34, 35, 36, 37, 38, 15, 16, 17, 18, 19, 20, 21, 22, 23, 24, 25, 26, 27, 28, 29, 30, 31, 32] rfl (fun _ => rfl) (fun ra u H locs hra hP hD hS => ?_)
        refine W.widen (k := 0) (n := 0) (Nat.le_of_ble_eq_true rfl) (Nat.le_of_ble_eq_true rfl) ?_
        obtain rfl : ra = lN (A2 b) := hra.trans (hA2 b hb4).1
        obtain ⟨hP, hD⟩ := bq_out (F := (fun k => w_B (bb k) cA (Bi k) (Bl k) (Bj k) (Bk k))) (X := (w_P a cA ii li ia la bd) ++ (w_Y y cA iy ly jy ky)) (n := b) hb4 hP hD
        have hP : va_P D ncl ((w_P a cA ii li ia la bd) ++ (w_Y y cA iy ly jy ky) ++ (w_B (bb 0) cA (Bi 0) (Bl 0) (Bj 0) (Bk 0)) ++ (w_B (bb 1) cA (Bi 1) (Bl 1) (Bj 1) (Bk 1)) ++ (w_B (bb 2) cA (Bi 2) (Bl 2) (Bj 2) (Bk 2)) ++ (w_B (bb 3) cA (Bi 3) (Bl 3) (Bj 3) (Bk 3))) H := hP
        have hD : va_D _ ((w_P a cA ii li ia la bd) ++ (w_Y y cA iy ly jy ky) ++ (w_B (bb 0) cA (Bi 0) (Bl 0) (Bj 0) (Bk 0)) ++ (w_B (bb 1) cA (Bi 1) (Bl 1) (Bj 1) (Bk 1)) ++ (w_B (bb 2) cA (Bi 2) (Bl 2) (Bj 2) (Bk 2)) ++ (w_B (bb 3) cA (Bi 3) (Bl 3) (Bj 3) (Bk 3))) := hD
        refine lv_lmul hx hb d_P_twiceAreaOfCopies_43 ?_
        refine lv_topl (fun z10 ez10 => ?_)
        obtain rfl : z10 = (lN (n * A2 b)) := by rw [ez10]; exact lN_mul _ _
        refine lv_ladd hx hb d_P_twiceAreaOfCopies_44 ?_
        refine lv_topl (fun z11 ez11 => ?_)
        obtain rfl : z11 = (lN (tsN A2 rw (r + 1))) := by rw [ez11]; rw [lN_add, tsN, tsN, sm, ← hnq, ← hbq]
        refine lv_lstore_n (lv' := [(1, .long (lN (tsN A2 rw (r + 1)))), (0, .ref (a 0)), (3, .int (nI r))]) hx hb d_P_twiceAreaOfCopies_45 rfl hl (by decide) rfl (fun ls hl => ?_)
        obtain ⟨v12, ev12⟩ : ∃ y : Int32, y = (nI r) + 1 := ⟨_, rfl⟩
        refine lv_iinc (v := v12) (lv' := [(3, .int v12), (1, .long (lN (tsN A2 rw (r + 1)))), (0, .ref (a 0))]) hx hb d_P_twiceAreaOfCopies_46 hl (k := 2) rfl (by rw [ev12]; rfl) (by decide) rfl (fun ls hl => ?_)
        refine lv_goto (tgt := 4) hx hb d_P_twiceAreaOfCopies_49 (by decide) ?_
        obtain rfl : v12 = nI (r + 1) := by rw [ev12]; exact nI_1 r
        exact ih (r + 1) (by omega) (by omega) _ _ hP hD hS ls (lv_sub hl [2, 1, 0] rfl)
  exact loop (rw.length + 1) 0 (by omega) (Nat.zero_le _) _ _ hP hD hS ls (lv_sub hl [2, 1, 0] rfl)
theorem tsN_bd {A2 : Nat → Nat} {rw : List Rw} (h : ∀ q ∈ rw, q.1 < 4 ∧ q.2.2.1 ≤ 20) (h2 : ∀ k, k < 4 → A2 k ≤ 1000000000000) (h8 : rw.length ≤ 8) : tsN A2 rw rw.length ≤ 160000000000000 := by
  unfold tsN
  have := sm_bd (f := fun j => (rw.getD j rw0).2.2.1 * A2 (rw.getD j rw0).1) (B := 20 * 1000000000000) rw.length (fun k hk => by
    have h1 := h _ (gd_mem rw rw0 hk)
    exact Nat.mul_le_mul h1.2 (h2 _ h1.1))
  omega
theorem lZ_abs {z : Int} (h1 : -1000000000000000 ≤ z) (h2 : z ≤ 1000000000000000) : (if 0 < lZ z then lZ z else -lZ z) = lN z.natAbs := by
  have e : (0 : Int64) = lZ 0 := rfl
  rw [e]
  by_cases h : 0 < z
  · rw [if_pos ((lZ_lt (by omega) (by omega) (by omega) (by omega)).mpr h), ← lZ_nat]; congr 1; omega
  · rw [if_neg (fun q => h ((lZ_lt (by omega) (by omega) (by omega) (by omega)).mp q)), lZ_neg, ← lZ_nat]; congr 1; omega
set_option maxHeartbeats 4000000 in
set_option maxRecDepth 100000 in
theorem m_P_waste {l : Launch} {s0 : State} {D : va_G} {cA sa : Nat → Nat} (Z : zE l s0 D cA sa) (a : Nat → Nat) (ii : Nat → Int32) (li : Nat → Int64) (ia : Nat → Nat → Int32) (la : Nat → Nat → Int64) (bd : Nat → Nat) (y : Nat → Nat) (iy : Nat → Int32) (ly : Nat → Int64) (jy : Nat → Nat → Int32) (ky : Nat → Nat → Int64) (hya : y 0 = a 6) (l0 y0 g : Nat) (rw : List Rw) (bf : Nat → Bool) (hy : yR l0 y0 g rw bf (iy, ly, jy, ky)) (hok : okR l0 y0 g rw) (bb : Nat → Nat → Nat) (Bi : Nat → Nat → Int32) (Bl : Nat → Nat → Int64) (Bj : Nat → Nat → Nat → Int32) (Bk : Nat → Nat → Nat → Int64) (hbd : ∀ k, k < 4 → bd k = bb k 0) (nc A2 : Nat → Nat) (hnc : ∀ k, k < 4 → Bi k 5 = nI (nc k) ∧ nc k ≤ 12) (hA2 : ∀ k, k < 4 → abL (ba_sum (Bk k) (nc k) (nc k)) = lN (A2 k) ∧ A2 k ≤ 1000000000000) (v : Int32) (w h : Nat) (hw : li 0 = lN w) (hw1 : 0 < w) (hw2 : w ≤ 65536) (hh : li 1 = lN h) (hh1 : 0 < h) (hh2 : h ≤ 65536) (sz : Nat) : th_Met l y_P_waste [.code y_P_waste c_P_waste 8 (some .long)] ({ frames := 10, cells := 1, slots := 6, locals := 300 }) (wP s0 D [.ref (a 0), .int v] ((w_P a cA ii li ia la bd) ++ (w_Y y cA iy ly jy ky) ++ (w_B (bb 0) cA (Bi 0) (Bl 0) (Bj 0) (Bk 0)) ++ (w_B (bb 1) cA (Bi 1) (Bl 1) (Bj 1) (Bk 1)) ++ (w_B (bb 2) cA (Bi 2) (Bl 2) (Bj 2) (Bk 2)) ++ (w_B (bb 3) cA (Bi 3) (Bl 3) (Bj 3) (Bk 3))) sz) (th_Ql (fun (r : Int64) (_ : Unit) => ∃ i, i < 2 ∧ v = nI i ∧ r = (if i = 0 then lZ ((2 * w * h : Nat) - (tsN A2 rw rw.length : Nat) : Int) else lN (2 * w * h)) / lN (max 1 (Nat.gcd (((2 * w * h : Nat) - (tsN A2 rw rw.length : Nat) : Int)).natAbs (2 * w * h)))) (wB D (va_A ((w_P a cA ii li ia la bd) ++ (w_Y y cA iy ly jy ky) ++ (w_B (bb 0) cA (Bi 0) (Bl 0) (Bj 0) (Bk 0)) ++ (w_B (bb 1) cA (Bi 1) (Bl 1) (Bj 1) (Bk 1)) ++ (w_B (bb 2) cA (Bi 2) (Bl 2) (Bj 2) (Bk 2)) ++ (w_B (bb 3) cA (Bi 3) (Bl 3) (Bj 3) (Bk 3))) sz) (fun _ => (w_P a cA ii li ia la bd) ++ (w_Y y cA iy ly jy ky) ++ (w_B (bb 0) cA (Bi 0) (Bl 0) (Bj 0) (Bk 0)) ++ (w_B (bb 1) cA (Bi 1) (Bl 1) (Bj 1) (Bk 1)) ++ (w_B (bb 2) cA (Bi 2) (Bl 2) (Bj 2) (Bk 2)) ++ (w_B (bb 3) cA (Bi 3) (Bl 3) (Bj 3) (Bk 3)))) (va_A ((w_P a cA ii li ia la bd) ++ (w_Y y cA iy ly jy ky) ++ (w_B (bb 0) cA (Bi 0) (Bl 0) (Bj 0) (Bk 0)) ++ (w_B (bb 1) cA (Bi 1) (Bl 1) (Bj 1) (Bk 1)) ++ (w_B (bb 2) cA (Bi 2) (Bl 2) (Bj 2) (Bk 2)) ++ (w_B (bb 3) cA (Bi 3) (Bl 3) (Bj 3) (Bk 3))) sz) (fun x H t => ¬ (∃ i, i < 2 ∧ v = nI i) ∧ th_X "java/lang/IndexOutOfBoundsException" x H t)) 1 6 (va_A ((w_P a cA ii li ia la bd) ++ (w_Y y cA iy ly jy ky) ++ (w_B (bb 0) cA (Bi 0) (Bl 0) (Bj 0) (Bk 0)) ++ (w_B (bb 1) cA (Bi 1) (Bl 1) (Bj 1) (Bk 1)) ++ (w_B (bb 2) cA (Bi 2) (Bl 2) (Bj 2) (Bk 2)) ++ (w_B (bb 3) cA (Bi 3) (Bl 3) (Bj 3) (Bk 3))) sz) := by
  refine wMetT Z (by decide) (Nat.le_of_ble_eq_true rfl) ?_
  intro p e s m below meth c hx hb hr hml hown hlk hem hg hK hsz hP hD hA hlo hS ls hl
  subst hsz
  have hown : s.vm.findClass R_P = some m.cls := hown
  have hS0 : va_S (fun q => s.heap.size ≤ q) s.heap s.heap [] := va_S.rf
  have h8 := hok.2.2.2.1
  have hts := tsN_bd (A2 := A2) (fun q hq => ⟨(hok.2.2.2.2 q hq).1, (hok.2.2.2.2 q hq).2.2.2.1⟩) (fun k hk => (hA2 k hk).2) h8
  have hwh : w * h ≤ 65536 * 65536 := Nat.mul_le_mul hw2 hh2
  have hwh0 : 0 < w * h := Nat.mul_pos hw1 hh1
  obtain ⟨N, hN⟩ : ∃ z, z = 2 * w * h := ⟨_, rfl⟩
  have hN1 : N = 2 * (w * h) := by rw [hN, Nat.mul_assoc]
  obtain ⟨T, hT⟩ : ∃ z, z = tsN A2 rw rw.length := ⟨_, rfl⟩
  rw [← hT] at hts
  refine lv_iload_n hx hb d_P_waste_0 rfl (lv_at hl 1 rfl) ?_
  refine w_check (wt_runS (rest := []) hx hb hml hown hl.1 hg hlo hP hD (qS hS0 hA) (m_P_checkOneOfTwo Z v s.heap.size) (kw484 Z.1) (kw485 Z.1) (kw486 Z.1) (kw1 Z.1) ⟨by decide, by decide, (by decide +kernel : (parseMethodDescriptor y_P_checkOneOfTwo.desc).map (fun d => d.parameters.length) = some 1)⟩ ⟨Nat.le_of_ble_eq_true rfl, Nat.le_of_ble_eq_true rfl⟩ [] rfl rfl rfl (Nat.le_of_ble_eq_true rfl) d_P_waste_1 ⟨Nat.le_of_ble_eq_true rfl, Nat.le_of_ble_eq_true rfl⟩) hP hS0 (fun H locs hc2 hP hS0 => ?_) (fun x t locs1 al hth hS1 => ?_)
  · skip
    refine W.widen (k := 1) (n := 6) (Nat.le_of_ble_eq_true rfl) (Nat.le_of_ble_eq_true rfl) ?_
    have hS := qS hS0 hA
    obtain ⟨i, hi, rfl⟩ := hc2
    refine lv_ldc2 (v := 2) hx hb hown (kw491 Z.1 _ _ hg.1) d_P_waste_4 ?_
    refine lv_aload_n hx hb d_P_waste_7 rfl (lv_at hl 0 rfl) ?_
    refine va_get (D := D) (ci := 0) (v := .long (li 0)) (C := R_P) (T := T_P) (N := 10) hx hb (uw_P Z.1 hg.1) (fun _ h => h) hown hK hP 0 rfl rfl 0 (by decide) (kw198 Z.1 _ _ hg.1) (fun _ h9 => h9) rfl d_P_waste_8 ?_
    rw [hw]
    refine lv_lmul hx hb d_P_waste_11 ?_
    refine lv_topl (fun z1 ez1 => ?_)
    obtain rfl : z1 = (lN (2 * w)) := by rw [ez1]; exact lN_mul 2 w
    refine lv_aload_n hx hb d_P_waste_12 rfl (lv_at hl 0 rfl) ?_
    refine va_get (D := D) (ci := 0) (v := .long (li 1)) (C := R_P) (T := T_P) (N := 10) hx hb (uw_P Z.1 hg.1) (fun _ h => h) hown hK hP 0 rfl rfl 1 (by decide) (kw199 Z.1 _ _ hg.1) (fun _ h9 => h9) rfl d_P_waste_13 ?_
    rw [hh]
    refine lv_lmul hx hb d_P_waste_16 ?_
    refine lv_topl (fun z2 ez2 => ?_)
    obtain rfl : z2 = (lN N) := by rw [ez2]; rw [hN]; exact lN_mul (2 * w) h
    refine lv_lstore_n (lv' := [(2, .long (lN N)), (0, .ref (a 0)), (1, .int (nI i))]) hx hb d_P_waste_17 rfl hl (by decide) rfl (fun ls hl => ?_)
    refine lv_lload_n hx hb d_P_waste_18 rfl (lv_at hl 0 rfl) ?_
    refine lv_aload_n hx hb d_P_waste_19 rfl (lv_at hl 1 rfl) ?_
    refine w_calll (wr := ([] : va_W)) (w_runV (rest := [.long (lN N)]) hx hb hml hown hl.1 hg hlo hK hP hD hS (m_P_twiceAreaOfCopies Z a ii li ia la bd y iy ly jy ky hya l0 y0 g rw bf hy hok bb Bi Bl Bj Bk hbd nc A2 hnc hA2 H.size) (kw540 Z.1) (kw542 Z.1) (kp_P_twiceAreaOfCopies Z.1) (kw543 Z.1) (kw1 Z.1) ⟨by decide, by decide, (by decide +kernel : (parseMethodDescriptor y_P_twiceAreaOfCopies.desc).map (fun d => d.parameters.length) = some 0)⟩ ⟨Nat.le_of_ble_eq_true rfl, Nat.le_of_ble_eq_true rfl⟩ [0, 1, 2, 3, 4, 5, 6, 7, 8, 9, 10, 11, 12, 13, 14, 15, 16, 17, 18, 19, 20, 21, 22, 23, 24, 25, 26, 27, 28, 29, 30, 31, 32, 33, 34, 35, 36, 37, 38] rfl rfl (ci := 0) (q0 := 0) rfl rfl rfl (Nat.le_of_ble_eq_true rfl) d_P_waste_20 ⟨Nat.le_of_ble_eq_true rfl, Nat.le_of_ble_eq_true rfl⟩) hP hD hS hA [0, 1, 2, 3, 4, 5, 6, 7, 8, 9, 10, 11, 12, 13, 14, 15, 16, 17, 18, 19, 20, 21, 22, 23, 24, 25, 26, 27, 28, 29, 30, 31, 32, 33, 34, 35, 36, 37, 38] [] rfl rfl rfl (by decide) (fun _ => (w_P a cA ii li ia la bd) ++ (w_Y y cA iy ly jy ky) ++ (w_B (bb 0) cA (Bi 0) (Bl 0) (Bj 0) (Bk 0)) ++ (w_B (bb 1) cA (Bi 1) (Bl 1) (Bj 1) (Bk 1)) ++ (w_B (bb 2) cA (Bi 2) (Bl 2) (Bj 2) (Bk 2)) ++ (w_B (bb 3) cA (Bi 3) (Bl 3) (Bj 3) (Bk 3))) [0, 1, 2, 3, 4, 5, 6, 7, 8, 9, 10, 11, 12, 13, 14, 15, 16, 17, 18, 19, 20, 21, 22, 23, 24, 25, 26, 27, 28, 29, 30, 31, 32, 33, 34, 35, 36, 37, 38] rfl (fun _ => rfl) (fun rt u H locs hrt hP hD hS => ?_)
    refine W.widen (k := 1) (n := 6) (Nat.le_of_ble_eq_true rfl) (Nat.le_of_ble_eq_true rfl) ?_
    obtain rfl : rt = lN T := by rw [hT]; exact hrt
    refine lv_lsub hx hb d_P_waste_23 ?_
    refine lv_topl (fun z3 ez3 => ?_)
    obtain rfl : z3 = (lZ ((N : Int) - (T : Int))) := by rw [ez3]; rw [← lZ_nat, ← lZ_nat, lZ_sub]
    obtain ⟨fz, hfz⟩ : ∃ z : Int, z = (N : Int) - (T : Int) := ⟨_, rfl⟩
    rw [← hfz]
    refine lv_lstore (lv' := [(4, .long (lZ fz)), (2, .long (lN N)), (0, .ref (a 0)), (1, .int (nI i))]) hx hb d_P_waste_24 hl (by decide) rfl (fun ls hl => ?_)
    refine lv_lload hx hb d_P_waste_26 (lv_at hl 0 rfl) ?_
    refine va_mabs_long hx hb (hml.trans hl.1.symm) hown (kw551 Z.1 _ _ hg.1) (kw549 Z.1 _ _ hg.1) (kw2 Z.1 _ _ hg.1) (kw550 Z.1 _ _ hg.1) (Nat.le_of_ble_eq_true rfl) (Nat.le_of_ble_eq_true rfl) (Nat.le_of_ble_eq_true rfl) (Nat.le_of_ble_eq_true rfl) d_P_waste_28 ?_
    refine lv_topl (fun z4 ez4 => ?_)
    refine lv_lload_n hx hb d_P_waste_31 rfl (lv_at hl 1 rfl) ?_
    obtain rfl : z4 = lN fz.natAbs := by rw [ez4]; exact lZ_abs (by omega) (by omega)
    refine w_calll (wr := (w_P a cA ii li ia la bd) ++ (w_Y y cA iy ly jy ky) ++ (w_B (bb 0) cA (Bi 0) (Bl 0) (Bj 0) (Bk 0)) ++ (w_B (bb 1) cA (Bi 1) (Bl 1) (Bj 1) (Bk 1)) ++ (w_B (bb 2) cA (Bi 2) (Bl 2) (Bj 2) (Bk 2)) ++ (w_B (bb 3) cA (Bi 3) (Bl 3) (Bj 3) (Bk 3))) (w_runS (rest := []) hx hb hml hown hl.1 hg hlo hP hD hS (m_P_commonDivisor Z fz.natAbs N (by omega) (by omega) H.size) (kw552 Z.1) (kw553 Z.1) (kw554 Z.1) (kw1 Z.1) ⟨by decide, by decide, (by decide +kernel : (parseMethodDescriptor y_P_commonDivisor.desc).map (fun d => d.parameters.length) = some 2)⟩ ⟨Nat.le_of_ble_eq_true rfl, Nat.le_of_ble_eq_true rfl⟩ [] rfl rfl rfl (Nat.le_of_ble_eq_true rfl) d_P_waste_32 ⟨Nat.le_of_ble_eq_true rfl, Nat.le_of_ble_eq_true rfl⟩) hP hD hS hA [] [0, 1, 2, 3, 4, 5, 6, 7, 8, 9, 10, 11, 12, 13, 14, 15, 16, 17, 18, 19, 20, 21, 22, 23, 24, 25, 26, 27, 28, 29, 30, 31, 32, 33, 34, 35, 36, 37, 38] rfl rfl rfl (by decide) (fun _ => (w_P a cA ii li ia la bd) ++ (w_Y y cA iy ly jy ky) ++ (w_B (bb 0) cA (Bi 0) (Bl 0) (Bj 0) (Bk 0)) ++ (w_B (bb 1) cA (Bi 1) (Bl 1) (Bj 1) (Bk 1)) ++ (w_B (bb 2) cA (Bi 2) (Bl 2) (Bj 2) (Bk 2)) ++ (w_B (bb 3) cA (Bi 3) (Bl 3) (Bj 3) (Bk 3))) [0, 1, 2, 3, 4, 5, 6, 7, 8, 9, 10, 11, 12, 13, 14, 15, 16, 17, 18, 19, 20, 21, 22, 23, 24, 25, 26, 27, 28, 29, 30, 31, 32, 33, 34, 35, 36, 37, 38] rfl (fun _ => rfl) (fun rd u H locs hrd hP hD hS => ?_)
    refine W.widen (k := 1) (n := 6) (Nat.le_of_ble_eq_true rfl) (Nat.le_of_ble_eq_true rfl) ?_
    obtain rfl : rd = lN (max 1 (Nat.gcd fz.natAbs N)) := hrd
    have hg0 : Nat.gcd fz.natAbs N ≤ N := Nat.le_of_dvd (by omega) (Nat.gcd_dvd_right _ _)
    obtain ⟨d, hd⟩ : ∃ z, z = max 1 (Nat.gcd fz.natAbs N) := ⟨_, rfl⟩
    rw [← hd]
    have hd1 : 0 < d ∧ d ≤ 1000000000000000 := by omega
    have hdz : ¬ lN d = 0 := fun z => by have := (lN_pz hd1.2).mp z; omega
    refine lv_lstore (lv' := [(6, .long (lN d)), (4, .long (lZ fz)), (2, .long (lN N)), (0, .ref (a 0)), (1, .int (nI i))]) hx hb d_P_waste_35 hl (by decide) rfl (fun ls hl => ?_)
    refine lv_iload_n hx hb d_P_waste_37 rfl (lv_at hl 4 rfl) ?_
    refine lv_if_ne (tgt := 46) hx hb d_P_waste_38 (by decide) (fun g5 => ?_) (fun g5 => ?_)
    · refine lv_lload_n hx hb d_P_waste_46 rfl (lv_at hl 2 rfl) ?_
      refine lv_lload hx hb d_P_waste_47 (lv_at hl 0 rfl) ?_
      refine lv_ldiv hx hb d_P_waste_49 hdz ?_
      refine W.widen (k := 1) (n := 6) (Nat.le_of_ble_eq_true rfl) (Nat.le_of_ble_eq_true rfl) ?_
      exact wt_lret hx hb hr hlk hP hD hS () rfl ⟨i, hi, rfl, by rw [← hN, ← hT, ← hfz, ← hd, if_neg (fun z => g5 (by rw [z]; rfl))]⟩ d_P_waste_50
    · refine lv_lload hx hb d_P_waste_41 (lv_at hl 1 rfl) ?_
      refine lv_goto (tgt := 47) hx hb d_P_waste_43 (by decide) ?_
      refine lv_lload hx hb d_P_waste_47 (lv_at hl 0 rfl) ?_
      refine lv_ldiv hx hb d_P_waste_49 hdz ?_
      refine W.widen (k := 1) (n := 6) (Nat.le_of_ble_eq_true rfl) (Nat.le_of_ble_eq_true rfl) ?_
      exact wt_lret hx hb hr hlk hP hD hS () rfl ⟨i, hi, rfl, by rw [← hN, ← hT, ← hfz, ← hd, if_pos ((nI_eq (b := 0) (by omega) (by decide)).mp g5)]⟩ d_P_waste_50
  · refine th_wid (k := 1) (n := 6) (Nat.le_of_ble_eq_true rfl) (Nat.le_of_ble_eq_true rfl) ?_
    exact wt_pass hem hlk hA hS1 (fun t1 ht hW => have hX := th_up hth.2 hS0 ht al hW; ⟨Or.inr ⟨x, rfl, hth.1, hX⟩, xF hX⟩)
