theorem lcp_row {l0 g y : Nat} {rw : List Rw} {c : Nat} (hc : c < ly_n rw) : ∃ r i, r < rw.length ∧ i < (rw.getD r rw0).2.2.1 ∧ (lcp l0 g y rw).getD c cp0 = ((rw.getD r rw0).1, l0 + i * ((rw.getD r rw0).2.2.2.1 + g), ly_y y g (rw.take r), (rw.getD r rw0).2.1, (rw.getD r rw0).2.2.2.1, (rw.getD r rw0).2.2.2.2) := by
  obtain ⟨r, i, h1, h2, h3⟩ := ly_loc rw c hc
  exact ⟨r, i, h1, h2, by rw [h3]; exact lcp_get l0 g rw y r i h1 h2⟩
section TIE4
variable {P S Yy M : St} {Bi : Nat → Nat → Int32} {Bl : Nat → Nat → Int64} {Bk : Nat → Nat → Nat → Int64}
theorem inv_tab {um : St} {n m : Nat} {z : Int32} (hI : INV P S Yy M Bi Bl Bk) (hm6 : P.1 6 = nI m) (hm4 : m ≤ 4) (hn : n < m) (h1 : um.1 = va_up M.1 0 z) (h2 : um.2.1 = M.2.1) (h3 : um.2.2.1 = M.2.2.1) (h4 : tbI n M.2.2.2 um.2.2.2) : INV P S Yy um Bi Bl Bk := by
  obtain ⟨w, h, nb, g, l0, y0, g0, r, nc, np, wt, X, Y, rw, bf, i1, i2, i3, i4, i5, i6, i7, i8, i9, i10, i11⟩ := hI
  have e3 : nb = m := (nI_eq (by have := i2.2.2; omega) (by omega)).mp (i2.1.symm.trans hm6)
  obtain ⟨u1, u2, u3, u4⟩ := um
  dsimp only at h1 h2 h3 h4
  subst h1; subst h2; subst h3
  have k10 := h4.1 10 (by decide) (by decide) (by decide) (by decide)
  have k5 := h4.1 5 (by decide) (by decide) (by decide) (by decide)
  have k6 := h4.1 6 (by decide) (by decide) (by decide) (by decide)
  have k9 := h4.1 9 (by decide) (by decide) (by decide) (by decide)
  have k14 := h4.1 14 (by decide) (by decide) (by decide) (by decide)
  refine ⟨w, h, nb, g, l0, y0, g0, r, nc, np, wt, X, Y, rw, bf, i1, i2, fun k hk => ?_, i4, i5, fun b hb => ?_, fun b hb => ?_, i8, ⟨i9.1, i9.2.1, i9.2.2.1, ⟨i9.2.2.2.1.1, fun c hc j hj => ?_⟩, i9.2.2.2.2⟩, fun b hb hb4 => ?_, i11⟩
  · show _ ∧ u4 10 k = _ ∧ _
    rw [k10]; exact i3 k hk
  · obtain ⟨a1, a2, a3, a4, a5, a6⟩ := i6 b hb
    refine ⟨a1, a2, a3, a4, fun j hj => ?_, a6⟩
    show _ ∧ _ ∧ u4 5 _ = _ ∧ u4 6 _ = _ ∧ _
    rw [k5, k6]; exact a5 j hj
  · obtain ⟨a1, a2, a3, a4⟩ := i7 b hb
    refine ⟨a1, a2, a3, fun j hj => ?_⟩
    show u4 9 _ = _ ∧ u4 9 _ = _ ∧ u4 9 _ = _
    rw [k9]; exact a4 j hj
  · show u4 14 _ = _
    rw [k14]; exact i9.2.2.2.1.2 c hc j hj
  · show u4 19 b = 0 ∧ u4 20 b = 0
    have := h4.2 b (by omega)
    rw [this.1, this.2]; exact i10 b hb hb4
theorem tie_tab {l0 y0 g nb m n n0 np0 : Nat} {nc : Nat → Nat} {bf : Nat → Bool} {rw : List Rw} {v k wt : Int32} {kb : Nat → Nat → Int64} {lb : Nat → Int64} {d1 d2 : Int64} {k9 : Int32} {uc : Unit × (Nat → Int64)} {oF : Nat → Int64} {rm : Int64} {um : St} (hI : INV P S Yy M Bi Bl Bk) (hL : iL nb nc l0 y0 g rw bf Yy M) (hm6 : P.1 6 = nI m) (hm4 : m ≤ 4) (hnb : nb = m) (hbq : ∀ c, c < (lcp l0 g y0 rw).length → v = nI c → cpk ((lcp l0 g y0 rw).getD c cp0) 0 = n ∧ 0 < n0)
    (hc : (∃ v9 : Int64, k9 = 0 ∧ (∃ c sd wh, c < ly_n rw ∧ v = nI c ∧ sd < 4 ∧ k = nI sd ∧ wh < 2 ∧ wt = nI wh ∧ (List.range np0).any (bn kb lb (tb_x ((lcp l0 g y0 rw).getD c cp0) sd) (tb_y ((lcp l0 g y0 rw).getD c cp0) sd) (nI (cpk ((lcp l0 g y0 rw).getD c cp0) 3))) = false ∧ v9 = if wh = 0 then lN (cpk ((lcp l0 g y0 rw).getD c cp0) 1) + tb_x ((lcp l0 g y0 rw).getD c cp0) sd else lN (cpk ((lcp l0 g y0 rw).getD c cp0) 2) + tb_y ((lcp l0 g y0 rw).getD c cp0) sd) ∧ uc.2 0 = v9) ∨ (k9 = 1 ∧ (¬ ((∃ c, c < ly_n rw ∧ v = nI c) ∧ (∃ sd, sd < 4 ∧ k = nI sd) ∧ ∃ wh, wh < 2 ∧ wt = nI wh)) ∧ uc = ((), oF)) ∨ (k9 = 2 ∧ (∃ c sd, c < ly_n rw ∧ v = nI c ∧ sd < 4 ∧ k = nI sd ∧ (∃ wh, wh < 2 ∧ wt = nI wh) ∧ (List.range np0).any (bn kb lb (tb_x ((lcp l0 g y0 rw).getD c cp0) sd) (tb_y ((lcp l0 g y0 rw).getD c cp0) sd) (nI (cpk ((lcp l0 g y0 rw).getD c cp0) 3))) = true) ∧ uc = ((), oF)))
    (hm : (∃ c sd wh, c < (lcp l0 g y0 rw).length ∧ v = nI c ∧ sd < 4 ∧ k = nI sd ∧ wh < 2 ∧ wt = nI wh ∧ um.2.1 = M.2.1 ∧ um.2.2.1 = M.2.2.1 ∧ tbI n M.2.2.2 um.2.2.2 ∧ um.2.2.2 19 n = d1 ∧ um.2.2.2 20 n = d2 ∧ (((List.range np0).any (bn kb lb (tb_x ((lcp l0 g y0 rw).getD c cp0) sd) (tb_y ((lcp l0 g y0 rw).getD c cp0) sd) (nI (cpk ((lcp l0 g y0 rw).getD c cp0) 3))) = true ∧ um.1 = va_up M.1 0 2) ∨ ((List.range np0).any (bn kb lb (tb_x ((lcp l0 g y0 rw).getD c cp0) sd) (tb_y ((lcp l0 g y0 rw).getD c cp0) sd) (nI (cpk ((lcp l0 g y0 rw).getD c cp0) 3))) = false ∧ um.1 = va_up M.1 0 0 ∧ rm = if wh = 0 then lN (cpk ((lcp l0 g y0 rw).getD c cp0) 1) + tb_x ((lcp l0 g y0 rw).getD c cp0) sd else lN (cpk ((lcp l0 g y0 rw).getD c cp0) 2) + tb_y ((lcp l0 g y0 rw).getD c cp0) sd))) ∨ (¬ ((∃ c, c < (lcp l0 g y0 rw).length ∧ v = nI c) ∧ (∃ sd, sd < 4 ∧ k = nI sd) ∧ ∃ wh, wh < 2 ∧ wt = nI wh) ∧ um = (va_up M.1 0 1, M.2.1, M.2.2.1, M.2.2.2))) :
    um.1 0 = k9 ∧ (k9 = 0 → uc.2 0 = rm) ∧ INV P S Yy um Bi Bl Bk := by
  have hn := n160 hL.2.1
  have hln : (lcp l0 g y0 rw).length = ly_n rw := lcp_len l0 g rw y0
  have hlt : ∀ c, c < ly_n rw → v = nI c → n < m := by
    intro c h1 h2
    obtain ⟨r, i, a1, a2, a3⟩ := lcp_row (l0 := l0) (g := g) (y := y0) h1
    have a4 := (hbq c (by rw [hln]; exact h1) h2).1
    rw [a3] at a4
    have a5 := (hL.2.2.1 _ (gd_mem rw rw0 a1)).1
    have a6 : (rw.getD r rw0).1 = n := a4
    omega
  rw [hln] at hm
  rcases hm with ⟨c', sd', wh', g1, g2, g3, g4, g5, g6, g7, g8, g9, -, -, g10⟩ | ⟨m1, rfl⟩
  · have hnm := hlt c' g1 g2
    rcases hc with ⟨v9, rfl, ⟨c, sd, wh, h1, h2, h3, h4, h5, h6, h7, h8⟩, c4⟩ | ⟨rfl, c1, rfl⟩ | ⟨rfl, ⟨c, sd, h1, h2, h3, h4, h5, h6⟩, rfl⟩
    · have e1 : c = c' := (nI_eq (by omega) (by omega)).mp (h2.symm.trans g2)
      have e2 : sd = sd' := (nI_eq (by omega) (by omega)).mp (h4.symm.trans g4)
      have e3 : wh = wh' := (nI_eq (by omega) (by omega)).mp (h6.symm.trans g6)
      subst e1; subst e2; subst e3
      rcases g10 with ⟨z, -⟩ | ⟨-, z2, z3⟩
      · rw [h7] at z; exact absurd z (by decide)
      · refine ⟨by rw [z2]; rfl, fun _ => by rw [c4, h8, z3], inv_tab hI hm6 hm4 hnm z2 g7 g8 g9⟩
    · exact absurd ⟨⟨c', g1, g2⟩, ⟨sd', g3, g4⟩, wh', g5, g6⟩ c1
    · have e1 : c = c' := (nI_eq (by omega) (by omega)).mp (h2.symm.trans g2)
      have e2 : sd = sd' := (nI_eq (by omega) (by omega)).mp (h4.symm.trans g4)
      subst e1; subst e2
      rcases g10 with ⟨-, z2⟩ | ⟨z, -⟩
      · refine ⟨by rw [z2]; rfl, fun z => absurd z (by decide), inv_tab hI hm6 hm4 hnm z2 g7 g8 g9⟩
      · rw [h6] at z; exact absurd z (by decide)
  · rcases hc with ⟨v9, rfl, ⟨c, sd, wh, h1, h2, h3, h4, h5, h6, -⟩, -⟩ | ⟨rfl, c1, rfl⟩ | ⟨rfl, ⟨c, sd, h1, h2, h3, h4, h5, -⟩, -⟩
    · exact absurd ⟨⟨c, h1, h2⟩, ⟨sd, h3, h4⟩, wh, h5, h6⟩ m1
    · exact ⟨rfl, fun z => absurd z (by decide), inv_0 1 hI⟩
    · exact absurd ⟨⟨c, h1, h2⟩, ⟨sd, h3, h4⟩, h5⟩ m1
theorem sm_0 (f : Nat → Nat) : ∀ n, sm f (n + 1) = f 0 + sm (fun i => f (i + 1)) n := by
  intro n
  induction n with
  | zero => rw [sm, sm, sm]; omega
  | succ n ih => rw [sm, ih, sm]; omega
theorem sm_list {α : Type} (h : α → Nat) (d : α) : ∀ L : List α, sm (fun c => h (L.getD c d)) L.length = (L.map h).sum := by
  intro L
  induction L with
  | nil => rfl
  | cons x L ih =>
    rw [List.length_cons, sm_0, List.map_cons, List.sum_cons]
    have : (fun i => h ((x :: L).getD (i + 1) d)) = fun i => h (L.getD i d) := by funext i; simp [List.getD_cons_succ]
    rw [this, ih]; simp
theorem sum_rep {α : Type} (v : Nat) (f : α → Nat) : ∀ L : List α, (∀ x ∈ L, f x = v) → (L.map f).sum = L.length * v := by
  intro L
  induction L with
  | nil => intro _; simp
  | cons x L ih =>
    intro hv
    rw [List.map_cons, List.sum_cons, ih (fun z hz => hv z (List.mem_cons_of_mem _ hz)), hv x List.mem_cons_self, List.length_cons, Nat.succ_mul]
    omega
theorem lcp_sum (A : Nat → Nat) (l0 g : Nat) : ∀ (rw : List Rw) (y : Nat), ((lcp l0 g y rw).map (fun q => A q.1)).sum = (rw.map (fun q => q.2.2.1 * A q.1)).sum := by
  intro rw
  induction rw with
  | nil => intro y; rfl
  | cons q rw ih =>
    intro y
    rw [lcp, List.map_append, List.sum_append, ih, List.map_cons, List.sum_cons, sum_rep (A q.1) (fun c : Cp => A c.1) _ (fun c hc => by
      obtain ⟨i, -, rfl⟩ := List.mem_map.mp hc; rfl), List.length_map, List.length_range]
theorem ts_ws (X Y : Nat → Nat → Nat) (nc : Nat → Nat) (l0 y0 g : Nat) (rw : List Rw) : tsN (arN X Y nc) rw rw.length = wsN X Y nc (lcp l0 g y0 rw) (lcp l0 g y0 rw).length := by
  unfold tsN wsN
  have h1 := sm_list (fun q : Rw => q.2.2.1 * arN X Y nc q.1) rw0 rw
  have h2 := sm_list (fun q : Cp => arN X Y nc q.1) cp0 (lcp l0 g y0 rw)
  have h3 := lcp_sum (arN X Y nc) l0 g rw y0
  exact h1.trans (h3.symm.trans h2.symm)
theorem tie_waste {w h : Nat} (hw : 0 < w) (hh : 0 < h) {T1 T2 : Nat} (hT : T1 = T2) {v : Int32} {k9 : Int32} {uc : Unit × (Nat → Int64)} {oF : Nat → Int64} {rm : Int64} {um : St} (hI : INV P S Yy M Bi Bl Bk)
    (hc : (∃ v9 : Int64, k9 = 0 ∧ (∃ i, i < 2 ∧ v = nI i ∧ v9 = (if i = 0 then lZ ((2 * w * h : Nat) - (T1 : Nat) : Int) else lN (2 * w * h)) / lN (max 1 (Nat.gcd (((2 * w * h : Nat) - (T1 : Nat) : Int)).natAbs (2 * w * h)))) ∧ uc.2 0 = v9) ∨ (k9 = 1 ∧ (¬ (∃ i, i < 2 ∧ v = nI i)) ∧ uc = ((), oF)))
    (hm : (∃ i, i < 2 ∧ v = nI i ∧ rm = (if i = 0 then lZ ((2 * w * h : Nat) - (T2 : Nat) : Int) else lN (2 * w * h)) / lN (Nat.gcd ((2 * w * h : Nat) - (T2 : Nat) : Int).natAbs (2 * w * h)) ∧ um = (va_up M.1 0 0, M.2.1, M.2.2.1, M.2.2.2)) ∨ (¬ (∃ i, i < 2 ∧ v = nI i) ∧ um = (va_up M.1 0 1, M.2.1, M.2.2.1, M.2.2.2))) :
    um.1 0 = k9 ∧ (k9 = 0 → uc.2 0 = rm) ∧ INV P S Yy um Bi Bl Bk := by
  subst hT
  rcases hc with ⟨v9, rfl, ⟨i, h1, h2, h3⟩, c4⟩ | ⟨rfl, c1, rfl⟩
  · rcases hm with ⟨i', g1, g2, g3, rfl⟩ | ⟨m1, -⟩
    · have e1 : i = i' := (nI_eq (by omega) (by omega)).mp (h2.symm.trans g2)
      subst e1
      refine ⟨rfl, fun _ => ?_, inv_0 0 hI⟩
      have hp : 0 < Nat.gcd (((2 * w * h : Nat) - (T1 : Nat) : Int)).natAbs (2 * w * h) := Nat.gcd_pos_of_pos_right _ (Nat.mul_pos (Nat.mul_pos (by decide) hw) hh)
      rw [c4, h3, g3, Nat.max_eq_right hp]
    · exact absurd ⟨i, h1, h2⟩ m1
  · rcases hm with ⟨i', g1, g2, -⟩ | ⟨-, rfl⟩
    · exact absurd ⟨i', g1, g2⟩ c1
    · exact ⟨rfl, fun z => absurd z (by decide), inv_0 1 hI⟩
/-- a board's area, as the class sums it up -/
theorem ba_aZ {la : Nat → Nat → Int64} {X Y : Nat → Nat} {n : Nat} (hX : ∀ j, j < n → la 0 j = lN (X j)) (hY : ∀ j, j < n → la 1 j = lN (Y j)) : ∀ k, k ≤ n → ba_sum la n k = lZ (aZ X Y n k) := by
  intro k
  induction k with
  | zero => intro _; rfl
  | succ k ih =>
    intro hk
    have h1 := nx_lt (n := n) (k := k) (by omega)
    rw [ba_sum, aZ, ih (by omega), hX k (by omega), hY _ h1, hX _ h1, hY k (by omega), lN_mul, lN_mul, ← lZ_nat, ← lZ_nat, lZ_sub, lZ_add]
theorem abL_ar {la : Nat → Nat → Int64} {X Y : Nat → Nat → Nat} {nc : Nat → Nat} {b : Nat} (hn : nc b ≤ 12) (hX : ∀ j, j < nc b → la 0 j = lN (X b j) ∧ X b j ≤ 65536) (hY : ∀ j, j < nc b → la 1 j = lN (Y b j) ∧ Y b j ≤ 65536) : abL (ba_sum la (nc b) (nc b)) = lN (arN X Y nc b) ∧ arN X Y nc b ≤ 1000000000000 := by
  have h1 := aZ_bd (fun j hj => (hX j hj).2) (fun j hj => (hY j hj).2) (nc b) (Nat.le_refl _)
  have h2 := arN_le (X := X) (Y := Y) (nc := nc) (b := b) hn (fun j hj => (hX j hj).2) (fun j hj => (hY j hj).2)
  refine ⟨?_, by omega⟩
  unfold abL arN
  rw [ba_aZ (fun j hj => (hX j hj).1) (fun j hj => (hY j hj).1) (nc b) (Nat.le_refl _)]
  exact lZ_abs (by omega) (by omega)
end TIE4
