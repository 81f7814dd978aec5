/-! the layout, pure: rows as (board, turn, copies, wide, high), laid from y0 upwards with the gap g -/
abbrev Rw : Type := Nat × Nat × Nat × Nat × Nat
def rw0 : Rw := (0, 0, 0, 0, 0)
def ly_n (rw : List Rw) : Nat := (rw.map (fun r => r.2.2.1)).sum
def ly_y (y0 g : Nat) (rw : List Rw) : Nat := y0 + (rw.map (fun r => r.2.2.2.2 + g)).sum
def sc_add (s : List (Nat × Nat)) (y n : Nat) : List (Nat × Nat) := if 0 < s.length ∧ (s.getD (s.length - 1) (0, 0)).1 = y then s.dropLast ++ [(y, (s.getD (s.length - 1) (0, 0)).2 + n)] else s ++ [(y, n)]
def ly_f (g : Nat) (p : Nat × List (Nat × Nat)) (r : Rw) : Nat × List (Nat × Nat) := (p.1 + (r.2.2.2.2 + g), sc_add (sc_add p.2 p.1 r.2.2.1) (p.1 + r.2.2.2.2) r.2.2.1)
def ly_s (y0 g : Nat) (rw : List Rw) : List (Nat × Nat) := (rw.foldl (ly_f g) (y0, [])).2
theorem ly_n_snoc (rw : List Rw) (q : Rw) : ly_n (rw ++ [q]) = ly_n rw + q.2.2.1 := by simp [ly_n]
theorem ly_y_snoc (y0 g : Nat) (rw : List Rw) (q : Rw) : ly_y y0 g (rw ++ [q]) = ly_y y0 g rw + (q.2.2.2.2 + g) := by simp [ly_y]; omega
theorem ly_f_y (g : Nat) : ∀ (rw : List Rw) (p : Nat × List (Nat × Nat)), (rw.foldl (ly_f g) p).1 = p.1 + (rw.map (fun r => r.2.2.2.2 + g)).sum := by
  intro rw
  induction rw with
  | nil => intro p; simp
  | cons q rw ih => intro p; rw [List.foldl_cons, ih]; simp [ly_f]; omega
theorem ly_s_snoc (y0 g : Nat) (rw : List Rw) (q : Rw) : ly_s y0 g (rw ++ [q]) = sc_add (sc_add (ly_s y0 g rw) (ly_y y0 g rw) q.2.2.1) (ly_y y0 g rw + q.2.2.2.2) q.2.2.1 := by
  have h := ly_f_y g rw (y0, [])
  unfold ly_s
  rw [List.foldl_append, List.foldl_cons, List.foldl_nil]
  have h2 : (rw.foldl (ly_f g) (y0, [])).1 = ly_y y0 g rw := h
  generalize rw.foldl (ly_f g) (y0, []) = p at h2 ⊢
  rw [← h2]
  rfl
/-- what the cells say of the scores -/
def scR (s : List (Nat × Nat)) (u : St) : Prop := u.1 13 = nI s.length ∧ ∀ j, j < s.length → u.2.2.2 9 j = lN (s.getD j (0, 0)).1 ∧ u.2.2.1 10 j = nI (s.getD j (0, 0)).2
theorem sc_len (s : List (Nat × Nat)) (y n : Nat) : (sc_add s y n).length ≤ s.length + 1 ∧ s.length ≤ (sc_add s y n).length := by
  unfold sc_add
  split <;> simp
  omega
theorem gd_mem {α : Type} (s : List α) (d : α) {j : Nat} (h : j < s.length) : s.getD j d ∈ s := by
  rw [List.getD_eq_getElem?_getD, List.getElem?_eq_getElem h]
  exact List.getElem_mem h
theorem gd_drop {α : Type} (s : List α) (d x : α) {j : Nat} (h : j < s.length - 1) : (s.dropLast ++ [x]).getD j d = s.getD j d := by
  rw [gd_l _ _ _ (by simp; omega), List.getD_eq_getElem?_getD, List.getD_eq_getElem?_getD, List.getElem?_dropLast, if_pos h]
theorem sc_bd {s : List (Nat × Nat)} {y n B : Nat} (h : ∀ p ∈ s, p.1 ≤ B) (hy : y ≤ B) : ∀ p ∈ sc_add s y n, p.1 ≤ B := by
  intro p hp
  unfold sc_add at hp
  split at hp
  · rcases List.mem_append.mp hp with g | g
    · exact h p (List.dropLast_subset s g)
    · rw [List.mem_singleton.mp g]; exact hy
  · rcases List.mem_append.mp hp with g | g
    · exact h p g
    · rw [List.mem_singleton.mp g]; exact hy
/-- a score more, in the cells and in the list -/
theorem sc_step {s : List (Nat × Nat)} {ii : Nat → Int32} {li : Nat → Int64} {ia : Nat → Nat → Int32} {la : Nat → Nat → Int64} {u : St} {y n k : Nat} (h : scR s (ii, li, ia, la)) (hb : ∀ p ∈ s, p.1 ≤ 4000000) (hy : y ≤ 4000000) (hk : k = s.length)
    (hu : u = if 0 < k ∧ la 9 (k - 1) = lN y then (ii, li, va_up ia 10 (upd (ia 10) (k - 1) (ia 10 (k - 1) + nI n)), la) else (va_up ii 13 (nI (k + 1)), li, va_up ia 10 (upd (ia 10) k (nI n)), va_up la 9 (vp_updL (la 9) k (lN y)))) : scR (sc_add s y n) u := by
  obtain ⟨h1, h2⟩ := h
  dsimp only at h1 h2
  have hc : (0 < k ∧ la 9 (k - 1) = lN y) ↔ (0 < s.length ∧ (s.getD (s.length - 1) (0, 0)).1 = y) := by
    rw [hk]
    refine and_congr_right (fun h0 => ?_)
    rw [(h2 (s.length - 1) (by omega)).1]
    exact pk_lEQ (Nat.lt_of_le_of_lt (hb _ (gd_mem _ _ (by omega))) (by decide)) (by omega)
  by_cases hq : 0 < s.length ∧ (s.getD (s.length - 1) (0, 0)).1 = y
  · rw [hu, if_pos (hc.mpr hq), sc_add, if_pos hq]
    refine ⟨?_, fun j hj => ?_⟩
    · show ii 13 = _
      rw [h1]; congr 1; simp; omega
    · rcases Nat.lt_or_ge j (s.length - 1) with g | g
      · rw [gd_drop _ _ _ g]
        show la 9 j = _ ∧ va_up ia 10 (upd (ia 10) (k - 1) (ia 10 (k - 1) + nI n)) 10 j = _
        rw [up_s, upd_n _ _ (by omega)]
        exact h2 j (by omega)
      · have hj2 : j = s.dropLast.length := by simp at hj ⊢; omega
        rw [hj2, gd_r, ← hj2]
        have hj3 : j = s.length - 1 := by simp at hj2; exact hj2
        show la 9 j = _ ∧ va_up ia 10 (upd (ia 10) (k - 1) (ia 10 (k - 1) + nI n)) 10 j = _
        rw [up_s, hk, hj3, upd_s, (h2 (s.length - 1) (by omega)).1, (h2 (s.length - 1) (by omega)).2, hq.2, nI_add]
        exact ⟨rfl, rfl⟩
  · rw [hu, if_neg (fun z => hq (hc.mp z)), sc_add, if_neg hq]
    refine ⟨?_, fun j hj => ?_⟩
    · show va_up ii 13 (nI (k + 1)) 13 = _
      rw [up_s, hk]; simp
    · show va_up la 9 (vp_updL (la 9) k (lN y)) 9 j = _ ∧ va_up ia 10 (upd (ia 10) k (nI n)) 10 j = _
      rw [up_s, up_s]
      rcases Nat.lt_or_ge j s.length with g | g
      · rw [gd_l _ _ _ g, upd_n _ _ (by omega), updL_n _ _ (by omega)]; exact h2 j g
      · obtain rfl : j = s.length := by simp at hj; omega
        rw [gd_r, hk, upd_s, updL_s]; exact ⟨rfl, rfl⟩
/-- what is said of row r in the cells -/
def rF (l0 y0 g : Nat) (rw : List Rw) (r : Nat) (u : St) : Prop :=
  u.2.2.1 0 r = nI (rw.getD r rw0).1 ∧ u.2.2.1 1 r = nI (rw.getD r rw0).2.1 ∧ u.2.2.1 2 r = nI (rw.getD r rw0).2.2.1 ∧ u.2.2.2 3 r = lN (ly_y y0 g (rw.take r)) ∧ u.2.2.2 4 r = lN (rw.getD r rw0).2.2.2.1 ∧ u.2.2.2 5 r = lN (rw.getD r rw0).2.2.2.2 ∧
  ∀ i, i < (rw.getD r rw0).2.2.1 → u.2.2.1 6 (ly_n (rw.take r) + i) = nI r ∧ u.2.2.2 7 (ly_n (rw.take r) + i) = lN (l0 + i * ((rw.getD r rw0).2.2.2.1 + g))
def yR (l0 y0 g : Nat) (rw : List Rw) (bd : Nat → Bool) (u : St) : Prop :=
  (u.1 11 = nI rw.length ∧ u.1 12 = nI (ly_n rw)) ∧ (u.2.1 14 = lN l0 ∧ u.2.1 15 = lN (ly_y y0 g rw) ∧ u.2.1 16 = lN g) ∧ (∀ r, r < rw.length → rF l0 y0 g rw r u) ∧ (∀ c, c < ly_n rw → u.2.2.1 8 c = if bd c = true then 1 else 0) ∧
  (scR (ly_s y0 g rw) u ∧ (ly_s y0 g rw).length ≤ 2 * rw.length ∧ ∀ p ∈ ly_s y0 g rw, p.1 ≤ ly_y y0 g rw)
def okR (l0 y0 g : Nat) (rw : List Rw) : Prop := l0 ≤ 65536 ∧ y0 ≤ 65536 ∧ g ≤ 65536 ∧ rw.length ≤ 8 ∧ ∀ q ∈ rw, q.1 < 4 ∧ q.2.1 < 2 ∧ 0 < q.2.2.1 ∧ q.2.2.1 ≤ 20 ∧ 0 < q.2.2.2.1 ∧ q.2.2.2.1 ≤ 65536 ∧ 0 < q.2.2.2.2 ∧ q.2.2.2.2 ≤ 65536
theorem ok_n : ∀ {rw : List Rw}, (∀ q ∈ rw, q.2.2.1 ≤ 20) → ly_n rw ≤ 20 * rw.length := by
  intro rw
  induction rw with
  | nil => intro _; simp [ly_n]
  | cons q rw ih =>
    intro h
    have h1 := h q List.mem_cons_self
    have h2 := ih (fun z hz => h z (List.mem_cons_of_mem _ hz))
    have e : ly_n (q :: rw) = q.2.2.1 + ly_n rw := by simp [ly_n]
    rw [e, List.length_cons]; omega
theorem ok_y {y0 g : Nat} : ∀ {rw : List Rw}, g ≤ 65536 → (∀ q ∈ rw, q.2.2.2.2 ≤ 65536) → ly_y y0 g rw ≤ y0 + 131072 * rw.length := by
  intro rw hg
  induction rw with
  | nil => intro _; simp [ly_y]
  | cons q rw ih =>
    intro h
    have h1 := h q List.mem_cons_self
    have h2 := ih (fun z hz => h z (List.mem_cons_of_mem _ hz))
    have e : ly_y y0 g (q :: rw) = ly_y y0 g rw + (q.2.2.2.2 + g) := by simp [ly_y]; omega
    rw [e, List.length_cons]; omega
theorem ok_init {l0 y0 g : Nat} {rw : List Rw} {q : Rw} (h : okR l0 y0 g (rw ++ [q])) : okR l0 y0 g rw := ⟨h.1, h.2.1, h.2.2.1, by have := h.2.2.2.1; simp at this; omega, fun z hz => h.2.2.2.2 z (List.mem_append_left _ hz)⟩
