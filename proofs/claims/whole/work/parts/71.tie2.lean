theorem up_eq {α : Type} (f : Nat → α) (k : Nat) : va_up f k (f k) = f := by
  funext z
  by_cases h : z = k
  · rw [h, up_s]
  · rw [up_n _ _ h]
theorem mnF_cg {f g : Nat → Int64} : ∀ n, (∀ j, j < n → f j = g j) → mnF f n = mnF g n := by
  intro n
  induction n with
  | zero => intro _; rfl
  | succ n ih => intro h; rw [mnF, mnF, ih (fun j hj => h j (by omega)), h n (by omega), h 0 (by omega)]
theorem mxF_cg {f g : Nat → Int64} : ∀ n, (∀ j, j < n → f j = g j) → mxF f n = mxF g n := by
  intro n
  induction n with
  | zero => intro _; rfl
  | succ n ih => intro h; rw [mxF, mxF, ih (fun j hj => h j (by omega)), h n (by omega), h 0 (by omega)]
theorem mx_sw (x g : Int64) : (if x < g then g else x) = (if g < x then x else g) := by
  by_cases h : x < g
  · rw [if_pos h, if_neg (fun z => absurd (Int64.lt_trans h z) (Int64.lt_irrefl))]
  · rw [if_neg h]
    by_cases h2 : g < x
    · rw [if_pos h2]
    · rw [if_neg h2]; exact Int64.le_antisymm (Int64.not_lt.mp h2) (Int64.not_lt.mp h)
theorem yc_cg {f g : Nat → Int32} (q : Int32) : ∀ n, (∀ j, j < n → f j = g j) → yc f q n = yc g q n := by
  intro n
  induction n with
  | zero => intro _; rfl
  | succ n ih => intro h; rw [yc, yc, ih (fun j hj => h j (by omega)), h n (by omega)]
theorem yo_cg {f g : Nat → Int32} {n : Nat} {k r : Int32} (h : ∀ j, j < n → f j = g j) (y : yo f n k r) : yo g n k r := by
  rcases y with y | ⟨mm, j, h1, h2, h3, h4, h5⟩
  · exact Or.inl y
  · refine Or.inr ⟨mm, j, h1, h2, h3, h4, ?_⟩
    rw [← yc_cg 0 n h, ← yc_cg 0 j (fun i hi => h i (by omega)), ← yc_cg 1 j (fun i hi => h i (by omega)), ← h j h3]
    exact h5
theorem yc_un {f : Nat → Int32} {q : Int32} {i j : Nat} (hi : f i = q) (hj : f j = q) (h : yc f q i = yc f q j) : i = j := by
  rcases Nat.lt_trichotomy i j with z | z | z
  · have := yc_lt f q z hi; omega
  · exact z
  · have := yc_lt f q z hj; omega
theorem yo_un {f : Nat → Int32} {n : Nat} {k r1 r2 : Int32} (hn : n ≤ 200) (y1 : yo f n k r1) (y2 : yo f n k r2) : r1 = r2 := by
  rcases y1 with ⟨z1, e1⟩ | ⟨m1, j1, a1, a2, a3, a4, a5⟩
  · rcases y2 with ⟨-, e2⟩ | ⟨m2, j2, b1, b2, b3, b4, b5⟩
    · rw [e1, e2]
    · rw [b1] at z1
      rcases z1 with z | z
      · exact absurd z (fun z => nI_pos (by omega) z)
      · exact absurd z (fun z => nI_ge b2 (by omega) z)
  · rcases y2 with ⟨z2, -⟩ | ⟨m2, j2, b1, b2, b3, b4, b5⟩
    · rw [a1] at z2
      rcases z2 with z | z
      · exact absurd z (fun z => nI_pos (by omega) z)
      · exact absurd z (fun z => nI_ge a2 (by omega) z)
    · have e : m1 = m2 := (nI_eq (by omega) (by omega)).mp (a1.symm.trans b1)
      subst e
      rw [a4, b4]
      rcases a5 with ⟨c1, c2, c3⟩ | ⟨c1, c2, c3⟩
      · rcases b5 with ⟨d1, d2, d3⟩ | ⟨d1, d2, d3⟩
        · rw [yc_un c2 d2 (c3.trans d3.symm)]
        · omega
      · rcases b5 with ⟨d1, d2, d3⟩ | ⟨d1, d2, d3⟩
        · omega
        · rw [yc_un c2 d2 (c3.trans d3.symm)]
section TIE2
variable {P S Yy M : St} {Bi : Nat → Nat → Int32} {Bl : Nat → Nat → Int64} {Bk : Nat → Nat → Nat → Int64}
theorem inv_s1 (z : Int32) (n : Nat) (hI : INV P S Yy M Bi Bl Bk) : INV P S Yy (va_up M.1 0 z, M.2.1, M.2.2.1, M.2.2.2) (va_up Bi n (Bi n)) Bl Bk := by rw [up_eq]; exact inv_0 z hI
theorem inv_s3 (z : Int32) (n : Nat) (hI : INV P S Yy M Bi Bl Bk) : INV P S Yy (va_up M.1 0 z, M.2.1, M.2.2.1, M.2.2.2) (va_up Bi n (Bi n)) (va_up Bl n (Bl n)) (va_up Bk n (Bk n)) := by rw [up_eq, up_eq, up_eq]; exact inv_0 z hI
theorem tie_wants {v w0 : Int32} {m n : Nat} {k9 : Int32} {uc : (Nat → Int32) × (Nat → Int64)} {oF : Nat → Int64} {rm : Int32} {um : St} (hI : INV P S Yy M Bi Bl Bk) (hm6 : P.1 6 = nI m) (hm4 : m ≤ 4) (hn4 : n < 4) (hnk : ∀ k, k < m → v = nI k → k = n)
    (hc : (∃ v9 : Int32, k9 = 0 ∧ ((∃ k, k < m ∧ v = nI k) ∧ (∃ k, k < 201 ∧ w0 = nI k) ∧ v9 = (if Bi n 11 = w0 then 0 else 1) ∧ uc.1 = va_up (Bi n) 11 w0) ∧ uc.2 0 = (if v9 = 0 then 0 else 1)) ∨ (k9 = 1 ∧ (¬ (∃ k, k < m ∧ v = nI k)) ∧ uc = (Bi n, oF)) ∨ (k9 = 2 ∧ ((∃ k, k < m ∧ v = nI k) ∧ ¬ (∃ k, k < 201 ∧ w0 = nI k)) ∧ uc = (Bi n, oF)))
    (hm : (∃ k, k < m ∧ v = nI k ∧ (∃ j, j < 201 ∧ w0 = nI j) ∧ rm = (if M.2.2.1 7 k = w0 then 0 else 1) ∧ um = (va_up M.1 0 0, M.2.1, va_up M.2.2.1 7 (upd (M.2.2.1 7) k w0), M.2.2.2)) ∨ (¬ (∃ k, k < m ∧ v = nI k) ∧ um = (va_up M.1 0 1, M.2.1, M.2.2.1, M.2.2.2)) ∨ ((∃ k, k < m ∧ v = nI k) ∧ ¬ (∃ j, j < 201 ∧ w0 = nI j) ∧ um = (va_up M.1 0 2, M.2.1, M.2.2.1, M.2.2.2))) :
    um.1 0 = k9 ∧ (k9 = 0 → uc.2 0 = (if rm = 0 then 0 else 1)) ∧ INV P S Yy um (va_up Bi n uc.1) Bl Bk := by
  rcases hc with ⟨v9, rfl, ⟨c1, c2, rfl, c3⟩, c4⟩ | ⟨rfl, c1, rfl⟩ | ⟨rfl, ⟨c1, c2⟩, rfl⟩
  · rcases hm with ⟨k, hk, ek, -, m2, rfl⟩ | ⟨m1, -⟩ | ⟨-, m1, -⟩
    · obtain ⟨w, h, nb, g, l0, y0, g0, r, nc, np, wt, X, Y, rw, bf, i1, i2, i3, i4, i5, i6, i7, i8, i9, i10, i11⟩ := hI
      obtain rfl := hnk k hk ek
      obtain ⟨z, hz, rfl⟩ := c2
      refine ⟨rfl, fun _ => ?_, w, h, nb, g, l0, y0, g0, r, nc, np, va_up wt k z, X, Y, rw, bf, i1, i2, i3, i4, i5, fun b hb => ?_, fun b hb => ?_, fun b hb => ?_, i9, i10, i11⟩
      · rw [c4, m2, (i8 k hn4).1, (i8 k hn4).2.1]
      · by_cases hbk : b = k
        · subst hbk; rw [up_s, c3]; exact i6 b hb
        · rw [up_n _ _ hbk]; exact i6 b hb
      · by_cases hbk : b = k
        · subst hbk; rw [up_s, c3]; exact i7 b hb
        · rw [up_n _ _ hbk]; exact i7 b hb
      · show va_up Bi k uc.1 b 11 = _ ∧ upd (M.2.2.1 7) k (nI z) b = _ ∧ _
        by_cases hbk : b = k
        · subst hbk; rw [up_s, c3, up_s, upd_s, up_s]; exact ⟨rfl, rfl, by omega⟩
        · rw [up_n _ _ hbk, upd_n _ _ hbk, up_n _ _ hbk]; exact i8 b hb
    · exact absurd c1 m1
    · exact absurd c2 m1
  · rcases hm with ⟨k, hk, ek, -⟩ | ⟨-, rfl⟩ | ⟨m1, -⟩
    · exact absurd ⟨k, hk, ek⟩ c1
    · exact ⟨rfl, fun z => absurd z (by decide), inv_s1 1 n hI⟩
    · exact absurd m1 c1
  · rcases hm with ⟨k, hk, ek, m1, -⟩ | ⟨m1, -⟩ | ⟨-, -, rfl⟩
    · exact absurd m1 c2
    · exact absurd c1 m1
    · exact ⟨rfl, fun z => absurd z (by decide), inv_s1 2 n hI⟩
theorem tie_part {v : Int32} {x y r0 : Int64} {m n c0 : Nat} {ncf : Nat → Nat} {jb : Nat → Nat → Int32} {k9 : Int32} {uc : St × (Nat → Int64)} {oF : Nat → Int64} {rm : Int32} {um : St} (hI : INV P S Yy M Bi Bl Bk) (hm6 : P.1 6 = nI m) (hm4 : m ≤ 4) (hn4 : n < 4) (hnk : ∀ k, k < m → v = nI k → k = n) (hc0 : Bi n 6 = nI c0) (hc01 : c0 ≤ 10) (hncf : ∀ k, k < 4 → M.2.2.1 8 k = nI (ncf k) ∧ ncf k ≤ 10)
    (hc : (∃ v9 : Int32, k9 = 0 ∧ ((∃ k, k < m ∧ v = nI k) ∧ okL x ∧ okL y ∧ (okL r0 ∧ r0 ≠ 0) ∧ (if c0 < 10 then v9 = 1 ∧ uc.1 = (va_up (Bi n) 6 (Bi n 6 + 1), Bl n, jb, va_up (va_up (va_up (Bk n) 2 (vp_updL (Bk n 2) c0 x)) 3 (vp_updL (Bk n 3) c0 y)) 4 (vp_updL (Bk n 4) c0 r0)) else v9 = 0 ∧ uc.1 = (Bi n, Bl n, jb, Bk n))) ∧ uc.2 0 = (if v9 = 0 then 0 else 1)) ∨ (k9 = 1 ∧ (¬ (∃ k, k < m ∧ v = nI k)) ∧ uc = ((Bi n, Bl n, jb, Bk n), oF)) ∨ (k9 = 2 ∧ ((∃ k, k < m ∧ v = nI k) ∧ ¬ (okL x ∧ okL y ∧ okL r0 ∧ r0 ≠ 0)) ∧ uc = ((Bi n, Bl n, jb, Bk n), oF)))
    (hm : (∃ k, k < m ∧ v = nI k ∧ (okL x ∧ okL y ∧ okL r0 ∧ r0 ≠ 0) ∧ (if ncf k < 10 then rm = 1 ∧ um = (va_up M.1 0 0, M.2.1, va_up M.2.2.1 8 (upd (M.2.2.1 8) k (nI (ncf k + 1))), va_up M.2.2.2 9 (vp_updL (vp_updL (vp_updL (M.2.2.2 9) (30 * k + 3 * ncf k) x) (30 * k + 3 * ncf k + 1) y) (30 * k + 3 * ncf k + 2) r0)) else rm = 0 ∧ um = (va_up M.1 0 0, M.2.1, M.2.2.1, M.2.2.2))) ∨ (¬ (∃ k, k < m ∧ v = nI k) ∧ um = (va_up M.1 0 1, M.2.1, M.2.2.1, M.2.2.2)) ∨ ((∃ k, k < m ∧ v = nI k) ∧ ¬ (okL x ∧ okL y ∧ okL r0 ∧ r0 ≠ 0) ∧ um = (va_up M.1 0 2, M.2.1, M.2.2.1, M.2.2.2))) :
    um.1 0 = k9 ∧ (k9 = 0 → uc.2 0 = (if rm = 0 then 0 else 1)) ∧ INV P S Yy um (va_up Bi n uc.1.1) (va_up Bl n uc.1.2.1) (va_up Bk n uc.1.2.2.2) := by
  rcases hc with ⟨v9, rfl, ⟨c1, c2, c2b, c2c, c3⟩, c4⟩ | ⟨rfl, c1, rfl⟩ | ⟨rfl, ⟨c1, c2⟩, rfl⟩
  · rcases hm with ⟨k, hk, ek, -, m2⟩ | ⟨m1, -⟩ | ⟨-, m1, -⟩
    · obtain rfl := hnk k hk ek
      have e : ncf k = c0 := by
        obtain ⟨w, h, nb, g, l0, y0, g0, r, nc, np, wt, X, Y, rw, bf, i1, i2, i3, i4, i5, i6, i7, i8, i9, i10, i11⟩ := hI
        have a1 := (i7 k hn4).2.1
        have a2 := (i7 k hn4).2.2.1
        have a3 := (i7 k hn4).1
        have b1 : np k = c0 := (nI_eq (by omega) (by omega)).mp (a1.symm.trans hc0)
        have b2 : np k = ncf k := (nI_eq (by omega) (by have := (hncf k hn4).2; omega)).mp (a2.symm.trans (hncf k hn4).1)
        omega
      rw [e] at m2
      by_cases h12 : c0 < 10
      · rw [if_pos h12] at c3 m2
        obtain ⟨rfl, c3⟩ := c3
        obtain ⟨rfl, rfl⟩ := m2
        refine ⟨rfl, fun _ => c4, ?_⟩
        obtain ⟨w, h, nb, g, l0, y0, g0, r, nc, np, wt, X, Y, rw, bf, i1, i2, i3, i4, i5, i6, i7, i8, i9, i10, i11⟩ := hI
        have e2 : np k = c0 := (nI_eq (by have := (i7 k hn4).1; omega) (by omega)).mp ((i7 k hn4).2.1.symm.trans hc0)
        refine ⟨w, h, nb, g, l0, y0, g0, r, nc, va_up np k (c0 + 1), wt, X, Y, rw, bf, i1, i2, i3, i4, i5, fun b hb => ?_, fun b hb => ?_, fun b hb => ?_, i9, i10, i11⟩
        · rw [c3]
          by_cases hbk : b = k
          · subst hbk; rw [up_s, up_s, up_s]; exact i6 b hb
          · rw [up_n _ _ hbk, up_n _ _ hbk, up_n _ _ hbk]; exact i6 b hb
        · obtain ⟨a1, a2, a3, a4⟩ := i7 b hb
          rw [c3]
          by_cases hbk : b = k
          · subst hbk
            rw [up_s, up_s, up_s]
            refine ⟨h12, ?_, ?_, fun j hj => ?_⟩
            · show Bi b 6 + 1 = _; rw [hc0]; exact nI_1 c0
            · show upd (M.2.2.1 8) b (nI (c0 + 1)) b = _; rw [upd_s]
            · show vp_updL (vp_updL (vp_updL (M.2.2.2 9) (30 * b + 3 * c0) x) (30 * b + 3 * c0 + 1) y) (30 * b + 3 * c0 + 2) r0 (30 * b + 3 * j) = vp_updL (Bk b 2) c0 x j ∧ vp_updL (vp_updL (vp_updL (M.2.2.2 9) (30 * b + 3 * c0) x) (30 * b + 3 * c0 + 1) y) (30 * b + 3 * c0 + 2) r0 (30 * b + 3 * j + 1) = vp_updL (Bk b 3) c0 y j ∧ vp_updL (vp_updL (vp_updL (M.2.2.2 9) (30 * b + 3 * c0) x) (30 * b + 3 * c0 + 1) y) (30 * b + 3 * c0 + 2) r0 (30 * b + 3 * j + 2) = vp_updL (Bk b 4) c0 r0 j
              by_cases hjc : j = c0
              · subst hjc
                rw [updL_n _ _ (by omega), updL_n _ _ (by omega), updL_s, updL_s, updL_n _ _ (by omega), updL_s, updL_s, updL_s, updL_s]
                exact ⟨rfl, rfl, rfl⟩
              · rw [updL_n _ _ (by omega), updL_n _ _ (by omega), updL_n _ _ (by omega), updL_n _ _ hjc, updL_n _ _ (by omega), updL_n _ _ (by omega), updL_n _ _ (by omega), updL_n _ _ hjc, updL_n _ _ (by omega), updL_n _ _ (by omega), updL_n _ _ (by omega), updL_n _ _ hjc]
                exact a4 j (by omega)
          · rw [up_n _ _ hbk, up_n _ _ hbk, up_n _ _ hbk]
            refine ⟨a1, a2, ?_, fun j hj => ?_⟩
            · show upd (M.2.2.1 8) k (nI (c0 + 1)) b = _; rw [upd_n _ _ hbk]; exact a3
            · show vp_updL (vp_updL (vp_updL (M.2.2.2 9) (30 * k + 3 * c0) x) (30 * k + 3 * c0 + 1) y) (30 * k + 3 * c0 + 2) r0 (30 * b + 3 * j) = _ ∧ vp_updL (vp_updL (vp_updL (M.2.2.2 9) (30 * k + 3 * c0) x) (30 * k + 3 * c0 + 1) y) (30 * k + 3 * c0 + 2) r0 (30 * b + 3 * j + 1) = _ ∧ vp_updL (vp_updL (vp_updL (M.2.2.2 9) (30 * k + 3 * c0) x) (30 * k + 3 * c0 + 1) y) (30 * k + 3 * c0 + 2) r0 (30 * b + 3 * j + 2) = _
              rw [updL_n _ _ (by omega), updL_n _ _ (by omega), updL_n _ _ (by omega), updL_n _ _ (by omega), updL_n _ _ (by omega), updL_n _ _ (by omega), updL_n _ _ (by omega), updL_n _ _ (by omega), updL_n _ _ (by omega)]
              exact a4 j hj
        · rw [c3]
          by_cases hbk : b = k
          · subst hbk; rw [up_s]; exact i8 b hb
          · rw [up_n _ _ hbk]; exact i8 b hb
      · rw [if_neg h12] at c3 m2
        obtain ⟨rfl, c3⟩ := c3
        obtain ⟨rfl, rfl⟩ := m2
        refine ⟨rfl, fun _ => c4, ?_⟩
        rw [c3]; exact inv_s3 0 k hI
    · exact absurd c1 m1
    · exact absurd ⟨c2, c2b, c2c⟩ m1
  · rcases hm with ⟨k, hk, ek, -⟩ | ⟨-, rfl⟩ | ⟨m1, -⟩
    · exact absurd ⟨k, hk, ek⟩ c1
    · exact ⟨rfl, fun z => absurd z (by decide), inv_s3 1 n hI⟩
    · exact absurd m1 c1
  · rcases hm with ⟨k, hk, ek, m1, -⟩ | ⟨m1, -⟩ | ⟨-, -, rfl⟩
    · exact absurd m1 c2
    · exact absurd c1 m1
    · exact ⟨rfl, fun z => absurd z (by decide), inv_s3 2 n hI⟩
end TIE2
