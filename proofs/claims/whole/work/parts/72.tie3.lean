section TIE3
variable {P S Yy M : St} {Bi : Nat → Nat → Int32} {Bl : Nat → Nat → Int64} {Bk : Nat → Nat → Nat → Int64}
theorem bc_mn {f : Nat → Int64} {lb : Nat → Int64} {c : Nat} {x y : Int64} {g : Nat → Int64} (hc : c ≤ 12) (h7 : lb 7 = mnF f c) (h9 : lb 9 = mxF f c) (h8 : lb 8 = mnF g c) (h10 : lb 10 = mxF g c) {f' g' : Nat → Int64} (hf : ∀ j, j < c → f' j = f j) (hfx : f' c = x) (hg : ∀ j, j < c → g' j = g j) (hgy : g' c = y) :
    bc_li lb (nI c) x y 7 = mnF f' (c + 1) ∧ bc_li lb (nI c) x y 8 = mnF g' (c + 1) ∧ bc_li lb (nI c) x y 9 = mxF f' (c + 1) ∧ bc_li lb (nI c) x y 10 = mxF g' (c + 1) := by
  unfold bc_li
  rw [mnF, mnF, mxF, mxF, mnF_cg c hf, mxF_cg c hf, mnF_cg c hg, mxF_cg c hg, hfx, hgy]
  by_cases h0 : c = 0
  · subst h0
    rw [if_pos rfl, if_pos rfl, if_pos rfl, if_pos rfl, if_pos (by rfl), ← hfx, ← hgy]
    exact ⟨rfl, rfl, rfl, rfl⟩
  · have hz : ¬ nI c = 0 := fun z => h0 ((nI_eq (b := 0) (by omega) (by decide)).mp z)
    rw [if_neg h0, if_neg h0, if_neg h0, if_neg h0, if_neg hz, ← h7, ← h8, ← h9, ← h10]
    exact ⟨rfl, rfl, mx_sw _ _, mx_sw _ _⟩
theorem tie_corner {v : Int32} {x y : Int64} {m n c0 : Nat} {ncf : Nat → Nat} {jb : Nat → Nat → Int32} {k9 : Int32} {uc : St × (Nat → Int64)} {oF : Nat → Int64} {rm : Int32} {um : St} (hI : INV P S Yy M Bi Bl Bk) (hm6 : P.1 6 = nI m) (hm4 : m ≤ 4) (hn4 : n < 4) (hnk : ∀ k, k < m → v = nI k → k = n) (hc0 : Bi n 5 = nI c0) (hc01 : c0 ≤ 12) (hncf : ∀ k, k < 4 → M.2.2.1 4 k = nI (ncf k) ∧ ncf k ≤ 12)
    (hc : (∃ v9 : Int32, k9 = 0 ∧ ((∃ k, k < m ∧ v = nI k) ∧ okL x ∧ okL y ∧ (if c0 < 12 then v9 = 1 ∧ uc.1 = (va_up (Bi n) 5 (Bi n 5 + 1), bc_li (Bl n) (Bi n 5) x y, jb, va_up (va_up (Bk n) 0 (vp_updL (Bk n 0) c0 x)) 1 (vp_updL (Bk n 1) c0 y)) else v9 = 0 ∧ uc.1 = (Bi n, Bl n, jb, Bk n))) ∧ uc.2 0 = (if v9 = 0 then 0 else 1)) ∨ (k9 = 1 ∧ (¬ (∃ k, k < m ∧ v = nI k)) ∧ uc = ((Bi n, Bl n, jb, Bk n), oF)) ∨ (k9 = 2 ∧ ((∃ k, k < m ∧ v = nI k) ∧ ¬ (okL x ∧ okL y)) ∧ uc = ((Bi n, Bl n, jb, Bk n), oF)))
    (hm : (∃ k, k < m ∧ v = nI k ∧ okL x ∧ okL y ∧ (if ncf k < 12 then rm = 1 ∧ um = (va_up M.1 0 0, M.2.1, va_up M.2.2.1 4 (upd (M.2.2.1 4) k (nI (ncf k + 1))), va_up (va_up M.2.2.2 5 (vp_updL (M.2.2.2 5) (12 * k + ncf k) x)) 6 (vp_updL (M.2.2.2 6) (12 * k + ncf k) y)) else rm = 0 ∧ um = (va_up M.1 0 0, M.2.1, M.2.2.1, M.2.2.2))) ∨ (¬ (∃ k, k < m ∧ v = nI k) ∧ um = (va_up M.1 0 1, M.2.1, M.2.2.1, M.2.2.2)) ∨ ((∃ k, k < m ∧ v = nI k) ∧ ¬ (okL x ∧ okL y) ∧ um = (va_up M.1 0 2, M.2.1, M.2.2.1, M.2.2.2))) :
    um.1 0 = k9 ∧ (k9 = 0 → uc.2 0 = (if rm = 0 then 0 else 1)) ∧ INV P S Yy um (va_up Bi n uc.1.1) (va_up Bl n uc.1.2.1) (va_up Bk n uc.1.2.2.2) := by
  rcases hc with ⟨v9, rfl, ⟨c1, c2, c2b, c3⟩, c4⟩ | ⟨rfl, c1, rfl⟩ | ⟨rfl, ⟨c1, c2⟩, rfl⟩
  · rcases hm with ⟨k, hk, ek, -, -, m2⟩ | ⟨m1, -⟩ | ⟨-, m1, -⟩
    · obtain rfl := hnk k hk ek
      have e : ncf k = c0 := by
        obtain ⟨w, h, nb, g, l0, y0, g0, r, nc, np, wt, X, Y, rw, bf, i1, i2, i3, i4, i5, i6, i7, i8, i9, i10, i11⟩ := hI
        have a1 := (i6 k hn4).2.1
        have a2 := (i6 k hn4).2.2.1
        have a3 := (i6 k hn4).1
        have b1 : nc k = c0 := (nI_eq (by omega) (by omega)).mp (a1.symm.trans hc0)
        have b2 : nc k = ncf k := (nI_eq (by omega) (by have := (hncf k hn4).2; omega)).mp (a2.symm.trans (hncf k hn4).1)
        omega
      rw [e] at m2
      by_cases h12 : c0 < 12
      · rw [if_pos h12] at c3 m2
        obtain ⟨rfl, c3⟩ := c3
        obtain ⟨rfl, rfl⟩ := m2
        refine ⟨rfl, fun _ => c4, ?_⟩
        obtain ⟨w, h, nb, g, l0, y0, g0, r, nc, np, wt, X, Y, rw, bf, i1, i2, i3, i4, i5, i6, i7, i8, i9, i10, i11⟩ := hI
        have e2 : nc k = c0 := (nI_eq (by have := (i6 k hn4).1; omega) (by omega)).mp ((i6 k hn4).2.1.symm.trans hc0)
        have e3 : nb = m := (nI_eq (by have := i2.2.2; omega) (by omega)).mp (i2.1.symm.trans hm6)
        obtain ⟨x', hx', rfl⟩ := okL_lN c2
        obtain ⟨y', hy', rfl⟩ := okL_lN c2b
        refine ⟨w, h, nb, g, l0, y0, g0, r, va_up nc k (c0 + 1), np, wt, va_up X k (va_up (X k) c0 x'), va_up Y k (va_up (Y k) c0 y'), rw, bf, i1, i2, i3, i4, i5, fun b hb => ?_, fun b hb => ?_, fun b hb => ?_, ⟨i9.1, i9.2.1, fun q hq => ?_, i9.2.2.2.1, i9.2.2.2.2⟩, i10, i11⟩
        · obtain ⟨a1, a2, a3, a4, a5, a6, a7, a8, a9⟩ := i6 b hb
          rw [c3]
          by_cases hbk : b = k
          · subst hbk
            rw [up_s, up_s, up_s, up_s, up_s, up_s]
            rw [e2] at a5 a6 a7 a8 a9
            have hbox := bc_mn (x := lN x') (y := lN y') (f' := fun j => lN (va_up (X b) c0 x' j)) (g' := fun j => lN (va_up (Y b) c0 y' j)) hc01 a6 a8 a7 a9 (fun j hj => by rw [up_n _ _ (by omega)]) (by rw [up_s]) (fun j hj => by rw [up_n _ _ (by omega)]) (by rw [up_s])
            refine ⟨h12, ?_, ?_, fun z => by omega, fun j hj => ?_, ?_⟩
            · show Bi b 5 + 1 = _; rw [hc0]; exact nI_1 c0
            · show upd (M.2.2.1 4) b (nI (c0 + 1)) b = _; rw [upd_s]
            · show vp_updL (Bk b 0) c0 (lN x') j = _ ∧ vp_updL (Bk b 1) c0 (lN y') j = _ ∧ vp_updL (M.2.2.2 5) (12 * b + c0) (lN x') (12 * b + j) = _ ∧ vp_updL (M.2.2.2 6) (12 * b + c0) (lN y') (12 * b + j) = _ ∧ _
              by_cases hjc : j = c0
              · subst hjc
                rw [updL_s, updL_s, updL_s, updL_s, up_s, up_s]
                exact ⟨rfl, rfl, rfl, rfl, hx', hy'⟩
              · rw [updL_n _ _ hjc, updL_n _ _ hjc, updL_n _ _ (by omega), updL_n _ _ (by omega), up_n _ _ hjc, up_n _ _ hjc]
                exact a5 j (by omega)
            · rw [← hc0] at hbox
              exact ⟨hbox.1, hbox.2.1, hbox.2.2.1, hbox.2.2.2⟩
          · rw [up_n _ _ hbk, up_n _ _ hbk, up_n _ _ hbk, up_n _ _ hbk, up_n _ _ hbk, up_n _ _ hbk]
            refine ⟨a1, a2, ?_, a4, fun j hj => ?_, a6, a7, a8, a9⟩
            · show upd (M.2.2.1 4) k (nI (c0 + 1)) b = _; rw [upd_n _ _ hbk]; exact a3
            · show _ ∧ _ ∧ vp_updL (M.2.2.2 5) (12 * k + c0) (lN x') (12 * b + j) = _ ∧ vp_updL (M.2.2.2 6) (12 * k + c0) (lN y') (12 * b + j) = _ ∧ _
              rw [updL_n _ _ (by omega), updL_n _ _ (by omega)]
              exact a5 j hj
        · rw [c3]
          by_cases hbk : b = k
          · subst hbk; rw [up_s, up_s]; exact i7 b hb
          · rw [up_n _ _ hbk, up_n _ _ hbk]; exact i7 b hb
        · rw [c3]
          by_cases hbk : b = k
          · subst hbk; rw [up_s]; exact i8 b hb
          · rw [up_n _ _ hbk]; exact i8 b hb
        · refine ⟨(i9.2.2.1 q hq).1, ?_⟩
          by_cases hbk : q.1 = k
          · rw [hbk, up_s]; exact Nat.succ_pos _
          · rw [up_n _ _ hbk]; exact (i9.2.2.1 q hq).2
      · rw [if_neg h12] at c3 m2
        obtain ⟨rfl, c3⟩ := c3
        obtain ⟨rfl, rfl⟩ := m2
        refine ⟨rfl, fun _ => c4, ?_⟩
        rw [c3]; exact inv_s3 0 k hI
    · exact absurd c1 m1
    · exact absurd ⟨c2, c2b⟩ m1
  · rcases hm with ⟨k, hk, ek, -⟩ | ⟨-, rfl⟩ | ⟨m1, -⟩
    · exact absurd ⟨k, hk, ek⟩ c1
    · exact ⟨rfl, fun z => absurd z (by decide), inv_s3 1 n hI⟩
    · exact absurd m1 c1
  · rcases hm with ⟨k, hk, ek, m1, m1b, -⟩ | ⟨m1, -⟩ | ⟨-, -, rfl⟩
    · exact absurd ⟨m1, m1b⟩ c2
    · exact absurd c1 m1
    · exact ⟨rfl, fun z => absurd z (by decide), inv_s3 2 n hI⟩
theorem tie_at {l0 y0 g : Nat} {rw : List Rw} {v k : Int32} {k9 : Int32} {uc : Unit × (Nat → Int64)} {oF : Nat → Int64} {rm : Int64} {um : St} (hI : INV P S Yy M Bi Bl Bk) (hq : rwQ (lcp l0 g y0 rw) M.1 M.2.2.2) (hn : ly_n rw ≤ 160)
    (hc : (∃ v9 : Int64, k9 = 0 ∧ (∃ c j, c < ly_n rw ∧ v = nI c ∧ j < 6 ∧ k = nI j ∧ v9 = lN (cpk ((lcp l0 g y0 rw).getD c cp0) j)) ∧ uc.2 0 = v9) ∨ (k9 = 1 ∧ (¬ ((∃ c, c < ly_n rw ∧ v = nI c) ∧ ∃ j, j < 6 ∧ k = nI j)) ∧ uc = ((), oF)))
    (hm : (∃ c j, c < ly_n rw ∧ v = nI c ∧ j < 6 ∧ k = nI j ∧ rm = M.2.2.2 14 (6 * c + j) ∧ um = (va_up M.1 0 0, M.2.1, M.2.2.1, M.2.2.2)) ∨ (¬ ((∃ c, c < ly_n rw ∧ v = nI c) ∧ ∃ j, j < 6 ∧ k = nI j) ∧ um = (va_up M.1 0 1, M.2.1, M.2.2.1, M.2.2.2))) :
    um.1 0 = k9 ∧ (k9 = 0 → uc.2 0 = rm) ∧ INV P S Yy um Bi Bl Bk := by
  rcases hc with ⟨v9, rfl, ⟨c, j, h1, h2, h3, h4, h5⟩, c4⟩ | ⟨rfl, c1, rfl⟩
  · rcases hm with ⟨c', j', g1, g2, g3, g4, g5, rfl⟩ | ⟨m1, -⟩
    · have e1 : c = c' := (nI_eq (by omega) (by omega)).mp (h2.symm.trans g2)
      have e2 : j = j' := (nI_eq (by omega) (by omega)).mp (h4.symm.trans g4)
      subst e1; subst e2
      refine ⟨rfl, fun _ => ?_, inv_0 0 hI⟩
      rw [c4, h5, g5, hq.2 c (by rw [lcp_len]; exact h1) j h3]
    · exact absurd ⟨⟨c, h1, h2⟩, j, h3, h4⟩ m1
  · rcases hm with ⟨c', j', g1, g2, g3, g4, -⟩ | ⟨-, rfl⟩
    · exact absurd ⟨⟨c', g1, g2⟩, j', g3, g4⟩ c1
    · exact ⟨rfl, fun z => absurd z (by decide), inv_0 1 hI⟩
theorem tie_bad {rw : List Rw} {v on : Int32} {k9 : Int32} {uc : (Nat → Nat → Int32) × (Nat → Int64)} {oF : Nat → Int64} {rm : Int32} {um : St} (hI : INV P S Yy M Bi Bl Bk) {nb g l0 y0 : Nat} {nc : Nat → Nat} {bf : Nat → Bool} (hL : iL nb nc l0 y0 g rw bf Yy M) (hon : on = 0 ∨ on = 1)
    (hc : (∃ v9 : Int32, k9 = 0 ∧ (∃ c, c < ly_n rw ∧ v = nI c ∧ v9 = (if Yy.2.2.1 8 c = on then 0 else 1) ∧ uc.1 = va_up Yy.2.2.1 8 (upd (Yy.2.2.1 8) c on)) ∧ uc.2 0 = (if v9 = 0 then 0 else 1)) ∨ (k9 = 1 ∧ (¬ (∃ c, c < ly_n rw ∧ v = nI c)) ∧ uc = (Yy.2.2.1, oF)))
    (hm : (∃ c, c < ly_n rw ∧ v = nI c ∧ rm = (if M.2.2.1 15 c = on then 0 else 1) ∧ um = (va_up M.1 0 0, M.2.1, va_up M.2.2.1 15 (upd (M.2.2.1 15) c on), M.2.2.2)) ∨ (¬ (∃ c, c < ly_n rw ∧ v = nI c) ∧ um = (va_up M.1 0 1, M.2.1, M.2.2.1, M.2.2.2))) :
    um.1 0 = k9 ∧ (k9 = 0 → uc.2 0 = (if rm = 0 then 0 else 1)) ∧ INV P S (Yy.1, Yy.2.1, uc.1, Yy.2.2.2) um Bi Bl Bk := by
  have hn := n160 hL.2.1
  rcases hc with ⟨v9, rfl, ⟨c, h1, h2, rfl, h4⟩, c4⟩ | ⟨rfl, c1, rfl⟩
  · rcases hm with ⟨c', g1, g2, g3, rfl⟩ | ⟨m1, -⟩
    · have e1 : c = c' := (nI_eq (by omega) (by omega)).mp (h2.symm.trans g2)
      subst e1
      refine ⟨rfl, fun _ => by rw [c4, g3, iL_8 hL c h1], ?_⟩
      obtain ⟨w, h, nb', g', l0', y0', g0', r, nc', np, wt, X, Y, rw', bf', i1, i2, i3, i4, i5, i6, i7, i8, i9, i10, i11⟩ := hI
      have e13 : ly_n rw' = ly_n rw := by
        have a1 := iL_13 hL
        have a2 := iL_13 i9
        have := n160 i9.2.1
        exact (nI_eq (by omega) (by omega)).mp (a2.symm.trans a1)
      have hb : ∀ j, upd (Yy.2.2.1 8) c on j = (if (fun z => if z = c then decide (on = 1) else bf' z) j = true then (1 : Int32) else 0) ∨ ¬ j < ly_n rw' := by
        intro j
        by_cases hj : j < ly_n rw'
        · left
          by_cases hjc : j = c
          · subst hjc
            rw [upd_s]
            rcases hon with z | z <;> rw [z] <;> simp
          · rw [upd_n _ _ hjc, i9.1.2.2.2.1 j hj]; simp [hjc]
        · exact Or.inr hj
      have hb2 : ∀ j, upd (M.2.2.1 15) c on j = (if (fun z => if z = c then decide (on = 1) else bf' z) j = true then (1 : Int32) else 0) ∨ ¬ j < ly_n rw' := by
        intro j
        by_cases hj : j < ly_n rw'
        · left
          by_cases hjc : j = c
          · subst hjc
            rw [upd_s]
            rcases hon with z | z <;> rw [z] <;> simp
          · rw [upd_n _ _ hjc, i9.2.2.2.2 j hj]; simp [hjc]
        · exact Or.inr hj
      refine ⟨w, h, nb', g', l0', y0', g0', r, nc', np, wt, X, Y, rw', fun z => if z = c then decide (on = 1) else bf' z, i1, i2, i3, i4, i5, i6, i7, i8, ⟨?_, i9.2.1, i9.2.2.1, i9.2.2.2.1, fun j hj => ?_⟩, i10, i11⟩
      · rw [h4]
        obtain ⟨b1, b2, b3, b4, b5⟩ := i9.1
        exact ⟨b1, b2, b3, fun j hj => (hb j).resolve_right (fun z => z hj), b5⟩
      · exact (hb2 j).resolve_right (fun z => z hj)
    · exact absurd ⟨c, h1, h2⟩ m1
  · rcases hm with ⟨c', g1, g2, -⟩ | ⟨-, rfl⟩
    · exact absurd ⟨c', g1, g2⟩ c1
    · exact ⟨rfl, fun z => absurd z (by decide), inv_0 1 hI⟩
theorem tie_mill {l0 y0 g nb : Nat} {nc : Nat → Nat} {bf : Nat → Bool} {rw : List Rw} {v k : Int32} {k9 : Int32} {uc : Unit × (Nat → Int64)} {oF : Nat → Int64} {rm : Int64} {um : St} (hI : INV P S Yy M Bi Bl Bk) (hL : iL nb nc l0 y0 g rw bf Yy M) (hr : P.2.1 8 = M.2.1 12)
    (hc : (∃ v9 : Int64, k9 = 0 ∧ (∃ kk c ax, kk < 2 ^ 31 ∧ k = nI kk ∧ c < ly_n rw ∧ yo (Yy.2.2.1 8) (ly_n rw) (nI (kk / 4)) (nI c) ∧ ax < 2 ∧ v = nI ax ∧ v9 = ml_v ((lcp l0 g y0 rw).getD c cp0) (P.2.1 8) (kk % 4) ax) ∧ uc.2 0 = v9) ∨ (k9 = 1 ∧ (¬ ((∃ kk c, kk < 2 ^ 31 ∧ k = nI kk ∧ c < ly_n rw ∧ yo (Yy.2.2.1 8) (ly_n rw) (nI (kk / 4)) (nI c)) ∧ ∃ ax, ax < 2 ∧ v = nI ax)) ∧ uc = ((), oF)))
    (hm : (∃ kk c ax, kk < 2 ^ 31 ∧ k = nI kk ∧ c < ly_n rw ∧ yo (M.2.2.1 15) (ly_n rw) (nI (kk / 4)) (nI c) ∧ ax < 2 ∧ v = nI ax ∧ rm = mm_v (fun z => M.2.2.2 14 (6 * c + z)) (M.2.1 12) (kk % 4) ax ∧ um = (va_up M.1 0 0, M.2.1, M.2.2.1, M.2.2.2)) ∨ (¬ ((∃ kk c, kk < 2 ^ 31 ∧ k = nI kk ∧ c < ly_n rw ∧ yo (M.2.2.1 15) (ly_n rw) (nI (kk / 4)) (nI c)) ∧ ∃ ax, ax < 2 ∧ v = nI ax) ∧ um = (va_up M.1 0 1, M.2.1, M.2.2.1, M.2.2.2))) :
    um.1 0 = k9 ∧ (k9 = 0 → uc.2 0 = rm) ∧ INV P S Yy um Bi Bl Bk := by
  have hn := n160 hL.2.1
  have h8 := iL_8 hL
  rcases hc with ⟨v9, rfl, ⟨kk, c, ax, h1, h2, h3, h4, h5, h6, h7⟩, c4⟩ | ⟨rfl, c1, rfl⟩
  · rcases hm with ⟨kk', c', ax', g1, g2, g3, g4, g5, g6, g7, rfl⟩ | ⟨m1, -⟩
    · have e1 : kk = kk' := (nI_eq h1 g1).mp (h2.symm.trans g2)
      have e2 : ax = ax' := (nI_eq (by omega) (by omega)).mp (h6.symm.trans g6)
      subst e1; subst e2
      have e3 : c = c' := (nI_eq (by omega) (by omega)).mp (yo_un (by omega) (yo_cg h8 h4) g4)
      subst e3
      refine ⟨rfl, fun _ => ?_, inv_0 0 hI⟩
      have hq := hL.2.2.2.1.2 c (by rw [lcp_len]; exact h3)
      rw [c4, h7, g7, hr]
      unfold ml_v mm_v
      dsimp only
      rw [hq 1 (by decide), hq 2 (by decide), hq 4 (by decide), hq 5 (by decide)]
    · exact absurd ⟨⟨kk, c, h1, h2, h3, yo_cg h8 h4⟩, ax, h5, h6⟩ m1
  · rcases hm with ⟨kk', c', ax', g1, g2, g3, g4, g5, g6, -⟩ | ⟨-, rfl⟩
    · exact absurd ⟨⟨kk', c', g1, g2, g3, yo_cg (fun j hj => (h8 j hj).symm) g4⟩, ax', g5, g6⟩ c1
    · exact ⟨rfl, fun z => absurd z (by decide), inv_0 1 hI⟩
theorem tie_order {l0 y0 g nb : Nat} {nc : Nat → Nat} {bf : Nat → Bool} {rw : List Rw} {k rc rm : Int32} {um : St} (hI : INV P S Yy M Bi Bl Bk) (hL : iL nb nc l0 y0 g rw bf Yy M) (hc : yo (Yy.2.2.1 8) (ly_n rw) k rc) (hm : yo (M.2.2.1 15) (ly_n rw) k rm ∧ um = (va_up M.1 0 0, M.2.1, M.2.2.1, M.2.2.2)) :
    rc = rm ∧ INV P S Yy um Bi Bl Bk := by
  have hn := n160 hL.2.1
  obtain ⟨h1, rfl⟩ := hm
  exact ⟨yo_un (by omega) (yo_cg (iL_8 hL) hc) h1, inv_0 0 hI⟩
end TIE3
