/-! what holds between the class's cells and the reference's -/
def iD (w h : Nat) (P M : St) : Prop := P.2.1 0 = lN w ∧ P.2.1 1 = lN h ∧ M.2.1 1 = lN w ∧ M.2.1 2 = lN h ∧ 0 < w ∧ w ≤ 65536 ∧ 0 < h ∧ h ≤ 65536
def iN (nb : Nat) (P M : St) : Prop := P.1 6 = nI nb ∧ M.1 3 = nI nb ∧ nb ≤ 4
def iR (r : Nat → Nat) (P M : St) : Prop := ∀ k, k < 4 → P.2.2.2 3 k = lN (r k) ∧ M.2.2.2 10 k = lN (r k) ∧ r k ≤ 65536
def iG (g : Nat) (P M : St) : Prop := P.2.1 7 = lN g ∧ M.2.1 11 = lN g ∧ g ≤ 65536 ∧ P.2.1 8 = M.2.1 12
def iV (P M : St) : Prop := P.1 9 = M.1 16 ∧ (P.1 9 = 0 ∨ P.1 9 = 1)
def iC1 (nb b n : Nat) (X Y : Nat → Nat) (ib : Nat → Int32) (lb : Nat → Int64) (kb : Nat → Nat → Int64) (M : St) : Prop :=
  n ≤ 12 ∧ ib 5 = nI n ∧ M.2.2.1 4 b = nI n ∧ (nb ≤ b → n = 0) ∧ (∀ j, j < n → kb 0 j = lN (X j) ∧ kb 1 j = lN (Y j) ∧ M.2.2.2 5 (12 * b + j) = lN (X j) ∧ M.2.2.2 6 (12 * b + j) = lN (Y j) ∧ X j ≤ 65536 ∧ Y j ≤ 65536) ∧
  lb 7 = mnF (fun j => lN (X j)) n ∧ lb 8 = mnF (fun j => lN (Y j)) n ∧ lb 9 = mxF (fun j => lN (X j)) n ∧ lb 10 = mxF (fun j => lN (Y j)) n
def iC (nb : Nat) (nc : Nat → Nat) (X Y : Nat → Nat → Nat) (Bi : Nat → Nat → Int32) (Bl : Nat → Nat → Int64) (Bk : Nat → Nat → Nat → Int64) (M : St) : Prop := ∀ b, b < 4 → iC1 nb b (nc b) (X b) (Y b) (Bi b) (Bl b) (Bk b) M
def iP1 (b n : Nat) (ib : Nat → Int32) (kb : Nat → Nat → Int64) (M : St) : Prop := n ≤ 10 ∧ ib 6 = nI n ∧ M.2.2.1 8 b = nI n ∧ ∀ j, j < n → M.2.2.2 9 (30 * b + 3 * j) = kb 2 j ∧ M.2.2.2 9 (30 * b + 3 * j + 1) = kb 3 j ∧ M.2.2.2 9 (30 * b + 3 * j + 2) = kb 4 j
def iP (np : Nat → Nat) (Bi : Nat → Nat → Int32) (Bk : Nat → Nat → Nat → Int64) (M : St) : Prop := ∀ b, b < 4 → iP1 b (np b) (Bi b) (Bk b) M
def iW (wt : Nat → Nat) (Bi : Nat → Nat → Int32) (M : St) : Prop := ∀ b, b < 4 → Bi b 11 = nI (wt b) ∧ M.2.2.1 7 b = nI (wt b) ∧ wt b ≤ 200
def iL (nb : Nat) (nc : Nat → Nat) (l0 y0 g0 : Nat) (rw : List Rw) (bf : Nat → Bool) (Yy M : St) : Prop := yR l0 y0 g0 rw bf Yy ∧ okR l0 y0 g0 rw ∧ (∀ q ∈ rw, q.1 < nb ∧ 0 < nc q.1) ∧ rwQ (lcp l0 g0 y0 rw) M.1 M.2.2.2 ∧ ∀ c, c < ly_n rw → M.2.2.1 15 c = if bf c = true then 1 else 0
def iX (nb : Nat) (M : St) : Prop := ∀ b, nb ≤ b → b < 4 → M.2.2.2 19 b = 0 ∧ M.2.2.2 20 b = 0
def INV (P S Yy M : St) (Bi : Nat → Nat → Int32) (Bl : Nat → Nat → Int64) (Bk : Nat → Nat → Nat → Int64) : Prop :=
  ∃ (w h nb g l0 y0 g0 : Nat) (r nc np wt : Nat → Nat) (X Y : Nat → Nat → Nat) (rw : List Rw) (bf : Nat → Bool), iD w h P M ∧ iN nb P M ∧ iR r P M ∧ iG g P M ∧ iV P M ∧ iC nb nc X Y Bi Bl Bk M ∧ iP np Bi Bk M ∧ iW wt Bi M ∧ iL nb nc l0 y0 g0 rw bf Yy M ∧ iX nb M ∧ sV S
theorem okL_lN {v : Int64} (h : okL v) : ∃ n : Nat, n ≤ 65536 ∧ v = lN n := by
  have a1 := h.1
  have a2 := h.2
  rw [Int64.le_iff_toInt_le] at a1 a2
  have b1 : (0 : Int64).toInt = 0 := by decide
  have b2 : (65536 : Int64).toInt = 65536 := by decide
  rw [b1] at a1; rw [b2] at a2
  refine ⟨v.toInt.toNat, by omega, ?_⟩
  refine Int64.toInt_inj.mp ?_
  rw [lN_toInt (by omega)]; omega
theorem n160 {l0 y0 g : Nat} {rw : List Rw} (hok : okR l0 y0 g rw) : ly_n rw ≤ 160 := Nat.le_trans (ok_n (fun z hz => (hok.2.2.2.2 z hz).2.2.2.1)) (by have := hok.2.2.2.1; omega)
theorem iL_13 {nb : Nat} {nc : Nat → Nat} {l0 y0 g0 : Nat} {rw : List Rw} {bf : Nat → Bool} {Yy M : St} (h : iL nb nc l0 y0 g0 rw bf Yy M) : M.1 13 = nI (ly_n rw) := by
  have := h.2.2.2.1.1
  rw [lcp_len] at this
  exact this
theorem iL_01 {nb : Nat} {nc : Nat → Nat} {l0 y0 g0 : Nat} {rw : List Rw} {bf : Nat → Bool} {Yy M : St} (h : iL nb nc l0 y0 g0 rw bf Yy M) : ∀ j, j < ly_n rw → M.2.2.1 15 j = 0 ∨ M.2.2.1 15 j = 1 := fun j hj => by
  rw [h.2.2.2.2 j hj]; split; exact Or.inr rfl; exact Or.inl rfl
theorem iL_8 {nb : Nat} {nc : Nat → Nat} {l0 y0 g0 : Nat} {rw : List Rw} {bf : Nat → Bool} {Yy M : St} (h : iL nb nc l0 y0 g0 rw bf Yy M) : ∀ j, j < ly_n rw → Yy.2.2.1 8 j = M.2.2.1 15 j := fun j hj => by
  rw [h.2.2.2.2 j hj]; exact h.1.2.2.2.1 j hj
section TIE
variable {P S Yy M : St} {Bi : Nat → Nat → Int32} {Bl : Nat → Nat → Int64} {Bk : Nat → Nat → Nat → Int64} {w h nb g l0 y0 g0 : Nat} {r nc np wt : Nat → Nat} {X Y : Nat → Nat → Nat} {rw : List Rw} {bf : Nat → Bool}
/-- the reference's note of a throw alone has changed -/
theorem inv_0 (z : Int32) (hI : INV P S Yy M Bi Bl Bk) : INV P S Yy (va_up M.1 0 z, M.2.1, M.2.2.1, M.2.2.2) Bi Bl Bk := by
  obtain ⟨w, h, nb, g, l0, y0, g0, r, nc, np, wt, X, Y, rw, bf, i1, i2, i3, i4, i5, i6, i7, i8, i9, i10, i11⟩ := hI
  exact ⟨w, h, nb, g, l0, y0, g0, r, nc, np, wt, X, Y, rw, bf, i1, i2, i3, i4, i5, i6, i7, i8, i9, i10, i11⟩
theorem tie_board {rc : Int32} {uc : Nat → Int32} {rm : Int32} {um : St} (hI : INV P S Yy M Bi Bl Bk) {n : Nat} (hn : P.1 6 = nI n) (hn2 : n ≤ 4)
    (hc : if n < 4 then rc = nI n ∧ uc = va_up P.1 6 (nI (n + 1)) else rc = -1 ∧ uc = P.1) (hm : if n < 4 then rm = nI n ∧ um = (va_up (va_up M.1 0 0) 3 (nI (n + 1)), M.2.1, M.2.2.1, M.2.2.2) else rm = -1 ∧ um = (va_up M.1 0 0, M.2.1, M.2.2.1, M.2.2.2)) :
    rc = rm ∧ INV (uc, P.2.1, P.2.2.1, P.2.2.2) S Yy um Bi Bl Bk := by
  obtain ⟨w, h, nb, g, l0, y0, g0, r, nc, np, wt, X, Y, rw, bf, i1, i2, i3, i4, i5, i6, i7, i8, i9, i10, i11⟩ := hI
  have e : n = nb := (nI_eq (by omega) (by have := i2.2.2; omega)).mp (hn.symm.trans i2.1)
  subst e
  by_cases hlt : n < 4
  · rw [if_pos hlt] at hc hm
    obtain ⟨rfl, rfl⟩ := hc
    obtain ⟨rfl, rfl⟩ := hm
    refine ⟨rfl, w, h, n + 1, g, l0, y0, g0, r, nc, np, wt, X, Y, rw, bf, i1, ⟨rfl, rfl, hlt⟩, i3, i4, i5, fun b hb => ?_, i7, i8, ⟨i9.1, i9.2.1, fun q hq => ⟨Nat.lt_succ_of_lt (i9.2.2.1 q hq).1, (i9.2.2.1 q hq).2⟩, i9.2.2.2.1, i9.2.2.2.2⟩, fun b hb => i10 b (by omega), i11⟩
    obtain ⟨a1, a2, a3, a4, a5⟩ := i6 b hb
    exact ⟨a1, a2, a3, fun z => a4 (by omega), a5⟩
  · rw [if_neg hlt] at hc hm
    obtain ⟨rfl, rfl⟩ := hc
    obtain ⟨rfl, rfl⟩ := hm
    exact ⟨rfl, w, h, n, g, l0, y0, g0, r, nc, np, wt, X, Y, rw, bf, i1, i2, i3, i4, i5, i6, i7, i8, i9, i10, i11⟩
theorem tie_gap {v : Int64} {k9 : Int32} {uc : (Nat → Int64) × (Nat → Int64)} {oF : Nat → Int64} {rm : Int32} {um : St} (hI : INV P S Yy M Bi Bl Bk)
    (hc : (∃ v9 : Int32, k9 = 0 ∧ ((0 ≤ v ∧ v ≤ 65536) ∧ v9 = (if P.2.1 7 = v then 0 else 1) ∧ uc.1 = va_up P.2.1 7 v) ∧ uc.2 0 = (if v9 = 0 then 0 else 1)) ∨ (k9 = 1 ∧ (¬ (0 ≤ v ∧ v ≤ 65536)) ∧ uc = (P.2.1, oF)))
    (hm : (okL v ∧ rm = (if M.2.1 11 = v then 0 else 1) ∧ um = (va_up M.1 0 0, va_up M.2.1 11 v, M.2.2.1, M.2.2.2)) ∨ (¬ okL v ∧ um = (va_up M.1 0 1, M.2.1, M.2.2.1, M.2.2.2))) :
    um.1 0 = k9 ∧ (k9 = 0 → uc.2 0 = (if rm = 0 then 0 else 1)) ∧ INV (P.1, uc.1, P.2.2.1, P.2.2.2) S Yy um Bi Bl Bk := by
  rcases hc with ⟨v9, rfl, ⟨c1, rfl, c3⟩, c4⟩ | ⟨rfl, c1, rfl⟩
  · rcases hm with ⟨-, m2, rfl⟩ | ⟨m1, -⟩
    · obtain ⟨w, h, nb, g, l0, y0, g0, r, nc, np, wt, X, Y, rw, bf, i1, i2, i3, i4, i5, i6, i7, i8, i9, i10, i11⟩ := hI
      obtain ⟨n, hn, rfl⟩ := okL_lN c1
      refine ⟨rfl, fun _ => ?_, w, h, nb, n, l0, y0, g0, r, nc, np, wt, X, Y, rw, bf, ?_, i2, i3, ?_, i5, i6, i7, i8, i9, i10, i11⟩
      · rw [c4, m2, i4.1, i4.2.1]
      · rw [c3]; exact i1
      · rw [c3]; exact ⟨rfl, rfl, hn, i4.2.2.2⟩
    · exact absurd c1 m1
  · rcases hm with ⟨m1, -⟩ | ⟨-, rfl⟩
    · exact absurd m1 c1
    · exact ⟨rfl, fun z => absurd z (by decide), inv_0 1 hI⟩
theorem tie_radius {v : Int64} {k9 : Int32} {uc : (Nat → Int64) × (Nat → Int64)} {oF : Nat → Int64} {rm : Int32} {um : St} (hI : INV P S Yy M Bi Bl Bk)
    (hc : (∃ v9 : Int32, k9 = 0 ∧ ((0 ≤ v ∧ v ≤ 65536) ∧ v9 = (if P.2.1 8 = v then 0 else 1) ∧ uc.1 = va_up P.2.1 8 v) ∧ uc.2 0 = (if v9 = 0 then 0 else 1)) ∨ (k9 = 1 ∧ (¬ (0 ≤ v ∧ v ≤ 65536)) ∧ uc = (P.2.1, oF)))
    (hm : (okL v ∧ rm = (if M.2.1 12 = v then 0 else 1) ∧ um = (va_up M.1 0 0, va_up M.2.1 12 v, M.2.2.1, M.2.2.2)) ∨ (¬ okL v ∧ um = (va_up M.1 0 1, M.2.1, M.2.2.1, M.2.2.2))) :
    um.1 0 = k9 ∧ (k9 = 0 → uc.2 0 = (if rm = 0 then 0 else 1)) ∧ INV (P.1, uc.1, P.2.2.1, P.2.2.2) S Yy um Bi Bl Bk := by
  rcases hc with ⟨v9, rfl, ⟨c1, rfl, c3⟩, c4⟩ | ⟨rfl, c1, rfl⟩
  · rcases hm with ⟨-, m2, rfl⟩ | ⟨m1, -⟩
    · obtain ⟨w, h, nb, g, l0, y0, g0, r, nc, np, wt, X, Y, rw, bf, i1, i2, i3, i4, i5, i6, i7, i8, i9, i10, i11⟩ := hI
      refine ⟨rfl, fun _ => ?_, w, h, nb, g, l0, y0, g0, r, nc, np, wt, X, Y, rw, bf, ?_, i2, i3, ?_, i5, i6, i7, i8, i9, i10, i11⟩
      · rw [c4, m2, i4.2.2.2]
      · rw [c3]; exact i1
      · rw [c3]; exact ⟨i4.1, i4.2.1, i4.2.2.1, rfl⟩
    · exact absurd c1 m1
  · rcases hm with ⟨m1, -⟩ | ⟨-, rfl⟩
    · exact absurd m1 c1
    · exact ⟨rfl, fun z => absurd z (by decide), inv_0 1 hI⟩
theorem tie_rail {sd : Int32} {v : Int64} {k9 : Int32} {uc : (Nat → Nat → Int64) × (Nat → Int64)} {oF : Nat → Int64} {rm : Int32} {um : St} (hI : INV P S Yy M Bi Bl Bk)
    (hc : (∃ v9 : Int32, k9 = 0 ∧ (∃ k, k < 4 ∧ sd = nI k ∧ okL v ∧ v9 = (if P.2.2.2 3 k = v then 0 else 1) ∧ uc.1 = va_up P.2.2.2 3 (vp_updL (P.2.2.2 3) k v)) ∧ uc.2 0 = (if v9 = 0 then 0 else 1)) ∨ (k9 = 1 ∧ (¬ (∃ k, k < 4 ∧ sd = nI k)) ∧ uc = (P.2.2.2, oF)) ∨ (k9 = 2 ∧ ((∃ k, k < 4 ∧ sd = nI k) ∧ ¬ okL v) ∧ uc = (P.2.2.2, oF)))
    (hm : (∃ k, k < 4 ∧ sd = nI k ∧ okL v ∧ rm = (if M.2.2.2 10 k = v then 0 else 1) ∧ um = (va_up M.1 0 0, M.2.1, M.2.2.1, va_up M.2.2.2 10 (vp_updL (M.2.2.2 10) k v))) ∨ (¬ (∃ k, k < 4 ∧ sd = nI k) ∧ um = (va_up M.1 0 1, M.2.1, M.2.2.1, M.2.2.2)) ∨ ((∃ k, k < 4 ∧ sd = nI k) ∧ ¬ okL v ∧ um = (va_up M.1 0 2, M.2.1, M.2.2.1, M.2.2.2))) :
    um.1 0 = k9 ∧ (k9 = 0 → uc.2 0 = (if rm = 0 then 0 else 1)) ∧ INV (P.1, P.2.1, P.2.2.1, uc.1) S Yy um Bi Bl Bk := by
  rcases hc with ⟨v9, rfl, ⟨k, hk, ek, c1, rfl, c3⟩, c4⟩ | ⟨rfl, c1, rfl⟩ | ⟨rfl, ⟨c1, c2⟩, rfl⟩
  · rcases hm with ⟨k', hk', ek', -, m2, rfl⟩ | ⟨m1, -⟩ | ⟨-, m1, -⟩
    · obtain ⟨w, h, nb, g, l0, y0, g0, r, nc, np, wt, X, Y, rw, bf, i1, i2, i3, i4, i5, i6, i7, i8, i9, i10, i11⟩ := hI
      have e : k' = k := (nI_eq (by omega) (by omega)).mp (ek'.symm.trans ek)
      subst e
      obtain ⟨n, hn, rfl⟩ := okL_lN c1
      refine ⟨rfl, fun _ => ?_, w, h, nb, g, l0, y0, g0, va_up r k' n, nc, np, wt, X, Y, rw, bf, i1, i2, fun j hj => ?_, i4, i5, i6, i7, i8, i9, i10, i11⟩
      · rw [c4, m2, (i3 k' hk).1, (i3 k' hk).2.1]
      · rw [c3]
        show vp_updL (P.2.2.2 3) k' (lN n) j = _ ∧ vp_updL (M.2.2.2 10) k' (lN n) j = _ ∧ _
        by_cases hjk : j = k'
        · rw [hjk, updL_s, updL_s, up_s]; exact ⟨rfl, rfl, hn⟩
        · rw [updL_n _ _ hjk, updL_n _ _ hjk, up_n _ _ hjk]; exact i3 j hj
    · exact absurd ⟨k, hk, ek⟩ m1
    · exact absurd c1 m1
  · rcases hm with ⟨k', hk', ek', -⟩ | ⟨-, rfl⟩ | ⟨m1, -⟩
    · exact absurd ⟨k', hk', ek'⟩ c1
    · exact ⟨rfl, fun z => absurd z (by decide), inv_0 1 hI⟩
    · exact absurd m1 c1
  · rcases hm with ⟨k', hk', ek', m1, -⟩ | ⟨m1, -⟩ | ⟨-, -, rfl⟩
    · exact absurd m1 c2
    · exact absurd c1 m1
    · exact ⟨rfl, fun z => absurd z (by decide), inv_0 2 hI⟩
end TIE
