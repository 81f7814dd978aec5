/-! a run: both lay the same rows, and are as sure of them -/
theorem ft_rf {ac : Int} {g nb kn : Nat} {bw bh : Nat → Nat} {k : Nat} : rfN ac g bw bh (2 * min kn nb) k = ftF ac g nb kn bw bh k := by
  unfold rfN ftF rF8
  by_cases h1 : k < 2 * min kn nb
  · rw [if_pos h1]
    by_cases h2 : bw (k / 2) ≠ 0 ∧ bh (k / 2) ≠ 0
    · rw [if_pos h2, if_pos ⟨by omega, by omega, h2⟩]
    · rw [if_neg h2, if_neg (fun z => h2 z.2.2)]
  · rw [if_neg h1, if_neg (fun z => h1 (by have := z.1; have := z.2.1; omega))]
theorem ft_pos {ac : Int} {g nb kn : Nat} {bw bh : Nat → Nat} {k : Nat} (h : 0 < ftF ac g nb kn bw bh k) : k / 2 < kn ∧ k / 2 < nb ∧ bw (k / 2) ≠ 0 ∧ bh (k / 2) ≠ 0 := by
  unfold ftF at h
  split at h
  · rename_i z; exact z
  · exact absurd h (Nat.lt_irrefl 0)
theorem ft_hg {ac : Int} {g nb kn : Nat} {bw bh : Nat → Nat} {k : Nat} (h : 0 < ftF ac g nb kn bw bh k) : 0 < hgF bw bh k := by
  obtain ⟨-, -, h1, h2⟩ := ft_pos h
  unfold hgF
  split <;> omega
theorem run_eq {ac fr : Int} {g nb kn n mr F F9 l0 y0 : Nat} {bw bh wt hi wl : Nat → Nat} {best : List (Nat × Nat)} (hn : n ≤ 8) (hF : 100000000 < F) (hF9 : 100000000 < F9) (hm : ∀ k, rfN ac g bw bh (2 * min kn nb) k ≤ mr) (hh : ∀ k, k < 2 * min kn nb → bw (k / 2) ≠ 0 → bh (k / 2) ≠ 0 → hi k = hgF bw bh k ∧ wl (k / 2) = wt (k / 2))
    (hb : best = sr_try (rfN ac g bw bh (2 * min kn nb)) (fun k => (hi k : Int)) g mr n [] 0 fr wl []) :
    ruF bw bh g fr (ftF ac g nb kn bw bh) wt l0 y0 n F = lcp l0 g y0 (best.map (rwB bw bh)) ∧ ((min kn nb = nb ∧ ¬ sr_cop best < sr_cop (sr_try (rfN ac g bw bh (2 * min kn nb)) (fun k => (hi k : Int)) g mr (n + 1) [] 0 fr wl best)) ↔ (nb ≤ kn ∧ (sM bw bh g fr (ftF ac g nb kn bw bh) wt (n + 1) F9).1 = (sM bw bh g fr (ftF ac g nb kn bw bh) wt n F).1)) := by
  have hcg : ∀ f, sr_cands (rfN ac g bw bh (2 * min kn nb)) (fun k => (hi k : Int)) g f 0 fr wl = sr_cands (ftF ac g nb kn bw bh) (fun k => (hgF bw bh k : Int)) g f 0 fr wt := fun f => by
    have hal : ∀ k, 0 < rfN ac g bw bh (2 * min kn nb) k → hi k = hgF bw bh k ∧ wl (k / 2) = wt (k / 2) := fun k hp => by
      rw [ft_rf] at hp
      obtain ⟨a1, a2, a3, a4⟩ := ft_pos hp
      exact hh k (by omega) a3 a4
    exact ca_cg (fun k _ => ft_rf) (fun k _ hp => by rw [(hal k hp).1]) f 0 fr wl wt (fun k _ hp => (hal k hp).2)
  have hA : ∀ k, k < 8 → 0 < ftF ac g nb kn bw bh k → 0 < hgF bw bh k := fun k _ h => ft_hg h
  rw [sr_try_eq _ _ _ _ hm n [] 0 fr wl [] (Nat.zero_le _)] at hb
  have hb' : best = (sr_cands (ftF ac g nb kn bw bh) (fun k => (hgF bw bh k : Int)) g n 0 fr wt).foldl sr_keep [] := by rw [hb, hcg n]; rfl
  obtain ⟨b, b1, b2, b3, b4⟩ := cl_opt (ft := ftF ac g nb kn bw bh) (wt := wt) (bw := bw) (bh := bh) (g := g) (fr := fr) hA n
  rw [← hb'] at b2 b3
  obtain ⟨s1, s2⟩ := sM_opt (ft := ftF ac g nb kn bw bh) (wt := wt) (bw := bw) (bh := bh) (g := g) (fr := fr) (mo := n) (F := F) (by omega) hF
  obtain ⟨u1, u2⟩ := sM_opt (ft := ftF ac g nb kn bw bh) (wt := wt) (bw := bw) (bh := bh) (g := g) (fr := fr) (mo := n + 1) (F := F9) (by omega) hF9
  obtain ⟨e1, e2⟩ := gd_un s1 b1 s2 b4
  have hlen : best.length ≤ n := by
    rw [hb']
    rcases fk (R := lxP) (sr_cands (ftF ac g nb kn bw bh) (fun k => (hgF bw bh k : Int)) g n 0 fr wt) [] (ca_pw _ _ _ _) with ⟨h1, -⟩ | ⟨h1, -⟩
    · rw [h1]; exact Nat.zero_le _
    · obtain ⟨ks, -, h2, -, -, -, h3⟩ := ca_to _ _ _ _ _ h1
      rw [h3, tk_len]; exact h2
  refine ⟨?_, ?_⟩
  · unfold ruF
    rw [rwF_cg 8 0 (fun j _ hj => e2 j (by omega)), rwL_tk, ← b3]
  · rw [sr_try_eq _ _ _ _ hm (n + 1) [] 0 fr wl best (by simp; omega), hcg (n + 1)]
    have ef : (sr_cands (ftF ac g nb kn bw bh) (fun k => (hgF bw bh k : Int)) g (n + 1) 0 fr wt).foldl (fun b c => sr_keep b ([] ++ c)) best = (sr_cands (ftF ac g nb kn bw bh) (fun k => (hgF bw bh k : Int)) g (n + 1) 0 fr wt).foldl sr_keep best := rfl
    rw [ef]
    have hs : (sM bw bh g fr (ftF ac g nb kn bw bh) wt n F).1 = sr_cop best := e1.trans b2
    rw [hs]
    obtain ⟨s', hs'⟩ : ∃ z, z = sM bw bh g fr (ftF ac g nb kn bw bh) wt (n + 1) F9 := ⟨_, rfl⟩
    obtain ⟨s, hsq⟩ : ∃ z, z = sM bw bh g fr (ftF ac g nb kn bw bh) wt n F := ⟨_, rfl⟩
    rw [← hs'] at u1 u2 ⊢
    rw [← hsq] at s1 hs
    have hge : s.1 ≤ s'.1 := by
      rcases s1 with ⟨z, -⟩ | ⟨-, z⟩
      · omega
      · have := u2 _ _ (vv_mono z (Nat.le_succ n))
        unfold bt at this
        omega
    have hkey : (¬ sr_cop best < sr_cop ((sr_cands (ftF ac g nb kn bw bh) (fun k => (hgF bw bh k : Int)) g (n + 1) 0 fr wt).foldl sr_keep best)) ↔ s'.1 = sr_cop best := by
      rcases fk (R := lxP) (sr_cands (ftF ac g nb kn bw bh) (fun k => (hgF bw bh k : Int)) g (n + 1) 0 fr wt) best (ca_pw _ _ _ _) with ⟨h1, h2⟩ | ⟨h1, h2, h3, -⟩
      · rw [h1]
        constructor
        · intro _
          rcases u1 with ⟨z, -⟩ | ⟨-, z⟩
          · omega
          · obtain ⟨c1, c2, -⟩ := vv_ca hA z
            have := h2 _ c1
            unfold be at this
            rw [← c2] at this
            omega
        · intro _; exact Nat.lt_irrefl _
      · obtain ⟨v, hv, -, -⟩ := ca_vv h1
        have h5 := u2 _ _ hv
        unfold bt at h5
        constructor
        · intro h
          rcases u1 with ⟨z, -⟩ | ⟨-, z⟩
          · omega
          · obtain ⟨c1, c2, -⟩ := vv_ca hA z
            have := h3 _ c1
            unfold be at this
            rw [← c2] at this
            omega
        · intro h; omega
    constructor
    · rintro ⟨a1, a2⟩; exact ⟨by omega, hkey.mp a2⟩
    · rintro ⟨a1, a2⟩; exact ⟨by omega, hkey.mpr a2⟩
/-- the least and the greatest of places -/
theorem mm_bd {X : Nat → Nat} : ∀ n, (∀ j, j < n → X j ≤ 65536) → ∃ a c : Nat, a ≤ c ∧ c ≤ 65536 ∧ mnF (fun j => lN (X j)) n = lN a ∧ mxF (fun j => lN (X j)) n = lN c ∧ (n = 0 → c = 0) := by
  intro n
  induction n with
  | zero => intro _; exact ⟨0, 0, Nat.le_refl _, Nat.zero_le _, rfl, rfl, fun _ => rfl⟩
  | succ n ih =>
    intro h
    obtain ⟨a, c, h1, h2, h3, h4, h5⟩ := ih (fun j hj => h j (by omega))
    have hX := h n (by omega)
    rw [mnF, mxF, h3, h4]
    by_cases hn : n = 0
    · subst hn
      rw [if_pos rfl, if_pos rfl]
      exact ⟨X 0, X 0, Nat.le_refl _, hX, rfl, rfl, fun z => absurd z (Nat.succ_ne_zero 0)⟩
    · rw [if_neg hn, if_neg hn]
      have l1 : (lN (X n) < lN a) = (X n < a) := propext (lN_lt (by omega) (by omega))
      have l2 : (lN c < lN (X n)) = (c < X n) := propext (lN_lt (by omega) (by omega))
      simp only [l1, l2]
      by_cases q1 : X n < a
      · rw [if_pos q1, if_neg (by omega)]
        exact ⟨X n, c, by omega, h2, rfl, rfl, fun z => absurd z (Nat.succ_ne_zero n)⟩
      · rw [if_neg q1]
        by_cases q2 : c < X n
        · rw [if_pos q2]; exact ⟨a, X n, by omega, hX, rfl, rfl, fun z => absurd z (Nat.succ_ne_zero n)⟩
        · rw [if_neg q2]; exact ⟨a, c, h1, h2, rfl, rfl, fun z => absurd z (Nat.succ_ne_zero n)⟩
/-- every board's box -/
theorem iC_box {nb : Nat} {nc : Nat → Nat} {X Y : Nat → Nat → Nat} {Bi : Nat → Nat → Int32} {Bl : Nat → Nat → Int64} {Bk : Nat → Nat → Nat → Int64} {M : St} (h : iC nb nc X Y Bi Bl Bk M) : ∃ bw bh : Nat → Nat, ∀ b, b < 4 → boxR (Bl b) (bw b) (bh b) ∧ (mxF (fun j => lN (X b j)) (nc b) - mnF (fun j => lN (X b j)) (nc b) = lN (bw b) ∧ bw b ≤ 65536) ∧ (mxF (fun j => lN (Y b j)) (nc b) - mnF (fun j => lN (Y b j)) (nc b) = lN (bh b) ∧ bh b ≤ 65536) ∧ (nc b = 0 → bw b = 0 ∧ bh b = 0) := by
  have one : ∀ b, ∃ w hh : Nat, b < 4 → boxR (Bl b) w hh ∧ (mxF (fun j => lN (X b j)) (nc b) - mnF (fun j => lN (X b j)) (nc b) = lN w ∧ w ≤ 65536) ∧ (mxF (fun j => lN (Y b j)) (nc b) - mnF (fun j => lN (Y b j)) (nc b) = lN hh ∧ hh ≤ 65536) ∧ (nc b = 0 → w = 0 ∧ hh = 0) := by
    intro b
    by_cases hb : b < 4
    · obtain ⟨a1, a2, a3, a4, a5, a6, a7, a8, a9⟩ := h b hb
      obtain ⟨x7, x9, p1, p2, p3, p4, p5⟩ := mm_bd (X := X b) (nc b) (fun j hj => (a5 j hj).2.2.2.2.1)
      obtain ⟨x8, x10, q1, q2, q3, q4, q5⟩ := mm_bd (X := Y b) (nc b) (fun j hj => (a5 j hj).2.2.2.2.2)
      refine ⟨x9 - x7, x10 - x8, fun _ => ⟨⟨x7, x8, x9, x10, a6.trans p3, a7.trans q3, a8.trans p4, a9.trans q4, p1, q1, p2, q2, rfl, rfl⟩, ⟨by rw [p4, p3, lN_sub p1], by omega⟩, ⟨by rw [q4, q3, lN_sub q1], by omega⟩, fun z => ?_⟩⟩
      have := p5 z
      have := q5 z
      omega
    · exact ⟨0, 0, fun z => absurd z hb⟩
  exact ⟨fun b => (one b).choose, fun b => (one b).choose_spec.choose, fun b hb => (one b).choose_spec.choose_spec hb⟩
section TIE6
variable {P S Yy M : St} {Bi : Nat → Nat → Int32} {Bl : Nat → Nat → Int64} {Bk : Nat → Nat → Nat → Int64} {w h nb g l0 y0 g0 : Nat} {r nc np wt : Nat → Nat} {X Y : Nat → Nat → Nat} {rw : List Rw} {bf : Nat → Bool}
theorem tie_run {kv : Int32} {nv : Int64} {ac fr : Int} {bw bh : Nat → Nat} {k9 : Int32} {uc : RU × (Nat → Int64)} {oF : Nat → Int64} {rm : Int32} {um : St} (i1 : iD w h P M) (i2 : iN nb P M) (i3 : iR r P M) (i4 : iG g P M) (i5 : iV P M) (i6 : iC nb nc X Y Bi Bl Bk M) (i7 : iP np Bi Bk M) (i8 : iW wt Bi M) (i9 : iL nb nc l0 y0 g0 rw bf Yy M) (i10 : iX nb M) (i11 : sV S)
    (hbox : ∀ b, b < 4 → boxR (Bl b) (bw b) (bh b) ∧ (mxF (fun j => lN (X b j)) (nc b) - mnF (fun j => lN (X b j)) (nc b) = lN (bw b) ∧ bw b ≤ 65536) ∧ (mxF (fun j => lN (Y b j)) (nc b) - mnF (fun j => lN (Y b j)) (nc b) = lN (bh b) ∧ bh b ≤ 65536) ∧ (nc b = 0 → bw b = 0 ∧ bh b = 0))
    (hc : (∃ v9 : Int32, k9 = 0 ∧ (∃ kn n, kn < 5 ∧ n < 9 ∧ kv = nI kn ∧ nv = lN n ∧ prR ac fr g nb (r 0) (r 1) bw bh wt P.1 kn n v9 uc.1) ∧ uc.2 0 = v9.toInt64) ∨ (k9 = 1 ∧ (¬ (∃ kn n, kn < 5 ∧ n < 9 ∧ kv = nI kn ∧ nv = lN n)) ∧ uc = ((S, P.1, Yy), oF)))
    (hm : (∃ kn n F F9, kn < 5 ∧ n < 9 ∧ kv = nI kn ∧ nv = lN n ∧ 100000000 < F ∧ 100000000 < F9 ∧ rm = nI (ruF bw bh g fr (ftF ac g nb kn bw bh) wt (r 0) (r 1) n F).length ∧ um.2.1 = M.2.1 ∧ ruI M.1 M.2.2.1 M.2.2.2 um ∧ um.1 0 = 0 ∧ um.1 16 = (if nb ≤ kn ∧ (sM bw bh g fr (ftF ac g nb kn bw bh) wt (n + 1) F9).1 = (sM bw bh g fr (ftF ac g nb kn bw bh) wt n F).1 then 1 else 0) ∧ rwR (ruF bw bh g fr (ftF ac g nb kn bw bh) wt (r 0) (r 1) n F) um.1 um.2.2.1 um.2.2.2 ∧ (ruF bw bh g fr (ftF ac g nb kn bw bh) wt (r 0) (r 1) n F).length ≤ 200 ∧ ∀ b, b < 4 → um.2.2.2 19 b = lN (bw b) ∧ um.2.2.2 20 b = lN (bh b)) ∨ (¬ (∃ kn n, kn < 5 ∧ n < 9 ∧ kv = nI kn ∧ nv = lN n) ∧ um = (va_up M.1 0 1, M.2.1, M.2.2.1, M.2.2.2))) :
    um.1 0 = k9 ∧ (k9 = 0 → uc.2 0 = rm.toInt64) ∧ INV (uc.1.2.1, P.2.1, P.2.2.1, P.2.2.2) uc.1.1 uc.1.2.2 um Bi Bl Bk := by
  rcases hc with ⟨v9, rfl, ⟨kn, n, h1, h2, h3, h4, h5⟩, c4⟩ | ⟨rfl, c1, rfl⟩
  · rcases hm with ⟨kn', n', F, F9, g1, g2, g3, g4, g5, g6, g7, g8, g9, g10, g11, g12, g13, g14⟩ | ⟨m1, -⟩
    · have e1 : kn = kn' := (nI_eq (by omega) (by omega)).mp (h3.symm.trans g3)
      have e2 : n = n' := (lN_eq (by omega) (by omega)).mp (h4.symm.trans g4)
      subst e1; subst e2
      obtain ⟨hi, wl, mr, best, p1, p2, p3, p4, p5, p6, p7, p8⟩ := h5
      obtain ⟨q1, q2⟩ := run_eq (l0 := r 0) (y0 := r 1) (F := F) (F9 := F9) (by omega) g5 g6 p1 p2 p3
      rw [q1] at g7 g12 g13
      refine ⟨g10, fun _ => by rw [c4, p5, g7, lcp_len], ?_⟩
      have hwb : ∀ b, b < 4 → bw b ≤ 65536 ∧ bh b ≤ 65536 := fun b hb => ⟨(hbox b hb).2.1.2, (hbox b hb).2.2.1.2⟩
      have hr0 := i3 0 (by decide)
      have hr1 := i3 1 (by decide)
      have hok : okR (r 0) (r 1) g (best.map (rwB bw bh)) := by
        have := beR_ok (l0 := r 0) (y0 := r 1) (g := g) hr0.2.2 hr1.2.2 i4.2.2.1 hwb p4 best.length
        rw [List.take_length] at this; exact this
      obtain ⟨n1, n2, n3⟩ := g9
      refine ⟨w, h, nb, g, r 0, r 1, g, r, nc, np, wt, X, Y, best.map (rwB bw bh), fun _ => false, ⟨i1.1, i1.2.1, ?_⟩, ⟨?_, ?_, i2.2.2⟩, fun k hk => ?_, ⟨i4.1, ?_⟩, ⟨?_, ?_⟩, fun b hb => ?_, fun b hb => ?_, fun b hb => ?_, ⟨p8, hok, fun q hq => ?_, ⟨g12.1, g12.2.2⟩, fun c hc => ?_⟩, fun b hb hb4 => ?_, p6⟩
      · rw [g8]; exact i1.2.2
      · rw [p7]; exact i2.1
      · rw [n1 3 (by decide) (by decide) (by decide) (by decide) (by decide)]; exact i2.2.1
      · rw [n3 10 (by decide) (by decide) (by decide) (by decide) (by decide)]; exact i3 k hk
      · rw [g8]; exact i4.2
      · rw [g11, p7]
        show (if _ then (1 : Int32) else 0) = _
        by_cases hz : nb ≤ kn ∧ (sM bw bh g fr (ftF ac g nb kn bw bh) wt (n + 1) F9).1 = (sM bw bh g fr (ftF ac g nb kn bw bh) wt n F).1
        · rw [if_pos hz, if_pos (q2.mpr hz)]
        · rw [if_neg hz, if_neg (fun z => hz (q2.mp z))]
      · rw [p7]
        show (if _ then (1 : Int32) else 0) = 0 ∨ (if _ then (1 : Int32) else 0) = 1
        split
        · exact Or.inr rfl
        · exact Or.inl rfl
      · obtain ⟨a1, a2, a3, a4, a5, a6⟩ := i6 b hb
        refine ⟨a1, a2, ?_, a4, fun j hj => ?_, a6⟩
        · rw [n2 4 (by decide) (by decide) (by decide) (by decide)]; exact a3
        · rw [n3 5 (by decide) (by decide) (by decide) (by decide) (by decide), n3 6 (by decide) (by decide) (by decide) (by decide) (by decide)]; exact a5 j hj
      · obtain ⟨a1, a2, a3, a4⟩ := i7 b hb
        refine ⟨a1, a2, ?_, fun j hj => ?_⟩
        · rw [n2 8 (by decide) (by decide) (by decide) (by decide)]; exact a3
        · rw [n3 9 (by decide) (by decide) (by decide) (by decide) (by decide)]; exact a4 j hj
      · rw [n2 7 (by decide) (by decide) (by decide) (by decide)]; exact i8 b hb
      · obtain ⟨z, hz, rfl⟩ := List.mem_map.mp hq
        obtain ⟨z1, z2, z3, z4, z5⟩ := p4.2 z hz
        have hz4 : z.1 / 2 < 4 := by omega
        have hnc : nc (z.1 / 2) ≠ 0 := fun e => z4 ((hbox _ hz4).2.2.2 e).1
        refine ⟨Nat.lt_of_not_le (fun e => hnc ((i6 _ hz4).2.2.2.1 e)), Nat.pos_of_ne_zero hnc⟩
      · rw [g12.2.1 c (by rw [lcp_len]; exact hc)]; rfl
      · have hz := (hbox b hb4).2.2.2 ((i6 b hb4).2.2.2.1 hb)
        rw [(g14 b hb4).1, (g14 b hb4).2, hz.1, hz.2]
        exact ⟨rfl, rfl⟩
    · exact absurd ⟨kn, n, h1, h2, h3, h4⟩ m1
  · rcases hm with ⟨kn', n', F, F9, g1, g2, g3, g4, -⟩ | ⟨-, rfl⟩
    · exact absurd ⟨kn', n', g1, g2, g3, g4⟩ c1
    · refine ⟨rfl, fun z => absurd z (by decide), ?_⟩
      exact inv_0 1 ⟨w, h, nb, g, l0, y0, g0, r, nc, np, wt, X, Y, rw, bf, i1, i2, i3, i4, i5, i6, i7, i8, i9, i10, i11⟩
end TIE6
