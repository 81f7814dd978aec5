/-! the reference's search: every vector of rows is weighed, and the best stays -/
theorem ah_tr {a b c : Nat → Nat} : ∀ f k, ah a b f k = true → ah b c f k = true → ah a c f k = true := by
  intro f
  induction f with
  | zero => intro k h; exact absurd h (by simp [ah])
  | succ f ih =>
    intro k h1 h2
    rw [ah] at h1 h2 ⊢
    by_cases e1 : a k = b k
    · rw [if_pos e1] at h1
      by_cases e2 : b k = c k
      · rw [if_pos e2] at h2
        rw [if_pos (e1.trans e2)]; exact ih _ h1 h2
      · rw [if_neg e2] at h2
        rw [if_neg (fun z => e2 (e1 ▸ z))]
        have := of_decide_eq_true h2
        exact decide_eq_true (by omega)
    · rw [if_neg e1] at h1
      have h1' := of_decide_eq_true h1
      by_cases e2 : b k = c k
      · rw [if_neg (fun z => e1 (z.trans e2.symm))]
        exact decide_eq_true (by omega)
      · rw [if_neg e2] at h2
        have h2' := of_decide_eq_true h2
        rw [if_neg (by omega)]
        exact decide_eq_true (by omega)
theorem ah_cg {a b a' b' : Nat → Nat} : ∀ f k, (∀ j, k ≤ j → j < k + f → a j = a' j ∧ b j = b' j) → ah a b f k = ah a' b' f k := by
  intro f
  induction f with
  | zero => intro k _; rfl
  | succ f ih =>
    intro k h
    have h0 := h k (Nat.le_refl _) (by omega)
    rw [ah, ah, ih (k + 1) (fun j h1 h2 => h j (by omega) (by omega)), h0.1, h0.2]
theorem ah_ir (a : Nat → Nat) : ∀ f k, ah a a f k = false := by
  intro f
  induction f with
  | zero => intro k; rfl
  | succ f ih => intro k; rw [ah, if_pos rfl]; exact ih _
theorem ah_to {a b : Nat → Nat} : ∀ f k, ah a b f k = false → ah b a f k = false → ∀ j, k ≤ j → j < k + f → a j = b j := by
  intro f
  induction f with
  | zero => intro k _ _ j h1 h2; omega
  | succ f ih =>
    intro k h1 h2 j hj1 hj2
    rw [ah] at h1 h2
    by_cases e : a k = b k
    · rw [if_pos e] at h1
      rw [if_pos e.symm] at h2
      by_cases hjk : j = k
      · rw [hjk]; exact e
      · exact ih (k + 1) h1 h2 j (by omega) (by omega)
    · rw [if_neg e] at h1
      rw [if_neg (fun z => e z.symm)] at h2
      have h1' := of_decide_eq_false h1
      have h2' := of_decide_eq_false h2
      omega
theorem sm_cg {f g : Nat → Nat} : ∀ n, (∀ j, j < n → f j = g j) → sm f n = sm g n := by
  intro n
  induction n with
  | zero => intro _; rfl
  | succ n ih => intro h; rw [sm, sm, ih (fun j hj => h j (by omega)), h n (by omega)]
theorem rwF_cg {a b : Nat → Nat} : ∀ f k, (∀ j, k ≤ j → j < k + f → a j = b j) → rwF a f k = rwF b f k := by
  intro f
  induction f with
  | zero => intro k _; rfl
  | succ f ih => intro k h; rw [rwF, rwF, ih (k + 1) (fun j h1 h2 => h j (by omega) (by omega)), h k (Nat.le_refl _) (by omega)]
/-- v with its n copies is better than s -/
def bt (v : Nat → Nat) (n : Nat) (s : Bst) : Prop := s.1 < n ∨ (n = s.1 ∧ (sm v 8 < s.2.1 ∨ (sm v 8 = s.2.1 ∧ ah v s.2.2 8 0 = true)))
theorem bt_tr {v c : Nat → Nat} {m n : Nat} {s : Bst} (h1 : bt v m (n, sm c 8, c)) (h2 : bt c n s) : bt v m s := by
  unfold bt at h1 h2 ⊢
  dsimp only at h1
  rcases h2 with h2 | ⟨h2, h2 | ⟨h2, h3⟩⟩
  · rcases h1 with h1 | ⟨h1, -⟩
    · exact Or.inl (by omega)
    · exact Or.inl (by omega)
  · rcases h1 with h1 | ⟨h1, h4 | ⟨h4, h5⟩⟩
    · exact Or.inl (by omega)
    · exact Or.inr ⟨by omega, Or.inl (by omega)⟩
    · exact Or.inr ⟨by omega, Or.inl (by omega)⟩
  · rcases h1 with h1 | ⟨h1, h4 | ⟨h4, h5⟩⟩
    · exact Or.inl (by omega)
    · exact Or.inr ⟨by omega, Or.inl (by omega)⟩
    · exact Or.inr ⟨by omega, Or.inr ⟨by omega, ah_tr 8 0 h5 h3⟩⟩
/-- rows that fit -/
def vv (ft wt bw bh : Nat → Nat) (g : Nat) (fr : Int) (mo : Nat) (v : Nat → Nat) (n : Nat) : Prop := (∀ k, k < 8 → 0 < v k → 0 < ft k) ∧ 1 ≤ sm v 8 ∧ sm v 8 ≤ mo ∧ cpF ft (rwF v 8 0) wt 0 = some n ∧ lowF bw bh g fr v
theorem wg_is {ft wt bw bh : Nat → Nat} {g : Nat} {fr : Int} {cn : Nat → Nat} {s : Bst} : (wg bw bh g fr ft wt cn s = s ∧ ∀ n, cpF ft (rwF cn 8 0) wt 0 = some n → lowF bw bh g fr cn → ¬ bt cn n s) ∨ ∃ n, cpF ft (rwF cn 8 0) wt 0 = some n ∧ lowF bw bh g fr cn ∧ bt cn n s ∧ wg bw bh g fr ft wt cn s = (n, sm cn 8, cn) := by
  unfold wg
  cases hcp : cpF ft (rwF cn 8 0) wt 0 with
  | none => exact Or.inl ⟨rfl, fun n h => by cases h⟩
  | some n =>
    dsimp only
    split
    · rename_i h
      refine Or.inl ⟨rfl, fun n' e hl hb => ?_⟩
      cases e
      rcases h with h | h
      · rcases hb with hb | ⟨hb, -⟩ <;> omega
      · exact h hl
    · rename_i h
      have hl : lowF bw bh g fr cn := Classical.byContradiction (fun z => h (Or.inr z))
      have hn : s.1 ≤ n := Nat.le_of_not_lt (fun z => h (Or.inl z))
      split
      · rename_i h2
        refine Or.inl ⟨rfl, fun n' e _ hb => ?_⟩
        cases e
        rcases hb with hb | ⟨-, hb | ⟨hb, hb2⟩⟩
        · omega
        · rcases h2.2 with z | ⟨z, -⟩ <;> omega
        · rcases h2.2 with z | ⟨-, z⟩
          · omega
          · rw [z] at hb2; cases hb2
      · rename_i h2
        refine Or.inr ⟨n, rfl, hl, ?_, rfl⟩
        unfold bt
        by_cases hlt : s.1 < n
        · exact Or.inl hlt
        · have e : n = s.1 := by omega
          refine Or.inr ⟨e, ?_⟩
          rcases Nat.lt_trichotomy (sm cn 8) s.2.1 with z | z | z
          · exact Or.inl z
          · refine Or.inr ⟨z, ?_⟩
            cases ha : ah cn s.2.2 8 0 with
            | true => rfl
            | false => exact absurd ⟨e, Or.inr ⟨z, ha⟩⟩ h2
          · exact absurd ⟨e, Or.inl z⟩ h2
/-- the sum of the digits from k on -/
def hs (c : Nat → Nat) (k : Nat) : Nat := sm (fun j => if k ≤ j then c j else 0) 8
theorem gn_le {ft : Nat → Nat} {mo : Nat} {cn t : Nat → Nat} {i : Nat} (hi : i < 8) (hft : 0 < ft i) (hsum : hs cn i < mo) : ∀ f k (c : Nat → Nat), k + f = 8 → k ≤ i → (∀ j, j < k → c j = 0) → (∀ j, k ≤ j → j < 8 → c j = cn j) → ∃ p, k ≤ p ∧ p ≤ i ∧ ∃ c2, gn ft mo f k c = some c2 ∧ 0 < ft p ∧ (∀ j, j < p → c2 j = 0) ∧ c2 p = cn p + 1 ∧ ∀ j, p < j → j < 8 → c2 j = cn j := by
  intro f
  induction f with
  | zero => intro k c h1 h2; omega
  | succ f ih =>
    intro k c h1 h2 h3 h4
    rw [gn]
    by_cases hc : 0 < ft k ∧ sm c 8 < mo
    · rw [if_pos hc]
      refine ⟨k, Nat.le_refl _, h2, _, rfl, hc.1, fun j hj => ?_, ?_, fun j hj1 hj2 => ?_⟩
      · rw [up_n _ _ (by omega)]; exact h3 j hj
      · rw [up_s, h4 k (Nat.le_refl _) (by omega)]
      · rw [up_n _ _ (by omega)]; exact h4 j (by omega) hj2
    · rw [if_neg hc]
      have hki : k ≠ i := by
        intro e
        subst e
        refine hc ⟨hft, ?_⟩
        have : sm c 8 = hs cn k := by
          unfold hs
          refine sm_cg 8 (fun j hj => ?_)
          by_cases hjk : k ≤ j
          · rw [if_pos hjk]; exact h4 j hjk hj
          · rw [if_neg hjk]; exact h3 j (by omega)
        omega
      obtain ⟨p, p1, p2, c2, p3⟩ := ih (k + 1) (va_up c k 0) (by omega) (by omega) (fun j hj => by
        by_cases hjk : j = k
        · rw [hjk, up_s]
        · rw [up_n _ _ hjk]; exact h3 j (by omega)) (fun j hj1 hj2 => by rw [up_n _ _ (by omega)]; exact h4 j (by omega) hj2)
      exact ⟨p, by omega, p2, c2, p3⟩
theorem vl_ms {a b : Nat → Nat} (ha : ∀ k, k < 8 → a k ≤ 9) (hb : ∀ k, k < 8 → b k ≤ 9) (h : vl a < vl b) : ∃ i, i < 8 ∧ a i < b i ∧ ∀ j, i < j → j < 8 → a j = b j := by
  have a0 := ha 0 (by decide); have a1 := ha 1 (by decide); have a2 := ha 2 (by decide); have a3 := ha 3 (by decide); have a4 := ha 4 (by decide); have a5 := ha 5 (by decide); have a6 := ha 6 (by decide); have a7 := ha 7 (by decide)
  have b0 := hb 0 (by decide); have b1 := hb 1 (by decide); have b2 := hb 2 (by decide); have b3 := hb 3 (by decide); have b4 := hb 4 (by decide); have b5 := hb 5 (by decide); have b6 := hb 6 (by decide); have b7 := hb 7 (by decide)
  unfold vl at h
  by_cases e7 : a 7 = b 7
  · by_cases e6 : a 6 = b 6
    · by_cases e5 : a 5 = b 5
      · by_cases e4 : a 4 = b 4
        · by_cases e3 : a 3 = b 3
          · by_cases e2 : a 2 = b 2
            · by_cases e1 : a 1 = b 1
              · exact ⟨0, by decide, by omega, fun j h1 h2 => by
                  rcases (by omega : j = 1 ∨ j = 2 ∨ j = 3 ∨ j = 4 ∨ j = 5 ∨ j = 6 ∨ j = 7) with rfl | rfl | rfl | rfl | rfl | rfl | rfl <;> assumption⟩
              · exact ⟨1, by decide, by omega, fun j h1 h2 => by
                  rcases (by omega : j = 2 ∨ j = 3 ∨ j = 4 ∨ j = 5 ∨ j = 6 ∨ j = 7) with rfl | rfl | rfl | rfl | rfl | rfl <;> assumption⟩
            · exact ⟨2, by decide, by omega, fun j h1 h2 => by
                rcases (by omega : j = 3 ∨ j = 4 ∨ j = 5 ∨ j = 6 ∨ j = 7) with rfl | rfl | rfl | rfl | rfl <;> assumption⟩
          · exact ⟨3, by decide, by omega, fun j h1 h2 => by
              rcases (by omega : j = 4 ∨ j = 5 ∨ j = 6 ∨ j = 7) with rfl | rfl | rfl | rfl <;> assumption⟩
        · exact ⟨4, by decide, by omega, fun j h1 h2 => by
            rcases (by omega : j = 5 ∨ j = 6 ∨ j = 7) with rfl | rfl | rfl <;> assumption⟩
      · exact ⟨5, by decide, by omega, fun j h1 h2 => by
          rcases (by omega : j = 6 ∨ j = 7) with rfl | rfl <;> assumption⟩
    · exact ⟨6, by decide, by omega, fun j h1 h2 => by
        rcases (by omega : j = 7) with rfl; assumption⟩
  · exact ⟨7, by decide, by omega, fun j h1 h2 => by omega⟩
theorem sm8 (c : Nat → Nat) : sm c 8 = c 0 + c 1 + c 2 + c 3 + c 4 + c 5 + c 6 + c 7 := by
  simp [sm]
theorem hs_le (c : Nat → Nat) (k : Nat) : hs c k ≤ sm c 8 := by
  unfold hs
  rw [sm8, sm8]
  repeat' split
  all_goals omega
theorem hs_lt {a b : Nat → Nat} {i : Nat} (hi : i < 8) (h : a i < b i) (hj : ∀ j, i < j → j < 8 → a j = b j) : hs a i < hs b i := by
  unfold hs
  rw [sm8, sm8]
  rcases (by omega : i = 0 ∨ i = 1 ∨ i = 2 ∨ i = 3 ∨ i = 4 ∨ i = 5 ∨ i = 6 ∨ i = 7) with rfl | rfl | rfl | rfl | rfl | rfl | rfl | rfl
  all_goals simp only [Nat.le_refl, Nat.reduceLeDiff, if_true, if_false]
  all_goals (
    try have j1 := hj 1 (by omega) (by omega)
    try have j2 := hj 2 (by omega) (by omega)
    try have j3 := hj 3 (by omega) (by omega)
    try have j4 := hj 4 (by omega) (by omega)
    try have j5 := hj 5 (by omega) (by omega)
    try have j6 := hj 6 (by omega) (by omega)
    try have j7 := hj 7 (by omega) (by omega)
    try omega)
/-- none is skipped -/
theorem gn_nx {ft : Nat → Nat} {mo : Nat} {cn t : Nat → Nat} (hmo : mo ≤ 9) (hc9 : ∀ k, k < 8 → cn k ≤ 9) (ht : ∀ k, k < 8 → 0 < t k → 0 < ft k) (hts : sm t 8 ≤ mo) (h : vl cn < vl t) : ∃ c2, gn ft mo 8 0 cn = some c2 ∧ vl c2 ≤ vl t ∧ ∀ k, k < 8 → c2 k ≤ 9 := by
  have ht9 : ∀ k, k < 8 → t k ≤ 9 := fun k hk => by have := sm_le t 8 hk; omega
  obtain ⟨i, hi, h1, h2⟩ := vl_ms hc9 ht9 h
  have hs1 := hs_lt hi h1 h2
  have hs2 := hs_le t i
  obtain ⟨p, -, p2, c2, p3, p4, p5, p6, p7⟩ := gn_le (t := t) hi (ht i hi (by omega)) (by omega : hs cn i < mo) 8 0 cn rfl (Nat.zero_le _) (fun j hj => absurd hj (Nat.not_lt_zero _)) (fun j _ _ => rfl)
  have hsm := gn_sm 8 0 cn c2 rfl p3
  have hc2 : ∀ k, k < 8 → c2 k ≤ 9 := fun k hk => by have := sm_le c2 8 hk; omega
  refine ⟨c2, p3, ?_, hc2⟩
  refine Nat.le_of_not_lt (fun z => ?_)
  obtain ⟨q, hq, q1, q2⟩ := vl_ms ht9 hc2 z
  -- the highest place at which c2 is above t
  rcases Nat.lt_trichotomy q p with e | e | e
  · rw [p5 q e] at q1; omega
  · subst e
    rcases Nat.lt_or_ge q i with e2 | e2
    · have := q2 i e2 hi
      rw [p7 i e2 hi] at this
      omega
    · obtain rfl : q = i := by omega
      rw [p6] at q1; omega
  · rw [p7 q e hq] at q1
    rcases Nat.lt_trichotomy q i with e2 | e2 | e2
    · have := q2 i e2 hi
      rw [p7 i (by omega) hi] at this
      omega
    · subst e2; omega
    · have := h2 q e2 hq; omega
theorem vl_in {a b : Nat → Nat} (ha : ∀ k, k < 8 → a k ≤ 9) (hb : ∀ k, k < 8 → b k ≤ 9) (h : vl a = vl b) : ∀ k, k < 8 → a k = b k := by
  have a0 := ha 0 (by decide); have a1 := ha 1 (by decide); have a2 := ha 2 (by decide); have a3 := ha 3 (by decide); have a4 := ha 4 (by decide); have a5 := ha 5 (by decide); have a6 := ha 6 (by decide); have a7 := ha 7 (by decide)
  have b0 := hb 0 (by decide); have b1 := hb 1 (by decide); have b2 := hb 2 (by decide); have b3 := hb 3 (by decide); have b4 := hb 4 (by decide); have b5 := hb 5 (by decide); have b6 := hb 6 (by decide); have b7 := hb 7 (by decide)
  unfold vl at h
  intro k hk
  rcases (by omega : k = 0 ∨ k = 1 ∨ k = 2 ∨ k = 3 ∨ k = 4 ∨ k = 5 ∨ k = 6 ∨ k = 7) with rfl | rfl | rfl | rfl | rfl | rfl | rfl | rfl <;> omega
/-- the best so far: none, or rows that fit -/
def gd (ft wt bw bh : Nat → Nat) (g : Nat) (fr : Int) (mo : Nat) (s : Bst) : Prop := (s.1 = 0 ∧ s.2.1 = 0 ∧ ∀ k, k < 8 → s.2.2 k = 0) ∨ (s.2.1 = sm s.2.2 8 ∧ vv ft wt bw bh g fr mo s.2.2 s.1)
theorem gn_sup {ft : Nat → Nat} {mo : Nat} : ∀ f k (cn c2 : Nat → Nat), (∀ j, j < 8 → 0 < cn j → 0 < ft j) → gn ft mo f k cn = some c2 → (∀ j, j < 8 → 0 < c2 j → 0 < ft j) ∧ ∃ j, 0 < c2 j ∧ k ≤ j ∧ j < k + f := by
  intro f
  induction f with
  | zero => intro k cn c2 _ h; cases h
  | succ f ih =>
    intro k cn c2 hs h
    rw [gn] at h
    split at h
    · rename_i hc
      cases h
      refine ⟨fun j hj hp => ?_, k, by rw [up_s]; exact Nat.succ_pos _, Nat.le_refl _, by omega⟩
      by_cases hjk : j = k
      · rw [hjk]; exact hc.1
      · rw [up_n _ _ hjk] at hp; exact hs j hj hp
    · obtain ⟨h1, j, h2, h3, h4⟩ := ih (k + 1) _ c2 (fun j hj hp => by
        by_cases hjk : j = k
        · rw [hjk, up_s] at hp; exact absurd hp (Nat.lt_irrefl 0)
        · rw [up_n _ _ hjk] at hp; exact hs j hj hp) h
      exact ⟨h1, j, h2, by omega, by omega⟩
theorem srM_opt {ft wt bw bh : Nat → Nat} {g : Nat} {fr : Int} {mo : Nat} (hmo : mo ≤ 9) : ∀ f (cn : Nat → Nat) (s : Bst), (∀ k, k < 8 → cn k ≤ 9) → (∀ k, k < 8 → 0 < cn k → 0 < ft k) → gd ft wt bw bh g fr mo s →
    gd ft wt bw bh g fr mo (srM ft mo (fun c s => wg bw bh g fr ft wt c s) f cn s) ∧ (∀ v n, bt v n (srM ft mo (fun c s => wg bw bh g fr ft wt c s) f cn s) → bt v n s) ∧ ∀ v n, vv ft wt bw bh g fr mo v n → vl cn < vl v → vl v < vl cn + f → ¬ bt v n (srM ft mo (fun c s => wg bw bh g fr ft wt c s) f cn s) := by
  intro f
  induction f with
  | zero => intro cn s _ _ hg; exact ⟨hg, fun _ _ h => h, fun v n _ h1 h2 => by omega⟩
  | succ f ih =>
    intro cn s hc9 hsup hg
    rw [srM]
    split
    · rename_i hno
      refine ⟨hg, fun _ _ h => h, fun v n hv h1 _ => ?_⟩
      obtain ⟨c2, e, -⟩ := gn_nx hmo hc9 hv.1 hv.2.2.1 h1
      rw [hno] at e; cases e
    · rename_i c2 hc2
      have hsm := gn_sm 8 0 cn c2 rfl hc2
      have h29 : ∀ k, k < 8 → c2 k ≤ 9 := fun k hk => by have := sm_le c2 8 hk; omega
      obtain ⟨hsup2, j0, hj0, -, hj8⟩ := gn_sup 8 0 cn c2 hsup hc2
      have h1s : 1 ≤ sm c2 8 := by have := sm_le c2 8 (k := j0) (by omega); omega
      have hvl := gn_vl hc9 hc2
      have key : gd ft wt bw bh g fr mo (wg bw bh g fr ft wt c2 s) ∧ (∀ v n, bt v n (wg bw bh g fr ft wt c2 s) → bt v n s) ∧ ∀ n, cpF ft (rwF c2 8 0) wt 0 = some n → lowF bw bh g fr c2 → ¬ bt c2 n (wg bw bh g fr ft wt c2 s) := by
        rcases wg_is (ft := ft) (wt := wt) (bw := bw) (bh := bh) (g := g) (fr := fr) (cn := c2) (s := s) with ⟨e, h⟩ | ⟨n, h1, h2, h3, e⟩
        · rw [e]; exact ⟨hg, fun _ _ h => h, h⟩
        · rw [e]
          refine ⟨Or.inr ⟨rfl, hsup2, h1s, hsm, h1, h2⟩, fun v m h => bt_tr h h3, fun m e2 _ hb => ?_⟩
          cases h1.symm.trans e2
          rcases hb with hb | ⟨-, hb | ⟨-, hb⟩⟩
          · exact absurd hb (Nat.lt_irrefl _)
          · exact absurd hb (Nat.lt_irrefl _)
          · rw [ah_ir] at hb; cases hb
      obtain ⟨i1, i2, i3⟩ := ih c2 (wg bw bh g fr ft wt c2 s) h29 hsup2 key.1
      refine ⟨i1, fun v n h => key.2.1 v n (i2 v n h), fun v n hv h1 h2 => ?_⟩
      have hv9 : ∀ k, k < 8 → v k ≤ 9 := fun k hk => by have := sm_le v 8 hk; have := hv.2.2.1; omega
      obtain ⟨c3, e3, h3, -⟩ := gn_nx hmo hc9 hv.1 hv.2.2.1 h1
      rw [hc2] at e3
      cases e3
      rcases Nat.lt_or_ge (vl c2) (vl v) with z | z
      · exact i3 v n hv z (by omega)
      · have hve := vl_in h29 hv9 (by omega : vl c2 = vl v)
        intro hb
        have hb2 := i2 v n hb
        have ecp : rwF v 8 0 = rwF c2 8 0 := rwF_cg 8 0 (fun j _ hj => (hve j (by omega)).symm)
        have esm : sm v 8 = sm c2 8 := sm_cg 8 (fun j hj => (hve j hj).symm)
        have elow : lowF bw bh g fr c2 := by
          have hl := hv.2.2.2.2
          have end_ : ndF bw bh g v = ndF bw bh g c2 := by
            unfold ndF
            exact sm_cg 8 (fun j hj => by rw [hve j hj])
          unfold lowF at hl ⊢
          rw [end_] at hl; exact hl
        refine key.2.2 n (by rw [← ecp]; exact hv.2.2.2.1) elow ?_
        unfold bt at hb2 ⊢
        rw [← esm, ← ah_cg (a := v) (b := (wg bw bh g fr ft wt c2 s).2.2) 8 0 (fun j _ hj => ⟨(hve j (by omega)).symm, rfl⟩)]
        exact hb2
theorem sM_opt {ft wt bw bh : Nat → Nat} {g : Nat} {fr : Int} {mo F : Nat} (hmo : mo ≤ 9) (hF : 100000000 < F) : gd ft wt bw bh g fr mo (sM bw bh g fr ft wt mo F) ∧ ∀ v n, vv ft wt bw bh g fr mo v n → ¬ bt v n (sM bw bh g fr ft wt mo F) := by
  obtain ⟨h1, -, h3⟩ := srM_opt (ft := ft) (wt := wt) (bw := bw) (bh := bh) (g := g) (fr := fr) hmo F (fun _ => 0) b00 (fun _ _ => Nat.zero_le _) (fun _ _ h => absurd h (Nat.lt_irrefl 0)) (Or.inl ⟨rfl, rfl, fun _ _ => rfl⟩)
  refine ⟨h1, fun v n hv => h3 v n hv ?_ ?_⟩
  · have h0 : vl (fun _ => 0) = 0 := rfl
    rw [h0]
    have h4 := hv.2.1
    rw [sm8] at h4
    unfold vl
    omega
  · have h0 : vl (fun _ => 0) = 0 := rfl
    rw [h0]
    have h4 := hv.2.2.1
    rw [sm8] at h4
    unfold vl
    omega
