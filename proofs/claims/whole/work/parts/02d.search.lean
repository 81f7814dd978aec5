/-! the search, pure: rows as (kind, copies taken) -/
def sr_cop (c : List (Nat × Nat)) : Nat := (c.map (fun r => r.2)).sum
def sr_bet (c b : List (Nat × Nat)) : Bool := decide (sr_cop b < sr_cop c) || (decide (sr_cop c = sr_cop b) && decide (c.length < b.length))
def sr_keep (b c : List (Nat × Nat)) : List (Nat × Nat) := if sr_bet c b = true then c else b
/-- all rows behind what is laid, the lower kinds first, a row ahead of what is laid upon it -/
def sr_cands (room : Nat → Nat) (hi : Nat → Int) (gap : Int) : Nat → Nat → Int → (Nat → Nat) → List (List (Nat × Nat))
  | 0, _, _, _ => []
  | f + 1, first, free, wl => (List.range' first (8 - first)).flatMap (fun k =>
      if 0 < min (room k) (wl (k / 2)) ∧ hi k ≤ free then
        [(k, min (room k) (wl (k / 2)))] :: (sr_cands room hi gap f k (free - hi k - gap) (va_up wl (k / 2) (wl (k / 2) - min (room k) (wl (k / 2))))).map (fun c => (k, min (room k) (wl (k / 2))) :: c)
      else [])
/-- the search as the class does it: with what it leaves out -/
def sr_try (room : Nat → Nat) (hi : Nat → Int) (gap : Int) (mr : Nat) : Nat → List (Nat × Nat) → Nat → Int → (Nat → Nat) → List (Nat × Nat) → List (Nat × Nat)
  | 0, _, _, _, _, best => best
  | f + 1, pre, first, free, wl, best =>
    if sr_cop pre + (f + 1) * mr ≤ sr_cop best then best else
      (List.range' first (8 - first)).foldl (fun b k =>
        if 0 < min (room k) (wl (k / 2)) ∧ hi k ≤ free then
          sr_try room hi gap mr f (pre ++ [(k, min (room k) (wl (k / 2)))]) k (free - hi k - gap) (va_up wl (k / 2) (wl (k / 2) - min (room k) (wl (k / 2)))) (sr_keep b (pre ++ [(k, min (room k) (wl (k / 2)))]))
        else b) best
theorem sr_cop_app (a b : List (Nat × Nat)) : sr_cop (a ++ b) = sr_cop a + sr_cop b := by
  simp [sr_cop]
theorem sr_cands_spec (room : Nat → Nat) (hi : Nat → Int) (gap : Int) (mr : Nat) (hmr : ∀ k, room k ≤ mr) : ∀ (f first : Nat) (free : Int) (wl : Nat → Nat) (c : List (Nat × Nat)), c ∈ sr_cands room hi gap f first free wl → 1 ≤ c.length ∧ c.length ≤ f ∧ sr_cop c ≤ c.length * mr ∧ c.length ≤ sr_cop c := by
  intro f
  induction f with
  | zero => intro first free wl c h; simp [sr_cands] at h
  | succ f ih =>
    intro first free wl c h
    simp only [sr_cands, List.mem_flatMap] at h
    obtain ⟨k, -, h⟩ := h
    split at h
    · rcases List.mem_cons.mp h with rfl | h
      · rename_i hk
        have := hmr k
        refine ⟨by simp, by simp, ?_, ?_⟩ <;> simp [sr_cop] <;> omega
      · obtain ⟨d, hd, rfl⟩ := List.mem_map.mp h
        rename_i hk
        obtain ⟨h1, h2, h3, h4⟩ := ih _ _ _ _ hd
        have := hmr k
        have e : sr_cop ((k, min (room k) (wl (k / 2))) :: d) = min (room k) (wl (k / 2)) + sr_cop d := by simp [sr_cop]
        refine ⟨by simp, by simp; omega, ?_, ?_⟩
        · rw [e, List.length_cons, Nat.succ_mul]
          omega
        · rw [e, List.length_cons]
          omega
    · simp at h
theorem sr_fold_same {α : Type} (l : List α) (g : α → List (Nat × Nat)) (best : List (Nat × Nat)) (h : ∀ c ∈ l, sr_bet (g c) best = false) : l.foldl (fun b c => sr_keep b (g c)) best = best := by
  induction l with
  | nil => rfl
  | cons c l ih =>
    rw [List.foldl_cons]
    have h1 : sr_keep best (g c) = best := by simp [sr_keep, h c List.mem_cons_self]
    rw [h1]
    exact ih (fun d hd => h d (List.mem_cons_of_mem _ hd))
theorem sr_keep_len {b c : List (Nat × Nat)} {n : Nat} (hb : b.length ≤ n) (hc : c.length ≤ n) : (sr_keep b c).length ≤ n := by
  unfold sr_keep; split <;> assumption
theorem sr_fold_len {α : Type} (l : List α) (g : α → List (Nat × Nat)) (n : Nat) : ∀ (best : List (Nat × Nat)), best.length ≤ n → (∀ c ∈ l, (g c).length ≤ n) → (l.foldl (fun b c => sr_keep b (g c)) best).length ≤ n := by
  induction l with
  | nil => intro best h _; exact h
  | cons c l ih =>
    intro best h hc
    rw [List.foldl_cons]
    exact ih _ (sr_keep_len h (hc c List.mem_cons_self)) (fun d hd => hc d (List.mem_cons_of_mem _ hd))
theorem sr_foldl_inv {α β : Type} (P : β → Prop) (f g : β → α → β) : ∀ (l : List α) (b : β), P b → (∀ b x, x ∈ l → P b → f b x = g b x ∧ P (g b x)) → l.foldl f b = l.foldl g b := by
  intro l
  induction l with
  | nil => intro b _ _; rfl
  | cons x l ih =>
    intro b hb h
    obtain ⟨h1, h2⟩ := h b x List.mem_cons_self hb
    rw [List.foldl_cons, List.foldl_cons, h1]
    exact ih _ h2 (fun b y hy => h b y (List.mem_cons_of_mem _ hy))
/-- what is left out changes nothing -/
theorem sr_try_eq (room : Nat → Nat) (hi : Nat → Int) (gap : Int) (mr : Nat) (hmr : ∀ k, room k ≤ mr) : ∀ (f : Nat) (pre : List (Nat × Nat)) (first : Nat) (free : Int) (wl : Nat → Nat) (best : List (Nat × Nat)), best.length ≤ pre.length + f →
    sr_try room hi gap mr f pre first free wl best = (sr_cands room hi gap f first free wl).foldl (fun b c => sr_keep b (pre ++ c)) best := by
  intro f
  induction f with
  | zero => intro pre first free wl best _; simp [sr_try, sr_cands]
  | succ f ih =>
    intro pre first free wl best hb
    have hspec := sr_cands_spec room hi gap mr hmr (f + 1) first free wl
    rw [sr_try]
    split
    · rename_i hcut
      symm
      apply sr_fold_same
      intro c hc
      obtain ⟨h1, h2, h3, h5⟩ := hspec c hc
      have h4 : c.length * mr ≤ (f + 1) * mr := Nat.mul_le_mul_right mr h2
      simp only [sr_bet, sr_cop_app, List.length_append, Bool.or_eq_false_iff, decide_eq_false_iff_not, Bool.and_eq_false_iff]
      refine ⟨by omega, ?_⟩
      by_cases hl : c.length = f + 1
      · right; omega
      · left
        have hm : 0 < mr := by
          rcases Nat.eq_zero_or_pos mr with h | h
          · rw [h, Nat.mul_zero] at h3; omega
          · exact h
        have : c.length * mr < (f + 1) * mr := (Nat.mul_lt_mul_right hm).mpr (by omega)
        omega
    · rw [sr_cands, List.foldl_flatMap]
      refine sr_foldl_inv (fun b => b.length ≤ pre.length + (f + 1)) _ _ _ _ hb ?_
      intro b k _ hbl
      split
      · rename_i hk
        have hpl : (pre ++ [(k, min (room k) (wl (k / 2)))]).length = pre.length + 1 := by simp
        have hb1 : (sr_keep b (pre ++ [(k, min (room k) (wl (k / 2)))])).length ≤ pre.length + (f + 1) := sr_keep_len hbl (by rw [hpl]; omega)
        rw [List.foldl_cons, List.foldl_map, ih _ _ _ _ _ (by rw [hpl]; omega)]
        refine ⟨by simp, ?_⟩
        have := sr_fold_len (sr_cands room hi gap f k (free - hi k - gap) (va_up wl (k / 2) (wl (k / 2) - min (room k) (wl (k / 2))))) (fun c => pre ++ (k, min (room k) (wl (k / 2))) :: c) (pre.length + (f + 1)) _ hb1 (fun c hc => by
          obtain ⟨-, h2, -⟩ := sr_cands_spec room hi gap mr hmr f k _ _ c hc
          simp; omega)
        exact this
      · exact ⟨by simp, by simpa using hbl⟩
