/-! the class's search: the same best rows -/
def tk (room : Nat → Nat) : List Nat → (Nat → Nat) → List (Nat × Nat)
  | [], _ => []
  | k :: ks, wl => (k, min (room k) (wl (k / 2))) :: tk room ks (va_up wl (k / 2) (wl (k / 2) - min (room k) (wl (k / 2))))
def okt (room : Nat → Nat) : List Nat → (Nat → Nat) → Prop
  | [], _ => True
  | k :: ks, wl => 0 < min (room k) (wl (k / 2)) ∧ okt room ks (va_up wl (k / 2) (wl (k / 2) - min (room k) (wl (k / 2))))
def okh (hi : Nat → Int) (gap : Int) : List Nat → Int → Prop
  | [], _ => True
  | k :: ks, fr => hi k ≤ fr ∧ okh hi gap ks (fr - hi k - gap)
def srt : Nat → List Nat → Prop
  | _, [] => True
  | first, k :: ks => first ≤ k ∧ k < 8 ∧ srt k ks
theorem mem_rg {first k : Nat} (h : first ≤ k) (h8 : k < 8) : k ∈ List.range' first (8 - first) := List.mem_range'.mpr ⟨k - first, by omega, by omega⟩
theorem rg_mem {first k : Nat} (h : k ∈ List.range' first (8 - first)) : first ≤ k ∧ k < 8 := by
  obtain ⟨i, hi, e⟩ := List.mem_range'.mp h
  omega
theorem ca_of {room : Nat → Nat} {hi : Nat → Int} {gap : Int} : ∀ (ks : List Nat) (f first : Nat) (fr : Int) (wl : Nat → Nat), ks ≠ [] → ks.length ≤ f → srt first ks → okt room ks wl → okh hi gap ks fr → tk room ks wl ∈ sr_cands room hi gap f first fr wl := by
  intro ks
  induction ks with
  | nil => intro f first fr wl h; exact absurd rfl h
  | cons k ks ih =>
    intro f first fr wl _ hl hs ht hh
    cases f with
    | zero => simp at hl
    | succ f =>
      rw [sr_cands, List.mem_flatMap]
      refine ⟨k, mem_rg hs.1 hs.2.1, ?_⟩
      rw [if_pos ⟨ht.1, hh.1⟩]
      rw [tk]
      cases ks with
      | nil => exact List.mem_cons_self
      | cons k2 ks2 =>
        refine List.mem_cons_of_mem _ (List.mem_map.mpr ⟨_, ih f k _ _ (by simp) (by simp at hl ⊢; omega) hs.2.2 ht.2 hh.2, rfl⟩)
theorem ca_to {room : Nat → Nat} {hi : Nat → Int} {gap : Int} : ∀ (f first : Nat) (fr : Int) (wl : Nat → Nat) (c : List (Nat × Nat)), c ∈ sr_cands room hi gap f first fr wl → ∃ ks, ks ≠ [] ∧ ks.length ≤ f ∧ srt first ks ∧ okt room ks wl ∧ okh hi gap ks fr ∧ c = tk room ks wl := by
  intro f
  induction f with
  | zero => intro first fr wl c h; simp [sr_cands] at h
  | succ f ih =>
    intro first fr wl c h
    rw [sr_cands, List.mem_flatMap] at h
    obtain ⟨k, hk, h⟩ := h
    obtain ⟨k1, k2⟩ := rg_mem hk
    split at h
    · rename_i hc
      rcases List.mem_cons.mp h with rfl | h
      · exact ⟨[k], by simp, by simp, ⟨k1, k2, trivial⟩, ⟨hc.1, trivial⟩, ⟨hc.2, trivial⟩, rfl⟩
      · obtain ⟨d, hd, rfl⟩ := List.mem_map.mp h
        obtain ⟨ks, h1, h2, h3, h4, h5, rfl⟩ := ih _ _ _ _ hd
        exact ⟨k :: ks, by simp, by simp; omega, ⟨k1, k2, h3⟩, ⟨hc.1, h4⟩, ⟨hc.2, h5⟩, rfl⟩
    · simp at h
theorem ca_cg {room room' : Nat → Nat} {hi hi' : Nat → Int} {gap : Int} (hr : ∀ k, k < 8 → room k = room' k) (hh : ∀ k, k < 8 → 0 < room k → hi k = hi' k) : ∀ (f first : Nat) (fr : Int) (wl wt : Nat → Nat), (∀ k, k < 8 → 0 < room k → wl (k / 2) = wt (k / 2)) → sr_cands room hi gap f first fr wl = sr_cands room' hi' gap f first fr wt := by
  intro f
  induction f with
  | zero => intro first fr wl wt _; rfl
  | succ f ih =>
    intro first fr wl wt hw
    rw [sr_cands, sr_cands, List.flatMap_def, List.flatMap_def]
    congr 1
    refine List.map_congr_left (fun k hk => ?_)
    obtain ⟨-, k2⟩ := rg_mem hk
    rw [← hr k k2]
    rcases Nat.eq_zero_or_pos (room k) with z | z
    · rw [z, Nat.zero_min, Nat.zero_min, if_neg (fun q => Nat.lt_irrefl 0 q.1), if_neg (fun q => Nat.lt_irrefl 0 q.1)]
    · rw [hw k k2 z, hh k k2 z, ih k _ _ (va_up wt (k / 2) (wt (k / 2) - min (room k) (wt (k / 2)))) (fun j hj hp => by
        by_cases e : j / 2 = k / 2
        · rw [e, up_s, up_s]
        · rw [up_n _ _ e, up_n _ _ e]; exact hw j hj hp)]
/-- one list of rows ahead of another -/
def lxP : List (Nat × Nat) → List (Nat × Nat) → Prop
  | [], d => d ≠ []
  | _ :: _, [] => False
  | a :: c, b :: d => a.1 < b.1 ∨ (a.1 = b.1 ∧ lxP c d)
theorem ca_pw {room : Nat → Nat} {hi : Nat → Int} {gap : Int} : ∀ (f first : Nat) (fr : Int) (wl : Nat → Nat), (sr_cands room hi gap f first fr wl).Pairwise lxP := by
  intro f
  induction f with
  | zero => intro first fr wl; rw [sr_cands]; exact List.Pairwise.nil
  | succ f ih =>
    intro first fr wl
    rw [sr_cands, List.pairwise_flatMap]
    have hd : ∀ k, ∀ x ∈ (if 0 < min (room k) (wl (k / 2)) ∧ hi k ≤ fr then [(k, min (room k) (wl (k / 2)))] :: (sr_cands room hi gap f k (fr - hi k - gap) (va_up wl (k / 2) (wl (k / 2) - min (room k) (wl (k / 2))))).map (fun c => (k, min (room k) (wl (k / 2))) :: c) else []), ∃ d, x = (k, min (room k) (wl (k / 2))) :: d := by
      intro k x hx
      split at hx
      · rcases List.mem_cons.mp hx with rfl | hx
        · exact ⟨[], rfl⟩
        · obtain ⟨d, -, rfl⟩ := List.mem_map.mp hx
          exact ⟨d, rfl⟩
      · simp at hx
    refine ⟨fun k _ => ?_, ?_⟩
    · split
      · refine List.Pairwise.cons (fun x hx => ?_) (List.pairwise_map.mpr ((ih k _ _).imp (fun {a b} h => Or.inr ⟨rfl, h⟩)))
        obtain ⟨d, hd, rfl⟩ := List.mem_map.mp hx
        refine Or.inr ⟨rfl, ?_⟩
        obtain ⟨ks, h1, -, -, -, -, rfl⟩ := ca_to _ _ _ _ _ hd
        intro z
        cases ks with
        | nil => exact h1 rfl
        | cons a b => rw [tk] at z; cases z
      · exact List.Pairwise.nil
    · have hsrt : (List.range' first (8 - first)).Pairwise (· < ·) := List.pairwise_lt_range'
      refine hsrt.imp (fun {a b} hab x hx y hy => ?_)
      obtain ⟨d, rfl⟩ := hd a x hx
      obtain ⟨d', rfl⟩ := hd b y hy
      exact Or.inl hab
def be (c b : List (Nat × Nat)) : Prop := sr_cop b < sr_cop c ∨ (sr_cop c = sr_cop b ∧ c.length < b.length)
theorem keep_is (b c : List (Nat × Nat)) : (be c b ∧ sr_keep b c = c) ∨ (¬ be c b ∧ sr_keep b c = b) := by
  unfold sr_keep
  by_cases h : sr_bet c b = true
  · rw [if_pos h]
    refine Or.inl ⟨?_, rfl⟩
    unfold sr_bet at h
    simp only [Bool.or_eq_true, Bool.and_eq_true, decide_eq_true_eq] at h
    exact h
  · rw [if_neg h]
    refine Or.inr ⟨fun z => h ?_, rfl⟩
    unfold sr_bet
    simp only [Bool.or_eq_true, Bool.and_eq_true, decide_eq_true_eq]
    exact z
theorem be_tr {a b c : List (Nat × Nat)} (h1 : be a b) (h2 : ¬ be c b) : ¬ be c a := by
  unfold be at *
  omega
theorem fk {R : List (Nat × Nat) → List (Nat × Nat) → Prop} : ∀ (l : List (List (Nat × Nat))) (b : List (Nat × Nat)), l.Pairwise R → (l.foldl sr_keep b = b ∧ ∀ c ∈ l, ¬ be c b) ∨ (l.foldl sr_keep b ∈ l ∧ be (l.foldl sr_keep b) b ∧ (∀ c ∈ l, ¬ be c (l.foldl sr_keep b)) ∧ ∀ c ∈ l, sr_cop c = sr_cop (l.foldl sr_keep b) → c.length = (l.foldl sr_keep b).length → c = l.foldl sr_keep b ∨ R (l.foldl sr_keep b) c) := by
  intro l
  induction l with
  | nil => intro b _; exact Or.inl ⟨rfl, fun c hc => absurd hc List.not_mem_nil⟩
  | cons x l ih =>
    intro b hp
    obtain ⟨hp1, hp2⟩ := List.pairwise_cons.mp hp
    rw [List.foldl_cons]
    rcases keep_is b x with ⟨hb, e⟩ | ⟨hb, e⟩
    · rw [e]
      rcases ih x hp2 with ⟨h1, h2⟩ | ⟨h1, h2, h3, h4⟩
      · rw [h1]
        refine Or.inr ⟨List.mem_cons_self, hb, fun c hc => ?_, fun c hc _ _ => ?_⟩
        · rcases List.mem_cons.mp hc with rfl | hc
          · unfold be; omega
          · exact h2 c hc
        · rcases List.mem_cons.mp hc with rfl | hc
          · exact Or.inl rfl
          · exact Or.inr (hp1 c hc)
      · refine Or.inr ⟨List.mem_cons_of_mem _ h1, ?_, fun c hc => ?_, fun c hc e1 e2 => ?_⟩
        · unfold be at *; omega
        · rcases List.mem_cons.mp hc with rfl | hc
          · unfold be at *; omega
          · exact h3 c hc
        · rcases List.mem_cons.mp hc with rfl | hc
          · unfold be at h2; omega
          · exact h4 c hc e1 e2
    · rw [e]
      rcases ih b hp2 with ⟨h1, h2⟩ | ⟨h1, h2, h3, h4⟩
      · rw [h1]
        refine Or.inl ⟨rfl, fun c hc => ?_⟩
        rcases List.mem_cons.mp hc with rfl | hc
        · exact hb
        · exact h2 c hc
      · refine Or.inr ⟨List.mem_cons_of_mem _ h1, h2, fun c hc => ?_, fun c hc e1 e2 => ?_⟩
        · rcases List.mem_cons.mp hc with rfl | hc
          · unfold be at *; omega
          · exact h3 c hc
        · rcases List.mem_cons.mp hc with rfl | hc
          · unfold be at *; omega
          · exact h4 c hc e1 e2
/-- a sorted list is that of its numbers -/
theorem srt_cut : ∀ (ks : List Nat) (k : Nat), srt k ks → ∃ m ks', ks = List.replicate m k ++ ks' ∧ srt (k + 1) ks' := by
  intro ks
  induction ks with
  | nil => intro k _; exact ⟨0, [], rfl, trivial⟩
  | cons a ks ih =>
    intro k h
    by_cases e : a = k
    · subst e
      obtain ⟨m, ks', h1, h2⟩ := ih a h.2.2
      exact ⟨m + 1, ks', by rw [h1, List.replicate_succ]; rfl, h2⟩
    · exact ⟨0, a :: ks, rfl, by have := h.1; exact ⟨by omega, h.2.1, h.2.2⟩⟩
theorem srt_ge : ∀ (ks : List Nat) (k : Nat), srt k ks → ∀ z ∈ ks, k ≤ z ∧ z < 8 := by
  intro ks
  induction ks with
  | nil => intro k _ z hz; exact absurd hz List.not_mem_nil
  | cons a ks ih =>
    intro k h z hz
    rcases List.mem_cons.mp hz with rfl | hz
    · exact ⟨h.1, h.2.1⟩
    · have := ih a h.2.2 z hz; have := h.1; omega
theorem rwF_ct : ∀ (f k : Nat) (ks : List Nat), k + f = 8 → srt k ks → rwF (fun j => ks.count j) f k = ks := by
  intro f
  induction f with
  | zero =>
    intro k ks hk h
    cases ks with
    | nil => rfl
    | cons a ks => have := h.1; have := h.2.1; omega
  | succ f ih =>
    intro k ks hk h
    obtain ⟨m, ks', e, h2⟩ := srt_cut ks k h
    have hno : ks'.count k = 0 := List.count_eq_zero.mpr (fun z => by have := srt_ge ks' (k + 1) h2 k z; omega)
    have hc : ks.count k = m := by rw [e, List.count_append, List.count_replicate_self, hno]; rfl
    rw [rwF, hc]
    have ih2 := ih (k + 1) ks' (by omega) h2
    have : rwF (fun j => ks.count j) f (k + 1) = rwF (fun j => ks'.count j) f (k + 1) := rwF_cg f (k + 1) (fun j h1 _ => by
      show ks.count j = ks'.count j
      rw [e, List.count_append, List.count_replicate, if_neg (by simp; omega), Nat.zero_add])
    rw [this, ih2]
    exact e.symm
theorem rwF_srt (cn : Nat → Nat) : ∀ f k, k + f = 8 → ∀ i, i ≤ k → srt i (rwF cn f k) := by
  intro f
  induction f with
  | zero => intro k _ i _; trivial
  | succ f ih =>
    intro k hk i hi
    rw [rwF]
    have : ∀ m i, i ≤ k → srt i (List.replicate m k ++ rwF cn f (k + 1)) := by
      intro m
      induction m with
      | zero => intro i hi; exact ih (k + 1) (by omega) i (by omega)
      | succ m ihm => intro i hi; rw [List.replicate_succ]; exact ⟨hi, by omega, ihm k (Nat.le_refl _)⟩
    exact this (cn k) i hi
theorem cp_of {ft : Nat → Nat} : ∀ (ks : List Nat) (wl : Nat → Nat) (al : Nat), okt ft ks wl → cpF ft ks wl al = some (al + sr_cop (tk ft ks wl)) := by
  intro ks
  induction ks with
  | nil => intro wl al _; rfl
  | cons k ks ih =>
    intro wl al h
    rw [cpF, if_neg (by have := h.1; omega), ih _ _ h.2, tk]
    simp [sr_cop]; omega
theorem cp_to {ft : Nat → Nat} : ∀ (ks : List Nat) (wl : Nat → Nat) (al n : Nat), cpF ft ks wl al = some n → okt ft ks wl ∧ n = al + sr_cop (tk ft ks wl) := by
  intro ks
  induction ks with
  | nil => intro wl al n h; cases h; exact ⟨trivial, rfl⟩
  | cons k ks ih =>
    intro wl al n h
    rw [cpF] at h
    split at h
    · cases h
    · rename_i hc
      obtain ⟨h1, h2⟩ := ih _ _ _ h
      refine ⟨⟨by omega, h1⟩, ?_⟩
      rw [h2, tk]; simp [sr_cop]; omega
theorem tk_len {ft : Nat → Nat} : ∀ (ks : List Nat) (wl : Nat → Nat), (tk ft ks wl).length = ks.length := by
  intro ks
  induction ks with
  | nil => intro wl; rfl
  | cons k ks ih => intro wl; rw [tk, List.length_cons, List.length_cons, ih]
theorem okt_pos {ft : Nat → Nat} : ∀ (ks : List Nat) (wl : Nat → Nat), okt ft ks wl → (∀ k ∈ ks, 0 < ft k) ∧ ks.length ≤ sr_cop (tk ft ks wl) := by
  intro ks
  induction ks with
  | nil => intro wl _; exact ⟨fun k hk => absurd hk List.not_mem_nil, Nat.le_refl _⟩
  | cons k ks ih =>
    intro wl h
    obtain ⟨h1, h2⟩ := ih _ h.2
    have h0 := h.1
    refine ⟨fun z hz => ?_, ?_⟩
    · rcases List.mem_cons.mp hz with rfl | hz
      · omega
      · exact h1 z hz
    · rw [tk, List.length_cons]
      simp only [sr_cop, List.map_cons, List.sum_cons] at h2 ⊢
      omega
theorem okh_iff {hi : Nat → Nat} {gap : Nat} : ∀ (ks : List Nat) (fr : Int), ks ≠ [] → (okh (fun k => (hi k : Int)) gap ks fr ↔ (((ks.map (fun k => hi k + gap)).sum : Nat) : Int) - gap ≤ fr) := by
  intro ks
  induction ks with
  | nil => intro fr h; exact absurd rfl h
  | cons k ks ih =>
    intro fr _
    cases ks with
    | nil =>
      simp only [okh, List.map_cons, List.map_nil, List.sum_cons, List.sum_nil]
      constructor
      · rintro ⟨h, -⟩; omega
      · intro h; exact ⟨by omega, trivial⟩
    | cons k2 ks2 =>
      have h2 := ih (fr - hi k - gap) (by simp)
      have eS : ((k :: k2 :: ks2).map (fun k => hi k + gap)).sum = (hi k + gap) + ((k2 :: ks2).map (fun k => hi k + gap)).sum := by rw [List.map_cons, List.sum_cons]
      rw [okh, h2, eS]
      have : (hi k2 + gap) ≤ ((k2 :: ks2).map (fun k => hi k + gap)).sum := by rw [List.map_cons, List.sum_cons]; omega
      constructor
      · rintro ⟨h3, h4⟩; omega
      · intro h; exact ⟨by omega, by omega⟩
theorem nd_sum (bw bh : Nat → Nat) (g : Nat) (cn : Nat → Nat) : ∀ f k, ((rwF cn f k).map (fun z => hgF bw bh z + g)).sum + sm (fun z => cn z * (hgF bw bh z + g)) k = sm (fun z => cn z * (hgF bw bh z + g)) (k + f) := by
  intro f
  induction f with
  | zero => intro k; simp [rwF]
  | succ f ih =>
    intro k
    have h := ih (k + 1)
    rw [rwF, List.map_append, List.sum_append, sum_rep (hgF bw bh k + g) _ (List.replicate (cn k) k) (fun z hz => by rw [List.eq_of_mem_replicate hz]), List.length_replicate]
    rw [sm] at h
    rw [show k + (f + 1) = k + 1 + f by omega]
    omega
theorem nd_eq (bw bh : Nat → Nat) (g : Nat) (cn : Nat → Nat) : ndF bw bh g cn = ((rwF cn 8 0).map (fun z => hgF bw bh z + g)).sum := by
  have h := nd_sum bw bh g cn 8 0
  unfold ndF
  simp only [sm, Nat.add_zero, Nat.zero_add] at h ⊢
  omega
theorem rwL_tk {ft bw bh : Nat → Nat} : ∀ (ks : List Nat) (wl : Nat → Nat), rwL ft bw bh ks wl = (tk ft ks wl).map (rwB bw bh) := by
  intro ks
  induction ks with
  | nil => intro wl; rfl
  | cons k ks ih => intro wl; rw [rwL, tk, List.map_cons, ih]; rfl
/-- lists of kinds, the lower first -/
def lx : List Nat → List Nat → Prop
  | [], d => d ≠ []
  | _ :: _, [] => False
  | a :: c, b :: d => a < b ∨ (a = b ∧ lx c d)
theorem lx_as : ∀ (a b : List Nat), lx a b → lx b a → False := by
  intro a
  induction a with
  | nil => intro b h1 h2; cases b with
    | nil => exact h1 rfl
    | cons x y => exact h2
  | cons x a ih =>
    intro b h1 h2
    cases b with
    | nil => exact h1
    | cons y b =>
      rcases h1 with h1 | ⟨h1, h3⟩
      · rcases h2 with h2 | ⟨h2, -⟩ <;> omega
      · rcases h2 with h2 | ⟨-, h4⟩
        · omega
        · exact ih b h3 h4
theorem lx_ir (a : List Nat) : ¬ lx a a := fun h => lx_as a a h h
theorem lxP_lx {ft : Nat → Nat} : ∀ (a b : List Nat) (wl wl' : Nat → Nat), lxP (tk ft a wl) (tk ft b wl') → lx a b := by
  intro a
  induction a with
  | nil => intro b wl wl' h; cases b with
    | nil => exact absurd rfl h
    | cons x y => intro z; cases z
  | cons x a ih =>
    intro b wl wl' h
    cases b with
    | nil => exact h
    | cons y b =>
      rcases h with h | ⟨h1, h2⟩
      · exact Or.inl h
      · exact Or.inr ⟨h1, ih b _ _ h2⟩
theorem lx_pre : ∀ (m : Nat) (k : Nat) (a b : List Nat), lx a b → lx (List.replicate m k ++ a) (List.replicate m k ++ b) := by
  intro m
  induction m with
  | zero => intro k a b h; exact h
  | succ m ih => intro k a b h; rw [List.replicate_succ]; exact Or.inr ⟨rfl, ih k a b h⟩
theorem ah_lx (v b : Nat → Nat) : ∀ f k, ah v b f k = true → (rwF v f k).length = (rwF b f k).length → lx (rwF v f k) (rwF b f k) := by
  intro f
  induction f with
  | zero => intro k h; exact absurd h (by simp [ah])
  | succ f ih =>
    intro k h hl
    rw [ah] at h
    by_cases e : v k = b k
    · rw [if_pos e] at h
      rw [rwF, rwF, e] at hl ⊢
      rw [List.length_append, List.length_append] at hl
      exact lx_pre _ _ _ _ (ih (k + 1) h (by omega))
    · rw [if_neg e] at h
      have hlt := of_decide_eq_true h
      rw [rwF, rwF] at hl ⊢
      have e2 : List.replicate (v k) k = List.replicate (b k) k ++ List.replicate (v k - b k) k := by rw [List.replicate_append_replicate]; congr 1; omega
      rw [e2, List.append_assoc]
      refine lx_pre _ _ _ _ ?_
      rw [e2, List.append_assoc, List.length_append, List.length_append] at hl
      have e3 : List.replicate (v k - b k) k = k :: List.replicate (v k - b k - 1) k := by rw [← List.replicate_succ]; congr 1; omega
      rw [e3] at hl ⊢
      cases hr : rwF b f (k + 1) with
      | nil => rw [hr] at hl; simp at hl
      | cons z zs =>
        have hz := (rwF_mem b f (k + 1) z (by rw [hr]; exact List.mem_cons_self)).1
        exact Or.inl (by omega)
section SO
variable {ft wt bw bh : Nat → Nat} {g : Nat} {fr : Int}
/-- rows of kinds that fit are a candidate, and a candidate is such -/
theorem vv_ca (hA : ∀ k, k < 8 → 0 < ft k → 0 < hgF bw bh k) {mo n : Nat} {v : Nat → Nat} (h : vv ft wt bw bh g fr mo v n) : tk ft (rwF v 8 0) wt ∈ sr_cands ft (fun k => (hgF bw bh k : Int)) g mo 0 fr wt ∧ n = sr_cop (tk ft (rwF v 8 0) wt) ∧ (rwF v 8 0).length = sm v 8 := by
  obtain ⟨h1, h2, h3, h4, h5⟩ := h
  obtain ⟨c1, c2⟩ := cp_to _ _ _ _ h4
  have hlen := rw8_len v
  have hne : rwF v 8 0 ≠ [] := fun z => by rw [z] at hlen; simp at hlen; omega
  refine ⟨ca_of _ _ _ _ _ hne (by omega) (rwF_srt v 8 0 rfl 0 (Nat.le_refl _)) c1 ((okh_iff _ _ hne).mpr ?_), by omega, hlen⟩
  unfold lowF at h5
  rw [nd_eq] at h5
  rcases h5 with z | z
  · exfalso
    cases hr : rwF v 8 0 with
    | nil => exact hne hr
    | cons a as =>
      rw [hr, List.map_cons, List.sum_cons] at z
      have ha := (rwF_mem v 8 0 a (by rw [hr]; exact List.mem_cons_self)).2
      have hp := (okt_pos _ _ c1).1 a (by rw [hr]; exact List.mem_cons_self)
      have := hA a (by omega) hp
      omega
  · exact z
theorem ca_vv {mo : Nat} {c : List (Nat × Nat)} (h : c ∈ sr_cands ft (fun k => (hgF bw bh k : Int)) g mo 0 fr wt) : ∃ v, vv ft wt bw bh g fr mo v (sr_cop c) ∧ c = tk ft (rwF v 8 0) wt ∧ c.length = sm v 8 := by
  obtain ⟨ks, h1, h2, h3, h4, h5, rfl⟩ := ca_to _ _ _ _ _ h
  have e := rwF_ct 8 0 ks rfl h3
  have hl := rw8_len (fun j => ks.count j)
  rw [e] at hl
  have hlp : 1 ≤ ks.length := by
    cases ks with
    | nil => exact absurd rfl h1
    | cons a b => simp
  have hp := (okt_pos _ _ h4).1
  refine ⟨fun j => ks.count j, ⟨fun k hk hc => hp k (List.count_pos_iff.mp hc), by omega, by omega, ?_, ?_⟩, by rw [e], by rw [tk_len, hl]⟩
  · rw [e, cp_of ks wt 0 h4, Nat.zero_add]
  · unfold lowF
    rw [nd_eq, e]
    exact Or.inr ((okh_iff _ _ h1).mp h5)
theorem vv_mono {m1 m2 n : Nat} {v : Nat → Nat} (h : vv ft wt bw bh g fr m1 v n) (hm : m1 ≤ m2) : vv ft wt bw bh g fr m2 v n := ⟨h.1, h.2.1, by have := h.2.2.1; omega, h.2.2.2⟩
theorem vv_pos {mo n : Nat} {v : Nat → Nat} (h : vv ft wt bw bh g fr mo v n) : 1 ≤ n := by
  obtain ⟨c1, c2⟩ := cp_to _ _ _ _ h.2.2.2.1
  have := (okt_pos _ _ c1).2
  have h3 := rw8_len v
  have h4 := h.2.1
  omega
/-- the class's best rows are the best -/
theorem cl_opt (hA : ∀ k, k < 8 → 0 < ft k → 0 < hgF bw bh k) (n : Nat) : ∃ b : Bst, gd ft wt bw bh g fr n b ∧ b.1 = sr_cop ((sr_cands ft (fun k => (hgF bw bh k : Int)) g n 0 fr wt).foldl sr_keep []) ∧ (sr_cands ft (fun k => (hgF bw bh k : Int)) g n 0 fr wt).foldl sr_keep [] = tk ft (rwF b.2.2 8 0) wt ∧ ∀ v m, vv ft wt bw bh g fr n v m → ¬ bt v m b := by
  rcases fk (R := lxP) (sr_cands ft (fun k => (hgF bw bh k : Int)) g n 0 fr wt) [] (ca_pw _ _ _ _) with ⟨h1, h2⟩ | ⟨h1, h2, h3, h4⟩
  · rw [h1]
    refine ⟨b00, Or.inl ⟨rfl, rfl, fun _ _ => rfl⟩, rfl, rfl, fun v m hv _ => ?_⟩
    obtain ⟨c1, c2, -⟩ := vv_ca hA hv
    refine h2 _ c1 ?_
    have := vv_pos hv
    unfold be
    rw [← c2]
    exact Or.inl (by simp [sr_cop]; omega)
  · obtain ⟨best, hbq⟩ : ∃ z, z = (sr_cands ft (fun k => (hgF bw bh k : Int)) g n 0 fr wt).foldl sr_keep [] := ⟨_, rfl⟩
    rw [← hbq] at h1 h2 h3 h4 ⊢
    obtain ⟨v0, hv0, e0, el0⟩ := ca_vv h1
    refine ⟨(sr_cop best, sm v0 8, v0), Or.inr ⟨rfl, hv0⟩, rfl, e0, fun v m hv hb => ?_⟩
    obtain ⟨c1, c2, c3⟩ := vv_ca hA hv
    have hn := h3 _ c1
    have hlen : (tk ft (rwF v 8 0) wt).length = sm v 8 := by rw [tk_len, c3]
    unfold be at hn
    rw [← c2, hlen] at hn
    unfold bt at hb
    dsimp only at hb
    rcases hb with hb | ⟨hb, hb2 | ⟨hb2, hb3⟩⟩
    · omega
    · omega
    · rcases h4 _ c1 (by rw [← c2]; exact hb) (by rw [hlen, el0]; exact hb2) with e | e
      · have e2 : rwF v 8 0 = rwF v0 8 0 := by
          have h5 : (tk ft (rwF v 8 0) wt).map Prod.fst = (tk ft (rwF v0 8 0) wt).map Prod.fst := by rw [e, e0]
          have h6 : ∀ (ks : List Nat) (wl : Nat → Nat), (tk ft ks wl).map Prod.fst = ks := by
            intro ks
            induction ks with
            | nil => intro wl; rfl
            | cons k ks ih => intro wl; rw [tk, List.map_cons, ih]
          rw [h6, h6] at h5; exact h5
        have := ah_lx v v0 8 0 hb3 (by rw [e2])
        rw [e2] at this
        exact lx_ir _ this
      · rw [e0] at e
        exact lx_as _ _ (lxP_lx _ _ _ _ e) (ah_lx v v0 8 0 hb3 (by rw [rw8_len, rw8_len]; exact hb2))
theorem gd_un {n : Nat} {s b : Bst} (hs : gd ft wt bw bh g fr n s) (hb : gd ft wt bw bh g fr n b) (os : ∀ v m, vv ft wt bw bh g fr n v m → ¬ bt v m s) (ob : ∀ v m, vv ft wt bw bh g fr n v m → ¬ bt v m b) : s.1 = b.1 ∧ ∀ k, k < 8 → s.2.2 k = b.2.2 k := by
  rcases hs with ⟨s1, s2, s3⟩ | ⟨s1, s2⟩
  · rcases hb with ⟨b1, b2, b3⟩ | ⟨b1, b2⟩
    · exact ⟨by rw [s1, b1], fun k hk => by rw [s3 k hk, b3 k hk]⟩
    · exact absurd (Or.inl (by have := vv_pos b2; omega)) (os _ _ b2)
  · rcases hb with ⟨b1, b2, b3⟩ | ⟨b1, b2⟩
    · exact absurd (Or.inl (by have := vv_pos s2; omega)) (ob _ _ s2)
    · have h1 := ob _ _ s2
      have h2 := os _ _ b2
      unfold bt at h1 h2
      have e1 : s.1 = b.1 := by omega
      have e2 : sm s.2.2 8 = sm b.2.2 8 := by omega
      refine ⟨e1, fun k hk => ?_⟩
      refine ah_to 8 0 ?_ ?_ k (Nat.zero_le _) (by omega)
      · cases ha : ah s.2.2 b.2.2 8 0 with
        | false => rfl
        | true => exact absurd (Or.inr ⟨e1, Or.inr ⟨by omega, ha⟩⟩) h1
      · cases ha : ah b.2.2 s.2.2 8 0 with
        | false => rfl
        | true => exact absurd (Or.inr ⟨e1.symm, Or.inr ⟨by omega, ha⟩⟩) h2
end SO
