/-! scores: the class's list, and the reference's least height above -/
def evs (g : Nat) : Nat → List Rw → List (Nat × Nat)
  | _, [] => []
  | y, q :: rw => (y, q.2.2.1) :: (y + q.2.2.2.2, q.2.2.1) :: evs g (y + (q.2.2.2.2 + g)) rw
def sA (s : List (Nat × Nat)) (e : Nat × Nat) : List (Nat × Nat) := sc_add s e.1 e.2
theorem ly_evs (g : Nat) : ∀ (rw : List Rw) (y : Nat) (s : List (Nat × Nat)), (rw.foldl (ly_f g) (y, s)).2 = (evs g y rw).foldl sA s := by
  intro rw
  induction rw with
  | nil => intro y s; rfl
  | cons q rw ih => intro y s; rw [List.foldl_cons, evs, List.foldl_cons, List.foldl_cons]; exact ih _ _
theorem evs_ge (g : Nat) : ∀ (rw : List Rw) (y : Nat), ∀ e ∈ evs g y rw, y ≤ e.1 := by
  intro rw
  induction rw with
  | nil => intro y e he; simp [evs] at he
  | cons q rw ih =>
    intro y e he
    rw [evs] at he
    rcases List.mem_cons.mp he with rfl | he
    · exact Nat.le_refl _
    · rcases List.mem_cons.mp he with rfl | he
      · exact Nat.le_add_right _ _
      · have := ih _ e he; omega
theorem evs_pw (g : Nat) : ∀ (rw : List Rw) (y : Nat), (evs g y rw).Pairwise (fun a b => a.1 ≤ b.1) := by
  intro rw
  induction rw with
  | nil => intro y; exact List.Pairwise.nil
  | cons q rw ih =>
    intro y
    rw [evs]
    refine List.Pairwise.cons (fun e he => ?_) (List.Pairwise.cons (fun e he => ?_) (ih _))
    · rcases List.mem_cons.mp he with rfl | he
      · exact Nat.le_add_right _ _
      · have := evs_ge g rw _ e he; show y ≤ e.1; omega
    · have := evs_ge g rw _ e he; show y + q.2.2.2.2 ≤ e.1; omega
def cnt (E : List (Nat × Nat)) (y : Nat) : Nat := (E.map (fun e => if e.1 = y then e.2 else 0)).sum
theorem cnt_app (E : List (Nat × Nat)) (e : Nat × Nat) (y : Nat) : cnt (E ++ [e]) y = cnt E y + (if e.1 = y then e.2 else 0) := by
  simp [cnt]
theorem cnt_0 {E : List (Nat × Nat)} {y : Nat} (h : ∀ e ∈ E, e.1 ≠ y) : cnt E y = 0 := by
  unfold cnt
  rw [sum_rep 0 _ E (fun e he => if_neg (h e he))]; simp
def Sc (E L : List (Nat × Nat)) : Prop := L.Pairwise (fun a b => a.1 < b.1) ∧ (∀ y, (∃ e ∈ E, e.1 = y) ↔ ∃ p ∈ L, p.1 = y) ∧ ∀ p ∈ L, p.2 = cnt E p.1
theorem lst_eq {α : Type} (L : List α) (d : α) (h : 0 < L.length) : L = L.dropLast ++ [L.getD (L.length - 1) d] := by
  have hne : L ≠ [] := fun z => by rw [z] at h; exact absurd h (Nat.lt_irrefl 0)
  have h1 := (List.dropLast_concat_getLast hne).symm
  rw [List.getLast_eq_getElem] at h1
  rw [List.getD_eq_getElem?_getD, List.getElem?_eq_getElem (by omega)]
  exact h1
theorem sc_st {E L : List (Nat × Nat)} {e : Nat × Nat} (hS : Sc E L) (hle : ∀ a ∈ E, a.1 ≤ e.1) : Sc (E ++ [e]) (sA L e) := by
  obtain ⟨h1, h2, h3⟩ := hS
  have hLle : ∀ p ∈ L, p.1 ≤ e.1 := fun p hp => by
    obtain ⟨a, ha, ea⟩ := (h2 p.1).mpr ⟨p, hp, rfl⟩
    rw [← ea]; exact hle a ha
  unfold sA sc_add
  by_cases hc : 0 < L.length ∧ (L.getD (L.length - 1) (0, 0)).1 = e.1
  · rw [if_pos hc]
    have hL := lst_eq L (0, 0) hc.1
    obtain ⟨D, hDq⟩ : ∃ z, z = L.dropLast := ⟨_, rfl⟩
    obtain ⟨la, hla⟩ : ∃ z, z = L.getD (L.length - 1) (0, 0) := ⟨_, rfl⟩
    rw [← hla] at hc hL ⊢
    rw [← hDq] at hL ⊢
    rw [hL, List.pairwise_append] at h1
    have hD : ∀ p ∈ D, p.1 < e.1 := fun p hp => by rw [← hc.2]; exact h1.2.2 p hp la List.mem_cons_self
    refine ⟨?_, fun y => ?_, fun p hp => ?_⟩
    · rw [List.pairwise_append]
      refine ⟨h1.1, List.pairwise_singleton _ _, fun a ha b hb => ?_⟩
      rw [List.mem_singleton.mp hb]; exact hD a ha
    · constructor
      · rintro ⟨a, ha, rfl⟩
        rcases List.mem_append.mp ha with ha | ha
        · obtain ⟨p, hp, ep⟩ := (h2 a.1).mp ⟨a, ha, rfl⟩
          rw [hL] at hp
          rcases List.mem_append.mp hp with hp | hp
          · exact ⟨p, List.mem_append_left _ hp, ep⟩
          · rw [List.mem_singleton.mp hp] at ep
            exact ⟨_, List.mem_append_right _ List.mem_cons_self, by rw [← ep, hc.2]⟩
        · rw [List.mem_singleton.mp ha]
          exact ⟨_, List.mem_append_right _ List.mem_cons_self, rfl⟩
      · rintro ⟨p, hp, rfl⟩
        rcases List.mem_append.mp hp with hp | hp
        · obtain ⟨a, ha, ea⟩ := (h2 p.1).mpr ⟨p, by rw [hL]; exact List.mem_append_left _ hp, rfl⟩
          exact ⟨a, List.mem_append_left _ ha, ea⟩
        · rw [List.mem_singleton.mp hp]
          exact ⟨e, List.mem_append_right _ List.mem_cons_self, rfl⟩
    · rcases List.mem_append.mp hp with hp | hp
      · rw [cnt_app, if_neg (fun z => by have := hD p hp; omega), Nat.add_zero]
        exact h3 p (by rw [hL]; exact List.mem_append_left _ hp)
      · rw [List.mem_singleton.mp hp]
        show la.2 + e.2 = cnt (E ++ [e]) e.1
        rw [cnt_app, if_pos rfl, ← hc.2]
        have := h3 la (by rw [hL]; exact List.mem_append_right _ List.mem_cons_self)
        rw [this]
  · rw [if_neg hc]
    have hlt : ∀ p ∈ L, p.1 < e.1 := fun p hp => by
      have hpos : 0 < L.length := List.length_pos_of_mem hp
      have hne : (L.getD (L.length - 1) (0, 0)).1 ≠ e.1 := fun z => hc ⟨hpos, z⟩
      have hL := lst_eq L (0, 0) hpos
      obtain ⟨D, hDq⟩ : ∃ z, z = L.dropLast := ⟨_, rfl⟩
      obtain ⟨la, hla⟩ : ∃ z, z = L.getD (L.length - 1) (0, 0) := ⟨_, rfl⟩
      rw [← hla] at hne hL
      rw [← hDq] at hL
      have hlm : la ∈ L := by rw [hL]; exact List.mem_append_right _ List.mem_cons_self
      have hl1 := hLle la hlm
      rw [hL] at hp
      rcases List.mem_append.mp hp with hp | hp
      · rw [hL, List.pairwise_append] at h1
        have := h1.2.2 p hp la List.mem_cons_self
        omega
      · rw [List.mem_singleton.mp hp]; omega
    refine ⟨?_, fun y => ?_, fun p hp => ?_⟩
    · rw [List.pairwise_append]
      refine ⟨h1, List.pairwise_singleton _ _, fun a ha b hb => ?_⟩
      rw [List.mem_singleton.mp hb]; exact hlt a ha
    · constructor
      · rintro ⟨a, ha, rfl⟩
        rcases List.mem_append.mp ha with ha | ha
        · obtain ⟨p, hp, ep⟩ := (h2 a.1).mp ⟨a, ha, rfl⟩
          exact ⟨p, List.mem_append_left _ hp, ep⟩
        · rw [List.mem_singleton.mp ha]
          exact ⟨_, List.mem_append_right _ List.mem_cons_self, rfl⟩
      · rintro ⟨p, hp, rfl⟩
        rcases List.mem_append.mp hp with hp | hp
        · obtain ⟨a, ha, ea⟩ := (h2 p.1).mpr ⟨p, hp, rfl⟩
          exact ⟨a, List.mem_append_left _ ha, ea⟩
        · rw [List.mem_singleton.mp hp]
          exact ⟨e, List.mem_append_right _ List.mem_cons_self, rfl⟩
    · rcases List.mem_append.mp hp with hp | hp
      · rw [cnt_app, if_neg (fun z => by have := hlt p hp; omega), Nat.add_zero]
        exact h3 p hp
      · rw [List.mem_singleton.mp hp]
        show e.2 = cnt (E ++ [e]) e.1
        rw [cnt_app, if_pos rfl, cnt_0 (fun a ha z => ?_), Nat.zero_add]
        obtain ⟨p, hp, ep⟩ := (h2 a.1).mp ⟨a, ha, rfl⟩
        have := hlt p hp
        omega
theorem sc_all : ∀ (F E L : List (Nat × Nat)), Sc E L → (E ++ F).Pairwise (fun a b => a.1 ≤ b.1) → Sc (E ++ F) (F.foldl sA L) := by
  intro F
  induction F with
  | nil => intro E L h _; rw [List.append_nil]; exact h
  | cons e F ih =>
    intro E L h hp
    have e1 : E ++ e :: F = (E ++ [e]) ++ F := by simp
    rw [List.foldl_cons, e1]
    refine ih (E ++ [e]) (sA L e) (sc_st h (fun a ha => ?_)) (by rw [← e1]; exact hp)
    rw [List.pairwise_append] at hp
    exact hp.2.2 a ha e List.mem_cons_self
theorem sc_ly (y0 g : Nat) (rw : List Rw) : Sc (evs g y0 rw) (ly_s y0 g rw) := by
  have h := sc_all (evs g y0 rw) [] [] ⟨List.Pairwise.nil, fun y => ⟨fun ⟨e, he, _⟩ => absurd he List.not_mem_nil, fun ⟨e, he, _⟩ => absurd he List.not_mem_nil⟩, fun p hp => absurd hp List.not_mem_nil⟩ (by rw [List.nil_append]; exact evs_pw g rw y0)
  rw [List.nil_append] at h
  unfold ly_s
  rw [ly_evs]; exact h
/-- the least above -/
def Ls (ab : Int) (V : Int → Prop) (le : Int) : Prop := (le = -1 ∧ ∀ v, V v → v ≤ ab) ∨ (0 ≤ le ∧ ab < le ∧ V le ∧ ∀ v, V v → ab < v → le ≤ v)
theorem ls_step {ab le y : Int} {V : Int → Prop} (h : Ls ab V le) (hy : 0 ≤ y) : Ls ab (fun v => V v ∨ v = y) (ns1 ab le y) := by
  unfold ns1
  rcases h with ⟨h1, h2⟩ | ⟨h1, h2, h3, h4⟩
  · by_cases hc : ab < y
    · rw [if_pos ⟨hc, Or.inl (by omega)⟩]
      refine Or.inr ⟨hy, hc, Or.inr rfl, fun v hv hav => ?_⟩
      rcases hv with hv | hv
      · have := h2 v hv; omega
      · omega
    · rw [if_neg (fun z => hc z.1)]
      refine Or.inl ⟨h1, fun v hv => ?_⟩
      rcases hv with hv | hv
      · exact h2 v hv
      · omega
  · by_cases hc : ab < y ∧ (le < 0 ∨ y < le)
    · rw [if_pos hc]
      refine Or.inr ⟨hy, hc.1, Or.inr rfl, fun v hv hav => ?_⟩
      rcases hv with hv | hv
      · have := h4 v hv hav; have := hc.2; omega
      · omega
    · rw [if_neg hc]
      refine Or.inr ⟨h1, h2, Or.inl h3, fun v hv hav => ?_⟩
      rcases hv with hv | hv
      · exact h4 v hv hav
      · rw [hv] at hav ⊢
        exact Int.not_lt.mp (fun z => hc ⟨hav, Or.inr z⟩)
theorem ls_cg {ab le : Int} {V W : Int → Prop} (h : ∀ v, V v ↔ W v) (x : Ls ab V le) : Ls ab W le := by
  rcases x with ⟨h1, h2⟩ | ⟨h1, h2, h3, h4⟩
  · exact Or.inl ⟨h1, fun v hv => h2 v ((h v).mpr hv)⟩
  · exact Or.inr ⟨h1, h2, (h _).mp h3, fun v hv => h4 v ((h v).mpr hv)⟩
def Vn (dn : List Cp) (n : Nat) (v : Int) : Prop := ∃ c, c < n ∧ (v = (cpk (dn.getD c cp0) 2 : Nat) ∨ v = ((cpk (dn.getD c cp0) 2 + cpk (dn.getD c cp0) 5 : Nat) : Int))
theorem ns_ls (dn : List Cp) (ab : Int) : ∀ n, Ls ab (Vn dn n) (nsF dn ab n) := by
  intro n
  induction n with
  | zero => exact Or.inl ⟨rfl, fun v hv => by obtain ⟨c, hc, -⟩ := hv; exact absurd hc (Nat.not_lt_zero _)⟩
  | succ n ih =>
    rw [nsF]
    refine ls_cg (fun v => ?_) (ls_step (ls_step ih (Int.natCast_nonneg _)) (Int.natCast_nonneg _))
    constructor
    · rintro ((⟨c, hc, h⟩ | h) | h)
      · exact ⟨c, by omega, h⟩
      · exact ⟨n, by omega, Or.inl h⟩
      · exact ⟨n, by omega, Or.inr h⟩
    · rintro ⟨c, hc, h⟩
      by_cases hcn : c = n
      · subst hcn
        rcases h with h | h
        · exact Or.inl (Or.inr h)
        · exact Or.inr h
      · exact Or.inl (Or.inl ⟨c, by omega, h⟩)
theorem pw_lt {L : List (Nat × Nat)} (h : L.Pairwise (fun a b => a.1 < b.1)) {i j : Nat} (hij : i < j) (hj : j < L.length) : (L.getD i (0, 0)).1 < (L.getD j (0, 0)).1 := by
  rw [List.pairwise_iff_getElem] at h
  have := h i j (by omega) hj hij
  rw [List.getD_eq_getElem?_getD, List.getD_eq_getElem?_getD, List.getElem?_eq_getElem (by omega), List.getElem?_eq_getElem hj]
  exact this
theorem it_L {dn : List Cp} {L : List (Nat × Nat)} (hp : L.Pairwise (fun a b => a.1 < b.1)) (hV : ∀ v : Int, Vn dn dn.length v ↔ ∃ p ∈ L, ((p.1 : Nat) : Int) = v) : ∀ j, (j < L.length → itS dn (j + 1) = ((L.getD j (0, 0)).1 : Nat)) ∧ (j = L.length → itS dn (j + 1) = -1) := by
  have key : ∀ (j : Nat) (ab : Int), j ≤ L.length → (∀ i, i < L.length → (i < j ↔ ((L.getD i (0, 0)).1 : Int) ≤ ab)) → (j < L.length → nsF dn ab dn.length = ((L.getD j (0, 0)).1 : Nat)) ∧ (j = L.length → nsF dn ab dn.length = -1) := by
    intro j ab hj hab
    have hls := ns_ls dn ab dn.length
    refine ⟨fun hjl => ?_, fun hjl => ?_⟩
    · have hm : Vn dn dn.length ((L.getD j (0, 0)).1 : Nat) := (hV _).mpr ⟨_, gd_mem L (0, 0) hjl, rfl⟩
      have hgt : ab < ((L.getD j (0, 0)).1 : Nat) := Int.not_le.mp (fun z => Nat.lt_irrefl j ((hab j hjl).mpr z))
      rcases hls with ⟨h1, h2⟩ | ⟨h1, h2, h3, h4⟩
      · have := h2 _ hm; omega
      · have h5 := h4 _ hm hgt
        obtain ⟨p, hpm, ep⟩ := (hV _).mp h3
        obtain ⟨i, hi, ei⟩ := List.getElem_of_mem hpm
        have ei2 : L.getD i (0, 0) = p := by rw [List.getD_eq_getElem?_getD, List.getElem?_eq_getElem hi]; exact ei
        have hij : ¬ i < j := fun z => by
          have := (hab i hi).mp z
          rw [ei2] at this
          omega
        rcases Nat.lt_or_ge j i with z | z
        · have := pw_lt hp z hi
          rw [ei2] at this
          omega
        · obtain rfl : i = j := by omega
          rw [ei2]; exact ep.symm
    · rcases hls with ⟨h1, h2⟩ | ⟨h1, h2, h3, h4⟩
      · exact h1
      · obtain ⟨p, hpm, ep⟩ := (hV _).mp h3
        obtain ⟨i, hi, ei⟩ := List.getElem_of_mem hpm
        have ei2 : L.getD i (0, 0) = p := by rw [List.getD_eq_getElem?_getD, List.getElem?_eq_getElem hi]; exact ei
        have := (hab i hi).mp (by omega)
        rw [ei2] at this
        omega
  intro j
  induction j with
  | zero =>
    have h := key 0 (-1) (Nat.zero_le _) (fun i hi => by constructor; (intro z; exact absurd z (Nat.not_lt_zero _)); (intro z; omega))
    exact h
  | succ j ih =>
    by_cases hj : j < L.length
    · have h := key (j + 1) ((L.getD j (0, 0)).1 : Nat) hj (fun i hi => by
        constructor
        · intro z
          rcases Nat.lt_or_ge i j with q | q
          · have := pw_lt hp q hj; omega
          · obtain rfl : i = j := by omega
            exact Int.le_refl _
        · intro z
          refine Nat.lt_of_not_le (fun q => ?_)
          have := pw_lt hp (i := j) (j := i) (by omega) hi
          omega)
      have e : itS dn (j + 1 + 1) = nsF dn (itS dn (j + 1)) dn.length := rfl
      rw [e, ih.1 hj]
      exact h
    · exact ⟨fun z => absurd z (by omega), fun z => absurd z (by omega)⟩
theorem mem_gd {L : List Cp} {R : Cp → Prop} : (∃ c, c < L.length ∧ R (L.getD c cp0)) ↔ ∃ q ∈ L, R q := by
  constructor
  · rintro ⟨c, hc, h⟩; exact ⟨_, gd_mem L cp0 hc, h⟩
  · rintro ⟨q, hq, h⟩
    obtain ⟨i, hi, ei⟩ := List.getElem_of_mem hq
    exact ⟨i, hi, by rw [List.getD_eq_getElem?_getD, List.getElem?_eq_getElem hi]; show R L[i]; rw [ei]; exact h⟩
theorem lcp_V (l0 g : Nat) : ∀ (rw : List Rw) (y : Nat), (∀ q ∈ rw, 0 < q.2.2.1) → ∀ v : Int, (∃ q ∈ lcp l0 g y rw, (v = (cpk q 2 : Nat) ∨ v = ((cpk q 2 + cpk q 5 : Nat) : Int))) ↔ ∃ e ∈ evs g y rw, ((e.1 : Nat) : Int) = v := by
  intro rw
  induction rw with
  | nil => intro y _ v; constructor <;> rintro ⟨q, hq, -⟩ <;> exact absurd hq List.not_mem_nil
  | cons q rw ih =>
    intro y hpos v
    have ih' := ih (y + (q.2.2.2.2 + g)) (fun z hz => hpos z (List.mem_cons_of_mem _ hz)) v
    have hq0 := hpos q List.mem_cons_self
    rw [lcp, evs]
    constructor
    · rintro ⟨c, hc, h⟩
      rcases List.mem_append.mp hc with hc | hc
      · obtain ⟨i, -, rfl⟩ := List.mem_map.mp hc
        rcases h with h | h
        · exact ⟨_, List.mem_cons_self, h.symm⟩
        · exact ⟨_, List.mem_cons_of_mem _ List.mem_cons_self, h.symm⟩
      · obtain ⟨e, he, ee⟩ := ih'.mp ⟨c, hc, h⟩
        exact ⟨e, List.mem_cons_of_mem _ (List.mem_cons_of_mem _ he), ee⟩
    · rintro ⟨e, he, ee⟩
      have hm : (q.1, l0 + 0 * (q.2.2.2.1 + g), y, q.2.1, q.2.2.2.1, q.2.2.2.2) ∈ (List.range q.2.2.1).map (fun i => (q.1, l0 + i * (q.2.2.2.1 + g), y, q.2.1, q.2.2.2.1, q.2.2.2.2)) := List.mem_map.mpr ⟨0, List.mem_range.mpr hq0, rfl⟩
      rcases List.mem_cons.mp he with rfl | he
      · exact ⟨_, List.mem_append_left _ hm, Or.inl ee.symm⟩
      · rcases List.mem_cons.mp he with rfl | he
        · exact ⟨_, List.mem_append_left _ hm, Or.inr ee.symm⟩
        · obtain ⟨c, hc, h⟩ := ih'.mpr ⟨e, he, ee⟩
          exact ⟨c, List.mem_append_right _ hc, h⟩
theorem mul_if (p : Prop) [Decidable p] (n : Nat) : n * (if p then 1 else 0) = if p then n else 0 := by split <;> simp
theorem lcp_cnt (l0 g : Nat) (v : Nat) : ∀ (rw : List Rw) (y : Nat), ((lcp l0 g y rw).map (fun q : Cp => (if (cpk q 2 : Int) = (v : Int) then 1 else 0) + (if ((cpk q 2 + cpk q 5 : Nat) : Int) = (v : Int) then 1 else 0))).sum = cnt (evs g y rw) v := by
  intro rw
  induction rw with
  | nil => intro y; rfl
  | cons q rw ih =>
    intro y
    rw [lcp, List.map_append, List.sum_append, ih, evs]
    have e1 : cnt ((y, q.2.2.1) :: (y + q.2.2.2.2, q.2.2.1) :: evs g (y + (q.2.2.2.2 + g)) rw) v = (if y = v then q.2.2.1 else 0) + ((if y + q.2.2.2.2 = v then q.2.2.1 else 0) + cnt (evs g (y + (q.2.2.2.2 + g)) rw) v) := by
      simp [cnt]
    rw [e1, sum_rep ((if y = v then 1 else 0) + (if y + q.2.2.2.2 = v then 1 else 0)) _ _ (fun c hc => by
      obtain ⟨i, -, rfl⟩ := List.mem_map.mp hc
      show (if ((y : Nat) : Int) = (v : Int) then 1 else 0) + (if ((y + q.2.2.2.2 : Nat) : Int) = (v : Int) then 1 else 0) = _
      simp only [Int.natCast_inj]), List.length_map, List.length_range, Nat.mul_add]
    rw [mul_if, mul_if, Nat.add_assoc]
section TIE5
variable {P S Yy M : St} {Bi : Nat → Nat → Int32} {Bl : Nat → Nat → Int64} {Bk : Nat → Nat → Nat → Int64}
theorem tie_score {l0 y0 g nb : Nat} {nc : Nat → Nat} {bf : Nat → Bool} {rw : List Rw} {v k : Int32} {k9 : Int32} {uc : Unit × (Nat → Int64)} {oF : Nat → Int64} {rm : Int64} {um : St} (hI : INV P S Yy M Bi Bl Bk) (hL : iL nb nc l0 y0 g rw bf Yy M)
    (hc : (∃ v9 : Int64, k9 = 0 ∧ (∃ j i, j < (ly_s y0 g rw).length ∧ v = nI j ∧ i < 2 ∧ k = nI i ∧ v9 = lN (if i = 0 then ((ly_s y0 g rw).getD j (0, 0)).1 else ((ly_s y0 g rw).getD j (0, 0)).2)) ∧ uc.2 0 = v9) ∨ (k9 = 1 ∧ (¬ ((∃ j, j < (ly_s y0 g rw).length ∧ v = nI j) ∧ ∃ i, i < 2 ∧ k = nI i)) ∧ uc = ((), oF)))
    (hm : (∃ kk wh, kk < 2 ^ 31 ∧ v = nI kk ∧ wh < 2 ∧ k = nI wh ∧ (∀ j, j ≤ kk → 0 ≤ itS (lcp l0 g y0 rw) (j + 1)) ∧ rm = (if wh = 0 then lZ (itS (lcp l0 g y0 rw) (kk + 1)) else lN (scN (lcp l0 g y0 rw) (itS (lcp l0 g y0 rw) (kk + 1)) (lcp l0 g y0 rw).length)) ∧ um = (va_up M.1 0 0, M.2.1, M.2.2.1, M.2.2.2)) ∨ (¬ (∃ kk wh, kk < 2 ^ 31 ∧ v = nI kk ∧ wh < 2 ∧ k = nI wh ∧ (∀ j, j ≤ kk → 0 ≤ itS (lcp l0 g y0 rw) (j + 1))) ∧ um = (va_up M.1 0 1, M.2.1, M.2.2.1, M.2.2.2))) :
    um.1 0 = k9 ∧ (k9 = 0 → uc.2 0 = rm) ∧ INV P S Yy um Bi Bl Bk := by
  obtain ⟨s1, s2, s3⟩ := sc_ly y0 g rw
  have hpos : ∀ q ∈ rw, 0 < q.2.2.1 := fun q hq => (hL.2.1.2.2.2.2 q hq).2.2.1
  have hl16 : (ly_s y0 g rw).length ≤ 16 := by
    have h1 := hL.1.2.2.2.2.2.1
    have h2 := hL.2.1.2.2.2.1
    omega
  obtain ⟨L, hLq⟩ : ∃ z, z = ly_s y0 g rw := ⟨_, rfl⟩
  obtain ⟨dn, hdn⟩ : ∃ z, z = lcp l0 g y0 rw := ⟨_, rfl⟩
  have hV : ∀ v : Int, Vn dn dn.length v ↔ ∃ p ∈ L, ((p.1 : Nat) : Int) = v := by
    intro v
    have h1 := mem_gd (L := dn) (R := fun q => v = (cpk q 2 : Nat) ∨ v = ((cpk q 2 + cpk q 5 : Nat) : Int))
    have h2 := lcp_V l0 g rw y0 hpos v
    rw [← hdn] at h2
    refine h1.trans (h2.trans ?_)
    constructor
    · rintro ⟨e, he, ee⟩
      obtain ⟨p, hp, ep⟩ := (s2 e.1).mp ⟨e, he, rfl⟩
      exact ⟨p, by rw [hLq]; exact hp, by rw [ep]; exact ee⟩
    · rintro ⟨p, hp, ep⟩
      obtain ⟨e, he, ee⟩ := (s2 p.1).mpr ⟨p, by rw [← hLq]; exact hp, rfl⟩
      exact ⟨e, he, by rw [ee]; exact ep⟩
  have hit := it_L (by rw [hLq]; exact s1) hV
  rw [← hLq] at hc hl16 s3
  rw [← hdn] at hm
  have hcn : ∀ j, j < L.length → scN dn (((L.getD j (0, 0)).1 : Nat) : Int) dn.length = (L.getD j (0, 0)).2 := by
    intro j hj
    have h1 := lcp_cnt l0 g (L.getD j (0, 0)).1 rw y0
    rw [s3 _ (gd_mem L (0, 0) hj), ← h1, ← hdn]
    unfold scN
    exact sm_list (fun q : Cp => (if (cpk q 2 : Int) = (((L.getD j (0, 0)).1 : Nat) : Int) then 1 else 0) + (if ((cpk q 2 + cpk q 5 : Nat) : Int) = (((L.getD j (0, 0)).1 : Nat) : Int) then 1 else 0)) cp0 dn
  have hof : ∀ kk, (∀ j, j ≤ kk → 0 ≤ itS dn (j + 1)) → kk < L.length := by
    intro kk h
    refine Nat.lt_of_not_le (fun z => ?_)
    have := h L.length z
    rw [(hit L.length).2 rfl] at this
    exact absurd this (by decide)
  rcases hc with ⟨v9, rfl, ⟨j, i, h1, h2, h3, h4, h5⟩, c4⟩ | ⟨rfl, c1, rfl⟩
  · rcases hm with ⟨kk, wh, g1, g2, g3, g4, g5, g6, rfl⟩ | ⟨m1, -⟩
    · have e1 : j = kk := (nI_eq (by omega) g1).mp (h2.symm.trans g2)
      have e2 : i = wh := (nI_eq (by omega) (by omega)).mp (h4.symm.trans g4)
      subst e1; subst e2
      refine ⟨rfl, fun _ => ?_, inv_0 0 hI⟩
      rw [c4, h5, g6, (hit j).1 h1, hcn j h1]
      by_cases hz : i = 0
      · rw [if_pos hz, if_pos hz, lZ_nat]
      · rw [if_neg hz, if_neg hz]
    · exact absurd ⟨j, i, by omega, h2, h3, h4, fun z hz => by rw [(hit z).1 (by omega)]; exact Int.natCast_nonneg _⟩ m1
  · rcases hm with ⟨kk, wh, g1, g2, g3, g4, g5, -⟩ | ⟨-, rfl⟩
    · exact absurd ⟨⟨kk, hof kk g5, g2⟩, wh, g3, g4⟩ c1
    · exact ⟨rfl, fun z => absurd z (by decide), inv_0 1 hI⟩
end TIE5
