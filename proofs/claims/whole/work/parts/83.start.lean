/-! what is known at the law's start -/
theorem nCs_of {s : State} {A B : String} {args : Array Value} (hA : (Cond.castable A A).before args s = true) (hB : (Cond.castable B B).before args s = true) (h : (Cond.not (Cond.castable A B)).before args s = true) : nCs s A B := by
  obtain ⟨a, -, h1, -, -⟩ := Cond.castable_spec hA
  obtain ⟨b, -, h2, -, -⟩ := Cond.castable_spec hB
  refine ⟨a, b, h1, h2, ?_⟩
  cases hz : s.vm.assignable a b with
  | false => rfl
  | true =>
    exfalso
    simp [Cond.before, Cond.holds, Cond.value, h1, h2, hz] at h
theorem ar_of {s : State} {ty : FieldType} {args : Array Value} (hp : ∀ C, ty ≠ .object C) (h : (Cond.arrayClass ty).before args s = true) : ∃ c, ArrOfT s c ty ∧ va_RA s c ty := by
  obtain ⟨c, k, comp, h1, h2, h3⟩ := Cond.arrayClass_spec h
  refine ⟨c, fun n z => ⟨fun k h => (by cases h), k, h2, comp, h3⟩, ?_⟩
  cases ty with
  | object C => exact absurd rfl (hp C)
  | _ => exact h1
theorem ar_B {s : State} {args : Array Value} (h : (Cond.arrayOver (.object R_B)).before args s = true) : ∃ c, ArrOfT s c (.object R_B) ∧ va_RA s c (.object R_B) := by
  obtain ⟨comp, c, k, h1, h2, h3, h4, h5⟩ := Cond.arrayOver_spec h
  exact ⟨c, fun n z => ⟨fun k h => (by cases h), k, h3, comp, h4⟩, k, comp, h3, h4, h1, h5⟩
theorem in_P : ∀ w ∈ u_P, w ∈ lw_tbl := fun w h => List.mem_append_right _ ((by decide +kernel : ∀ w ∈ u_P, w ∈ tables_1) w h)
theorem in_M : ∀ w ∈ u_M, w ∈ lw_tbl := fun w h => List.mem_append_right _ ((by decide +kernel : ∀ w ∈ u_M, w ∈ tables_1) w h)
theorem in_B : ∀ w ∈ u_B, w ∈ lw_tbl := fun w h => List.mem_append_right _ ((by decide +kernel : ∀ w ∈ u_B, w ∈ tables_1) w h)
theorem in_Y : ∀ w ∈ u_Y, w ∈ lw_tbl := fun w h => List.mem_append_right _ ((by decide +kernel : ∀ w ∈ u_Y, w ∈ tables_1) w h)
theorem in_S : ∀ w ∈ u_S, w ∈ lw_tbl := fun w h => List.mem_append_right _ ((by decide +kernel : ∀ w ∈ u_S, w ∈ tables_1) w h)
theorem zK {s : State} {args : Array Value} (hts : ∀ w ∈ lw_tbl, w.before args s = true) : ∃ (D : va_G) (cA : Nat → Nat), va_K D ncl (ty0 cA) s := by
  obtain ⟨c0, s0, k0⟩ := u_known (C := R_P) (T := T_P) (N := 10) (n := 10) hts in_P (hts (.instantiable R_P 10) (tb_in 14 (by decide +kernel)))
  obtain ⟨c1, s1, k1⟩ := u_known (C := R_M) (T := T_M) (N := 26) (n := 26) hts in_M (hts (.instantiable R_M 26) (tb_in 598 (by decide +kernel)))
  obtain ⟨c2, s2, k2⟩ := u_known (C := R_B) (T := T_B) (N := 12) (n := 12) hts in_B (hts (.instantiable R_B 12) (tb_in 33 (by decide +kernel)))
  obtain ⟨c3, s3, k3⟩ := u_known (C := R_Y) (T := T_Y) (N := 17) (n := 17) hts in_Y (hts (.instantiable R_Y 17) (tb_in 126 (by decide +kernel)))
  obtain ⟨c4, s4, k4⟩ := u_known (C := R_S) (T := T_S) (N := 12) (n := 12) hts in_S (hts (.instantiable R_S 12) (tb_in 78 (by decide +kernel)))
  obtain ⟨a0, p0⟩ := ar_of (ty := .int) (fun C h => by cases h) (hts (.arrayClass .int) (tb_in 124 (by decide +kernel)))
  obtain ⟨a1, p1⟩ := ar_of (ty := .long) (fun C h => by cases h) (hts (.arrayClass .long) (tb_in 76 (by decide +kernel)))
  obtain ⟨a2, p2⟩ := ar_of (ty := .boolean) (fun C h => by cases h) (hts (.arrayClass .boolean) (tb_in 197 (by decide +kernel)))
  obtain ⟨a3, p3⟩ := ar_B (hts (.arrayOver (.object R_B)) (tb_in 32 (by decide +kernel)))
  refine ⟨(fun k => if k = 0 then c0 else if k = 1 then c1 else if k = 2 then c2 else if k = 3 then c3 else c4, fun k => if k = 0 then s0 else if k = 1 then s1 else if k = 2 then s2 else if k = 3 then s3 else s4), fun k => if k = 0 then a0 else if k = 1 then a1 else if k = 2 then a2 else a3, fun k q hq => ?_, fun k q hq => ?_⟩
  · match k, hq with
    | 0, hq => cases hq; exact k0
    | 1, hq => cases hq; exact k1
    | 2, hq => cases hq; exact k2
    | 3, hq => cases hq; exact k3
    | 4, hq => cases hq; exact k4
    | k + 5, hq => simp at hq
  · match k, hq with
    | 0, hq => cases hq; exact p0
    | 1, hq => cases hq; exact p1
    | 2, hq => cases hq; exact p2
    | 3, hq => cases hq; exact p3
    | k + 4, hq => simp [ty0] at hq
theorem strs_x : ∀ q ∈ strs, Cond.exactly (.string "PanelForms" q.1) "java/lang/String" ∈ flatC (Jvm.Cond.and given_1 narrow_1) := by decide +kernel
theorem strs_r : ∀ q ∈ strs, Cond.stringRef "PanelForms" q.1 q.2 ∈ tables_1 := by decide +kernel
theorem zE_of {l : Launch} {s : State} {b : Nat} (hfl : l.flags = flags0) (hts : ∀ w ∈ lw_tbl, w.before #[Value.ref b] s = true) (hgv : (Jvm.Cond.and given_1 narrow_1).before #[Value.ref b] s = true) : ∃ (D : va_G) (cA sa : Nat → Nat), zE l s D cA sa ∧ zN s := by
  obtain ⟨D, cA, hK⟩ := zK hts
  have hs := flat_of_before _ hgv
  have hst : ∀ k, ∃ a, ∀ q ∈ strs, q.1 = k → vk_R "PanelForms" q.1 q.2 a s := by
    intro k
    by_cases hz : ∃ q ∈ strs, q.1 = k
    · obtain ⟨q, hq, e⟩ := hz
      obtain ⟨a, c, cell, kk, h1, -⟩ := Cond.exactly_spec (hs _ (strs_x q hq))
      refine ⟨a, fun q' hq' e' => vk_R.of (A := #[Value.ref b]) (hts _ (List.mem_append_right _ (strs_r q' hq'))) ?_⟩
      rw [e', ← e]; exact h1
    · exact ⟨0, fun q hq e => absurd ⟨q, hq, e⟩ hz⟩
  refine ⟨D, cA, fun k => (hst k).choose, ⟨fun w hw => ⟨_, hts w hw⟩, hK, ?_, fun q hq => (hst q.1).choose_spec q hq rfl, hs (.isRef (.static "java/lang/Throwable" "UNASSIGNED_STACK" "[Ljava/lang/StackTraceElement;")) (by decide +kernel), hs (.isRef (.static "java/lang/Throwable" "SUPPRESSED_SENTINEL" "Ljava/util/List;")) (by decide +kernel)⟩, ?_, ?_⟩
  · unfold Launch.stackTraces; rw [hfl]; decide
  · exact nCs_of (hts _ (tb_in 349 (by decide +kernel))) (hts _ (tb_in 278 (by decide +kernel))) (hs (.not (.castable "java/lang/IllegalArgumentException" "java/lang/IndexOutOfBoundsException")) (by decide +kernel))
  · exact nCs_of (hts _ (tb_in 499 (by decide +kernel))) (hts _ (tb_in 278 (by decide +kernel))) (hs (.not (.castable "java/lang/IllegalStateException" "java/lang/IndexOutOfBoundsException")) (by decide +kernel))
/-- the invariant at the start -/
theorem inv_st {x0 x1 : Int64} {ml : Nat → Int64} {mia : Nat → Nat → Int32} (h1 : ml = va_up (va_up (fun _ => 0) 1 (pnl x0)) 2 (pnl x1)) (h2 : ∀ z, z ≠ 7 → mia z = fun _ => 0) (h3 : ∀ b, b < 4 → mia 7 b = 200) :
    INV ((fun _ => 0), va_up (va_up (fun _ => 0) 0 (pnl x0)) 1 (pnl x1), (fun _ _ => 0), (fun _ _ => 0)) ((fun _ => 0), (fun _ => 0), (fun _ _ => 0), (fun _ _ => 0)) ((fun _ => 0), (fun _ => 0), (fun _ _ => 0), (fun _ _ => 0)) ((fun _ => 0), ml, mia, (fun _ _ => 0)) (fun _ => va_up (fun _ => 0) 11 200) (fun _ _ => 0) (fun _ _ _ => 0) := by
  obtain ⟨w, w1, w2, w3⟩ := pnl_lN x0
  obtain ⟨h, g1, g2, g3⟩ := pnl_lN x1
  subst h1
  refine ⟨w, h, 0, 0, 0, 0, 0, fun _ => 0, fun _ => 0, fun _ => 0, fun _ => 200, fun _ _ => 0, fun _ _ => 0, [], fun _ => false, ⟨w3, g3, w3, g3, w1, w2, g1, g2⟩, ⟨rfl, rfl, by decide⟩, fun k _ => ⟨rfl, rfl, Nat.zero_le _⟩, ⟨rfl, rfl, by decide, rfl⟩, ⟨rfl, Or.inl rfl⟩, fun b hb => ?_, fun b hb => ?_, fun b hb => ⟨rfl, h3 b hb, Nat.le_refl _⟩, ?_, fun b _ _ => ⟨rfl, rfl⟩, ?_⟩
  · refine ⟨Nat.zero_le _, rfl, ?_, fun _ => rfl, fun j hj => absurd hj (Nat.not_lt_zero _), rfl, rfl, rfl, rfl⟩
    show mia 4 b = nI 0
    rw [h2 4 (by decide)]; rfl
  · refine ⟨Nat.zero_le _, rfl, ?_, fun j hj => absurd hj (Nat.not_lt_zero _)⟩
    show mia 8 b = nI 0
    rw [h2 8 (by decide)]; rfl
  · refine ⟨⟨⟨rfl, rfl⟩, ⟨rfl, rfl, rfl⟩, fun r hr => absurd hr (Nat.not_lt_zero _), fun c hc => absurd hc (Nat.not_lt_zero _), ⟨rfl, fun j hj => absurd hj (Nat.not_lt_zero _)⟩, Nat.le_refl _, fun p hp => absurd hp List.not_mem_nil⟩, ⟨by decide, by decide, by decide, by decide, fun q hq => absurd hq List.not_mem_nil⟩, fun q hq => absurd hq List.not_mem_nil, ⟨rfl, fun c hc => absurd hc (Nat.not_lt_zero _)⟩, fun c hc => absurd hc (Nat.not_lt_zero _)⟩
  · exact ⟨fun _ => 0, fun _ => 0, fun _ => 0, 0, 0, 0, [], fun k _ => ⟨rfl, Nat.zero_le _, rfl, Nat.zero_le _⟩, fun b _ => ⟨rfl, Nat.zero_le _⟩, ⟨rfl, rfl, by decide, by decide⟩, ⟨rfl, by decide, rfl, by decide, rfl, by decide⟩, fun j hj => absurd hj (Nat.not_lt_zero _), fun j hj => absurd hj (Nat.not_lt_zero _)⟩
theorem hd_gt {L i : Nat} (hL : L ≤ 4098) (hi : i ≤ 100000) : nI L - 8 < nI i ↔ L < i + 8 := by
  by_cases h8 : 8 ≤ L
  · have e : nI L - 8 = nI (L - 8) := nI_sub (b := 8) h8
    rw [e, nI_ltI (by omega) (by omega)]; omega
  · have hn : nI L - 8 < 0 := by
      rcases (by omega : L = 0 ∨ L = 1 ∨ L = 2 ∨ L = 3 ∨ L = 4 ∨ L = 5 ∨ L = 6 ∨ L = 7) with rfl | rfl | rfl | rfl | rfl | rfl | rfl | rfl <;> decide
    constructor
    · intro _; omega
    · intro _
      refine Int32.lt_of_lt_of_le hn (Int32.not_lt.mp (fun z => nI_pos (by omega) z))
