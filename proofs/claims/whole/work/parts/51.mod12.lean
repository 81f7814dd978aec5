def ns1 (ab le y : Int) : Int := if ab < y ∧ (le < 0 ∨ y < le) then y else le
/-- the least height above ab at which a box begins or ends -/
def nsF (dn : List Cp) (ab : Int) : Nat → Int
  | 0 => -1
  | c + 1 => ns1 ab (ns1 ab (nsF dn ab c) (cpk (dn.getD c cp0) 2)) ((cpk (dn.getD c cp0) 2 + cpk (dn.getD c cp0) 5 : Nat) : Int)
theorem ns1_bd {ab le y : Int} (h1 : -1 ≤ le ∧ le ≤ 4000000) (h2 : 0 ≤ y ∧ y ≤ 4000000) : -1 ≤ ns1 ab le y ∧ ns1 ab le y ≤ 4000000 := by
  unfold ns1; split <;> omega
theorem nsF_bd {dn : List Cp} {ab : Int} (h : ∀ c, c < dn.length → cpk (dn.getD c cp0) 2 + cpk (dn.getD c cp0) 5 ≤ 4000000) : ∀ n, n ≤ dn.length → -1 ≤ nsF dn ab n ∧ nsF dn ab n ≤ 4000000 := by
  intro n
  induction n with
  | zero => intro _; show (-1 : Int) ≤ -1 ∧ (-1 : Int) ≤ 4000000; decide
  | succ n ih =>
    intro hn
    have h1 := h n (by omega)
    rw [nsF]
    exact ns1_bd (ns1_bd (ih (by omega)) (by omega)) (by omega)
theorem ns1_gt {ab le y : Int} (h : le = -1 ∨ ab < le) : ns1 ab le y = -1 ∨ ab < ns1 ab le y := by
  unfold ns1; split
  · rename_i z; exact Or.inr z.1
  · exact h
theorem nsF_gt (dn : List Cp) (ab : Int) : ∀ n, nsF dn ab n = -1 ∨ ab < nsF dn ab n := by
  intro n
  induction n with
  | zero => exact Or.inl rfl
  | succ n ih => rw [nsF]; exact ns1_gt (ns1_gt ih)
set_option maxHeartbeats 4000000 in
set_option maxRecDepth 100000 in
theorem m_M_nextScore {l : Launch} {s0 : State} {D : va_G} {cA sa : Nat → Nat} (Z : zE l s0 D cA sa) (a : Nat → Nat) (ii : Nat → Int32) (li : Nat → Int64) (ia : Nat → Nat → Int32) (la : Nat → Nat → Int64) (ab : Int) (dn : List Cp) (hdn : rwQ dn ii la) (hdl : dn.length ≤ 200) (hyb : ∀ c, c < dn.length → cpk (dn.getD c cp0) 2 + cpk (dn.getD c cp0) 5 ≤ 4000000) (ha1 : -1 ≤ ab) (ha2 : ab ≤ 4000000) (sz : Nat) : Met l y_M_nextScore [.code y_M_nextScore c_M_nextScore 8 (some .long)] ({ frames := 0, cells := 0, slots := 0, locals := 0 }) (wP s0 D [.ref (a 0), .long (lZ ab)] (w_M a cA ii li ia la) sz) (va_Ql (fun r (_ : Unit) => r = lZ (nsF dn ab dn.length)) (wB D (va_A (w_M a cA ii li ia la) sz) (fun _ => w_M a cA ii li ia la)) (va_A (w_M a cA ii li ia la) sz)) 0 0 (va_A (w_M a cA ii li ia la) sz) := by
  refine wMet Z (by decide) (Nat.le_of_ble_eq_true rfl) ?_
  intro p e s m below meth c hx hb hr hml hown hlk hin hg hK hsz hP hD hA hlo hS ls hl
  subst hsz
  have hown : s.vm.findClass R_M = some m.cls := hown
  refine lv_ldc2 (v := (-1)) hx hb hown (kw801 Z.1 _ _ hg.1) d_M_nextScore_0 ?_
  refine lv_lstore_n (lv' := [(3, .long (-1)), (0, .ref (a 0)), (1, .long (lZ ab))]) hx hb d_M_nextScore_3 rfl hl (by decide) rfl (fun ls hl => ?_)
  refine lv_iconst (v := 0) hx hb d_M_nextScore_4 (by decide) ?_
  refine lv_topi (fun z1 ez1 => ?_)
  obtain rfl : z1 = (nI (6 * 0)) := by rw [ez1]; rfl
  refine lv_istore (lv' := [(5, .int (nI (6 * 0))), (3, .long (-1)), (0, .ref (a 0)), (1, .long (lZ ab))]) hx hb d_M_nextScore_5 hl (by decide) rfl (fun ls hl => ?_)
  have loop : ∀ (f : Nat) (c1 : Nat) (le : Int), dn.length - c1 < f → c1 ≤ dn.length → le = nsF dn ab c1 → ∀ (H : Heap) (locs : List Loc), va_P D ncl (w_M a cA ii li ia la) H → va_D (va_A (w_M a cA ii li ia la) s.heap.size) (w_M a cA ii li ia la) → va_S (va_A (w_M a cA ii li ia la) s.heap.size) s.heap H locs → ∀ (ls : Array Slot), lv_has ls 8 [(0, .ref (a 0)), (1, .long (lZ ab)), (3, .long (lZ le)), (5, .int (nI (6 * c1)))] → W p l e ({ frames := 0, cells := 0, slots := 0, locals := 0 }) s m ([.ref (a 0), .long (lZ ab)] : List Value).toArray below meth c H locs 0 0 (MQ below (va_Ql (fun r (_ : Unit) => r = lZ (nsF dn ab dn.length)) (wB D (va_A (w_M a cA ii li ia la) s.heap.size) (fun _ => w_M a cA ii li ia la)) (va_A (w_M a cA ii li ia la) s.heap.size)) ([.ref (a 0), .long (lZ ab)] : List Value).toArray s 0 0 (va_A (w_M a cA ii li ia la) s.heap.size)) (F0 m 7 ls []) := by
    intro f
    induction f with
    | zero => intro c1 le h; exact absurd h (Nat.not_lt_zero _)
    | succ f ih =>
      intro c1 le hf hc1 hle H locs hP hD hS ls hl
      have hlb := nsF_bd (ab := ab) hyb c1 hc1
      rw [← hle] at hlb
      refine lv_iload hx hb d_M_nextScore_7 (lv_at hl 3 rfl) ?_
      refine lv_bipush (v := 6) hx hb d_M_nextScore_9 (by decide) ?_
      refine lv_aload_n hx hb d_M_nextScore_11 rfl (lv_at hl 0 rfl) ?_
      refine va_get (D := D) (ci := 1) (v := .int (ii 13)) (C := R_M) (T := T_M) (N := 26) hx hb (uw_M Z.1 hg.1) (fun _ h => h) hown hK hP 0 rfl rfl 13 (by decide) (kw617 Z.1 _ _ hg.1) (fun _ h9 => h9) rfl d_M_nextScore_12 ?_
      refine lv_topi (fun z2 ez2 => ?_)
      obtain rfl : z2 = (nI dn.length) := by rw [ez2]; exact hdn.1
      refine lv_imul hx hb d_M_nextScore_15 ?_
      refine lv_topi (fun z3 ez3 => ?_)
      obtain rfl : z3 = (nI (6 * dn.length)) := by rw [ez3]; exact pk_mul 6 _
      refine lv_icmp_ge (tgt := 104) hx hb d_M_nextScore_16 (by decide) (fun c4 => ?_) (fun c4 => ?_)
      · obtain rfl : c1 = dn.length := by have := (nI_leI (by omega) (by omega)).mp c4; omega
        refine lv_lload_n hx hb d_M_nextScore_104 rfl (lv_at hl 2 rfl) ?_
        exact w_lret hx hb hr hlk hP hD hS () rfl (by rw [hle]) d_M_nextScore_105
      · have hcl : c1 < dn.length := Nat.lt_of_not_le (fun y => c4 ((nI_leI (by omega) (by omega)).mpr (by omega)))
        have hyc := hyb c1 hcl
        obtain ⟨y, hyq⟩ : ∃ z, z = cpk (dn.getD c1 cp0) 2 := ⟨_, rfl⟩
        obtain ⟨h, hhq⟩ : ∃ z, z = cpk (dn.getD c1 cp0) 5 := ⟨_, rfl⟩
        rw [← hyq, ← hhq] at hyc
        refine lv_aload_n hx hb d_M_nextScore_19 rfl (lv_at hl 0 rfl) ?_
        refine va_get (D := D) (ci := 1) (v := .ref (a 15)) (C := R_M) (T := T_M) (N := 26) hx hb (uw_M Z.1 hg.1) (fun _ h => h) hown hK hP 0 rfl rfl 14 (by decide) (kw618 Z.1 _ _ hg.1) (fun _ h9 => h9) rfl d_M_nextScore_20 ?_
        refine lv_iload hx hb d_M_nextScore_23 (lv_at hl 3 rfl) ?_
        refine lv_iconst (v := 2) hx hb d_M_nextScore_25 (by decide) ?_
        refine lv_iadd hx hb d_M_nextScore_26 ?_
        refine lv_topi (fun z5 ez5 => ?_)
        obtain rfl : z5 = (nI (6 * c1 + 2)) := by rw [ez5]; exact nI_add _ 2
        refine va_lald hx hb hK hP 8 1 rfl rfl (vp_in_nI (n := 6 * c1 + 2) (N := 1200) (by omega) (by decide)) d_M_nextScore_27 ?_
        refine lv_topl (fun z6 ez6 => ?_)
        rw [nI_clamp (n := (6 * c1 + 2)) (by omega)] at ez6
        obtain rfl : z6 = ((la 14) (6 * c1 + 2)) := ez6
        refine lv_topl (fun z7 ez7 => ?_)
        obtain rfl : z7 = (lZ (y : Int)) := by rw [ez7]; rw [lZ_nat, hyq]; exact hdn.2 c1 hcl 2 (by decide)
        refine lv_lstore (lv' := [(6, .long (lZ (y : Int))), (0, .ref (a 0)), (1, .long (lZ ab)), (3, .long (lZ le)), (5, .int (nI (6 * c1)))]) hx hb d_M_nextScore_28 hl (by decide) rfl (fun ls hl => ?_)
        have jn8 : ∀ m1 : Int, m1 = ns1 ab le (y : Int) → W p l e ({ frames := 0, cells := 0, slots := 0, locals := 0 }) s m ([.ref (a 0), .long (lZ ab)] : List Value).toArray below meth c H locs 0 0 (MQ below (va_Ql (fun r (_ : Unit) => r = lZ (nsF dn ab dn.length)) (wB D (va_A (w_M a cA ii li ia la) s.heap.size) (fun _ => w_M a cA ii li ia la)) (va_A (w_M a cA ii li ia la) s.heap.size)) ([.ref (a 0), .long (lZ ab)] : List Value).toArray s 0 0 (va_A (w_M a cA ii li ia la) s.heap.size)) (F0 m 56 ls [.long (lZ m1)]) := by
          intro m1 hm1
          have hm1b := ns1_bd (ab := ab) hlb (by omega : 0 ≤ (y : Int) ∧ (y : Int) ≤ 4000000)
          rw [← hm1] at hm1b
          refine lv_lstore_n (lv' := [(3, .long (lZ m1)), (6, .long (lZ (y : Int))), (0, .ref (a 0)), (1, .long (lZ ab)), (5, .int (nI (6 * c1)))]) hx hb d_M_nextScore_56 rfl hl (by decide) rfl (fun ls hl => ?_)
          refine lv_lload hx hb d_M_nextScore_57 (lv_at hl 1 rfl) ?_
          refine lv_aload_n hx hb d_M_nextScore_59 rfl (lv_at hl 2 rfl) ?_
          refine va_get (D := D) (ci := 1) (v := .ref (a 15)) (C := R_M) (T := T_M) (N := 26) hx hb (uw_M Z.1 hg.1) (fun _ h => h) hown hK hP 0 rfl rfl 14 (by decide) (kw618 Z.1 _ _ hg.1) (fun _ h9 => h9) rfl d_M_nextScore_60 ?_
          refine lv_iload hx hb d_M_nextScore_63 (lv_at hl 4 rfl) ?_
          refine lv_iconst (v := 5) hx hb d_M_nextScore_65 (by decide) ?_
          refine lv_iadd hx hb d_M_nextScore_66 ?_
          refine lv_topi (fun z12 ez12 => ?_)
          obtain rfl : z12 = (nI (6 * c1 + 5)) := by rw [ez12]; exact nI_add _ 5
          refine va_lald hx hb hK hP 8 1 rfl rfl (vp_in_nI (n := 6 * c1 + 5) (N := 1200) (by omega) (by decide)) d_M_nextScore_67 ?_
          refine lv_topl (fun z13 ez13 => ?_)
          rw [nI_clamp (n := (6 * c1 + 5)) (by omega)] at ez13
          obtain rfl : z13 = ((la 14) (6 * c1 + 5)) := ez13
          refine lv_topl (fun z14 ez14 => ?_)
          obtain rfl : z14 = (lN h) := by rw [ez14]; rw [hhq]; exact hdn.2 c1 hcl 5 (by decide)
          refine lv_ladd hx hb d_M_nextScore_68 ?_
          refine lv_topl (fun z15 ez15 => ?_)
          obtain rfl : z15 = (lZ ((y + h : Nat) : Int)) := by rw [ez15]; rw [← lZ_nat, lZ_add]; rfl
          refine lv_lstore (lv' := [(6, .long (lZ ((y + h : Nat) : Int))), (3, .long (lZ m1)), (0, .ref (a 0)), (1, .long (lZ ab)), (5, .int (nI (6 * c1)))]) hx hb d_M_nextScore_69 hl (by decide) rfl (fun ls hl => ?_)
          have jn16 : ∀ m2 : Int, m2 = ns1 ab m1 ((y + h : Nat) : Int) → W p l e ({ frames := 0, cells := 0, slots := 0, locals := 0 }) s m ([.ref (a 0), .long (lZ ab)] : List Value).toArray below meth c H locs 0 0 (MQ below (va_Ql (fun r (_ : Unit) => r = lZ (nsF dn ab dn.length)) (wB D (va_A (w_M a cA ii li ia la) s.heap.size) (fun _ => w_M a cA ii li ia la)) (va_A (w_M a cA ii li ia la) s.heap.size)) ([.ref (a 0), .long (lZ ab)] : List Value).toArray s 0 0 (va_A (w_M a cA ii li ia la) s.heap.size)) (F0 m 97 ls [.long (lZ m2)]) := by
            intro m2 hm2
            refine lv_lstore_n (lv' := [(3, .long (lZ m2)), (6, .long (lZ ((y + h : Nat) : Int))), (0, .ref (a 0)), (1, .long (lZ ab)), (5, .int (nI (6 * c1)))]) hx hb d_M_nextScore_97 rfl hl (by decide) rfl (fun ls hl => ?_)
            obtain ⟨v20, ev20⟩ : ∃ y : Int32, y = (nI (6 * c1)) + 6 := ⟨_, rfl⟩
            refine lv_iinc (v := v20) (lv' := [(5, .int v20), (3, .long (lZ m2)), (6, .long (lZ ((y + h : Nat) : Int))), (0, .ref (a 0)), (1, .long (lZ ab))]) hx hb d_M_nextScore_98 hl (k := 4) rfl (by rw [ev20]; rfl) (by decide) rfl (fun ls hl => ?_)
            refine lv_goto (tgt := 7) hx hb d_M_nextScore_101 (by decide) ?_
            obtain rfl : v20 = nI (6 * (c1 + 1)) := by rw [ev20]; exact nI_add (6 * c1) 6
            exact ih (c1 + 1) m2 (by omega) hcl (by rw [hm2, hm1, hle, nsF, ← hyq, ← hhq]) _ _ hP hD hS ls (lv_sub hl [3, 4, 1, 0] rfl)
          refine lv_lload hx hb d_M_nextScore_71 (lv_at hl 0 rfl) ?_
          refine lv_lload_n hx hb d_M_nextScore_73 rfl (lv_at hl 3 rfl) ?_
          refine W.lcmp hx hb d_M_nextScore_74 ?_
          refine lv_if_le (tgt := 96) hx hb d_M_nextScore_75 (by decide) (fun d17 => ?_) (fun d17 => ?_)
          · have k1 : ¬ ab < ((y + h : Nat) : Int) := fun z => absurd ((lg_cmp_le _ _).mp d17) (Int64.not_le.mpr ((lZ_lt (by omega) (by omega) (by omega) (by omega)).mpr z))
            refine lv_lload_n hx hb d_M_nextScore_96 rfl (lv_at hl 1 rfl) ?_
            exact jn16 _ (by rw [ns1, if_neg (fun z => k1 z.1)])
          · have k1 : ab < ((y + h : Nat) : Int) := (lZ_lt (by omega) (by omega) (by omega) (by omega)).mp (Int64.not_le.mp (fun z => d17 ((lg_cmp_le _ _).mpr z)))
            refine lv_lload_n hx hb d_M_nextScore_78 rfl (lv_at hl 1 rfl) ?_
            refine lv_lconst (v := 0) hx hb d_M_nextScore_79 (by decide) ?_
            refine W.lcmp hx hb d_M_nextScore_80 ?_
            refine lv_if_lt (tgt := 91) hx hb d_M_nextScore_81 (by decide) (fun e18 => ?_) (fun e18 => ?_)
            · have k2 : m1 < 0 := (lZ_lt (b := 0) (by omega) (by omega) (by omega) (by omega)).mp ((lg_cmp_lt _ _).mp e18)
              refine lv_lload hx hb d_M_nextScore_91 (lv_at hl 0 rfl) ?_
              refine lv_goto (tgt := 97) hx hb d_M_nextScore_93 (by decide) ?_
              exact jn16 _ (by rw [ns1, if_pos ⟨k1, Or.inl k2⟩])
            · have k2 : ¬ m1 < 0 := fun z => e18 ((lg_cmp_lt _ _).mpr ((lZ_lt (b := 0) (by omega) (by omega) (by omega) (by omega)).mpr z))
              refine lv_lload hx hb d_M_nextScore_84 (lv_at hl 0 rfl) ?_
              refine lv_lload_n hx hb d_M_nextScore_86 rfl (lv_at hl 1 rfl) ?_
              refine W.lcmp hx hb d_M_nextScore_87 ?_
              refine lv_if_ge (tgt := 96) hx hb d_M_nextScore_88 (by decide) (fun g19 => ?_) (fun g19 => ?_)
              · have k3 : ¬ ((y + h : Nat) : Int) < m1 := fun z => absurd ((lg_cmp_ge _ _).mp g19) (Int64.not_le.mpr ((lZ_lt (by omega) (by omega) (by omega) (by omega)).mpr z))
                refine lv_lload_n hx hb d_M_nextScore_96 rfl (lv_at hl 1 rfl) ?_
                exact jn16 _ (by rw [ns1, if_neg (fun z => z.2.elim k2 k3)])
              · have k3 : ((y + h : Nat) : Int) < m1 := (lZ_lt (by omega) (by omega) (by omega) (by omega)).mp (Int64.not_le.mp (fun z => g19 ((lg_cmp_ge _ _).mpr z)))
                refine lv_lload hx hb d_M_nextScore_91 (lv_at hl 0 rfl) ?_
                refine lv_goto (tgt := 97) hx hb d_M_nextScore_93 (by decide) ?_
                exact jn16 _ (by rw [ns1, if_pos ⟨k1, Or.inr k3⟩])
        refine lv_lload hx hb d_M_nextScore_30 (lv_at hl 0 rfl) ?_
        refine lv_lload_n hx hb d_M_nextScore_32 rfl (lv_at hl 2 rfl) ?_
        refine W.lcmp hx hb d_M_nextScore_33 ?_
        refine lv_if_le (tgt := 55) hx hb d_M_nextScore_34 (by decide) (fun d9 => ?_) (fun d9 => ?_)
        · have k1 : ¬ ab < (y : Int) := fun z => absurd ((lg_cmp_le _ _).mp d9) (Int64.not_le.mpr ((lZ_lt (by omega) (by omega) (by omega) (by omega)).mpr z))
          refine lv_lload_n hx hb d_M_nextScore_55 rfl (lv_at hl 3 rfl) ?_
          exact jn8 _ (by rw [ns1, if_neg (fun z => k1 z.1)])
        · have k1 : ab < (y : Int) := (lZ_lt (by omega) (by omega) (by omega) (by omega)).mp (Int64.not_le.mp (fun z => d9 ((lg_cmp_le _ _).mpr z)))
          refine lv_lload_n hx hb d_M_nextScore_37 rfl (lv_at hl 3 rfl) ?_
          refine lv_lconst (v := 0) hx hb d_M_nextScore_38 (by decide) ?_
          refine W.lcmp hx hb d_M_nextScore_39 ?_
          refine lv_if_lt (tgt := 50) hx hb d_M_nextScore_40 (by decide) (fun e10 => ?_) (fun e10 => ?_)
          · have k2 : le < 0 := (lZ_lt (b := 0) (by omega) (by omega) (by omega) (by omega)).mp ((lg_cmp_lt _ _).mp e10)
            refine lv_lload hx hb d_M_nextScore_50 (lv_at hl 0 rfl) ?_
            refine lv_goto (tgt := 56) hx hb d_M_nextScore_52 (by decide) ?_
            exact jn8 _ (by rw [ns1, if_pos ⟨k1, Or.inl k2⟩])
          · have k2 : ¬ le < 0 := fun z => e10 ((lg_cmp_lt _ _).mpr ((lZ_lt (b := 0) (by omega) (by omega) (by omega) (by omega)).mpr z))
            refine lv_lload hx hb d_M_nextScore_43 (lv_at hl 0 rfl) ?_
            refine lv_lload_n hx hb d_M_nextScore_45 rfl (lv_at hl 3 rfl) ?_
            refine W.lcmp hx hb d_M_nextScore_46 ?_
            refine lv_if_ge (tgt := 55) hx hb d_M_nextScore_47 (by decide) (fun g11 => ?_) (fun g11 => ?_)
            · have k3 : ¬ (y : Int) < le := fun z => absurd ((lg_cmp_ge _ _).mp g11) (Int64.not_le.mpr ((lZ_lt (by omega) (by omega) (by omega) (by omega)).mpr z))
              refine lv_lload_n hx hb d_M_nextScore_55 rfl (lv_at hl 3 rfl) ?_
              exact jn8 _ (by rw [ns1, if_neg (fun z => z.2.elim k2 k3)])
            · have k3 : (y : Int) < le := (lZ_lt (by omega) (by omega) (by omega) (by omega)).mp (Int64.not_le.mp (fun z => g11 ((lg_cmp_ge _ _).mpr z)))
              refine lv_lload hx hb d_M_nextScore_50 (lv_at hl 0 rfl) ?_
              refine lv_goto (tgt := 56) hx hb d_M_nextScore_52 (by decide) ?_
              exact jn8 _ (by rw [ns1, if_pos ⟨k1, Or.inr k3⟩])
  exact loop (dn.length + 1) 0 (-1) (by omega) (Nat.zero_le _) rfl _ _ hP hD hS ls (lv_sub hl [2, 3, 1, 0] rfl)
def itS (dn : List Cp) : Nat → Int
  | 0 => -1
  | i + 1 => nsF dn (itS dn i) dn.length
theorem itS_bd {dn : List Cp} (h : ∀ c, c < dn.length → cpk (dn.getD c cp0) 2 + cpk (dn.getD c cp0) 5 ≤ 4000000) : ∀ i, -1 ≤ itS dn i ∧ itS dn i ≤ 4000000 := by
  intro i
  cases i with
  | zero => show (-1 : Int) ≤ -1 ∧ (-1 : Int) ≤ 4000000; decide
  | succ i => exact nsF_bd h _ (Nat.le_refl _)
theorem itS_gt {dn : List Cp} : ∀ i, (∀ j, j < i → 0 ≤ itS dn (j + 1)) → (i : Int) ≤ itS dn i + 1 := by
  intro i
  induction i with
  | zero => intro _; show ((0 : Nat) : Int) ≤ -1 + 1; decide
  | succ i ih =>
    intro h
    have h1 := ih (fun j hj => h j (by omega))
    have h2 := h i (by omega)
    rcases nsF_gt dn (itS dn i) dn.length with z | z
    · rw [itS, z] at h2; exact absurd h2 (by decide)
    · rw [itS]; omega
/-- how many boxes begin or end there -/
def scN (dn : List Cp) (y : Int) (n : Nat) : Nat := sm (fun c => (if (cpk (dn.getD c cp0) 2 : Int) = y then 1 else 0) + (if ((cpk (dn.getD c cp0) 2 + cpk (dn.getD c cp0) 5 : Nat) : Int) = y then 1 else 0)) n
set_option maxHeartbeats 4000000 in
set_option maxRecDepth 100000 in
theorem m_M_score {l : Launch} {s0 : State} {D : va_G} {cA sa : Nat → Nat} (Z : zE l s0 D cA sa) (a : Nat → Nat) (ii : Nat → Int32) (li : Nat → Int64) (ia : Nat → Nat → Int32) (la : Nat → Nat → Int64) (k v : Int32) (dn : List Cp) (hdn : rwQ dn ii la) (hdl : dn.length ≤ 200) (hyb : ∀ c, c < dn.length → cpk (dn.getD c cp0) 2 + cpk (dn.getD c cp0) 5 ≤ 4000000) (sz : Nat) : Met l y_M_score [.code y_M_score c_M_score 9 (some .long)] ({ frames := 1, cells := 0, slots := 0, locals := 40 }) (wP s0 D [.ref (a 0), .int k, .int v] (w_M a cA ii li ia la) sz) (va_Ql (fun (r : Int64) (u : St) => (∃ kk wh, kk < 2 ^ 31 ∧ k = nI kk ∧ wh < 2 ∧ v = nI wh ∧ (∀ j, j ≤ kk → 0 ≤ itS dn (j + 1)) ∧ r = (if wh = 0 then lZ (itS dn (kk + 1)) else lN (scN dn (itS dn (kk + 1)) dn.length)) ∧ u = (va_up ii 0 0, li, ia, la)) ∨ (¬ (∃ kk wh, kk < 2 ^ 31 ∧ k = nI kk ∧ wh < 2 ∧ v = nI wh ∧ (∀ j, j ≤ kk → 0 ≤ itS dn (j + 1))) ∧ u = (va_up ii 0 1, li, ia, la))) (wB D (va_A (w_M a cA ii li ia la) sz) (fun (u : St) => w_M a cA u.1 u.2.1 u.2.2.1 u.2.2.2)) (va_A (w_M a cA ii li ia la) sz)) 0 0 (va_A (w_M a cA ii li ia la) sz) := by
  refine wMet Z (by decide) (Nat.le_of_ble_eq_true rfl) ?_
  intro p e s m below meth c hx hb hr hml hown hlk hin hg hK hsz hP hD hA hlo hS ls hl
  subst hsz
  have hown : s.vm.findClass R_M = some m.cls := hown
  refine lv_ldc2 (v := (-1)) hx hb hown (kw801 Z.1 _ _ hg.1) d_M_score_0 ?_
  refine lv_topl (fun z1 ez1 => ?_)
  obtain rfl : z1 = (lZ (itS dn 0)) := by rw [ez1]; rfl
  refine lv_lstore_n (lv' := [(3, .long (lZ (itS dn 0))), (0, .ref (a 0)), (1, .int k), (2, .int v)]) hx hb d_M_score_3 rfl hl (by decide) rfl (fun ls hl => ?_)
  refine lv_iload_n hx hb d_M_score_4 rfl (lv_at hl 2 rfl) ?_
  refine lv_if_lt (tgt := 12) hx hb d_M_score_5 (by decide) (fun c2 => ?_) (fun c2 => ?_)
  · refine lv_iconst (v := 0) hx hb d_M_score_12 (by decide) ?_
    refine lv_istore (lv' := [(5, .int 0), (3, .long (lZ (itS dn 0))), (0, .ref (a 0)), (1, .int k), (2, .int v)]) hx hb d_M_score_13 hl (by decide) rfl (fun ls hl => ?_)
    refine lv_iconst (v := 0) hx hb d_M_score_15 (by decide) ?_
    refine lv_topi (fun z3 ez3 => ?_)
    obtain rfl : z3 = (nI 0) := by rw [ez3]; rfl
    refine lv_istore (lv' := [(6, .int (nI 0)), (5, .int 0), (3, .long (lZ (itS dn 0))), (0, .ref (a 0)), (1, .int k), (2, .int v)]) hx hb d_M_score_16 hl (by decide) rfl (fun ls hl => ?_)
    refine lv_iload hx hb d_M_score_18 (lv_at hl 0 rfl) ?_
    refine lv_iload_n hx hb d_M_score_20 rfl (lv_at hl 4 rfl) ?_
    refine lv_icmp_gt (tgt := 54) hx hb d_M_score_21 (by decide) (fun _ => ?_) (fun k4 => by first | exact absurd (show k < nI 0 from c2) k4 | exact absurd k4 (show k < nI 0 from c2))
    refine lv_aload_n hx hb d_M_score_54 rfl (lv_at hl 3 rfl) ?_
    refine lv_iload hx hb d_M_score_55 (lv_at hl 1 rfl) ?_
    refine lv_if_eq (tgt := 73) hx hb d_M_score_57 (by decide) (fun _ => ?_) (fun k5 => by first | exact absurd (show (0 : Int32) = 0 from rfl) k5 | exact absurd k5 (show (0 : Int32) = 0 from rfl))
    refine lv_iconst (v := 1) hx hb d_M_score_73 (by decide) ?_
    refine va_put (D := D) (ci := 1) (v := .int 1) (ty := t_M 0) (C := R_M) (T := T_M) (N := 26) hx hb (uw_M Z.1 hg.1) (fun _ h => h) t_M t_M_ok n_M hown hK hP hD hS 0 rfl rfl 0 (by decide) (kw604 Z.1 _ _ hg.1) (fun _ h9 => h9) rfl (by decide +kernel) rfl rfl (Nat.le_of_ble_eq_true rfl) d_M_score_74 (fun H locs hP hD hS => ?_)
    have hP : va_P D ncl (w_M a cA (va_up ii 0 1) li ia la) H := hP
    have hD : va_D _ (w_M a cA (va_up ii 0 1) li ia la) := hD
    refine lv_aload_n hx hb d_M_score_77 rfl (lv_at hl 3 rfl) ?_
    refine va_get (D := D) (ci := 1) (v := .int 1) (C := R_M) (T := T_M) (N := 26) hx hb (uw_M Z.1 hg.1) (fun _ h => h) hown hK hP 0 rfl rfl 0 (by decide) (kw604 Z.1 _ _ hg.1) (fun _ h9 => h9) rfl d_M_score_78 ?_
    refine lv_if_eq (tgt := 86) hx hb d_M_score_81 (by decide) (fun k6 => by first | exact absurd (show ¬ (1 : Int32) = 0 by decide) k6 | exact absurd k6 (show ¬ (1 : Int32) = 0 by decide)) (fun _ => ?_)
    refine lv_lconst (v := 0) hx hb d_M_score_84 (by decide) ?_
    exact w_lret hx hb hr hlk hP hD hS ((va_up ii 0 1), li, ia, la) rfl (Or.inr ⟨fun z => by obtain ⟨k2, wh, z1, z2, z3, z4, z5⟩ := z; rw [z2] at c2; exact nI_pos z1 c2, rfl⟩) d_M_score_85
  · obtain ⟨kk, hkk, hkq⟩ := nI_of c2
    rw [hkq] at hl
    refine lv_iconst (v := 1) hx hb d_M_score_8 (by decide) ?_
    refine lv_goto (tgt := 13) hx hb d_M_score_9 (by decide) ?_
    refine lv_istore (lv' := [(5, .int 1), (3, .long (lZ (itS dn 0))), (0, .ref (a 0)), (1, .int (nI kk)), (2, .int v)]) hx hb d_M_score_13 hl (by decide) rfl (fun ls hl => ?_)
    refine lv_iconst (v := 0) hx hb d_M_score_15 (by decide) ?_
    refine lv_topi (fun z7 ez7 => ?_)
    obtain rfl : z7 = (nI 0) := by rw [ez7]; rfl
    refine lv_istore (lv' := [(6, .int (nI 0)), (5, .int 1), (3, .long (lZ (itS dn 0))), (0, .ref (a 0)), (1, .int (nI kk)), (2, .int v)]) hx hb d_M_score_16 hl (by decide) rfl (fun ls hl => ?_)
    have loop : ∀ (f : Nat) (i : Nat), kk + 1 - i < f → i ≤ kk + 1 → (∀ j, j < i → 0 ≤ itS dn (j + 1)) → ∀ (H : Heap) (locs : List Loc), va_P D ncl (w_M a cA ii li ia la) H → va_D (va_A (w_M a cA ii li ia la) s.heap.size) (w_M a cA ii li ia la) → va_S (va_A (w_M a cA ii li ia la) s.heap.size) s.heap H locs → ∀ (ls : Array Slot), lv_has ls 9 [(0, .ref (a 0)), (1, .int (nI kk)), (2, .int v), (3, .long (lZ (itS dn i))), (5, .int 1), (6, .int (nI i))] → W p l e ({ frames := 1, cells := 0, slots := 0, locals := 40 }) s m ([.ref (a 0), .int k, .int v] : List Value).toArray below meth c H locs 0 0 (MQ below (va_Ql (fun (r : Int64) (u : St) => (∃ kk wh, kk < 2 ^ 31 ∧ k = nI kk ∧ wh < 2 ∧ v = nI wh ∧ (∀ j, j ≤ kk → 0 ≤ itS dn (j + 1)) ∧ r = (if wh = 0 then lZ (itS dn (kk + 1)) else lN (scN dn (itS dn (kk + 1)) dn.length)) ∧ u = (va_up ii 0 0, li, ia, la)) ∨ (¬ (∃ kk wh, kk < 2 ^ 31 ∧ k = nI kk ∧ wh < 2 ∧ v = nI wh ∧ (∀ j, j ≤ kk → 0 ≤ itS dn (j + 1))) ∧ u = (va_up ii 0 1, li, ia, la))) (wB D (va_A (w_M a cA ii li ia la) s.heap.size) (fun (u : St) => w_M a cA u.1 u.2.1 u.2.2.1 u.2.2.2)) (va_A (w_M a cA ii li ia la) s.heap.size)) ([.ref (a 0), .int k, .int v] : List Value).toArray s 0 0 (va_A (w_M a cA ii li ia la) s.heap.size)) (F0 m 18 ls []) := by
      intro f
      induction f with
      | zero => intro i h; exact absurd h (Nat.not_lt_zero _)
      | succ f ih =>
        intro i hf hi hall H locs hP hD hS ls hl
        have hib := itS_bd hyb i
        have hig := itS_gt i hall
        refine lv_iload hx hb d_M_score_18 (lv_at hl 5 rfl) ?_
        refine lv_iload_n hx hb d_M_score_20 rfl (lv_at hl 1 rfl) ?_
        refine lv_icmp_gt (tgt := 54) hx hb d_M_score_21 (by decide) (fun d8 => ?_) (fun d8 => ?_)
        · obtain rfl : i = kk + 1 := by have := (nI_ltI (by omega) (by omega)).mp d8; omega
          have hY0 := hall kk (by omega)
          obtain ⟨y, hyq⟩ : ∃ z, z = itS dn (kk + 1) := ⟨_, rfl⟩
          rw [← hyq] at hl hib hY0
          refine lv_aload_n hx hb d_M_score_54 rfl (lv_at hl 0 rfl) ?_
          refine lv_iload hx hb d_M_score_55 (lv_at hl 4 rfl) ?_
          refine lv_if_eq (tgt := 73) hx hb d_M_score_57 (by decide) (fun k9 => by first | exact absurd (show ¬ (1 : Int32) = 0 by decide) k9 | exact absurd k9 (show ¬ (1 : Int32) = 0 by decide)) (fun _ => ?_)
          refine lv_iload_n hx hb d_M_score_60 rfl (lv_at hl 2 rfl) ?_
          refine lv_if_eq (tgt := 69) hx hb d_M_score_61 (by decide) (fun w10 => ?_) (fun w10 => ?_)
          · have hv0 : v = nI 0 := w10
            refine lv_iconst (v := 0) hx hb d_M_score_69 (by decide) ?_
            refine lv_goto (tgt := 74) hx hb d_M_score_70 (by decide) ?_
            refine va_put (D := D) (ci := 1) (v := .int 0) (ty := t_M 0) (C := R_M) (T := T_M) (N := 26) hx hb (uw_M Z.1 hg.1) (fun _ h => h) t_M t_M_ok n_M hown hK hP hD hS 0 rfl rfl 0 (by decide) (kw604 Z.1 _ _ hg.1) (fun _ h9 => h9) rfl (by decide +kernel) rfl rfl (Nat.le_of_ble_eq_true rfl) d_M_score_74 (fun H locs hP hD hS => ?_)
            have hP : va_P D ncl (w_M a cA (va_up ii 0 0) li ia la) H := hP
            have hD : va_D _ (w_M a cA (va_up ii 0 0) li ia la) := hD
            refine lv_aload_n hx hb d_M_score_77 rfl (lv_at hl 0 rfl) ?_
            refine va_get (D := D) (ci := 1) (v := .int 0) (C := R_M) (T := T_M) (N := 26) hx hb (uw_M Z.1 hg.1) (fun _ h => h) hown hK hP 0 rfl rfl 0 (by decide) (kw604 Z.1 _ _ hg.1) (fun _ h9 => h9) rfl d_M_score_78 ?_
            refine lv_if_eq (tgt := 86) hx hb d_M_score_81 (by decide) (fun _ => ?_) (fun k11 => by first | exact absurd (show (0 : Int32) = 0 from rfl) k11 | exact absurd k11 (show (0 : Int32) = 0 from rfl))
            refine lv_lconst (v := 0) hx hb d_M_score_86 (by decide) ?_
            refine lv_topl (fun z12 ez12 => ?_)
            obtain rfl : z12 = (lN (scN dn y 0)) := by rw [ez12]; rfl
            refine lv_lstore (lv' := [(6, .long (lN (scN dn y 0))), (0, .ref (a 0)), (1, .int (nI kk)), (2, .int v), (3, .long (lZ y)), (5, .int 1)]) hx hb d_M_score_87 hl (by decide) rfl (fun ls hl => ?_)
            refine lv_iconst (v := 0) hx hb d_M_score_89 (by decide) ?_
            refine lv_topi (fun z13 ez13 => ?_)
            obtain rfl : z13 = (nI (6 * 0)) := by rw [ez13]; rfl
            refine lv_istore (lv' := [(8, .int (nI (6 * 0))), (6, .long (lN (scN dn y 0))), (0, .ref (a 0)), (1, .int (nI kk)), (2, .int v), (3, .long (lZ y)), (5, .int 1)]) hx hb d_M_score_90 hl (by decide) rfl (fun ls hl => ?_)
            have cl : ∀ (f : Nat) (c1 n : Nat), dn.length - c1 < f → c1 ≤ dn.length → n = scN dn y c1 → ∀ (H : Heap) (locs : List Loc), va_P D ncl (w_M a cA (va_up ii 0 0) li ia la) H → va_D (va_A (w_M a cA ii li ia la) s.heap.size) (w_M a cA (va_up ii 0 0) li ia la) → va_S (va_A (w_M a cA ii li ia la) s.heap.size) s.heap H locs → ∀ (ls : Array Slot), lv_has ls 9 [(0, .ref (a 0)), (2, .int v), (3, .long (lZ y)), (6, .long (lN n)), (8, .int (nI (6 * c1)))] → W p l e ({ frames := 1, cells := 0, slots := 0, locals := 40 }) s m ([.ref (a 0), .int k, .int v] : List Value).toArray below meth c H locs 0 0 (MQ below (va_Ql (fun (r : Int64) (u : St) => (∃ kk wh, kk < 2 ^ 31 ∧ k = nI kk ∧ wh < 2 ∧ v = nI wh ∧ (∀ j, j ≤ kk → 0 ≤ itS dn (j + 1)) ∧ r = (if wh = 0 then lZ (itS dn (kk + 1)) else lN (scN dn (itS dn (kk + 1)) dn.length)) ∧ u = (va_up ii 0 0, li, ia, la)) ∨ (¬ (∃ kk wh, kk < 2 ^ 31 ∧ k = nI kk ∧ wh < 2 ∧ v = nI wh ∧ (∀ j, j ≤ kk → 0 ≤ itS dn (j + 1))) ∧ u = (va_up ii 0 1, li, ia, la))) (wB D (va_A (w_M a cA ii li ia la) s.heap.size) (fun (u : St) => w_M a cA u.1 u.2.1 u.2.2.1 u.2.2.2)) (va_A (w_M a cA ii li ia la) s.heap.size)) ([.ref (a 0), .int k, .int v] : List Value).toArray s 0 0 (va_A (w_M a cA ii li ia la) s.heap.size)) (F0 m 92 ls []) := by
              intro f
              induction f with
              | zero => intro c1 n h; exact absurd h (Nat.not_lt_zero _)
              | succ f ih =>
                intro c1 n hf hc1 hn H locs hP hD hS ls hl
                refine lv_iload hx hb d_M_score_92 (lv_at hl 4 rfl) ?_
                refine lv_bipush (v := 6) hx hb d_M_score_94 (by decide) ?_
                refine lv_aload_n hx hb d_M_score_96 rfl (lv_at hl 0 rfl) ?_
                refine va_get (D := D) (ci := 1) (v := .int (ii 13)) (C := R_M) (T := T_M) (N := 26) hx hb (uw_M Z.1 hg.1) (fun _ h => h) hown hK hP 0 rfl rfl 13 (by decide) (kw617 Z.1 _ _ hg.1) (fun _ h9 => h9) rfl d_M_score_97 ?_
                refine lv_topi (fun z14 ez14 => ?_)
                obtain rfl : z14 = (nI dn.length) := by rw [ez14]; exact hdn.1
                refine lv_imul hx hb d_M_score_100 ?_
                refine lv_topi (fun z15 ez15 => ?_)
                obtain rfl : z15 = (nI (6 * dn.length)) := by rw [ez15]; exact pk_mul 6 _
                refine lv_icmp_ge (tgt := 164) hx hb d_M_score_101 (by decide) (fun c16 => ?_) (fun c16 => ?_)
                · obtain rfl : c1 = dn.length := by have := (nI_leI (by omega) (by omega)).mp c16; omega
                  refine lv_iload_n hx hb d_M_score_164 rfl (lv_at hl 1 rfl) ?_
                  refine lv_if_ne (tgt := 172) hx hb d_M_score_165 (by decide) (fun k17 => by first | exact absurd (show v = 0 from hv0) k17 | exact absurd k17 (show v = 0 from hv0)) (fun _ => ?_)
                  refine lv_lload_n hx hb d_M_score_168 rfl (lv_at hl 2 rfl) ?_
                  refine lv_goto (tgt := 174) hx hb d_M_score_169 (by decide) ?_
                  exact w_lret hx hb hr hlk hP hD hS ((va_up ii 0 0), li, ia, la) rfl (Or.inl ⟨kk, 0, hkk, hkq, by decide, hv0, fun j hj => hall j (by omega), by rw [if_pos rfl, ← hyq], rfl⟩) d_M_score_174
                · have hcl : c1 < dn.length := Nat.lt_of_not_le (fun y => c16 ((nI_leI (by omega) (by omega)).mpr (by omega)))
                  have hyc := hyb c1 hcl
                  obtain ⟨y1, hy1⟩ : ∃ z, z = cpk (dn.getD c1 cp0) 2 := ⟨_, rfl⟩
                  obtain ⟨h, hhq⟩ : ∃ z, z = cpk (dn.getD c1 cp0) 5 := ⟨_, rfl⟩
                  rw [← hy1, ← hhq] at hyc
                  refine lv_lload hx hb d_M_score_104 (lv_at hl 3 rfl) ?_
                  refine lv_aload_n hx hb d_M_score_106 rfl (lv_at hl 0 rfl) ?_
                  refine va_get (D := D) (ci := 1) (v := .ref (a 15)) (C := R_M) (T := T_M) (N := 26) hx hb (uw_M Z.1 hg.1) (fun _ h => h) hown hK hP 0 rfl rfl 14 (by decide) (kw618 Z.1 _ _ hg.1) (fun _ h9 => h9) rfl d_M_score_107 ?_
                  refine lv_iload hx hb d_M_score_110 (lv_at hl 4 rfl) ?_
                  refine lv_iconst (v := 2) hx hb d_M_score_112 (by decide) ?_
                  refine lv_iadd hx hb d_M_score_113 ?_
                  refine lv_topi (fun z18 ez18 => ?_)
                  obtain rfl : z18 = (nI (6 * c1 + 2)) := by rw [ez18]; exact nI_add _ 2
                  refine va_lald hx hb hK hP 8 1 rfl rfl (vp_in_nI (n := 6 * c1 + 2) (N := 1200) (by omega) (by decide)) d_M_score_114 ?_
                  refine lv_topl (fun z19 ez19 => ?_)
                  rw [nI_clamp (n := (6 * c1 + 2)) (by omega)] at ez19
                  obtain rfl : z19 = ((la 14) (6 * c1 + 2)) := ez19
                  refine lv_topl (fun z20 ez20 => ?_)
                  obtain rfl : z20 = (lZ (y1 : Int)) := by rw [ez20]; rw [lZ_nat, hy1]; exact hdn.2 c1 hcl 2 (by decide)
                  refine lv_lload_n hx hb d_M_score_115 rfl (lv_at hl 2 rfl) ?_
                  have jn21 : ∀ vv : Int64, vv = (lN (if (y1 : Int) = y then 1 else 0)) → W p l e ({ frames := 1, cells := 0, slots := 0, locals := 40 }) s m ([.ref (a 0), .int k, .int v] : List Value).toArray below meth c H locs 0 0 (MQ below (va_Ql (fun (r : Int64) (u : St) => (∃ kk wh, kk < 2 ^ 31 ∧ k = nI kk ∧ wh < 2 ∧ v = nI wh ∧ (∀ j, j ≤ kk → 0 ≤ itS dn (j + 1)) ∧ r = (if wh = 0 then lZ (itS dn (kk + 1)) else lN (scN dn (itS dn (kk + 1)) dn.length)) ∧ u = (va_up ii 0 0, li, ia, la)) ∨ (¬ (∃ kk wh, kk < 2 ^ 31 ∧ k = nI kk ∧ wh < 2 ∧ v = nI wh ∧ (∀ j, j ≤ kk → 0 ≤ itS dn (j + 1))) ∧ u = (va_up ii 0 1, li, ia, la))) (wB D (va_A (w_M a cA ii li ia la) s.heap.size) (fun (u : St) => w_M a cA u.1 u.2.1 u.2.2.1 u.2.2.2)) (va_A (w_M a cA ii li ia la) s.heap.size)) ([.ref (a 0), .int k, .int v] : List Value).toArray s 0 0 (va_A (w_M a cA ii li ia la) s.heap.size)) (F0 m 125 ls (.long vv :: [.long (lN n)])) := by
                    intro vv hvv
                    subst hvv
                    refine lv_aload_n hx hb d_M_score_125 rfl (lv_at hl 0 rfl) ?_
                    refine va_get (D := D) (ci := 1) (v := .ref (a 15)) (C := R_M) (T := T_M) (N := 26) hx hb (uw_M Z.1 hg.1) (fun _ h => h) hown hK hP 0 rfl rfl 14 (by decide) (kw618 Z.1 _ _ hg.1) (fun _ h9 => h9) rfl d_M_score_126 ?_
                    refine lv_iload hx hb d_M_score_129 (lv_at hl 4 rfl) ?_
                    refine lv_iconst (v := 2) hx hb d_M_score_131 (by decide) ?_
                    refine lv_iadd hx hb d_M_score_132 ?_
                    refine lv_topi (fun z22 ez22 => ?_)
                    obtain rfl : z22 = (nI (6 * c1 + 2)) := by rw [ez22]; exact nI_add _ 2
                    refine va_lald hx hb hK hP 8 1 rfl rfl (vp_in_nI (n := 6 * c1 + 2) (N := 1200) (by omega) (by decide)) d_M_score_133 ?_
                    refine lv_topl (fun z23 ez23 => ?_)
                    rw [nI_clamp (n := (6 * c1 + 2)) (by omega)] at ez23
                    obtain rfl : z23 = ((la 14) (6 * c1 + 2)) := ez23
                    refine lv_topl (fun z24 ez24 => ?_)
                    obtain rfl : z24 = (lZ (y1 : Int)) := by rw [ez24]; rw [lZ_nat, hy1]; exact hdn.2 c1 hcl 2 (by decide)
                    refine lv_aload_n hx hb d_M_score_134 rfl (lv_at hl 0 rfl) ?_
                    refine va_get (D := D) (ci := 1) (v := .ref (a 15)) (C := R_M) (T := T_M) (N := 26) hx hb (uw_M Z.1 hg.1) (fun _ h => h) hown hK hP 0 rfl rfl 14 (by decide) (kw618 Z.1 _ _ hg.1) (fun _ h9 => h9) rfl d_M_score_135 ?_
                    refine lv_iload hx hb d_M_score_138 (lv_at hl 4 rfl) ?_
                    refine lv_iconst (v := 5) hx hb d_M_score_140 (by decide) ?_
                    refine lv_iadd hx hb d_M_score_141 ?_
                    refine lv_topi (fun z25 ez25 => ?_)
                    obtain rfl : z25 = (nI (6 * c1 + 5)) := by rw [ez25]; exact nI_add _ 5
                    refine va_lald hx hb hK hP 8 1 rfl rfl (vp_in_nI (n := 6 * c1 + 5) (N := 1200) (by omega) (by decide)) d_M_score_142 ?_
                    refine lv_topl (fun z26 ez26 => ?_)
                    rw [nI_clamp (n := (6 * c1 + 5)) (by omega)] at ez26
                    obtain rfl : z26 = ((la 14) (6 * c1 + 5)) := ez26
                    refine lv_topl (fun z27 ez27 => ?_)
                    obtain rfl : z27 = (lN h) := by rw [ez27]; rw [hhq]; exact hdn.2 c1 hcl 5 (by decide)
                    refine lv_ladd hx hb d_M_score_143 ?_
                    refine lv_topl (fun z28 ez28 => ?_)
                    obtain rfl : z28 = (lZ ((y1 + h : Nat) : Int)) := by rw [ez28]; rw [← lZ_nat, lZ_add]; rfl
                    refine lv_lload_n hx hb d_M_score_144 rfl (lv_at hl 2 rfl) ?_
                    have jn29 : ∀ vv : Int64, vv = (lN (if ((y1 + h : Nat) : Int) = y then 1 else 0)) → W p l e ({ frames := 1, cells := 0, slots := 0, locals := 40 }) s m ([.ref (a 0), .int k, .int v] : List Value).toArray below meth c H locs 0 0 (MQ below (va_Ql (fun (r : Int64) (u : St) => (∃ kk wh, kk < 2 ^ 31 ∧ k = nI kk ∧ wh < 2 ∧ v = nI wh ∧ (∀ j, j ≤ kk → 0 ≤ itS dn (j + 1)) ∧ r = (if wh = 0 then lZ (itS dn (kk + 1)) else lN (scN dn (itS dn (kk + 1)) dn.length)) ∧ u = (va_up ii 0 0, li, ia, la)) ∨ (¬ (∃ kk wh, kk < 2 ^ 31 ∧ k = nI kk ∧ wh < 2 ∧ v = nI wh ∧ (∀ j, j ≤ kk → 0 ≤ itS dn (j + 1))) ∧ u = (va_up ii 0 1, li, ia, la))) (wB D (va_A (w_M a cA ii li ia la) s.heap.size) (fun (u : St) => w_M a cA u.1 u.2.1 u.2.2.1 u.2.2.2)) (va_A (w_M a cA ii li ia la) s.heap.size)) ([.ref (a 0), .int k, .int v] : List Value).toArray s 0 0 (va_A (w_M a cA ii li ia la) s.heap.size)) (F0 m 154 ls (.long vv :: [.long (lN (if (y1 : Int) = y then 1 else 0)), .long (lN n)])) := by
                      intro vv hvv
                      subst hvv
                      refine lv_ladd hx hb d_M_score_154 ?_
                      refine lv_topl (fun z30 ez30 => ?_)
                      obtain rfl : z30 = (lN ((if (y1 : Int) = y then 1 else 0) + (if ((y1 + h : Nat) : Int) = y then 1 else 0))) := by rw [ez30]; exact lN_add _ _
                      refine lv_ladd hx hb d_M_score_155 ?_
                      refine lv_topl (fun z31 ez31 => ?_)
                      obtain rfl : z31 = (lN (n + ((if (y1 : Int) = y then 1 else 0) + (if ((y1 + h : Nat) : Int) = y then 1 else 0)))) := by rw [ez31]; exact lN_add _ _
                      refine lv_lstore (lv' := [(6, .long (lN (n + ((if (y1 : Int) = y then 1 else 0) + (if ((y1 + h : Nat) : Int) = y then 1 else 0))))), (0, .ref (a 0)), (2, .int v), (3, .long (lZ y)), (8, .int (nI (6 * c1)))]) hx hb d_M_score_156 hl (by decide) rfl (fun ls hl => ?_)
                      obtain ⟨v32, ev32⟩ : ∃ y : Int32, y = (nI (6 * c1)) + 6 := ⟨_, rfl⟩
                      refine lv_iinc (v := v32) (lv' := [(8, .int v32), (6, .long (lN (n + ((if (y1 : Int) = y then 1 else 0) + (if ((y1 + h : Nat) : Int) = y then 1 else 0))))), (0, .ref (a 0)), (2, .int v), (3, .long (lZ y))]) hx hb d_M_score_158 hl (k := 4) rfl (by rw [ev32]; rfl) (by decide) rfl (fun ls hl => ?_)
                      refine lv_goto (tgt := 92) hx hb d_M_score_161 (by decide) ?_
                      obtain rfl : v32 = nI (6 * (c1 + 1)) := by rw [ev32]; exact nI_add (6 * c1) 6
                      exact ih (c1 + 1) _ (by omega) hcl (by unfold scN; rw [sm, ← hy1, ← hhq, hn]; rfl) _ _ hP hD hS ls (lv_sub hl [2, 3, 4, 1, 0] rfl)
                    refine W.lcmp hx hb d_M_score_145 ?_
                    refine lv_if_ne (tgt := 153) hx hb d_M_score_146 (by decide) (fun g33 => ?_) (fun g33 => ?_)
                    · refine lv_lconst (v := 0) hx hb d_M_score_153 (by decide) ?_
                      exact jn29 _ (by rw [if_neg (fun z => g33 ((lg_cmp_eq _ _).mpr (by rw [z])))]; rfl)
                    · refine lv_lconst (v := 1) hx hb d_M_score_149 (by decide) ?_
                      refine lv_goto (tgt := 154) hx hb d_M_score_150 (by decide) ?_
                      exact jn29 _ (by rw [if_pos ((lZ_eq (by omega) (by omega) (by omega) (by omega)).mp ((lg_cmp_eq _ _).mp g33))]; rfl)
                  refine W.lcmp hx hb d_M_score_116 ?_
                  refine lv_if_ne (tgt := 124) hx hb d_M_score_117 (by decide) (fun e34 => ?_) (fun e34 => ?_)
                  · refine lv_lconst (v := 0) hx hb d_M_score_124 (by decide) ?_
                    exact jn21 _ (by rw [if_neg (fun z => e34 ((lg_cmp_eq _ _).mpr (by rw [z])))]; rfl)
                  · refine lv_lconst (v := 1) hx hb d_M_score_120 (by decide) ?_
                    refine lv_goto (tgt := 125) hx hb d_M_score_121 (by decide) ?_
                    exact jn21 _ (by rw [if_pos ((lZ_eq (by omega) (by omega) (by omega) (by omega)).mp ((lg_cmp_eq _ _).mp e34))]; rfl)
            exact cl (dn.length + 1) 0 0 (by omega) (Nat.zero_le _) rfl _ _ hP hD hS ls (lv_sub hl [2, 4, 5, 1, 0] rfl)
          · refine lv_iload_n hx hb d_M_score_64 rfl (lv_at hl 2 rfl) ?_
            refine lv_iconst (v := 1) hx hb d_M_score_65 (by decide) ?_
            refine lv_icmp_ne (tgt := 73) hx hb d_M_score_66 (by decide) (fun w35 => ?_) (fun w35 => ?_)
            · refine lv_iconst (v := 1) hx hb d_M_score_73 (by decide) ?_
              refine va_put (D := D) (ci := 1) (v := .int 1) (ty := t_M 0) (C := R_M) (T := T_M) (N := 26) hx hb (uw_M Z.1 hg.1) (fun _ h => h) t_M t_M_ok n_M hown hK hP hD hS 0 rfl rfl 0 (by decide) (kw604 Z.1 _ _ hg.1) (fun _ h9 => h9) rfl (by decide +kernel) rfl rfl (Nat.le_of_ble_eq_true rfl) d_M_score_74 (fun H locs hP hD hS => ?_)
              have hP : va_P D ncl (w_M a cA (va_up ii 0 1) li ia la) H := hP
              have hD : va_D _ (w_M a cA (va_up ii 0 1) li ia la) := hD
              refine lv_aload_n hx hb d_M_score_77 rfl (lv_at hl 0 rfl) ?_
              refine va_get (D := D) (ci := 1) (v := .int 1) (C := R_M) (T := T_M) (N := 26) hx hb (uw_M Z.1 hg.1) (fun _ h => h) hown hK hP 0 rfl rfl 0 (by decide) (kw604 Z.1 _ _ hg.1) (fun _ h9 => h9) rfl d_M_score_78 ?_
              refine lv_if_eq (tgt := 86) hx hb d_M_score_81 (by decide) (fun k60 => by first | exact absurd (show ¬ (1 : Int32) = 0 by decide) k60 | exact absurd k60 (show ¬ (1 : Int32) = 0 by decide)) (fun _ => ?_)
              refine lv_lconst (v := 0) hx hb d_M_score_84 (by decide) ?_
              exact w_lret hx hb hr hlk hP hD hS ((va_up ii 0 1), li, ia, la) rfl (Or.inr ⟨fun z => by obtain ⟨k2, wh, z1, z2, z3, z4, z5⟩ := z; rcases (by omega : wh = 0 ∨ wh = 1) with y | y; exact w10 (by rw [z4, y]; rfl); exact w35 (by rw [z4, y]; rfl), rfl⟩) d_M_score_85
            · have hv0 : v = nI 1 := w35
              refine lv_iconst (v := 0) hx hb d_M_score_69 (by decide) ?_
              refine lv_goto (tgt := 74) hx hb d_M_score_70 (by decide) ?_
              refine va_put (D := D) (ci := 1) (v := .int 0) (ty := t_M 0) (C := R_M) (T := T_M) (N := 26) hx hb (uw_M Z.1 hg.1) (fun _ h => h) t_M t_M_ok n_M hown hK hP hD hS 0 rfl rfl 0 (by decide) (kw604 Z.1 _ _ hg.1) (fun _ h9 => h9) rfl (by decide +kernel) rfl rfl (Nat.le_of_ble_eq_true rfl) d_M_score_74 (fun H locs hP hD hS => ?_)
              have hP : va_P D ncl (w_M a cA (va_up ii 0 0) li ia la) H := hP
              have hD : va_D _ (w_M a cA (va_up ii 0 0) li ia la) := hD
              refine lv_aload_n hx hb d_M_score_77 rfl (lv_at hl 0 rfl) ?_
              refine va_get (D := D) (ci := 1) (v := .int 0) (C := R_M) (T := T_M) (N := 26) hx hb (uw_M Z.1 hg.1) (fun _ h => h) hown hK hP 0 rfl rfl 0 (by decide) (kw604 Z.1 _ _ hg.1) (fun _ h9 => h9) rfl d_M_score_78 ?_
              refine lv_if_eq (tgt := 86) hx hb d_M_score_81 (by decide) (fun _ => ?_) (fun k36 => by first | exact absurd (show (0 : Int32) = 0 from rfl) k36 | exact absurd k36 (show (0 : Int32) = 0 from rfl))
              refine lv_lconst (v := 0) hx hb d_M_score_86 (by decide) ?_
              refine lv_topl (fun z37 ez37 => ?_)
              obtain rfl : z37 = (lN (scN dn y 0)) := by rw [ez37]; rfl
              refine lv_lstore (lv' := [(6, .long (lN (scN dn y 0))), (0, .ref (a 0)), (1, .int (nI kk)), (2, .int v), (3, .long (lZ y)), (5, .int 1)]) hx hb d_M_score_87 hl (by decide) rfl (fun ls hl => ?_)
              refine lv_iconst (v := 0) hx hb d_M_score_89 (by decide) ?_
              refine lv_topi (fun z38 ez38 => ?_)
              obtain rfl : z38 = (nI (6 * 0)) := by rw [ez38]; rfl
              refine lv_istore (lv' := [(8, .int (nI (6 * 0))), (6, .long (lN (scN dn y 0))), (0, .ref (a 0)), (1, .int (nI kk)), (2, .int v), (3, .long (lZ y)), (5, .int 1)]) hx hb d_M_score_90 hl (by decide) rfl (fun ls hl => ?_)
              have cl : ∀ (f : Nat) (c1 n : Nat), dn.length - c1 < f → c1 ≤ dn.length → n = scN dn y c1 → ∀ (H : Heap) (locs : List Loc), va_P D ncl (w_M a cA (va_up ii 0 0) li ia la) H → va_D (va_A (w_M a cA ii li ia la) s.heap.size) (w_M a cA (va_up ii 0 0) li ia la) → va_S (va_A (w_M a cA ii li ia la) s.heap.size) s.heap H locs → ∀ (ls : Array Slot), lv_has ls 9 [(0, .ref (a 0)), (2, .int v), (3, .long (lZ y)), (6, .long (lN n)), (8, .int (nI (6 * c1)))] → W p l e ({ frames := 1, cells := 0, slots := 0, locals := 40 }) s m ([.ref (a 0), .int k, .int v] : List Value).toArray below meth c H locs 0 0 (MQ below (va_Ql (fun (r : Int64) (u : St) => (∃ kk wh, kk < 2 ^ 31 ∧ k = nI kk ∧ wh < 2 ∧ v = nI wh ∧ (∀ j, j ≤ kk → 0 ≤ itS dn (j + 1)) ∧ r = (if wh = 0 then lZ (itS dn (kk + 1)) else lN (scN dn (itS dn (kk + 1)) dn.length)) ∧ u = (va_up ii 0 0, li, ia, la)) ∨ (¬ (∃ kk wh, kk < 2 ^ 31 ∧ k = nI kk ∧ wh < 2 ∧ v = nI wh ∧ (∀ j, j ≤ kk → 0 ≤ itS dn (j + 1))) ∧ u = (va_up ii 0 1, li, ia, la))) (wB D (va_A (w_M a cA ii li ia la) s.heap.size) (fun (u : St) => w_M a cA u.1 u.2.1 u.2.2.1 u.2.2.2)) (va_A (w_M a cA ii li ia la) s.heap.size)) ([.ref (a 0), .int k, .int v] : List Value).toArray s 0 0 (va_A (w_M a cA ii li ia la) s.heap.size)) (F0 m 92 ls []) := by
                intro f
                induction f with
                | zero => intro c1 n h; exact absurd h (Nat.not_lt_zero _)
                | succ f ih =>
                  intro c1 n hf hc1 hn H locs hP hD hS ls hl
                  refine lv_iload hx hb d_M_score_92 (lv_at hl 4 rfl) ?_
                  refine lv_bipush (v := 6) hx hb d_M_score_94 (by decide) ?_
                  refine lv_aload_n hx hb d_M_score_96 rfl (lv_at hl 0 rfl) ?_
                  refine va_get (D := D) (ci := 1) (v := .int (ii 13)) (C := R_M) (T := T_M) (N := 26) hx hb (uw_M Z.1 hg.1) (fun _ h => h) hown hK hP 0 rfl rfl 13 (by decide) (kw617 Z.1 _ _ hg.1) (fun _ h9 => h9) rfl d_M_score_97 ?_
                  refine lv_topi (fun z39 ez39 => ?_)
                  obtain rfl : z39 = (nI dn.length) := by rw [ez39]; exact hdn.1
                  refine lv_imul hx hb d_M_score_100 ?_
                  refine lv_topi (fun z40 ez40 => ?_)
                  obtain rfl : z40 = (nI (6 * dn.length)) := by rw [ez40]; exact pk_mul 6 _
                  refine lv_icmp_ge (tgt := 164) hx hb d_M_score_101 (by decide) (fun c41 => ?_) (fun c41 => ?_)
                  · obtain rfl : c1 = dn.length := by have := (nI_leI (by omega) (by omega)).mp c41; omega
                    refine lv_iload_n hx hb d_M_score_164 rfl (lv_at hl 1 rfl) ?_
                    refine lv_if_ne (tgt := 172) hx hb d_M_score_165 (by decide) (fun _ => ?_) (fun k42 => by first | exact absurd (show ¬ v = 0 from fun z => absurd (hv0.symm.trans z) (by decide)) k42 | exact absurd k42 (show ¬ v = 0 from fun z => absurd (hv0.symm.trans z) (by decide)))
                    refine lv_lload hx hb d_M_score_172 (lv_at hl 3 rfl) ?_
                    exact w_lret hx hb hr hlk hP hD hS ((va_up ii 0 0), li, ia, la) rfl (Or.inl ⟨kk, 1, hkk, hkq, by decide, hv0, fun j hj => hall j (by omega), by rw [if_neg (by decide), ← hyq, hn], rfl⟩) d_M_score_174
                  · have hcl : c1 < dn.length := Nat.lt_of_not_le (fun y => c41 ((nI_leI (by omega) (by omega)).mpr (by omega)))
                    have hyc := hyb c1 hcl
                    obtain ⟨y1, hy1⟩ : ∃ z, z = cpk (dn.getD c1 cp0) 2 := ⟨_, rfl⟩
                    obtain ⟨h, hhq⟩ : ∃ z, z = cpk (dn.getD c1 cp0) 5 := ⟨_, rfl⟩
                    rw [← hy1, ← hhq] at hyc
                    refine lv_lload hx hb d_M_score_104 (lv_at hl 3 rfl) ?_
                    refine lv_aload_n hx hb d_M_score_106 rfl (lv_at hl 0 rfl) ?_
                    refine va_get (D := D) (ci := 1) (v := .ref (a 15)) (C := R_M) (T := T_M) (N := 26) hx hb (uw_M Z.1 hg.1) (fun _ h => h) hown hK hP 0 rfl rfl 14 (by decide) (kw618 Z.1 _ _ hg.1) (fun _ h9 => h9) rfl d_M_score_107 ?_
                    refine lv_iload hx hb d_M_score_110 (lv_at hl 4 rfl) ?_
                    refine lv_iconst (v := 2) hx hb d_M_score_112 (by decide) ?_
                    refine lv_iadd hx hb d_M_score_113 ?_
                    refine lv_topi (fun z43 ez43 => ?_)
                    obtain rfl : z43 = (nI (6 * c1 + 2)) := by rw [ez43]; exact nI_add _ 2
                    refine va_lald hx hb hK hP 8 1 rfl rfl (vp_in_nI (n := 6 * c1 + 2) (N := 1200) (by omega) (by decide)) d_M_score_114 ?_
                    refine lv_topl (fun z44 ez44 => ?_)
                    rw [nI_clamp (n := (6 * c1 + 2)) (by omega)] at ez44
                    obtain rfl : z44 = ((la 14) (6 * c1 + 2)) := ez44
                    refine lv_topl (fun z45 ez45 => ?_)
                    obtain rfl : z45 = (lZ (y1 : Int)) := by rw [ez45]; rw [lZ_nat, hy1]; exact hdn.2 c1 hcl 2 (by decide)
                    refine lv_lload_n hx hb d_M_score_115 rfl (lv_at hl 2 rfl) ?_
                    have jn46 : ∀ vv : Int64, vv = (lN (if (y1 : Int) = y then 1 else 0)) → W p l e ({ frames := 1, cells := 0, slots := 0, locals := 40 }) s m ([.ref (a 0), .int k, .int v] : List Value).toArray below meth c H locs 0 0 (MQ below (va_Ql (fun (r : Int64) (u : St) => (∃ kk wh, kk < 2 ^ 31 ∧ k = nI kk ∧ wh < 2 ∧ v = nI wh ∧ (∀ j, j ≤ kk → 0 ≤ itS dn (j + 1)) ∧ r = (if wh = 0 then lZ (itS dn (kk + 1)) else lN (scN dn (itS dn (kk + 1)) dn.length)) ∧ u = (va_up ii 0 0, li, ia, la)) ∨ (¬ (∃ kk wh, kk < 2 ^ 31 ∧ k = nI kk ∧ wh < 2 ∧ v = nI wh ∧ (∀ j, j ≤ kk → 0 ≤ itS dn (j + 1))) ∧ u = (va_up ii 0 1, li, ia, la))) (wB D (va_A (w_M a cA ii li ia la) s.heap.size) (fun (u : St) => w_M a cA u.1 u.2.1 u.2.2.1 u.2.2.2)) (va_A (w_M a cA ii li ia la) s.heap.size)) ([.ref (a 0), .int k, .int v] : List Value).toArray s 0 0 (va_A (w_M a cA ii li ia la) s.heap.size)) (F0 m 125 ls (.long vv :: [.long (lN n)])) := by
                      intro vv hvv
                      subst hvv
                      refine lv_aload_n hx hb d_M_score_125 rfl (lv_at hl 0 rfl) ?_
                      refine va_get (D := D) (ci := 1) (v := .ref (a 15)) (C := R_M) (T := T_M) (N := 26) hx hb (uw_M Z.1 hg.1) (fun _ h => h) hown hK hP 0 rfl rfl 14 (by decide) (kw618 Z.1 _ _ hg.1) (fun _ h9 => h9) rfl d_M_score_126 ?_
                      refine lv_iload hx hb d_M_score_129 (lv_at hl 4 rfl) ?_
                      refine lv_iconst (v := 2) hx hb d_M_score_131 (by decide) ?_
                      refine lv_iadd hx hb d_M_score_132 ?_
                      refine lv_topi (fun z47 ez47 => ?_)
                      obtain rfl : z47 = (nI (6 * c1 + 2)) := by rw [ez47]; exact nI_add _ 2
                      refine va_lald hx hb hK hP 8 1 rfl rfl (vp_in_nI (n := 6 * c1 + 2) (N := 1200) (by omega) (by decide)) d_M_score_133 ?_
                      refine lv_topl (fun z48 ez48 => ?_)
                      rw [nI_clamp (n := (6 * c1 + 2)) (by omega)] at ez48
                      obtain rfl : z48 = ((la 14) (6 * c1 + 2)) := ez48
                      refine lv_topl (fun z49 ez49 => ?_)
                      obtain rfl : z49 = (lZ (y1 : Int)) := by rw [ez49]; rw [lZ_nat, hy1]; exact hdn.2 c1 hcl 2 (by decide)
                      refine lv_aload_n hx hb d_M_score_134 rfl (lv_at hl 0 rfl) ?_
                      refine va_get (D := D) (ci := 1) (v := .ref (a 15)) (C := R_M) (T := T_M) (N := 26) hx hb (uw_M Z.1 hg.1) (fun _ h => h) hown hK hP 0 rfl rfl 14 (by decide) (kw618 Z.1 _ _ hg.1) (fun _ h9 => h9) rfl d_M_score_135 ?_
                      refine lv_iload hx hb d_M_score_138 (lv_at hl 4 rfl) ?_
                      refine lv_iconst (v := 5) hx hb d_M_score_140 (by decide) ?_
                      refine lv_iadd hx hb d_M_score_141 ?_
                      refine lv_topi (fun z50 ez50 => ?_)
                      obtain rfl : z50 = (nI (6 * c1 + 5)) := by rw [ez50]; exact nI_add _ 5
                      refine va_lald hx hb hK hP 8 1 rfl rfl (vp_in_nI (n := 6 * c1 + 5) (N := 1200) (by omega) (by decide)) d_M_score_142 ?_
                      refine lv_topl (fun z51 ez51 => ?_)
                      rw [nI_clamp (n := (6 * c1 + 5)) (by omega)] at ez51
                      obtain rfl : z51 = ((la 14) (6 * c1 + 5)) := ez51
                      refine lv_topl (fun z52 ez52 => ?_)
                      obtain rfl : z52 = (lN h) := by rw [ez52]; rw [hhq]; exact hdn.2 c1 hcl 5 (by decide)
                      refine lv_ladd hx hb d_M_score_143 ?_
                      refine lv_topl (fun z53 ez53 => ?_)
                      obtain rfl : z53 = (lZ ((y1 + h : Nat) : Int)) := by rw [ez53]; rw [← lZ_nat, lZ_add]; rfl
                      refine lv_lload_n hx hb d_M_score_144 rfl (lv_at hl 2 rfl) ?_
                      have jn54 : ∀ vv : Int64, vv = (lN (if ((y1 + h : Nat) : Int) = y then 1 else 0)) → W p l e ({ frames := 1, cells := 0, slots := 0, locals := 40 }) s m ([.ref (a 0), .int k, .int v] : List Value).toArray below meth c H locs 0 0 (MQ below (va_Ql (fun (r : Int64) (u : St) => (∃ kk wh, kk < 2 ^ 31 ∧ k = nI kk ∧ wh < 2 ∧ v = nI wh ∧ (∀ j, j ≤ kk → 0 ≤ itS dn (j + 1)) ∧ r = (if wh = 0 then lZ (itS dn (kk + 1)) else lN (scN dn (itS dn (kk + 1)) dn.length)) ∧ u = (va_up ii 0 0, li, ia, la)) ∨ (¬ (∃ kk wh, kk < 2 ^ 31 ∧ k = nI kk ∧ wh < 2 ∧ v = nI wh ∧ (∀ j, j ≤ kk → 0 ≤ itS dn (j + 1))) ∧ u = (va_up ii 0 1, li, ia, la))) (wB D (va_A (w_M a cA ii li ia la) s.heap.size) (fun (u : St) => w_M a cA u.1 u.2.1 u.2.2.1 u.2.2.2)) (va_A (w_M a cA ii li ia la) s.heap.size)) ([.ref (a 0), .int k, .int v] : List Value).toArray s 0 0 (va_A (w_M a cA ii li ia la) s.heap.size)) (F0 m 154 ls (.long vv :: [.long (lN (if (y1 : Int) = y then 1 else 0)), .long (lN n)])) := by
                        intro vv hvv
                        subst hvv
                        refine lv_ladd hx hb d_M_score_154 ?_
                        refine lv_topl (fun z55 ez55 => ?_)
                        obtain rfl : z55 = (lN ((if (y1 : Int) = y then 1 else 0) + (if ((y1 + h : Nat) : Int) = y then 1 else 0))) := by rw [ez55]; exact lN_add _ _
                        refine lv_ladd hx hb d_M_score_155 ?_
                        refine lv_topl (fun z56 ez56 => ?_)
                        obtain rfl : z56 = (lN (n + ((if (y1 : Int) = y then 1 else 0) + (if ((y1 + h : Nat) : Int) = y then 1 else 0)))) := by rw [ez56]; exact lN_add _ _
                        refine lv_lstore (lv' := [(6, .long (lN (n + ((if (y1 : Int) = y then 1 else 0) + (if ((y1 + h : Nat) : Int) = y then 1 else 0))))), (0, .ref (a 0)), (2, .int v), (3, .long (lZ y)), (8, .int (nI (6 * c1)))]) hx hb d_M_score_156 hl (by decide) rfl (fun ls hl => ?_)
                        obtain ⟨v57, ev57⟩ : ∃ y : Int32, y = (nI (6 * c1)) + 6 := ⟨_, rfl⟩
                        refine lv_iinc (v := v57) (lv' := [(8, .int v57), (6, .long (lN (n + ((if (y1 : Int) = y then 1 else 0) + (if ((y1 + h : Nat) : Int) = y then 1 else 0))))), (0, .ref (a 0)), (2, .int v), (3, .long (lZ y))]) hx hb d_M_score_158 hl (k := 4) rfl (by rw [ev57]; rfl) (by decide) rfl (fun ls hl => ?_)
                        refine lv_goto (tgt := 92) hx hb d_M_score_161 (by decide) ?_
                        obtain rfl : v57 = nI (6 * (c1 + 1)) := by rw [ev57]; exact nI_add (6 * c1) 6
                        exact ih (c1 + 1) _ (by omega) hcl (by unfold scN; rw [sm, ← hy1, ← hhq, hn]; rfl) _ _ hP hD hS ls (lv_sub hl [2, 3, 4, 1, 0] rfl)
                      refine W.lcmp hx hb d_M_score_145 ?_
                      refine lv_if_ne (tgt := 153) hx hb d_M_score_146 (by decide) (fun g58 => ?_) (fun g58 => ?_)
                      · refine lv_lconst (v := 0) hx hb d_M_score_153 (by decide) ?_
                        exact jn54 _ (by rw [if_neg (fun z => g58 ((lg_cmp_eq _ _).mpr (by rw [z])))]; rfl)
                      · refine lv_lconst (v := 1) hx hb d_M_score_149 (by decide) ?_
                        refine lv_goto (tgt := 154) hx hb d_M_score_150 (by decide) ?_
                        exact jn54 _ (by rw [if_pos ((lZ_eq (by omega) (by omega) (by omega) (by omega)).mp ((lg_cmp_eq _ _).mp g58))]; rfl)
                    refine W.lcmp hx hb d_M_score_116 ?_
                    refine lv_if_ne (tgt := 124) hx hb d_M_score_117 (by decide) (fun e59 => ?_) (fun e59 => ?_)
                    · refine lv_lconst (v := 0) hx hb d_M_score_124 (by decide) ?_
                      exact jn46 _ (by rw [if_neg (fun z => e59 ((lg_cmp_eq _ _).mpr (by rw [z])))]; rfl)
                    · refine lv_lconst (v := 1) hx hb d_M_score_120 (by decide) ?_
                      refine lv_goto (tgt := 125) hx hb d_M_score_121 (by decide) ?_
                      exact jn46 _ (by rw [if_pos ((lZ_eq (by omega) (by omega) (by omega) (by omega)).mp ((lg_cmp_eq _ _).mp e59))]; rfl)
              exact cl (dn.length + 1) 0 0 (by omega) (Nat.zero_le _) rfl _ _ hP hD hS ls (lv_sub hl [2, 4, 5, 1, 0] rfl)
        · have hik : i ≤ kk := Nat.le_of_not_lt (fun z => d8 ((nI_ltI (by omega) (by omega)).mpr z))
          refine lv_iload hx hb d_M_score_24 (lv_at hl 4 rfl) ?_
          refine lv_if_eq (tgt := 54) hx hb d_M_score_26 (by decide) (fun k61 => by first | exact absurd (show ¬ (1 : Int32) = 0 by decide) k61 | exact absurd k61 (show ¬ (1 : Int32) = 0 by decide)) (fun _ => ?_)
          refine lv_aload_n hx hb d_M_score_29 rfl (lv_at hl 0 rfl) ?_
          refine lv_lload_n hx hb d_M_score_30 rfl (lv_at hl 3 rfl) ?_
          refine w_calll (wr := ([] : va_W)) (w_runV (rest := []) hx hb hml hown hl.1 hg hlo hK hP hD hS (m_M_nextScore Z a ii li ia la (itS dn i) dn hdn hdl hyb hib.1 hib.2 H.size) (kw802 Z.1) (kw804 Z.1) (kp_M_nextScore Z.1) (kw805 Z.1) (kw6 Z.1) ⟨by decide, by decide, (by decide +kernel : (parseMethodDescriptor y_M_nextScore.desc).map (fun d => d.parameters.length) = some 1)⟩ ⟨Nat.le_of_ble_eq_true rfl, Nat.le_of_ble_eq_true rfl⟩ [0, 1, 2, 3, 4, 5, 6, 7, 8, 9, 10, 11, 12, 13, 14, 15, 16] rfl rfl (ci := 1) (q0 := 0) rfl rfl rfl (Nat.le_of_ble_eq_true rfl) d_M_score_31 ⟨Nat.le_of_ble_eq_true rfl, Nat.le_of_ble_eq_true rfl⟩) hP hD hS hA [0, 1, 2, 3, 4, 5, 6, 7, 8, 9, 10, 11, 12, 13, 14, 15, 16] [] rfl rfl rfl (by decide) (fun _ => w_M a cA ii li ia la) [0, 1, 2, 3, 4, 5, 6, 7, 8, 9, 10, 11, 12, 13, 14, 15, 16] rfl (fun _ => rfl) (fun r1 u H locs hr1 hP hD hS => ?_)
          refine W.widen (k := 0) (n := 0) (Nat.le_of_ble_eq_true rfl) (Nat.le_of_ble_eq_true rfl) ?_
          obtain rfl : r1 = lZ (itS dn (i + 1)) := hr1
          have hjb := itS_bd hyb (i + 1)
          refine lv_lstore_n (lv' := [(3, .long (lZ (itS dn (i + 1)))), (0, .ref (a 0)), (1, .int (nI kk)), (2, .int v), (5, .int 1), (6, .int (nI i))]) hx hb d_M_score_34 rfl hl (by decide) rfl (fun ls hl => ?_)
          refine lv_lload_n hx hb d_M_score_35 rfl (lv_at hl 0 rfl) ?_
          refine lv_lconst (v := 0) hx hb d_M_score_36 (by decide) ?_
          refine W.lcmp hx hb d_M_score_37 ?_
          refine lv_if_lt (tgt := 45) hx hb d_M_score_38 (by decide) (fun e62 => ?_) (fun e62 => ?_)
          · have hn0 : itS dn (i + 1) < 0 := (lZ_lt (b := 0) (by omega) (by omega) (by omega) (by omega)).mp ((lg_cmp_lt _ _).mp e62)
            refine lv_iconst (v := 0) hx hb d_M_score_45 (by decide) ?_
            refine lv_istore (lv' := [(5, .int 0), (3, .long (lZ (itS dn (i + 1)))), (0, .ref (a 0)), (1, .int (nI kk)), (2, .int v), (6, .int (nI i))]) hx hb d_M_score_46 hl (by decide) rfl (fun ls hl => ?_)
            obtain ⟨v63, ev63⟩ : ∃ y : Int32, y = (nI i) + 1 := ⟨_, rfl⟩
            refine lv_iinc (v := v63) (lv' := [(6, .int v63), (5, .int 0), (3, .long (lZ (itS dn (i + 1)))), (0, .ref (a 0)), (1, .int (nI kk)), (2, .int v)]) hx hb d_M_score_48 hl (k := 5) rfl (by rw [ev63]; rfl) (by decide) rfl (fun ls hl => ?_)
            refine lv_goto (tgt := 18) hx hb d_M_score_51 (by decide) ?_
            obtain rfl : v63 = nI (i + 1) := by rw [ev63]; exact nI_1 i
            refine lv_iload hx hb d_M_score_18 (lv_at hl 0 rfl) ?_
            refine lv_iload_n hx hb d_M_score_20 rfl (lv_at hl 4 rfl) ?_
            refine lv_icmp_gt (tgt := 54) hx hb d_M_score_21 (by decide) (fun g64 => ?_) (fun g64 => ?_)
            · refine lv_aload_n hx hb d_M_score_54 rfl (lv_at hl 3 rfl) ?_
              refine lv_iload hx hb d_M_score_55 (lv_at hl 1 rfl) ?_
              refine lv_if_eq (tgt := 73) hx hb d_M_score_57 (by decide) (fun _ => ?_) (fun k65 => by first | exact absurd (show (0 : Int32) = 0 from rfl) k65 | exact absurd k65 (show (0 : Int32) = 0 from rfl))
              refine lv_iconst (v := 1) hx hb d_M_score_73 (by decide) ?_
              refine va_put (D := D) (ci := 1) (v := .int 1) (ty := t_M 0) (C := R_M) (T := T_M) (N := 26) hx hb (uw_M Z.1 hg.1) (fun _ h => h) t_M t_M_ok n_M hown hK hP hD hS 0 rfl rfl 0 (by decide) (kw604 Z.1 _ _ hg.1) (fun _ h9 => h9) rfl (by decide +kernel) rfl rfl (Nat.le_of_ble_eq_true rfl) d_M_score_74 (fun H locs hP hD hS => ?_)
              have hP : va_P D ncl (w_M a cA (va_up ii 0 1) li ia la) H := hP
              have hD : va_D _ (w_M a cA (va_up ii 0 1) li ia la) := hD
              refine lv_aload_n hx hb d_M_score_77 rfl (lv_at hl 3 rfl) ?_
              refine va_get (D := D) (ci := 1) (v := .int 1) (C := R_M) (T := T_M) (N := 26) hx hb (uw_M Z.1 hg.1) (fun _ h => h) hown hK hP 0 rfl rfl 0 (by decide) (kw604 Z.1 _ _ hg.1) (fun _ h9 => h9) rfl d_M_score_78 ?_
              refine lv_if_eq (tgt := 86) hx hb d_M_score_81 (by decide) (fun k66 => by first | exact absurd (show ¬ (1 : Int32) = 0 by decide) k66 | exact absurd k66 (show ¬ (1 : Int32) = 0 by decide)) (fun _ => ?_)
              refine lv_lconst (v := 0) hx hb d_M_score_84 (by decide) ?_
              exact w_lret hx hb hr hlk hP hD hS ((va_up ii 0 1), li, ia, la) rfl (Or.inr ⟨fun z => by obtain ⟨k2, wh, z1, z2, z3, z4, z5⟩ := z; obtain rfl : k2 = kk := (nI_eq z1 hkk).mp (z2.symm.trans hkq); have := z5 i hik; omega, rfl⟩) d_M_score_85
            · refine lv_iload hx hb d_M_score_24 (lv_at hl 1 rfl) ?_
              refine lv_if_eq (tgt := 54) hx hb d_M_score_26 (by decide) (fun _ => ?_) (fun k67 => by first | exact absurd (show (0 : Int32) = 0 from rfl) k67 | exact absurd k67 (show (0 : Int32) = 0 from rfl))
              refine lv_aload_n hx hb d_M_score_54 rfl (lv_at hl 3 rfl) ?_
              refine lv_iload hx hb d_M_score_55 (lv_at hl 1 rfl) ?_
              refine lv_if_eq (tgt := 73) hx hb d_M_score_57 (by decide) (fun _ => ?_) (fun k68 => by first | exact absurd (show (0 : Int32) = 0 from rfl) k68 | exact absurd k68 (show (0 : Int32) = 0 from rfl))
              refine lv_iconst (v := 1) hx hb d_M_score_73 (by decide) ?_
              refine va_put (D := D) (ci := 1) (v := .int 1) (ty := t_M 0) (C := R_M) (T := T_M) (N := 26) hx hb (uw_M Z.1 hg.1) (fun _ h => h) t_M t_M_ok n_M hown hK hP hD hS 0 rfl rfl 0 (by decide) (kw604 Z.1 _ _ hg.1) (fun _ h9 => h9) rfl (by decide +kernel) rfl rfl (Nat.le_of_ble_eq_true rfl) d_M_score_74 (fun H locs hP hD hS => ?_)
              have hP : va_P D ncl (w_M a cA (va_up ii 0 1) li ia la) H := hP
              have hD : va_D _ (w_M a cA (va_up ii 0 1) li ia la) := hD
              refine lv_aload_n hx hb d_M_score_77 rfl (lv_at hl 3 rfl) ?_
              refine va_get (D := D) (ci := 1) (v := .int 1) (C := R_M) (T := T_M) (N := 26) hx hb (uw_M Z.1 hg.1) (fun _ h => h) hown hK hP 0 rfl rfl 0 (by decide) (kw604 Z.1 _ _ hg.1) (fun _ h9 => h9) rfl d_M_score_78 ?_
              refine lv_if_eq (tgt := 86) hx hb d_M_score_81 (by decide) (fun k69 => by first | exact absurd (show ¬ (1 : Int32) = 0 by decide) k69 | exact absurd k69 (show ¬ (1 : Int32) = 0 by decide)) (fun _ => ?_)
              refine lv_lconst (v := 0) hx hb d_M_score_84 (by decide) ?_
              exact w_lret hx hb hr hlk hP hD hS ((va_up ii 0 1), li, ia, la) rfl (Or.inr ⟨fun z => by obtain ⟨k2, wh, z1, z2, z3, z4, z5⟩ := z; obtain rfl : k2 = kk := (nI_eq z1 hkk).mp (z2.symm.trans hkq); have := z5 i hik; omega, rfl⟩) d_M_score_85
          · have hp0 : 0 ≤ itS dn (i + 1) := Int.not_lt.mp (fun z => e62 ((lg_cmp_lt _ _).mpr ((lZ_lt (b := 0) (by omega) (by omega) (by omega) (by omega)).mpr z)))
            refine lv_iconst (v := 1) hx hb d_M_score_41 (by decide) ?_
            refine lv_goto (tgt := 46) hx hb d_M_score_42 (by decide) ?_
            refine lv_istore (lv' := [(5, .int 1), (3, .long (lZ (itS dn (i + 1)))), (0, .ref (a 0)), (1, .int (nI kk)), (2, .int v), (6, .int (nI i))]) hx hb d_M_score_46 hl (by decide) rfl (fun ls hl => ?_)
            obtain ⟨v70, ev70⟩ : ∃ y : Int32, y = (nI i) + 1 := ⟨_, rfl⟩
            refine lv_iinc (v := v70) (lv' := [(6, .int v70), (5, .int 1), (3, .long (lZ (itS dn (i + 1)))), (0, .ref (a 0)), (1, .int (nI kk)), (2, .int v)]) hx hb d_M_score_48 hl (k := 5) rfl (by rw [ev70]; rfl) (by decide) rfl (fun ls hl => ?_)
            refine lv_goto (tgt := 18) hx hb d_M_score_51 (by decide) ?_
            obtain rfl : v70 = nI (i + 1) := by rw [ev70]; exact nI_1 i
            exact ih (i + 1) (by omega) (by omega) (fun j hj => by by_cases hz : j = i; (rw [hz]; exact hp0); exact hall j (by omega)) _ _ hP hD hS ls (lv_sub hl [3, 4, 5, 2, 1, 0] rfl)
    exact loop (kk + 2) 0 (by omega) (Nat.zero_le _) (fun j hj => absurd hj (Nat.not_lt_zero _)) _ _ hP hD hS ls (lv_sub hl [3, 4, 5, 2, 1, 0] rfl)
