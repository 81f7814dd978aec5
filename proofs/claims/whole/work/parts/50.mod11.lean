/-- twice the area with its sign -/
def aZ (X Y : Nat → Nat) (n : Nat) : Nat → Int
  | 0 => 0
  | k + 1 => aZ X Y n k + (((X k * Y (ba_nx n k) : Nat) : Int) - ((X (ba_nx n k) * Y k : Nat) : Int))
theorem nx_lt {n k : Nat} (h : k < n) : ba_nx n k < n := by unfold ba_nx; split <;> omega
theorem aZ_bd {X Y : Nat → Nat} {n : Nat} (hX : ∀ j, j < n → X j ≤ 65536) (hY : ∀ j, j < n → Y j ≤ 65536) : ∀ k, k ≤ n → -(4294967296 * k : Int) ≤ aZ X Y n k ∧ aZ X Y n k ≤ 4294967296 * k := by
  intro k
  induction k with
  | zero => intro _; exact ⟨Int.le_refl _, Int.le_refl _⟩
  | succ k ih =>
    intro h
    have h1 := ih (by omega)
    have h2 : X k * Y (ba_nx n k) ≤ 65536 * 65536 := Nat.mul_le_mul (hX k (by omega)) (hY _ (nx_lt (by omega)))
    have h3 : X (ba_nx n k) * Y k ≤ 65536 * 65536 := Nat.mul_le_mul (hX _ (nx_lt (by omega))) (hY k (by omega))
    rw [aZ]
    omega
def rwQ (dn : List Cp) (ii : Nat → Int32) (la : Nat → Nat → Int64) : Prop := ii 13 = nI dn.length ∧ ∀ c, c < dn.length → ∀ j, j < 6 → la 14 (6 * c + j) = lN (cpk (dn.getD c cp0) j)
set_option maxHeartbeats 4000000 in
set_option maxRecDepth 100000 in
theorem m_M_areaOf {l : Launch} {s0 : State} {D : va_G} {cA sa : Nat → Nat} (Z : zE l s0 D cA sa) (a : Nat → Nat) (ii : Nat → Int32) (li : Nat → Int64) (ia : Nat → Nat → Int32) (la : Nat → Nat → Int64) (b n : Nat) (X Y : Nat → Nat) (hb4 : b < 4) (hn : ia 4 b = nI n) (hn2 : n ≤ 12) (hX : ∀ j, j < n → la 5 (12 * b + j) = lN (X j) ∧ X j ≤ 65536) (hY : ∀ j, j < n → la 6 (12 * b + j) = lN (Y j) ∧ Y j ≤ 65536) (sz : Nat) : Met l y_M_areaOf [.code y_M_areaOf c_M_areaOf 8 (some .long)] ({ frames := 0, cells := 0, slots := 0, locals := 0 }) (wP s0 D [.ref (a 0), .int (nI b)] (w_M a cA ii li ia la) sz) (va_Ql (fun r (_ : Unit) => r = lN (aZ X Y n n).natAbs) (wB D (va_A (w_M a cA ii li ia la) sz) (fun _ => w_M a cA ii li ia la)) (va_A (w_M a cA ii li ia la) sz)) 0 0 (va_A (w_M a cA ii li ia la) sz) := by
  refine wMet Z (by decide) (Nat.le_of_ble_eq_true rfl) ?_
  intro p e s m below meth c hx hb hr hml hown hlk hin hg hK hsz hP hD hA hlo hS ls hl
  subst hsz
  have hown : s.vm.findClass R_M = some m.cls := hown
  refine lv_lconst (v := 0) hx hb d_M_areaOf_0 (by decide) ?_
  refine lv_lstore_n (lv' := [(2, .long 0), (0, .ref (a 0)), (1, .int (nI b))]) hx hb d_M_areaOf_1 rfl hl (by decide) rfl (fun ls hl => ?_)
  refine lv_bipush (v := 12) hx hb d_M_areaOf_2 (by decide) ?_
  refine lv_iload_n hx hb d_M_areaOf_4 rfl (lv_at hl 2 rfl) ?_
  refine lv_imul hx hb d_M_areaOf_5 ?_
  refine lv_topi (fun z1 ez1 => ?_)
  obtain rfl : z1 = (nI (12 * b)) := by rw [ez1]; exact pk_mul 12 b
  refine lv_istore (lv' := [(4, .int (nI (12 * b))), (2, .long 0), (0, .ref (a 0)), (1, .int (nI b))]) hx hb d_M_areaOf_6 hl (by decide) rfl (fun ls hl => ?_)
  refine lv_aload_n hx hb d_M_areaOf_8 rfl (lv_at hl 2 rfl) ?_
  refine va_get (D := D) (ci := 1) (v := .ref (a 5)) (C := R_M) (T := T_M) (N := 26) hx hb (uw_M Z.1 hg.1) (fun _ h => h) hown hK hP 0 rfl rfl 4 (by decide) (kw608 Z.1 _ _ hg.1) (fun _ h9 => h9) rfl d_M_areaOf_9 ?_
  refine lv_iload_n hx hb d_M_areaOf_12 rfl (lv_at hl 3 rfl) ?_
  refine va_iald hx hb hK hP 1 0 rfl rfl (vp_in_nI (n := b) (N := 4) (by omega) (by decide)) d_M_areaOf_13 ?_
  refine lv_topi (fun z2 ez2 => ?_)
  rw [nI_clamp (n := b) (by omega)] at ez2
  obtain rfl : z2 = ((ia 4) b) := ez2
  refine lv_topi (fun z3 ez3 => ?_)
  obtain rfl : z3 = (nI n) := by rw [ez3]; exact hn
  refine lv_istore (lv' := [(5, .int (nI n)), (4, .int (nI (12 * b))), (2, .long 0), (0, .ref (a 0)), (1, .int (nI b))]) hx hb d_M_areaOf_14 hl (by decide) rfl (fun ls hl => ?_)
  refine lv_iconst (v := 0) hx hb d_M_areaOf_16 (by decide) ?_
  refine lv_topi (fun z4 ez4 => ?_)
  obtain rfl : z4 = (nI 0) := by rw [ez4]; rfl
  refine lv_istore (lv' := [(6, .int (nI 0)), (5, .int (nI n)), (4, .int (nI (12 * b))), (2, .long 0), (0, .ref (a 0)), (1, .int (nI b))]) hx hb d_M_areaOf_17 hl (by decide) rfl (fun ls hl => ?_)
  have hbd := aZ_bd (fun j hj => (hX j hj).2) (fun j hj => (hY j hj).2)
  have loop : ∀ (f : Nat) (k : Nat) (sv : Int64), n - k < f → k ≤ n → sv = lZ (aZ X Y n k) → ∀ (H : Heap) (locs : List Loc), va_P D ncl (w_M a cA ii li ia la) H → va_D (va_A (w_M a cA ii li ia la) s.heap.size) (w_M a cA ii li ia la) → va_S (va_A (w_M a cA ii li ia la) s.heap.size) s.heap H locs → ∀ (ls : Array Slot), lv_has ls 8 [(0, .ref (a 0)), (1, .int (nI b)), (2, .long sv), (4, .int (nI (12 * b))), (5, .int (nI n)), (6, .int (nI k))] → W p l e ({ frames := 0, cells := 0, slots := 0, locals := 0 }) s m ([.ref (a 0), .int (nI b)] : List Value).toArray below meth c H locs 0 0 (MQ below (va_Ql (fun r (_ : Unit) => r = lN (aZ X Y n n).natAbs) (wB D (va_A (w_M a cA ii li ia la) s.heap.size) (fun _ => w_M a cA ii li ia la)) (va_A (w_M a cA ii li ia la) s.heap.size)) ([.ref (a 0), .int (nI b)] : List Value).toArray s 0 0 (va_A (w_M a cA ii li ia la) s.heap.size)) (F0 m 19 ls []) := by
    intro f
    induction f with
    | zero => intro k sv h; exact absurd h (Nat.not_lt_zero _)
    | succ f ih =>
      intro k sv hf hk hsv H locs hP hD hS ls hl
      refine lv_iload hx hb d_M_areaOf_19 (lv_at hl 5 rfl) ?_
      refine lv_iload hx hb d_M_areaOf_21 (lv_at hl 4 rfl) ?_
      refine lv_icmp_ge (tgt := 97) hx hb d_M_areaOf_23 (by decide) (fun c5 => ?_) (fun c5 => ?_)
      · obtain rfl : k = n := by have := (nI_leI (by omega) (by omega)).mp c5; omega
        have hb1 := hbd k (Nat.le_refl _)
        refine lv_lload_n hx hb d_M_areaOf_97 rfl (lv_at hl 2 rfl) ?_
        refine lv_lconst (v := 0) hx hb d_M_areaOf_98 (by decide) ?_
        refine W.lcmp hx hb d_M_areaOf_99 ?_
        refine lv_if_ge (tgt := 109) hx hb d_M_areaOf_100 (by decide) (fun d6 => ?_) (fun d6 => ?_)
        · have h0 : 0 ≤ aZ X Y k k := by have h9 := (lg_cmp_ge _ _).mp d6; rw [hsv] at h9; exact (lZ_le (a := 0) (by omega) (by omega) (by omega) (by omega)).mp h9
          refine lv_lload_n hx hb d_M_areaOf_109 rfl (lv_at hl 2 rfl) ?_
          exact w_lret hx hb hr hlk hP hD hS () rfl (by rw [hsv, ← lZ_nat]; congr 1; omega) d_M_areaOf_110
        · have h0 : aZ X Y k k < 0 := by have h9 := Int64.not_le.mp (fun z => d6 ((lg_cmp_ge _ _).mpr z)); rw [hsv] at h9; exact (lZ_lt (b := 0) (by omega) (by omega) (by omega) (by omega)).mp h9
          refine lv_lconst (v := 0) hx hb d_M_areaOf_103 (by decide) ?_
          refine lv_lload_n hx hb d_M_areaOf_104 rfl (lv_at hl 2 rfl) ?_
          refine lv_lsub hx hb d_M_areaOf_105 ?_
          refine lv_topl (fun rv erv => ?_)
          have hrv : rv = lN (aZ X Y k k).natAbs := by rw [erv]; rw [hsv, show (0 : Int64) = lZ 0 from rfl, lZ_sub, ← lZ_nat]; congr 1; omega
          clear erv
          refine lv_goto (tgt := 110) hx hb d_M_areaOf_106 (by decide) ?_
          exact w_lret hx hb hr hlk hP hD hS () rfl hrv d_M_areaOf_110
      · have hkn : k < n := Nat.lt_of_not_le (fun z => c5 ((nI_leI (by omega) (by omega)).mpr z))
        obtain ⟨j, hj⟩ : ∃ z, z = ba_nx n k := ⟨_, rfl⟩
        have hjn : j < n := by rw [hj]; exact nx_lt hkn
        have jn7 : ∀ v : Int32, v = (nI j) → W p l e ({ frames := 0, cells := 0, slots := 0, locals := 0 }) s m ([.ref (a 0), .int (nI b)] : List Value).toArray below meth c H locs 0 0 (MQ below (va_Ql (fun r (_ : Unit) => r = lN (aZ X Y n n).natAbs) (wB D (va_A (w_M a cA ii li ia la) s.heap.size) (fun _ => w_M a cA ii li ia la)) (va_A (w_M a cA ii li ia la) s.heap.size)) ([.ref (a 0), .int (nI b)] : List Value).toArray s 0 0 (va_A (w_M a cA ii li ia la) s.heap.size)) (F0 m 43 ls (.int v :: [])) := by
          intro v hv
          subst hv
          refine lv_istore (lv' := [(7, .int (nI j)), (0, .ref (a 0)), (1, .int (nI b)), (2, .long sv), (4, .int (nI (12 * b))), (5, .int (nI n)), (6, .int (nI k))]) hx hb d_M_areaOf_43 hl (by decide) rfl (fun ls hl => ?_)
          refine lv_lload_n hx hb d_M_areaOf_45 rfl (lv_at hl 3 rfl) ?_
          refine lv_aload_n hx hb d_M_areaOf_46 rfl (lv_at hl 1 rfl) ?_
          refine va_get (D := D) (ci := 1) (v := .ref (a 6)) (C := R_M) (T := T_M) (N := 26) hx hb (uw_M Z.1 hg.1) (fun _ h => h) hown hK hP 0 rfl rfl 5 (by decide) (kw609 Z.1 _ _ hg.1) (fun _ h9 => h9) rfl d_M_areaOf_47 ?_
          refine lv_iload hx hb d_M_areaOf_50 (lv_at hl 4 rfl) ?_
          refine lv_iload hx hb d_M_areaOf_52 (lv_at hl 6 rfl) ?_
          refine lv_iadd hx hb d_M_areaOf_54 ?_
          refine lv_topi (fun z8 ez8 => ?_)
          obtain rfl : z8 = (nI (12 * b + k)) := by rw [ez8]; exact nI_add _ _
          refine va_lald hx hb hK hP 2 1 rfl rfl (vp_in_nI (n := 12 * b + k) (N := 48) (by omega) (by decide)) d_M_areaOf_55 ?_
          refine lv_topl (fun z9 ez9 => ?_)
          rw [nI_clamp (n := (12 * b + k)) (by omega)] at ez9
          obtain rfl : z9 = ((la 5) (12 * b + k)) := ez9
          refine lv_topl (fun z10 ez10 => ?_)
          obtain rfl : z10 = (lN (X k)) := by rw [ez10]; exact (hX k (by omega)).1
          refine lv_aload_n hx hb d_M_areaOf_56 rfl (lv_at hl 1 rfl) ?_
          refine va_get (D := D) (ci := 1) (v := .ref (a 7)) (C := R_M) (T := T_M) (N := 26) hx hb (uw_M Z.1 hg.1) (fun _ h => h) hown hK hP 0 rfl rfl 6 (by decide) (kw610 Z.1 _ _ hg.1) (fun _ h9 => h9) rfl d_M_areaOf_57 ?_
          refine lv_iload hx hb d_M_areaOf_60 (lv_at hl 4 rfl) ?_
          refine lv_iload hx hb d_M_areaOf_62 (lv_at hl 0 rfl) ?_
          refine lv_iadd hx hb d_M_areaOf_64 ?_
          refine lv_topi (fun z11 ez11 => ?_)
          obtain rfl : z11 = (nI (12 * b + j)) := by rw [ez11]; exact nI_add _ _
          refine va_lald hx hb hK hP 3 1 rfl rfl (vp_in_nI (n := 12 * b + j) (N := 48) (by omega) (by decide)) d_M_areaOf_65 ?_
          refine lv_topl (fun z12 ez12 => ?_)
          rw [nI_clamp (n := (12 * b + j)) (by omega)] at ez12
          obtain rfl : z12 = ((la 6) (12 * b + j)) := ez12
          refine lv_topl (fun z13 ez13 => ?_)
          obtain rfl : z13 = (lN (Y j)) := by rw [ez13]; exact (hY j (by omega)).1
          refine lv_lmul hx hb d_M_areaOf_66 ?_
          refine lv_topl (fun z14 ez14 => ?_)
          obtain rfl : z14 = (lN (X k * Y j)) := by rw [ez14]; exact lN_mul _ _
          refine lv_aload_n hx hb d_M_areaOf_67 rfl (lv_at hl 1 rfl) ?_
          refine va_get (D := D) (ci := 1) (v := .ref (a 7)) (C := R_M) (T := T_M) (N := 26) hx hb (uw_M Z.1 hg.1) (fun _ h => h) hown hK hP 0 rfl rfl 6 (by decide) (kw610 Z.1 _ _ hg.1) (fun _ h9 => h9) rfl d_M_areaOf_68 ?_
          refine lv_iload hx hb d_M_areaOf_71 (lv_at hl 4 rfl) ?_
          refine lv_iload hx hb d_M_areaOf_73 (lv_at hl 6 rfl) ?_
          refine lv_iadd hx hb d_M_areaOf_75 ?_
          refine lv_topi (fun z15 ez15 => ?_)
          obtain rfl : z15 = (nI (12 * b + k)) := by rw [ez15]; exact nI_add _ _
          refine va_lald hx hb hK hP 3 1 rfl rfl (vp_in_nI (n := 12 * b + k) (N := 48) (by omega) (by decide)) d_M_areaOf_76 ?_
          refine lv_topl (fun z16 ez16 => ?_)
          rw [nI_clamp (n := (12 * b + k)) (by omega)] at ez16
          obtain rfl : z16 = ((la 6) (12 * b + k)) := ez16
          refine lv_topl (fun z17 ez17 => ?_)
          obtain rfl : z17 = (lN (Y k)) := by rw [ez17]; exact (hY k (by omega)).1
          refine lv_aload_n hx hb d_M_areaOf_77 rfl (lv_at hl 1 rfl) ?_
          refine va_get (D := D) (ci := 1) (v := .ref (a 6)) (C := R_M) (T := T_M) (N := 26) hx hb (uw_M Z.1 hg.1) (fun _ h => h) hown hK hP 0 rfl rfl 5 (by decide) (kw609 Z.1 _ _ hg.1) (fun _ h9 => h9) rfl d_M_areaOf_78 ?_
          refine lv_iload hx hb d_M_areaOf_81 (lv_at hl 4 rfl) ?_
          refine lv_iload hx hb d_M_areaOf_83 (lv_at hl 0 rfl) ?_
          refine lv_iadd hx hb d_M_areaOf_85 ?_
          refine lv_topi (fun z18 ez18 => ?_)
          obtain rfl : z18 = (nI (12 * b + j)) := by rw [ez18]; exact nI_add _ _
          refine va_lald hx hb hK hP 2 1 rfl rfl (vp_in_nI (n := 12 * b + j) (N := 48) (by omega) (by decide)) d_M_areaOf_86 ?_
          refine lv_topl (fun z19 ez19 => ?_)
          rw [nI_clamp (n := (12 * b + j)) (by omega)] at ez19
          obtain rfl : z19 = ((la 5) (12 * b + j)) := ez19
          refine lv_topl (fun z20 ez20 => ?_)
          obtain rfl : z20 = (lN (X j)) := by rw [ez20]; exact (hX j (by omega)).1
          refine lv_lmul hx hb d_M_areaOf_87 ?_
          refine lv_topl (fun z21 ez21 => ?_)
          obtain rfl : z21 = (lN (Y k * X j)) := by rw [ez21]; exact lN_mul _ _
          refine lv_lsub hx hb d_M_areaOf_88 ?_
          refine lv_topl (fun z22 ez22 => ?_)
          obtain rfl : z22 = (lZ (((X k * Y j : Nat) : Int) - ((X j * Y k : Nat) : Int))) := by rw [ez22]; rw [Nat.mul_comm (Y k), ← lZ_nat, ← lZ_nat]; exact lZ_sub _ _
          refine lv_ladd hx hb d_M_areaOf_89 ?_
          refine lv_topl (fun nv env => ?_)
          have hnv : nv = lZ (aZ X Y n (k + 1)) := by rw [env]; rw [hsv, aZ, ← hj]; exact lZ_add _ _
          clear env
          refine lv_lstore_n (lv' := [(2, .long nv), (7, .int (nI j)), (0, .ref (a 0)), (1, .int (nI b)), (4, .int (nI (12 * b))), (5, .int (nI n)), (6, .int (nI k))]) hx hb d_M_areaOf_90 rfl hl (by decide) rfl (fun ls hl => ?_)
          obtain ⟨v23, ev23⟩ : ∃ y : Int32, y = (nI k) + 1 := ⟨_, rfl⟩
          refine lv_iinc (v := v23) (lv' := [(6, .int v23), (2, .long nv), (7, .int (nI j)), (0, .ref (a 0)), (1, .int (nI b)), (4, .int (nI (12 * b))), (5, .int (nI n))]) hx hb d_M_areaOf_91 hl (k := 6) rfl (by rw [ev23]; rfl) (by decide) rfl (fun ls hl => ?_)
          refine lv_goto (tgt := 19) hx hb d_M_areaOf_94 (by decide) ?_
          obtain rfl : v23 = nI (k + 1) := by rw [ev23]; exact nI_1 k
          exact ih (k + 1) nv (by omega) (by omega) hnv _ _ hP hD hS ls (lv_sub hl [3, 4, 1, 5, 6, 0] rfl)
        refine lv_iload hx hb d_M_areaOf_26 (lv_at hl 5 rfl) ?_
        refine lv_iconst (v := 1) hx hb d_M_areaOf_28 (by decide) ?_
        refine lv_iadd hx hb d_M_areaOf_29 ?_
        refine lv_topi (fun z24 ez24 => ?_)
        obtain rfl : z24 = (nI (k + 1)) := by rw [ez24]; exact nI_1 k
        refine lv_iload hx hb d_M_areaOf_30 (lv_at hl 4 rfl) ?_
        refine lv_icmp_ge (tgt := 42) hx hb d_M_areaOf_32 (by decide) (fun e25 => ?_) (fun e25 => ?_)
        · refine lv_iconst (v := 0) hx hb d_M_areaOf_42 (by decide) ?_
          exact jn7 _ (by rw [hj, ba_nx, if_neg (fun z => absurd ((nI_leI (by omega) (by omega)).mp e25) (Nat.not_le.mpr z))]; rfl)
        · refine lv_iload hx hb d_M_areaOf_35 (lv_at hl 5 rfl) ?_
          refine lv_iconst (v := 1) hx hb d_M_areaOf_37 (by decide) ?_
          refine lv_iadd hx hb d_M_areaOf_38 ?_
          refine lv_topi (fun z26 ez26 => ?_)
          obtain rfl : z26 = (nI (k + 1)) := by rw [ez26]; exact nI_1 k
          refine lv_goto (tgt := 43) hx hb d_M_areaOf_39 (by decide) ?_
          exact jn7 _ (by rw [hj, ba_nx, if_pos (Nat.lt_of_not_le (fun z => e25 ((nI_leI (by omega) (by omega)).mpr z)))])
  exact loop (n + 1) 0 0 (by omega) (Nat.zero_le _) rfl _ _ hP hD hS ls (lv_sub hl [4, 5, 3, 2, 1, 0] rfl)
def arN (X Y : Nat → Nat → Nat) (nc : Nat → Nat) (b : Nat) : Nat := (aZ (X b) (Y b) (nc b) (nc b)).natAbs
def wsN (X Y : Nat → Nat → Nat) (nc : Nat → Nat) (dn : List Cp) (n : Nat) : Nat := sm (fun c => arN X Y nc (cpk (dn.getD c cp0) 0)) n
theorem arN_le {X Y : Nat → Nat → Nat} {nc : Nat → Nat} {b : Nat} (hn : nc b ≤ 12) (hX : ∀ j, j < nc b → X b j ≤ 65536) (hY : ∀ j, j < nc b → Y b j ≤ 65536) : arN X Y nc b ≤ 60000000000 := by
  have := aZ_bd hX hY (nc b) (Nat.le_refl _)
  unfold arN
  omega
theorem lN_pz {n : Nat} (h : n ≤ 1000000000000000) : lN n = 0 ↔ n = 0 := pk_lEQ (b := 0) (by omega) (by omega)
set_option maxHeartbeats 4000000 in
set_option maxRecDepth 100000 in
theorem m_M_waste {l : Launch} {s0 : State} {D : va_G} {cA sa : Nat → Nat} (Z : zE l s0 D cA sa) (a : Nat → Nat) (ii : Nat → Int32) (li : Nat → Int64) (ia : Nat → Nat → Int32) (la : Nat → Nat → Int64) (v : Int32) (w h : Nat) (nc : Nat → Nat) (X Y : Nat → Nat → Nat) (dn : List Cp) (hdn : rwQ dn ii la) (hdl : dn.length ≤ 200) (hw : li 1 = lN w) (hw1 : 0 < w) (hw2 : w ≤ 65536) (hh : li 2 = lN h) (hh1 : 0 < h) (hh2 : h ≤ 65536) (hd4 : ∀ c, c < dn.length → cpk (dn.getD c cp0) 0 < 4) (hnc : ∀ b, b < 4 → ia 4 b = nI (nc b) ∧ nc b ≤ 12) (hX : ∀ b, b < 4 → ∀ j, j < nc b → la 5 (12 * b + j) = lN (X b j) ∧ X b j ≤ 65536) (hY : ∀ b, b < 4 → ∀ j, j < nc b → la 6 (12 * b + j) = lN (Y b j) ∧ Y b j ≤ 65536) (sz : Nat) : Met l y_M_waste [.code y_M_waste c_M_waste 12 (some .long)] ({ frames := 1, cells := 0, slots := 0, locals := 40 }) (wP s0 D [.ref (a 0), .int v] (w_M a cA ii li ia la) sz) (va_Ql (fun (r : Int64) (u : St) => (∃ i, i < 2 ∧ v = nI i ∧ r = (if i = 0 then lZ ((2 * w * h : Nat) - (wsN X Y nc dn dn.length : Nat) : Int) else lN (2 * w * h)) / lN (Nat.gcd ((2 * w * h : Nat) - (wsN X Y nc dn dn.length : Nat) : Int).natAbs (2 * w * h)) ∧ u = (va_up ii 0 0, li, ia, la)) ∨ (¬ (∃ i, i < 2 ∧ v = nI i) ∧ u = (va_up ii 0 1, li, ia, la))) (wB D (va_A (w_M a cA ii li ia la) sz) (fun (u : St) => w_M a cA u.1 u.2.1 u.2.2.1 u.2.2.2)) (va_A (w_M a cA ii li ia la) sz)) 0 0 (va_A (w_M a cA ii li ia la) sz) := by
  refine wMet Z (by decide) (Nat.le_of_ble_eq_true rfl) ?_
  intro p e s m below meth c hx hb hr hml hown hlk hin hg hK hsz hP hD hA hlo hS ls hl
  subst hsz
  have hown : s.vm.findClass R_M = some m.cls := hown
  obtain ⟨S, hSS⟩ : ∃ z, z = 2 * w * h := ⟨_, rfl⟩
  have hS1 : 0 < S := by rw [hSS]; exact Nat.mul_pos (by omega) hh1
  have hS2 : S ≤ 8589934592 := by rw [hSS]; exact Nat.le_trans (Nat.mul_le_mul (Nat.mul_le_mul_left 2 hw2) hh2) (by decide)
  have har : ∀ b, b < 4 → arN X Y nc b ≤ 60000000000 := fun b hb => arN_le (hnc b hb).2 (fun j hj => (hX b hb j hj).2) (fun j hj => (hY b hb j hj).2)
  have hws : ∀ c, c ≤ dn.length → wsN X Y nc dn c ≤ 12000000000000 := fun c hc => Nat.le_trans (sm_bd (B := 60000000000) c (fun k hk => har _ (hd4 k (by omega)))) (by omega)
  refine lv_aload_n hx hb d_M_waste_0 rfl (lv_at hl 0 rfl) ?_
  refine lv_iload_n hx hb d_M_waste_1 rfl (lv_at hl 1 rfl) ?_
  refine lv_if_eq (tgt := 10) hx hb d_M_waste_2 (by decide) (fun w1 => ?_) (fun w1 => ?_)
  · have hv0 : v = nI 0 := w1
    rw [w1] at hl
    refine lv_iconst (v := 0) hx hb d_M_waste_10 (by decide) ?_
    refine lv_goto (tgt := 15) hx hb d_M_waste_11 (by decide) ?_
    refine va_put (D := D) (ci := 1) (v := .int 0) (ty := t_M 0) (C := R_M) (T := T_M) (N := 26) hx hb (uw_M Z.1 hg.1) (fun _ h => h) t_M t_M_ok n_M hown hK hP hD hS 0 rfl rfl 0 (by decide) (kw604 Z.1 _ _ hg.1) (fun _ h9 => h9) rfl (by decide +kernel) rfl rfl (Nat.le_of_ble_eq_true rfl) d_M_waste_15 (fun H locs hP hD hS => ?_)
    have hP : va_P D ncl (w_M a cA (va_up ii 0 0) li ia la) H := hP
    have hD : va_D _ (w_M a cA (va_up ii 0 0) li ia la) := hD
    refine lv_aload_n hx hb d_M_waste_18 rfl (lv_at hl 0 rfl) ?_
    refine va_get (D := D) (ci := 1) (v := .int 0) (C := R_M) (T := T_M) (N := 26) hx hb (uw_M Z.1 hg.1) (fun _ h => h) hown hK hP 0 rfl rfl 0 (by decide) (kw604 Z.1 _ _ hg.1) (fun _ h9 => h9) rfl d_M_waste_19 ?_
    refine lv_if_eq (tgt := 27) hx hb d_M_waste_22 (by decide) (fun _ => ?_) (fun k2 => by first | exact absurd (show (0 : Int32) = 0 from rfl) k2 | exact absurd k2 (show (0 : Int32) = 0 from rfl))
    refine lv_ldc2 (v := 2) hx hb hown (kw796 Z.1 _ _ hg.1) d_M_waste_27 ?_
    refine lv_aload_n hx hb d_M_waste_30 rfl (lv_at hl 0 rfl) ?_
    refine va_get (D := D) (ci := 1) (v := .long (li 1)) (C := R_M) (T := T_M) (N := 26) hx hb (uw_M Z.1 hg.1) (fun _ h => h) hown hK hP 0 rfl rfl 1 (by decide) (kw605 Z.1 _ _ hg.1) (fun _ h9 => h9) rfl d_M_waste_31 ?_
    refine lv_topl (fun z3 ez3 => ?_)
    obtain rfl : z3 = (lN w) := by rw [ez3]; exact hw
    refine lv_lmul hx hb d_M_waste_34 ?_
    refine lv_topl (fun z4 ez4 => ?_)
    obtain rfl : z4 = (lN (2 * w)) := by rw [ez4]; exact lN_mul 2 _
    refine lv_aload_n hx hb d_M_waste_35 rfl (lv_at hl 0 rfl) ?_
    refine va_get (D := D) (ci := 1) (v := .long (li 2)) (C := R_M) (T := T_M) (N := 26) hx hb (uw_M Z.1 hg.1) (fun _ h => h) hown hK hP 0 rfl rfl 2 (by decide) (kw606 Z.1 _ _ hg.1) (fun _ h9 => h9) rfl d_M_waste_36 ?_
    refine lv_topl (fun z5 ez5 => ?_)
    obtain rfl : z5 = (lN h) := by rw [ez5]; exact hh
    refine lv_lmul hx hb d_M_waste_39 ?_
    refine lv_topl (fun z6 ez6 => ?_)
    obtain rfl : z6 = (lN S) := by rw [ez6]; rw [hSS]; exact lN_mul _ _
    refine lv_lstore_n (lv' := [(2, .long (lN S)), (0, .ref (a 0)), (1, .int 0)]) hx hb d_M_waste_40 rfl hl (by decide) rfl (fun ls hl => ?_)
    refine lv_lload_n hx hb d_M_waste_41 rfl (lv_at hl 0 rfl) ?_
    refine lv_topl (fun z7 ez7 => ?_)
    obtain rfl : z7 = (lZ ((S : Int) - (wsN X Y nc dn 0 : Nat))) := by rw [ez7]; rw [← lZ_nat]; congr 1
    refine lv_lstore (lv' := [(4, .long (lZ ((S : Int) - (wsN X Y nc dn 0 : Nat)))), (2, .long (lN S)), (0, .ref (a 0)), (1, .int 0)]) hx hb d_M_waste_42 hl (by decide) rfl (fun ls hl => ?_)
    refine lv_iconst (v := 0) hx hb d_M_waste_44 (by decide) ?_
    refine lv_topi (fun z8 ez8 => ?_)
    obtain rfl : z8 = (nI (6 * 0)) := by rw [ez8]; rfl
    refine lv_istore (lv' := [(6, .int (nI (6 * 0))), (4, .long (lZ ((S : Int) - (wsN X Y nc dn 0 : Nat)))), (2, .long (lN S)), (0, .ref (a 0)), (1, .int 0)]) hx hb d_M_waste_45 hl (by decide) rfl (fun ls hl => ?_)
    obtain ⟨Tt, hTt⟩ : ∃ z : Int, z = (S : Int) - (wsN X Y nc dn dn.length : Nat) := ⟨_, rfl⟩
    have hws1 := hws dn.length (Nat.le_refl _)
    have gcdl : ∀ (f : Nat) (A B : Nat) (tv : Int64), B < f → tv = lZ Tt → Nat.gcd A B = Nat.gcd Tt.natAbs S → A ≤ 100000000000000 → B ≤ 100000000000000 → ∀ (H : Heap) (locs : List Loc), va_P D ncl (w_M a cA (va_up ii 0 0) li ia la) H → va_D (va_A (w_M a cA ii li ia la) s.heap.size) (w_M a cA (va_up ii 0 0) li ia la) → va_S (va_A (w_M a cA ii li ia la) s.heap.size) s.heap H locs → ∀ (ls : Array Slot), lv_has ls 12 [(1, .int 0), (2, .long (lN S)), (4, .long tv), (6, .long (lN A)), (8, .long (lN B))] → W p l e ({ frames := 1, cells := 0, slots := 0, locals := 40 }) s m ([.ref (a 0), .int v] : List Value).toArray below meth c H locs 0 0 (MQ below (va_Ql (fun (r : Int64) (u : St) => (∃ i, i < 2 ∧ v = nI i ∧ r = (if i = 0 then lZ ((2 * w * h : Nat) - (wsN X Y nc dn dn.length : Nat) : Int) else lN (2 * w * h)) / lN (Nat.gcd ((2 * w * h : Nat) - (wsN X Y nc dn dn.length : Nat) : Int).natAbs (2 * w * h)) ∧ u = (va_up ii 0 0, li, ia, la)) ∨ (¬ (∃ i, i < 2 ∧ v = nI i) ∧ u = (va_up ii 0 1, li, ia, la))) (wB D (va_A (w_M a cA ii li ia la) s.heap.size) (fun (u : St) => w_M a cA u.1 u.2.1 u.2.2.1 u.2.2.2)) (va_A (w_M a cA ii li ia la) s.heap.size)) ([.ref (a 0), .int v] : List Value).toArray s 0 0 (va_A (w_M a cA ii li ia la) s.heap.size)) (F0 m 103 ls []) := by
      intro f
      induction f with
      | zero => intro A B tv h; exact absurd h (Nat.not_lt_zero _)
      | succ f ih =>
        intro A B tv hf htv hgc hA1 hB1 H locs hP hD hS ls hl
        refine lv_lload hx hb d_M_waste_103 (lv_at hl 4 rfl) ?_
        refine lv_lconst (v := 0) hx hb d_M_waste_105 (by decide) ?_
        refine W.lcmp hx hb d_M_waste_106 ?_
        refine lv_if_eq (tgt := 128) hx hb d_M_waste_107 (by decide) (fun d9 => ?_) (fun d9 => ?_)
        · have hB0 : B = 0 := (lN_pz (by omega)).mp ((lg_cmp_eq _ _).mp d9)
          rw [hB0, Nat.gcd_zero_right] at hgc
          have hA0 : A ≠ 0 := fun y => by rw [y] at hgc; have := Nat.gcd_pos_of_pos_right Tt.natAbs hS1; omega
          refine lv_iload_n hx hb d_M_waste_128 rfl (lv_at hl 0 rfl) ?_
          refine lv_if_ne (tgt := 140) hx hb d_M_waste_129 (by decide) (fun k10 => by first | exact absurd (show (0 : Int32) = 0 from rfl) k10 | exact absurd k10 (show (0 : Int32) = 0 from rfl)) (fun _ => ?_)
          refine lv_lload hx hb d_M_waste_132 (lv_at hl 2 rfl) ?_
          refine lv_lload hx hb d_M_waste_134 (lv_at hl 3 rfl) ?_
          refine lv_ldiv hx hb d_M_waste_136 (fun y => hA0 ((lN_pz (by omega)).mp y)) ?_
          refine lv_goto (tgt := 144) hx hb d_M_waste_137 (by decide) ?_
          exact w_lret hx hb hr hlk hP hD hS ((va_up ii 0 0), li, ia, la) rfl (Or.inl ⟨0, by decide, hv0, by rw [if_pos rfl, ← hSS, ← hTt, ← hgc, htv], rfl⟩) d_M_waste_144
        · have hB0 : 0 < B := Nat.pos_of_ne_zero (fun y => d9 ((lg_cmp_eq _ _).mpr (by rw [y]; rfl)))
          have hm := Nat.mod_lt A hB0
          refine lv_lload hx hb d_M_waste_110 (lv_at hl 3 rfl) ?_
          refine lv_lload hx hb d_M_waste_112 (lv_at hl 4 rfl) ?_
          refine lv_lrem hx hb d_M_waste_114 (fun y => absurd ((lN_pz (by omega)).mp y) (by omega)) ?_
          refine lv_topl (fun z11 ez11 => ?_)
          obtain rfl : z11 = (lN (A % B)) := by rw [ez11]; exact pk_lRem (by omega) hB0 (by omega)
          refine lv_lstore (lv' := [(10, .long (lN (A % B))), (1, .int 0), (2, .long (lN S)), (4, .long tv), (6, .long (lN A)), (8, .long (lN B))]) hx hb d_M_waste_115 hl (by decide) rfl (fun ls hl => ?_)
          refine lv_lload hx hb d_M_waste_117 (lv_at hl 5 rfl) ?_
          refine lv_lstore (lv' := [(6, .long (lN B)), (10, .long (lN (A % B))), (1, .int 0), (2, .long (lN S)), (4, .long tv), (8, .long (lN B))]) hx hb d_M_waste_119 hl (by decide) rfl (fun ls hl => ?_)
          refine lv_lload hx hb d_M_waste_121 (lv_at hl 1 rfl) ?_
          refine lv_lstore (lv' := [(8, .long (lN (A % B))), (6, .long (lN B)), (10, .long (lN (A % B))), (1, .int 0), (2, .long (lN S)), (4, .long tv)]) hx hb d_M_waste_123 hl (by decide) rfl (fun ls hl => ?_)
          refine lv_goto (tgt := 103) hx hb d_M_waste_125 (by decide) ?_
          exact ih B (A % B) tv (by omega) htv (by rw [← hgc, Nat.gcd_comm A B, Nat.gcd_rec B A, Nat.gcd_comm]) hB1 (by omega) _ _ hP hD hS ls (lv_sub hl [3, 4, 5, 1, 0] rfl)
    have loop : ∀ (f : Nat) (c1 : Nat) (tv : Int64), dn.length - c1 < f → c1 ≤ dn.length → tv = lZ ((S : Int) - (wsN X Y nc dn c1 : Nat)) → ∀ (H : Heap) (locs : List Loc), va_P D ncl (w_M a cA (va_up ii 0 0) li ia la) H → va_D (va_A (w_M a cA ii li ia la) s.heap.size) (w_M a cA (va_up ii 0 0) li ia la) → va_S (va_A (w_M a cA ii li ia la) s.heap.size) s.heap H locs → ∀ (ls : Array Slot), lv_has ls 12 [(0, .ref (a 0)), (1, .int 0), (2, .long (lN S)), (4, .long tv), (6, .int (nI (6 * c1)))] → W p l e ({ frames := 1, cells := 0, slots := 0, locals := 40 }) s m ([.ref (a 0), .int v] : List Value).toArray below meth c H locs 0 0 (MQ below (va_Ql (fun (r : Int64) (u : St) => (∃ i, i < 2 ∧ v = nI i ∧ r = (if i = 0 then lZ ((2 * w * h : Nat) - (wsN X Y nc dn dn.length : Nat) : Int) else lN (2 * w * h)) / lN (Nat.gcd ((2 * w * h : Nat) - (wsN X Y nc dn dn.length : Nat) : Int).natAbs (2 * w * h)) ∧ u = (va_up ii 0 0, li, ia, la)) ∨ (¬ (∃ i, i < 2 ∧ v = nI i) ∧ u = (va_up ii 0 1, li, ia, la))) (wB D (va_A (w_M a cA ii li ia la) s.heap.size) (fun (u : St) => w_M a cA u.1 u.2.1 u.2.2.1 u.2.2.2)) (va_A (w_M a cA ii li ia la) s.heap.size)) ([.ref (a 0), .int v] : List Value).toArray s 0 0 (va_A (w_M a cA ii li ia la) s.heap.size)) (F0 m 47 ls []) := by
      intro f
      induction f with
      | zero => intro c1 tv h; exact absurd h (Nat.not_lt_zero _)
      | succ f ih =>
        intro c1 tv hf hc1 htv H locs hP hD hS ls hl
        refine lv_iload hx hb d_M_waste_47 (lv_at hl 4 rfl) ?_
        refine lv_bipush (v := 6) hx hb d_M_waste_49 (by decide) ?_
        refine lv_aload_n hx hb d_M_waste_51 rfl (lv_at hl 0 rfl) ?_
        refine va_get (D := D) (ci := 1) (v := .int (ii 13)) (C := R_M) (T := T_M) (N := 26) hx hb (uw_M Z.1 hg.1) (fun _ h => h) hown hK hP 0 rfl rfl 13 (by decide) (kw617 Z.1 _ _ hg.1) (fun _ h9 => h9) rfl d_M_waste_52 ?_
        refine lv_topi (fun z12 ez12 => ?_)
        obtain rfl : z12 = (nI dn.length) := by rw [ez12]; exact hdn.1
        refine lv_imul hx hb d_M_waste_55 ?_
        refine lv_topi (fun z13 ez13 => ?_)
        obtain rfl : z13 = (nI (6 * dn.length)) := by rw [ez13]; exact pk_mul 6 _
        refine lv_icmp_ge (tgt := 82) hx hb d_M_waste_56 (by decide) (fun c14 => ?_) (fun c14 => ?_)
        · obtain rfl : c1 = dn.length := by have := (nI_leI (by omega) (by omega)).mp c14; omega
          rw [← hTt] at htv
          refine lv_lload hx hb d_M_waste_82 (lv_at hl 3 rfl) ?_
          refine lv_lconst (v := 0) hx hb d_M_waste_84 (by decide) ?_
          refine W.lcmp hx hb d_M_waste_85 ?_
          refine lv_if_ge (tgt := 96) hx hb d_M_waste_86 (by decide) (fun e15 => ?_) (fun e15 => ?_)
          · have h0 : 0 ≤ Tt := by have h9 := (lg_cmp_ge _ _).mp e15; rw [htv] at h9; exact (lZ_le (a := 0) (by omega) (by omega) (by omega) (by omega)).mp h9
            refine lv_lload hx hb d_M_waste_96 (lv_at hl 3 rfl) ?_
            refine lv_topl (fun z16 ez16 => ?_)
            obtain rfl : z16 = (lN Tt.natAbs) := by rw [ez16]; rw [htv, ← lZ_nat]; congr 1; omega
            refine lv_lstore (lv' := [(6, .long (lN Tt.natAbs)), (0, .ref (a 0)), (1, .int 0), (2, .long (lN S)), (4, .long tv)]) hx hb d_M_waste_98 hl (by decide) rfl (fun ls hl => ?_)
            refine lv_lload_n hx hb d_M_waste_100 rfl (lv_at hl 3 rfl) ?_
            refine lv_lstore (lv' := [(8, .long (lN S)), (6, .long (lN Tt.natAbs)), (0, .ref (a 0)), (1, .int 0), (2, .long (lN S)), (4, .long tv)]) hx hb d_M_waste_101 hl (by decide) rfl (fun ls hl => ?_)
            exact gcdl (S + 1) Tt.natAbs S tv (by omega) htv rfl (by omega) (by omega) _ _ hP hD hS ls (lv_sub hl [3, 4, 5, 1, 0] rfl)
          · have h0 : Tt < 0 := by have h9 := Int64.not_le.mp (fun y => e15 ((lg_cmp_ge _ _).mpr y)); rw [htv] at h9; exact (lZ_lt (b := 0) (by omega) (by omega) (by omega) (by omega)).mp h9
            refine lv_lconst (v := 0) hx hb d_M_waste_89 (by decide) ?_
            refine lv_lload hx hb d_M_waste_90 (lv_at hl 3 rfl) ?_
            refine lv_lsub hx hb d_M_waste_92 ?_
            refine lv_topl (fun z17 ez17 => ?_)
            obtain rfl : z17 = (lN Tt.natAbs) := by rw [ez17]; rw [htv, show (0 : Int64) = lZ 0 from rfl, lZ_sub, ← lZ_nat]; congr 1; omega
            refine lv_goto (tgt := 98) hx hb d_M_waste_93 (by decide) ?_
            refine lv_lstore (lv' := [(6, .long (lN Tt.natAbs)), (0, .ref (a 0)), (1, .int 0), (2, .long (lN S)), (4, .long tv)]) hx hb d_M_waste_98 hl (by decide) rfl (fun ls hl => ?_)
            refine lv_lload_n hx hb d_M_waste_100 rfl (lv_at hl 3 rfl) ?_
            refine lv_lstore (lv' := [(8, .long (lN S)), (6, .long (lN Tt.natAbs)), (0, .ref (a 0)), (1, .int 0), (2, .long (lN S)), (4, .long tv)]) hx hb d_M_waste_101 hl (by decide) rfl (fun ls hl => ?_)
            exact gcdl (S + 1) Tt.natAbs S tv (by omega) htv rfl (by omega) (by omega) _ _ hP hD hS ls (lv_sub hl [3, 4, 5, 1, 0] rfl)
        · have hcl : c1 < dn.length := Nat.lt_of_not_le (fun y => c14 ((nI_leI (by omega) (by omega)).mpr (by omega)))
          obtain ⟨b, hbq⟩ : ∃ z, z = cpk (dn.getD c1 cp0) 0 := ⟨_, rfl⟩
          have hb4 : b < 4 := by rw [hbq]; exact hd4 c1 hcl
          refine lv_lload hx hb d_M_waste_59 (lv_at hl 3 rfl) ?_
          refine lv_aload_n hx hb d_M_waste_61 rfl (lv_at hl 0 rfl) ?_
          refine lv_aload_n hx hb d_M_waste_62 rfl (lv_at hl 0 rfl) ?_
          refine va_get (D := D) (ci := 1) (v := .ref (a 15)) (C := R_M) (T := T_M) (N := 26) hx hb (uw_M Z.1 hg.1) (fun _ h => h) hown hK hP 0 rfl rfl 14 (by decide) (kw618 Z.1 _ _ hg.1) (fun _ h9 => h9) rfl d_M_waste_63 ?_
          refine lv_iload hx hb d_M_waste_66 (lv_at hl 4 rfl) ?_
          refine va_lald hx hb hK hP 8 1 rfl rfl (vp_in_nI (n := 6 * c1) (N := 1200) (by omega) (by decide)) d_M_waste_68 ?_
          refine lv_topl (fun z18 ez18 => ?_)
          rw [nI_clamp (n := (6 * c1)) (by omega)] at ez18
          obtain rfl : z18 = ((la 14) (6 * c1)) := ez18
          refine lv_topl (fun z19 ez19 => ?_)
          obtain rfl : z19 = (lN b) := by rw [ez19]; rw [hbq]; exact hdn.2 c1 hcl 0 (by decide)
          refine lv_l2i hx hb d_M_waste_69 rfl ?_
          refine lv_topi (fun z20 ez20 => ?_)
          obtain rfl : z20 = (nI b) := by rw [ez20]; exact lN_i _
          refine w_calll (wr := ([] : va_W)) (w_runV (rest := [.long tv]) hx hb hml hown hl.1 hg hlo hK hP hD hS (m_M_areaOf Z a (va_up ii 0 0) li ia la b (nc b) (X b) (Y b) hb4 (hnc b hb4).1 (hnc b hb4).2 (hX b hb4) (hY b hb4) H.size) (kw810 Z.1) (kw812 Z.1) (kp_M_areaOf Z.1) (kw813 Z.1) (kw6 Z.1) ⟨by decide, by decide, (by decide +kernel : (parseMethodDescriptor y_M_areaOf.desc).map (fun d => d.parameters.length) = some 1)⟩ ⟨Nat.le_of_ble_eq_true rfl, Nat.le_of_ble_eq_true rfl⟩ [0, 1, 2, 3, 4, 5, 6, 7, 8, 9, 10, 11, 12, 13, 14, 15, 16] rfl rfl (ci := 1) (q0 := 0) rfl rfl rfl (Nat.le_of_ble_eq_true rfl) d_M_waste_70 ⟨Nat.le_of_ble_eq_true rfl, Nat.le_of_ble_eq_true rfl⟩) hP hD hS hA [0, 1, 2, 3, 4, 5, 6, 7, 8, 9, 10, 11, 12, 13, 14, 15, 16] [] rfl rfl rfl (by decide) (fun _ => w_M a cA (va_up ii 0 0) li ia la) [0, 1, 2, 3, 4, 5, 6, 7, 8, 9, 10, 11, 12, 13, 14, 15, 16] rfl (fun _ => rfl) (fun r1 u H locs hr1 hP hD hS => ?_)
          refine W.widen (k := 0) (n := 0) (Nat.le_of_ble_eq_true rfl) (Nat.le_of_ble_eq_true rfl) ?_
          have hr1 : r1 = lN (arN X Y nc b) := hr1
          refine lv_lsub hx hb d_M_waste_73 ?_
          refine lv_topl (fun nv env => ?_)
          have hnv : nv = lZ ((S : Int) - (wsN X Y nc dn (c1 + 1) : Nat)) := by rw [env]; rw [htv, hr1, ← lZ_nat, lZ_sub]; congr 1; unfold wsN; rw [sm, ← hbq]; omega
          clear env
          refine lv_lstore (lv' := [(4, .long nv), (0, .ref (a 0)), (1, .int 0), (2, .long (lN S)), (6, .int (nI (6 * c1)))]) hx hb d_M_waste_74 hl (by decide) rfl (fun ls hl => ?_)
          obtain ⟨v21, ev21⟩ : ∃ y : Int32, y = (nI (6 * c1)) + 6 := ⟨_, rfl⟩
          refine lv_iinc (v := v21) (lv' := [(6, .int v21), (4, .long nv), (0, .ref (a 0)), (1, .int 0), (2, .long (lN S))]) hx hb d_M_waste_76 hl (k := 4) rfl (by rw [ev21]; rfl) (by decide) rfl (fun ls hl => ?_)
          refine lv_goto (tgt := 47) hx hb d_M_waste_79 (by decide) ?_
          obtain rfl : v21 = nI (6 * (c1 + 1)) := by rw [ev21]; exact nI_add (6 * c1) 6
          exact ih (c1 + 1) nv (by omega) hcl hnv _ _ hP hD hS ls (lv_sub hl [2, 3, 4, 1, 0] rfl)
    exact loop (dn.length + 1) 0 _ (by omega) (Nat.zero_le _) rfl _ _ hP hD hS ls (lv_sub hl [3, 4, 2, 1, 0] rfl)
  · refine lv_iload_n hx hb d_M_waste_5 rfl (lv_at hl 1 rfl) ?_
    refine lv_iconst (v := 1) hx hb d_M_waste_6 (by decide) ?_
    refine lv_icmp_ne (tgt := 14) hx hb d_M_waste_7 (by decide) (fun w22 => ?_) (fun w22 => ?_)
    · refine lv_iconst (v := 1) hx hb d_M_waste_14 (by decide) ?_
      refine va_put (D := D) (ci := 1) (v := .int 1) (ty := t_M 0) (C := R_M) (T := T_M) (N := 26) hx hb (uw_M Z.1 hg.1) (fun _ h => h) t_M t_M_ok n_M hown hK hP hD hS 0 rfl rfl 0 (by decide) (kw604 Z.1 _ _ hg.1) (fun _ h9 => h9) rfl (by decide +kernel) rfl rfl (Nat.le_of_ble_eq_true rfl) d_M_waste_15 (fun H locs hP hD hS => ?_)
      have hP : va_P D ncl (w_M a cA (va_up ii 0 1) li ia la) H := hP
      have hD : va_D _ (w_M a cA (va_up ii 0 1) li ia la) := hD
      refine lv_aload_n hx hb d_M_waste_18 rfl (lv_at hl 0 rfl) ?_
      refine va_get (D := D) (ci := 1) (v := .int 1) (C := R_M) (T := T_M) (N := 26) hx hb (uw_M Z.1 hg.1) (fun _ h => h) hown hK hP 0 rfl rfl 0 (by decide) (kw604 Z.1 _ _ hg.1) (fun _ h9 => h9) rfl d_M_waste_19 ?_
      refine lv_if_eq (tgt := 27) hx hb d_M_waste_22 (by decide) (fun k43 => by first | exact absurd (show ¬ (1 : Int32) = 0 by decide) k43 | exact absurd k43 (show ¬ (1 : Int32) = 0 by decide)) (fun _ => ?_)
      refine lv_lconst (v := 0) hx hb d_M_waste_25 (by decide) ?_
      exact w_lret hx hb hr hlk hP hD hS ((va_up ii 0 1), li, ia, la) rfl (Or.inr ⟨fun z => by obtain ⟨i, z1, z2⟩ := z; rcases (by omega : i = 0 ∨ i = 1) with y | y; exact w1 (by rw [z2, y]; rfl); exact w22 (by rw [z2, y]; rfl), rfl⟩) d_M_waste_26
    · have hv0 : v = nI 1 := w22
      rw [w22] at hl
      refine lv_iconst (v := 0) hx hb d_M_waste_10 (by decide) ?_
      refine lv_goto (tgt := 15) hx hb d_M_waste_11 (by decide) ?_
      refine va_put (D := D) (ci := 1) (v := .int 0) (ty := t_M 0) (C := R_M) (T := T_M) (N := 26) hx hb (uw_M Z.1 hg.1) (fun _ h => h) t_M t_M_ok n_M hown hK hP hD hS 0 rfl rfl 0 (by decide) (kw604 Z.1 _ _ hg.1) (fun _ h9 => h9) rfl (by decide +kernel) rfl rfl (Nat.le_of_ble_eq_true rfl) d_M_waste_15 (fun H locs hP hD hS => ?_)
      have hP : va_P D ncl (w_M a cA (va_up ii 0 0) li ia la) H := hP
      have hD : va_D _ (w_M a cA (va_up ii 0 0) li ia la) := hD
      refine lv_aload_n hx hb d_M_waste_18 rfl (lv_at hl 0 rfl) ?_
      refine va_get (D := D) (ci := 1) (v := .int 0) (C := R_M) (T := T_M) (N := 26) hx hb (uw_M Z.1 hg.1) (fun _ h => h) hown hK hP 0 rfl rfl 0 (by decide) (kw604 Z.1 _ _ hg.1) (fun _ h9 => h9) rfl d_M_waste_19 ?_
      refine lv_if_eq (tgt := 27) hx hb d_M_waste_22 (by decide) (fun _ => ?_) (fun k23 => by first | exact absurd (show (0 : Int32) = 0 from rfl) k23 | exact absurd k23 (show (0 : Int32) = 0 from rfl))
      refine lv_ldc2 (v := 2) hx hb hown (kw796 Z.1 _ _ hg.1) d_M_waste_27 ?_
      refine lv_aload_n hx hb d_M_waste_30 rfl (lv_at hl 0 rfl) ?_
      refine va_get (D := D) (ci := 1) (v := .long (li 1)) (C := R_M) (T := T_M) (N := 26) hx hb (uw_M Z.1 hg.1) (fun _ h => h) hown hK hP 0 rfl rfl 1 (by decide) (kw605 Z.1 _ _ hg.1) (fun _ h9 => h9) rfl d_M_waste_31 ?_
      refine lv_topl (fun z24 ez24 => ?_)
      obtain rfl : z24 = (lN w) := by rw [ez24]; exact hw
      refine lv_lmul hx hb d_M_waste_34 ?_
      refine lv_topl (fun z25 ez25 => ?_)
      obtain rfl : z25 = (lN (2 * w)) := by rw [ez25]; exact lN_mul 2 _
      refine lv_aload_n hx hb d_M_waste_35 rfl (lv_at hl 0 rfl) ?_
      refine va_get (D := D) (ci := 1) (v := .long (li 2)) (C := R_M) (T := T_M) (N := 26) hx hb (uw_M Z.1 hg.1) (fun _ h => h) hown hK hP 0 rfl rfl 2 (by decide) (kw606 Z.1 _ _ hg.1) (fun _ h9 => h9) rfl d_M_waste_36 ?_
      refine lv_topl (fun z26 ez26 => ?_)
      obtain rfl : z26 = (lN h) := by rw [ez26]; exact hh
      refine lv_lmul hx hb d_M_waste_39 ?_
      refine lv_topl (fun z27 ez27 => ?_)
      obtain rfl : z27 = (lN S) := by rw [ez27]; rw [hSS]; exact lN_mul _ _
      refine lv_lstore_n (lv' := [(2, .long (lN S)), (0, .ref (a 0)), (1, .int 1)]) hx hb d_M_waste_40 rfl hl (by decide) rfl (fun ls hl => ?_)
      refine lv_lload_n hx hb d_M_waste_41 rfl (lv_at hl 0 rfl) ?_
      refine lv_topl (fun z28 ez28 => ?_)
      obtain rfl : z28 = (lZ ((S : Int) - (wsN X Y nc dn 0 : Nat))) := by rw [ez28]; rw [← lZ_nat]; congr 1
      refine lv_lstore (lv' := [(4, .long (lZ ((S : Int) - (wsN X Y nc dn 0 : Nat)))), (2, .long (lN S)), (0, .ref (a 0)), (1, .int 1)]) hx hb d_M_waste_42 hl (by decide) rfl (fun ls hl => ?_)
      refine lv_iconst (v := 0) hx hb d_M_waste_44 (by decide) ?_
      refine lv_topi (fun z29 ez29 => ?_)
      obtain rfl : z29 = (nI (6 * 0)) := by rw [ez29]; rfl
      refine lv_istore (lv' := [(6, .int (nI (6 * 0))), (4, .long (lZ ((S : Int) - (wsN X Y nc dn 0 : Nat)))), (2, .long (lN S)), (0, .ref (a 0)), (1, .int 1)]) hx hb d_M_waste_45 hl (by decide) rfl (fun ls hl => ?_)
      obtain ⟨Tt, hTt⟩ : ∃ z : Int, z = (S : Int) - (wsN X Y nc dn dn.length : Nat) := ⟨_, rfl⟩
      have hws1 := hws dn.length (Nat.le_refl _)
      have gcdl : ∀ (f : Nat) (A B : Nat) (tv : Int64), B < f → tv = lZ Tt → Nat.gcd A B = Nat.gcd Tt.natAbs S → A ≤ 100000000000000 → B ≤ 100000000000000 → ∀ (H : Heap) (locs : List Loc), va_P D ncl (w_M a cA (va_up ii 0 0) li ia la) H → va_D (va_A (w_M a cA ii li ia la) s.heap.size) (w_M a cA (va_up ii 0 0) li ia la) → va_S (va_A (w_M a cA ii li ia la) s.heap.size) s.heap H locs → ∀ (ls : Array Slot), lv_has ls 12 [(1, .int 1), (2, .long (lN S)), (4, .long tv), (6, .long (lN A)), (8, .long (lN B))] → W p l e ({ frames := 1, cells := 0, slots := 0, locals := 40 }) s m ([.ref (a 0), .int v] : List Value).toArray below meth c H locs 0 0 (MQ below (va_Ql (fun (r : Int64) (u : St) => (∃ i, i < 2 ∧ v = nI i ∧ r = (if i = 0 then lZ ((2 * w * h : Nat) - (wsN X Y nc dn dn.length : Nat) : Int) else lN (2 * w * h)) / lN (Nat.gcd ((2 * w * h : Nat) - (wsN X Y nc dn dn.length : Nat) : Int).natAbs (2 * w * h)) ∧ u = (va_up ii 0 0, li, ia, la)) ∨ (¬ (∃ i, i < 2 ∧ v = nI i) ∧ u = (va_up ii 0 1, li, ia, la))) (wB D (va_A (w_M a cA ii li ia la) s.heap.size) (fun (u : St) => w_M a cA u.1 u.2.1 u.2.2.1 u.2.2.2)) (va_A (w_M a cA ii li ia la) s.heap.size)) ([.ref (a 0), .int v] : List Value).toArray s 0 0 (va_A (w_M a cA ii li ia la) s.heap.size)) (F0 m 103 ls []) := by
        intro f
        induction f with
        | zero => intro A B tv h; exact absurd h (Nat.not_lt_zero _)
        | succ f ih =>
          intro A B tv hf htv hgc hA1 hB1 H locs hP hD hS ls hl
          refine lv_lload hx hb d_M_waste_103 (lv_at hl 4 rfl) ?_
          refine lv_lconst (v := 0) hx hb d_M_waste_105 (by decide) ?_
          refine W.lcmp hx hb d_M_waste_106 ?_
          refine lv_if_eq (tgt := 128) hx hb d_M_waste_107 (by decide) (fun d30 => ?_) (fun d30 => ?_)
          · have hB0 : B = 0 := (lN_pz (by omega)).mp ((lg_cmp_eq _ _).mp d30)
            rw [hB0, Nat.gcd_zero_right] at hgc
            have hA0 : A ≠ 0 := fun y => by rw [y] at hgc; have := Nat.gcd_pos_of_pos_right Tt.natAbs hS1; omega
            refine lv_iload_n hx hb d_M_waste_128 rfl (lv_at hl 0 rfl) ?_
            refine lv_if_ne (tgt := 140) hx hb d_M_waste_129 (by decide) (fun _ => ?_) (fun k31 => by first | exact absurd (show ¬ (1 : Int32) = 0 by decide) k31 | exact absurd k31 (show ¬ (1 : Int32) = 0 by decide))
            refine lv_lload_n hx hb d_M_waste_140 rfl (lv_at hl 1 rfl) ?_
            refine lv_lload hx hb d_M_waste_141 (lv_at hl 3 rfl) ?_
            refine lv_ldiv hx hb d_M_waste_143 (fun y => hA0 ((lN_pz (by omega)).mp y)) ?_
            exact w_lret hx hb hr hlk hP hD hS ((va_up ii 0 0), li, ia, la) rfl (Or.inl ⟨1, by decide, hv0, by rw [if_neg (by decide), ← hSS, ← hTt, ← hgc], rfl⟩) d_M_waste_144
          · have hB0 : 0 < B := Nat.pos_of_ne_zero (fun y => d30 ((lg_cmp_eq _ _).mpr (by rw [y]; rfl)))
            have hm := Nat.mod_lt A hB0
            refine lv_lload hx hb d_M_waste_110 (lv_at hl 3 rfl) ?_
            refine lv_lload hx hb d_M_waste_112 (lv_at hl 4 rfl) ?_
            refine lv_lrem hx hb d_M_waste_114 (fun y => absurd ((lN_pz (by omega)).mp y) (by omega)) ?_
            refine lv_topl (fun z32 ez32 => ?_)
            obtain rfl : z32 = (lN (A % B)) := by rw [ez32]; exact pk_lRem (by omega) hB0 (by omega)
            refine lv_lstore (lv' := [(10, .long (lN (A % B))), (1, .int 1), (2, .long (lN S)), (4, .long tv), (6, .long (lN A)), (8, .long (lN B))]) hx hb d_M_waste_115 hl (by decide) rfl (fun ls hl => ?_)
            refine lv_lload hx hb d_M_waste_117 (lv_at hl 5 rfl) ?_
            refine lv_lstore (lv' := [(6, .long (lN B)), (10, .long (lN (A % B))), (1, .int 1), (2, .long (lN S)), (4, .long tv), (8, .long (lN B))]) hx hb d_M_waste_119 hl (by decide) rfl (fun ls hl => ?_)
            refine lv_lload hx hb d_M_waste_121 (lv_at hl 1 rfl) ?_
            refine lv_lstore (lv' := [(8, .long (lN (A % B))), (6, .long (lN B)), (10, .long (lN (A % B))), (1, .int 1), (2, .long (lN S)), (4, .long tv)]) hx hb d_M_waste_123 hl (by decide) rfl (fun ls hl => ?_)
            refine lv_goto (tgt := 103) hx hb d_M_waste_125 (by decide) ?_
            exact ih B (A % B) tv (by omega) htv (by rw [← hgc, Nat.gcd_comm A B, Nat.gcd_rec B A, Nat.gcd_comm]) hB1 (by omega) _ _ hP hD hS ls (lv_sub hl [3, 4, 5, 1, 0] rfl)
      have loop : ∀ (f : Nat) (c1 : Nat) (tv : Int64), dn.length - c1 < f → c1 ≤ dn.length → tv = lZ ((S : Int) - (wsN X Y nc dn c1 : Nat)) → ∀ (H : Heap) (locs : List Loc), va_P D ncl (w_M a cA (va_up ii 0 0) li ia la) H → va_D (va_A (w_M a cA ii li ia la) s.heap.size) (w_M a cA (va_up ii 0 0) li ia la) → va_S (va_A (w_M a cA ii li ia la) s.heap.size) s.heap H locs → ∀ (ls : Array Slot), lv_has ls 12 [(0, .ref (a 0)), (1, .int 1), (2, .long (lN S)), (4, .long tv), (6, .int (nI (6 * c1)))] → W p l e ({ frames := 1, cells := 0, slots := 0, locals := 40 }) s m ([.ref (a 0), .int v] : List Value).toArray below meth c H locs 0 0 (MQ below (va_Ql (fun (r : Int64) (u : St) => (∃ i, i < 2 ∧ v = nI i ∧ r = (if i = 0 then lZ ((2 * w * h : Nat) - (wsN X Y nc dn dn.length : Nat) : Int) else lN (2 * w * h)) / lN (Nat.gcd ((2 * w * h : Nat) - (wsN X Y nc dn dn.length : Nat) : Int).natAbs (2 * w * h)) ∧ u = (va_up ii 0 0, li, ia, la)) ∨ (¬ (∃ i, i < 2 ∧ v = nI i) ∧ u = (va_up ii 0 1, li, ia, la))) (wB D (va_A (w_M a cA ii li ia la) s.heap.size) (fun (u : St) => w_M a cA u.1 u.2.1 u.2.2.1 u.2.2.2)) (va_A (w_M a cA ii li ia la) s.heap.size)) ([.ref (a 0), .int v] : List Value).toArray s 0 0 (va_A (w_M a cA ii li ia la) s.heap.size)) (F0 m 47 ls []) := by
        intro f
        induction f with
        | zero => intro c1 tv h; exact absurd h (Nat.not_lt_zero _)
        | succ f ih =>
          intro c1 tv hf hc1 htv H locs hP hD hS ls hl
          refine lv_iload hx hb d_M_waste_47 (lv_at hl 4 rfl) ?_
          refine lv_bipush (v := 6) hx hb d_M_waste_49 (by decide) ?_
          refine lv_aload_n hx hb d_M_waste_51 rfl (lv_at hl 0 rfl) ?_
          refine va_get (D := D) (ci := 1) (v := .int (ii 13)) (C := R_M) (T := T_M) (N := 26) hx hb (uw_M Z.1 hg.1) (fun _ h => h) hown hK hP 0 rfl rfl 13 (by decide) (kw617 Z.1 _ _ hg.1) (fun _ h9 => h9) rfl d_M_waste_52 ?_
          refine lv_topi (fun z33 ez33 => ?_)
          obtain rfl : z33 = (nI dn.length) := by rw [ez33]; exact hdn.1
          refine lv_imul hx hb d_M_waste_55 ?_
          refine lv_topi (fun z34 ez34 => ?_)
          obtain rfl : z34 = (nI (6 * dn.length)) := by rw [ez34]; exact pk_mul 6 _
          refine lv_icmp_ge (tgt := 82) hx hb d_M_waste_56 (by decide) (fun c35 => ?_) (fun c35 => ?_)
          · obtain rfl : c1 = dn.length := by have := (nI_leI (by omega) (by omega)).mp c35; omega
            rw [← hTt] at htv
            refine lv_lload hx hb d_M_waste_82 (lv_at hl 3 rfl) ?_
            refine lv_lconst (v := 0) hx hb d_M_waste_84 (by decide) ?_
            refine W.lcmp hx hb d_M_waste_85 ?_
            refine lv_if_ge (tgt := 96) hx hb d_M_waste_86 (by decide) (fun e36 => ?_) (fun e36 => ?_)
            · have h0 : 0 ≤ Tt := by have h9 := (lg_cmp_ge _ _).mp e36; rw [htv] at h9; exact (lZ_le (a := 0) (by omega) (by omega) (by omega) (by omega)).mp h9
              refine lv_lload hx hb d_M_waste_96 (lv_at hl 3 rfl) ?_
              refine lv_topl (fun z37 ez37 => ?_)
              obtain rfl : z37 = (lN Tt.natAbs) := by rw [ez37]; rw [htv, ← lZ_nat]; congr 1; omega
              refine lv_lstore (lv' := [(6, .long (lN Tt.natAbs)), (0, .ref (a 0)), (1, .int 1), (2, .long (lN S)), (4, .long tv)]) hx hb d_M_waste_98 hl (by decide) rfl (fun ls hl => ?_)
              refine lv_lload_n hx hb d_M_waste_100 rfl (lv_at hl 3 rfl) ?_
              refine lv_lstore (lv' := [(8, .long (lN S)), (6, .long (lN Tt.natAbs)), (0, .ref (a 0)), (1, .int 1), (2, .long (lN S)), (4, .long tv)]) hx hb d_M_waste_101 hl (by decide) rfl (fun ls hl => ?_)
              exact gcdl (S + 1) Tt.natAbs S tv (by omega) htv rfl (by omega) (by omega) _ _ hP hD hS ls (lv_sub hl [3, 4, 5, 1, 0] rfl)
            · have h0 : Tt < 0 := by have h9 := Int64.not_le.mp (fun y => e36 ((lg_cmp_ge _ _).mpr y)); rw [htv] at h9; exact (lZ_lt (b := 0) (by omega) (by omega) (by omega) (by omega)).mp h9
              refine lv_lconst (v := 0) hx hb d_M_waste_89 (by decide) ?_
              refine lv_lload hx hb d_M_waste_90 (lv_at hl 3 rfl) ?_
              refine lv_lsub hx hb d_M_waste_92 ?_
              refine lv_topl (fun z38 ez38 => ?_)
              obtain rfl : z38 = (lN Tt.natAbs) := by rw [ez38]; rw [htv, show (0 : Int64) = lZ 0 from rfl, lZ_sub, ← lZ_nat]; congr 1; omega
              refine lv_goto (tgt := 98) hx hb d_M_waste_93 (by decide) ?_
              refine lv_lstore (lv' := [(6, .long (lN Tt.natAbs)), (0, .ref (a 0)), (1, .int 1), (2, .long (lN S)), (4, .long tv)]) hx hb d_M_waste_98 hl (by decide) rfl (fun ls hl => ?_)
              refine lv_lload_n hx hb d_M_waste_100 rfl (lv_at hl 3 rfl) ?_
              refine lv_lstore (lv' := [(8, .long (lN S)), (6, .long (lN Tt.natAbs)), (0, .ref (a 0)), (1, .int 1), (2, .long (lN S)), (4, .long tv)]) hx hb d_M_waste_101 hl (by decide) rfl (fun ls hl => ?_)
              exact gcdl (S + 1) Tt.natAbs S tv (by omega) htv rfl (by omega) (by omega) _ _ hP hD hS ls (lv_sub hl [3, 4, 5, 1, 0] rfl)
          · have hcl : c1 < dn.length := Nat.lt_of_not_le (fun y => c35 ((nI_leI (by omega) (by omega)).mpr (by omega)))
            obtain ⟨b, hbq⟩ : ∃ z, z = cpk (dn.getD c1 cp0) 0 := ⟨_, rfl⟩
            have hb4 : b < 4 := by rw [hbq]; exact hd4 c1 hcl
            refine lv_lload hx hb d_M_waste_59 (lv_at hl 3 rfl) ?_
            refine lv_aload_n hx hb d_M_waste_61 rfl (lv_at hl 0 rfl) ?_
            refine lv_aload_n hx hb d_M_waste_62 rfl (lv_at hl 0 rfl) ?_
            refine va_get (D := D) (ci := 1) (v := .ref (a 15)) (C := R_M) (T := T_M) (N := 26) hx hb (uw_M Z.1 hg.1) (fun _ h => h) hown hK hP 0 rfl rfl 14 (by decide) (kw618 Z.1 _ _ hg.1) (fun _ h9 => h9) rfl d_M_waste_63 ?_
            refine lv_iload hx hb d_M_waste_66 (lv_at hl 4 rfl) ?_
            refine va_lald hx hb hK hP 8 1 rfl rfl (vp_in_nI (n := 6 * c1) (N := 1200) (by omega) (by decide)) d_M_waste_68 ?_
            refine lv_topl (fun z39 ez39 => ?_)
            rw [nI_clamp (n := (6 * c1)) (by omega)] at ez39
            obtain rfl : z39 = ((la 14) (6 * c1)) := ez39
            refine lv_topl (fun z40 ez40 => ?_)
            obtain rfl : z40 = (lN b) := by rw [ez40]; rw [hbq]; exact hdn.2 c1 hcl 0 (by decide)
            refine lv_l2i hx hb d_M_waste_69 rfl ?_
            refine lv_topi (fun z41 ez41 => ?_)
            obtain rfl : z41 = (nI b) := by rw [ez41]; exact lN_i _
            refine w_calll (wr := ([] : va_W)) (w_runV (rest := [.long tv]) hx hb hml hown hl.1 hg hlo hK hP hD hS (m_M_areaOf Z a (va_up ii 0 0) li ia la b (nc b) (X b) (Y b) hb4 (hnc b hb4).1 (hnc b hb4).2 (hX b hb4) (hY b hb4) H.size) (kw810 Z.1) (kw812 Z.1) (kp_M_areaOf Z.1) (kw813 Z.1) (kw6 Z.1) ⟨by decide, by decide, (by decide +kernel : (parseMethodDescriptor y_M_areaOf.desc).map (fun d => d.parameters.length) = some 1)⟩ ⟨Nat.le_of_ble_eq_true rfl, Nat.le_of_ble_eq_true rfl⟩ [0, 1, 2, 3, 4, 5, 6, 7, 8, 9, 10, 11, 12, 13, 14, 15, 16] rfl rfl (ci := 1) (q0 := 0) rfl rfl rfl (Nat.le_of_ble_eq_true rfl) d_M_waste_70 ⟨Nat.le_of_ble_eq_true rfl, Nat.le_of_ble_eq_true rfl⟩) hP hD hS hA [0, 1, 2, 3, 4, 5, 6, 7, 8, 9, 10, 11, 12, 13, 14, 15, 16] [] rfl rfl rfl (by decide) (fun _ => w_M a cA (va_up ii 0 0) li ia la) [0, 1, 2, 3, 4, 5, 6, 7, 8, 9, 10, 11, 12, 13, 14, 15, 16] rfl (fun _ => rfl) (fun r1 u H locs hr1 hP hD hS => ?_)
            refine W.widen (k := 0) (n := 0) (Nat.le_of_ble_eq_true rfl) (Nat.le_of_ble_eq_true rfl) ?_
            have hr1 : r1 = lN (arN X Y nc b) := hr1
            refine lv_lsub hx hb d_M_waste_73 ?_
            refine lv_topl (fun nv env => ?_)
            have hnv : nv = lZ ((S : Int) - (wsN X Y nc dn (c1 + 1) : Nat)) := by rw [env]; rw [htv, hr1, ← lZ_nat, lZ_sub]; congr 1; unfold wsN; rw [sm, ← hbq]; omega
            clear env
            refine lv_lstore (lv' := [(4, .long nv), (0, .ref (a 0)), (1, .int 1), (2, .long (lN S)), (6, .int (nI (6 * c1)))]) hx hb d_M_waste_74 hl (by decide) rfl (fun ls hl => ?_)
            obtain ⟨v42, ev42⟩ : ∃ y : Int32, y = (nI (6 * c1)) + 6 := ⟨_, rfl⟩
            refine lv_iinc (v := v42) (lv' := [(6, .int v42), (4, .long nv), (0, .ref (a 0)), (1, .int 1), (2, .long (lN S))]) hx hb d_M_waste_76 hl (k := 4) rfl (by rw [ev42]; rfl) (by decide) rfl (fun ls hl => ?_)
            refine lv_goto (tgt := 47) hx hb d_M_waste_79 (by decide) ?_
            obtain rfl : v42 = nI (6 * (c1 + 1)) := by rw [ev42]; exact nI_add (6 * c1) 6
            exact ih (c1 + 1) nv (by omega) hcl hnv _ _ hP hD hS ls (lv_sub hl [2, 3, 4, 1, 0] rfl)
      exact loop (dn.length + 1) 0 _ (by omega) (Nat.zero_le _) rfl _ _ hP hD hS ls (lv_sub hl [3, 4, 2, 1, 0] rfl)
