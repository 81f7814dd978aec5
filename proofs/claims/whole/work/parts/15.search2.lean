theorem gd_l {α : Type} (x y : List α) (d : α) {j : Nat} (h : j < x.length) : (x ++ y).getD j d = x.getD j d := by
  simp [List.getD_eq_getElem?_getD, List.getElem?_append_left h]
theorem gd_r {α : Type} (x : List α) (y d : α) : (x ++ [y]).getD x.length d = y := by
  simp [List.getD_eq_getElem?_getD]
set_option maxHeartbeats 4000000 in
set_option maxRecDepth 100000 in
theorem m_S_tryRow {l : Launch} {s0 : State} {D : va_G} {cA sa : Nat → Nat} (Z : zE l s0 D cA sa) (a : Nat → Nat) (room hi : Nat → Nat) (M mr gap : Nat) : ∀ (f : Nat) (ii : Nat → Int32) (li : Nat → Int64) (ia : Nat → Nat → Int32) (la : Nat → Nat → Int64) (wl : Nat → Nat) (pre best : List (Nat × Nat)) (first : Nat) (free : Int) (_ : sR room hi wl M mr gap pre best (ii, li, ia, la)) (_ : pre.length + f = M) (_ : first ≤ 8) (_ : sr_cop pre ≤ 20 * pre.length) (_ : -200000 ≤ free) (_ : free ≤ 65536) (sz : Nat), Met l y_S_tryRow [.code y_S_tryRow c_S_tryRow 9 none] ({ frames := f + 1, cells := 0, slots := 0, locals := 40 * f + 40 }) (wP s0 D [.ref (a 0), .int (nI pre.length), .int (nI first), .int (nI (sr_cop pre)), .long (lZ free)] (w_S a cA ii li ia la) sz) (va_Qv (fun u => sR room hi wl M mr gap pre (sr_try room (fun k => (hi k : Int)) gap mr f pre first free wl best) u) (wB D (va_A (w_S a cA ii li ia la) sz) (fun u => w_S a cA u.1 u.2.1 u.2.2.1 u.2.2.2)) (va_A (w_S a cA ii li ia la) sz)) 0 0 (va_A (w_S a cA ii li ia la) sz) := by
  intro f
  induction f with
  | zero =>
    intro ii li ia la wl pre best first free hu hM hfi hcp hf1 hf2 sz
    refine wMet Z (by decide) (Nat.le_of_ble_eq_true rfl) ?_
    intro p e s m below meth c hx hb hr hml hown hlk hin hg hK hsz hP hD hA hlo hS ls hl
    subst hsz
    have hown : s.vm.findClass R_S = some m.cls := hown
    obtain ⟨u1, u2, ⟨u3, u4, u5, u6⟩, ⟨u7, u7a, u7b, u7c, u7d, u7e⟩, u8, u9⟩ := id hu
    dsimp only at u3 u4 u7 u7b u7d
    refine lv_iload_n hx hb d_S_tryRow_0 rfl (lv_at hl 1 rfl) ?_
    refine lv_aload_n hx hb d_S_tryRow_1 rfl (lv_at hl 0 rfl) ?_
    refine va_get (D := D) (ci := 4) (v := .int (ii 9)) (C := R_S) (T := T_S) (N := 12) hx hb (uw_S Z.1 hg.1) (fun _ h => h) hown hK hP 0 rfl rfl 9 (by decide) (kw96 Z.1 _ _ hg.1) (fun _ h9 => h9) rfl d_S_tryRow_2 ?_
    refine lv_icmp_ge (tgt := 28) hx hb d_S_tryRow_5 (by decide) (fun _ => ?_) (fun k1 => by first | exact absurd (show ii 9 ≤ nI pre.length by rw [u7]; exact nI_le (by omega) (by omega)) k1 | exact absurd k1 (show ii 9 ≤ nI pre.length by rw [u7]; exact nI_le (by omega) (by omega)))
    exact w_vret hx hb hr hlk hP hD hS (ii, li, ia, la) rfl (show sR room hi wl M mr gap pre best (ii, li, ia, la) from hu) d_S_tryRow_28
  | succ f ih =>
    intro ii li ia la wl pre best first free hu hM hfi hcp hf1 hf2 sz
    refine wMet Z (by decide) (Nat.le_of_ble_eq_true rfl) ?_
    intro p e s m below meth c hx hb hr hml hown hlk hin hg hK hsz hP hD hA hlo hS ls hl
    subst hsz
    have hown : s.vm.findClass R_S = some m.cls := hown
    obtain ⟨u1, u2, ⟨u3, u4, u5, u6⟩, ⟨u7, u7a, u7b, u7c, u7d, u7e⟩, u8, u9⟩ := id hu
    dsimp only at u3 u4 u7 u7b u7d
    refine lv_iload_n hx hb d_S_tryRow_0 rfl (lv_at hl 1 rfl) ?_
    refine lv_aload_n hx hb d_S_tryRow_1 rfl (lv_at hl 0 rfl) ?_
    refine va_get (D := D) (ci := 4) (v := .int (ii 9)) (C := R_S) (T := T_S) (N := 12) hx hb (uw_S Z.1 hg.1) (fun _ h => h) hown hK hP 0 rfl rfl 9 (by decide) (kw96 Z.1 _ _ hg.1) (fun _ h9 => h9) rfl d_S_tryRow_2 ?_
    refine lv_icmp_ge (tgt := 28) hx hb d_S_tryRow_5 (by decide) (fun k1 => by first | exact absurd (show ¬ ii 9 ≤ nI pre.length by rw [u7]; exact nI_ge (by omega) (by omega)) k1 | exact absurd k1 (show ¬ ii 9 ≤ nI pre.length by rw [u7]; exact nI_ge (by omega) (by omega))) (fun _ => ?_)
    refine lv_iload_n hx hb d_S_tryRow_8 rfl (lv_at hl 3 rfl) ?_
    refine lv_aload_n hx hb d_S_tryRow_9 rfl (lv_at hl 0 rfl) ?_
    refine va_get (D := D) (ci := 4) (v := .int (ii 9)) (C := R_S) (T := T_S) (N := 12) hx hb (uw_S Z.1 hg.1) (fun _ h => h) hown hK hP 0 rfl rfl 9 (by decide) (kw96 Z.1 _ _ hg.1) (fun _ h9 => h9) rfl d_S_tryRow_10 ?_
    refine lv_iload_n hx hb d_S_tryRow_13 rfl (lv_at hl 1 rfl) ?_
    rw [u7]
    refine lv_isub hx hb d_S_tryRow_14 ?_
    refine lv_topi (fun z2 ez2 => ?_)
    obtain rfl : z2 = (nI (f + 1)) := by rw [ez2]; rw [nI_sub (by omega)]; congr 1; omega
    refine lv_aload_n hx hb d_S_tryRow_15 rfl (lv_at hl 0 rfl) ?_
    refine va_get (D := D) (ci := 4) (v := .int (ii 10)) (C := R_S) (T := T_S) (N := 12) hx hb (uw_S Z.1 hg.1) (fun _ h => h) hown hK hP 0 rfl rfl 10 (by decide) (kw97 Z.1 _ _ hg.1) (fun _ h9 => h9) rfl d_S_tryRow_16 ?_
    rw [u7b]
    refine lv_imul hx hb d_S_tryRow_19 ?_
    refine lv_topi (fun z3 ez3 => ?_)
    obtain rfl : z3 = (nI ((f + 1) * mr)) := by rw [ez3]; exact pk_mul _ _
    refine lv_iadd hx hb d_S_tryRow_20 ?_
    refine lv_topi (fun z4 ez4 => ?_)
    obtain rfl : z4 = (nI (sr_cop pre + (f + 1) * mr)) := by rw [ez4]; exact nI_add _ _
    have hmu : (f + 1) * mr ≤ 9 * 20 := Nat.mul_le_mul (by omega) u7c
    refine lv_aload_n hx hb d_S_tryRow_21 rfl (lv_at hl 0 rfl) ?_
    refine va_get (D := D) (ci := 4) (v := .int (ii 8)) (C := R_S) (T := T_S) (N := 12) hx hb (uw_S Z.1 hg.1) (fun _ h => h) hown hK hP 0 rfl rfl 8 (by decide) (kw95 Z.1 _ _ hg.1) (fun _ h9 => h9) rfl d_S_tryRow_22 ?_
    rw [u4]
    refine lv_icmp_gt (tgt := 29) hx hb d_S_tryRow_25 (by decide) (fun c5 => ?_) (fun c5 => ?_)
    · have hcut : ¬ sr_cop pre + (f + 1) * mr ≤ sr_cop best := Nat.not_le.mpr ((nI_ltI (by omega) (by omega)).mp c5)
      obtain ⟨FI, hFI⟩ : ∃ z, z = sr_try room (fun k => (hi k : Int)) gap mr (f + 1) pre first free wl best := ⟨_, rfl⟩
      have hFI2 := hFI
      rw [sr_try, if_neg hcut] at hFI2
      obtain ⟨ST, hST⟩ : ∃ z : List (Nat × Nat) → Nat → List (Nat × Nat), z = (fun b k => if 0 < min (room k) (wl (k / 2)) ∧ (fun k => (hi k : Int)) k ≤ free then sr_try room (fun k => (hi k : Int)) gap mr f (pre ++ [(k, min (room k) (wl (k / 2)))]) k (free - (fun k => (hi k : Int)) k - gap) (va_up wl (k / 2) (wl (k / 2) - min (room k) (wl (k / 2)))) (sr_keep b (pre ++ [(k, min (room k) (wl (k / 2)))])) else b) := ⟨_, rfl⟩
      rw [← hST] at hFI2
      refine lv_iload_n hx hb d_S_tryRow_29 rfl (lv_at hl 2 rfl) ?_
      refine lv_istore (lv' := [(6, .int (nI first)), (0, .ref (a 0)), (1, .int (nI pre.length)), (2, .int (nI first)), (3, .int (nI (sr_cop pre))), (4, .long (lZ free))]) hx hb d_S_tryRow_30 hl (by decide) rfl (fun ls hl => ?_)
      have loop : ∀ (f2 : Nat) (k : Nat) (b : List (Nat × Nat)) (v : St), 8 - k < f2 → k ≤ 8 → sR room hi wl M mr gap pre b v → (List.range' k (8 - k)).foldl ST b = FI → ∀ (H : Heap) (locs : List Loc), va_P D ncl (w_S a cA v.1 v.2.1 v.2.2.1 v.2.2.2) H → va_D (va_A (w_S a cA ii li ia la) s.heap.size) (w_S a cA v.1 v.2.1 v.2.2.1 v.2.2.2) → va_S (va_A (w_S a cA ii li ia la) s.heap.size) s.heap H locs → ∀ (ls : Array Slot), lv_has ls 9 [(0, .ref (a 0)), (1, .int (nI pre.length)), (3, .int (nI (sr_cop pre))), (4, .long (lZ free)), (6, .int (nI k))] → W p l e ({ frames := (f + 1) + 1, cells := 0, slots := 0, locals := 40 * (f + 1) + 40 }) s m ([.ref (a 0), .int (nI pre.length), .int (nI first), .int (nI (sr_cop pre)), .long (lZ free)] : List Value).toArray below meth c H locs 0 0 (MQ below (va_Qv (fun u => sR room hi wl M mr gap pre (sr_try room (fun k => (hi k : Int)) gap mr (f + 1) pre first free wl best) u) (wB D (va_A (w_S a cA ii li ia la) s.heap.size) (fun u => w_S a cA u.1 u.2.1 u.2.2.1 u.2.2.2)) (va_A (w_S a cA ii li ia la) s.heap.size)) ([.ref (a 0), .int (nI pre.length), .int (nI first), .int (nI (sr_cop pre)), .long (lZ free)] : List Value).toArray s 0 0 (va_A (w_S a cA ii li ia la) s.heap.size)) (F0 m 32 ls []) := by
        intro f2
        induction f2 with
        | zero => intro k b v h; exact absurd h (Nat.not_lt_zero _)
        | succ f2 ih2 =>
          intro k b v hf hk hv hfo H locs hP hD hS ls hl
          refine lv_iload hx hb d_S_tryRow_32 (lv_at hl 4 rfl) ?_
          refine lv_bipush (v := 8) hx hb d_S_tryRow_34 (by decide) ?_
          refine lv_icmp_ge (tgt := 167) hx hb d_S_tryRow_36 (by decide) (fun d6 => ?_) (fun d6 => ?_)
          · obtain rfl : k = 8 := by have := (nI_leI (a := 8) (by decide) (by omega)).mp d6; omega
            exact w_vret hx hb hr hlk hP hD hS v rfl (by show sR room hi wl M mr gap pre (sr_try room (fun k => (hi k : Int)) gap mr (f + 1) pre first free wl best) _; rw [← hFI, ← hfo]; exact hv) d_S_tryRow_167
          · have hkn : k < 8 := Nat.lt_of_not_le (fun z => d6 ((nI_leI (a := 8) (by decide) (by omega)).mpr z))
            have hfo2 : (List.range' (k + 1) (8 - (k + 1))).foldl ST (ST b k) = FI := by rw [← hfo, show 8 - k = (8 - (k + 1)) + 1 by omega, List.range'_succ, List.foldl_cons]
            obtain ⟨v1, v2, ⟨v3, v4, v5, v6⟩, ⟨v7, v7a, v7b, v7c, v7d, v7e⟩, v8, v9⟩ := id hv
            obtain ⟨mo, hmo⟩ : ∃ z, z = min (room k) (wl (k / 2)) := ⟨_, rfl⟩
            have hr20 := (v1 k hkn).2.1
            have hw200 := (v2 (k / 2) (by omega)).2
            have hmo20 : mo ≤ 20 ∧ mo ≤ wl (k / 2) := by omega
            refine lv_iload hx hb d_S_tryRow_39 (lv_at hl 4 rfl) ?_
            refine lv_iconst (v := 2) hx hb d_S_tryRow_41 (by decide) ?_
            refine lv_idiv hx hb d_S_tryRow_42 (by decide) ?_
            refine lv_topi (fun z7 ez7 => ?_)
            obtain rfl : z7 = (nI (k / 2)) := by rw [ez7]; exact pk_div (d := 2) (by omega) (by decide) (by decide)
            refine lv_istore (lv' := [(7, .int (nI (k / 2))), (0, .ref (a 0)), (1, .int (nI pre.length)), (3, .int (nI (sr_cop pre))), (4, .long (lZ free)), (6, .int (nI k))]) hx hb d_S_tryRow_43 hl (by decide) rfl (fun ls hl => ?_)
            refine lv_aload_n hx hb d_S_tryRow_45 rfl (lv_at hl 1 rfl) ?_
            refine va_get (D := D) (ci := 4) (v := .ref (a 1)) (C := R_S) (T := T_S) (N := 12) hx hb (uw_S Z.1 hg.1) (fun _ h => h) hown hK hP 0 rfl rfl 0 (by decide) (kw83 Z.1 _ _ hg.1) (fun _ h9 => h9) rfl d_S_tryRow_46 ?_
            refine lv_iload hx hb d_S_tryRow_49 (lv_at hl 5 rfl) ?_
            refine va_iald hx hb hK hP 1 0 rfl rfl (vp_in_nI (n := k) (N := 8) (by omega) (by decide)) d_S_tryRow_51 ?_
            refine lv_topi (fun z8 ez8 => ?_)
            rw [nI_clamp (n := k) (by omega)] at ez8
            obtain rfl : z8 = ((v.2.2.1 0) k) := ez8
            refine lv_topi (fun z9 ez9 => ?_)
            obtain rfl : z9 = (nI (room k)) := by rw [ez9]; exact (v1 k hkn).1
            refine lv_aload_n hx hb d_S_tryRow_52 rfl (lv_at hl 1 rfl) ?_
            refine va_get (D := D) (ci := 4) (v := .ref (a 3)) (C := R_S) (T := T_S) (N := 12) hx hb (uw_S Z.1 hg.1) (fun _ h => h) hown hK hP 0 rfl rfl 2 (by decide) (kw85 Z.1 _ _ hg.1) (fun _ h9 => h9) rfl d_S_tryRow_53 ?_
            refine lv_iload hx hb d_S_tryRow_56 (lv_at hl 0 rfl) ?_
            refine va_iald hx hb hK hP 3 0 rfl rfl (vp_in_nI (n := k / 2) (N := 4) (by omega) (by decide)) d_S_tryRow_58 ?_
            refine lv_topi (fun z10 ez10 => ?_)
            rw [nI_clamp (n := (k / 2)) (by omega)] at ez10
            obtain rfl : z10 = ((v.2.2.1 2) (k / 2)) := ez10
            refine lv_topi (fun z11 ez11 => ?_)
            obtain rfl : z11 = (nI (wl (k / 2))) := by rw [ez11]; exact (v2 (k / 2) (by omega)).1
            refine va_mmin hx hb (hml.trans hl.1.symm) hown (kw417 Z.1 _ _ hg.1) (kw380 Z.1 _ _ hg.1) (kw2 Z.1 _ _ hg.1) (kw381 Z.1 _ _ hg.1) (by show 1 ≤ f + 1 + 1; omega) (by show 13 ≤ 40 * (f + 1) + 40; omega) (Nat.le_of_ble_eq_true rfl) (Nat.le_of_ble_eq_true rfl) d_S_tryRow_59 ?_
            refine lv_topi (fun z12 ez12 => ?_)
            refine lv_topi (fun z13 ez13 => ?_)
            obtain rfl : z13 = (nI mo) := by rw [ez13, ez12]; rw [hmo]; exact mmin_n (a := room k) (b := wl (k / 2)) (by omega) (by omega)
            refine lv_istore (lv' := [(8, .int (nI mo)), (7, .int (nI (k / 2))), (0, .ref (a 0)), (1, .int (nI pre.length)), (3, .int (nI (sr_cop pre))), (4, .long (lZ free)), (6, .int (nI k))]) hx hb d_S_tryRow_62 hl (by decide) rfl (fun ls hl => ?_)
            refine lv_iload hx hb d_S_tryRow_64 (lv_at hl 0 rfl) ?_
            refine lv_if_le (tgt := 161) hx hb d_S_tryRow_66 (by decide) (fun g14 => ?_) (fun g14 => ?_)
            · have hm0 : mo = 0 := by have := (nI_leI (b := 0) (by omega) (by decide)).mp g14; omega
              have hsk : ST b k = b := by rw [hST]; exact if_neg (fun z => by have h1 := z.1; have h2 : (hi k : Int) ≤ free := z.2; omega)
              obtain ⟨v15, ev15⟩ : ∃ y : Int32, y = (nI k) + 1 := ⟨_, rfl⟩
              refine lv_iinc (v := v15) (lv' := [(6, .int v15), (8, .int (nI mo)), (7, .int (nI (k / 2))), (0, .ref (a 0)), (1, .int (nI pre.length)), (3, .int (nI (sr_cop pre))), (4, .long (lZ free))]) hx hb d_S_tryRow_161 hl (k := 6) rfl (by rw [ev15]; rfl) (by decide) rfl (fun ls hl => ?_)
              refine lv_goto (tgt := 32) hx hb d_S_tryRow_164 (by decide) ?_
              obtain rfl : v15 = nI (k + 1) := by rw [ev15]; exact nI_1 k
              exact ih2 (k + 1) b v (by omega) (by omega) hv (by rw [← hfo2, hsk]) _ _ hP hD hS ls (lv_sub hl [3, 4, 5, 6, 0] rfl)
            · have hm1 : 0 < mo := Nat.lt_of_not_le (fun z => g14 ((nI_leI (b := 0) (by omega) (by decide)).mpr z))
              refine lv_aload_n hx hb d_S_tryRow_69 rfl (lv_at hl 2 rfl) ?_
              refine va_get (D := D) (ci := 4) (v := .ref (a 2)) (C := R_S) (T := T_S) (N := 12) hx hb (uw_S Z.1 hg.1) (fun _ h => h) hown hK hP 0 rfl rfl 1 (by decide) (kw84 Z.1 _ _ hg.1) (fun _ h9 => h9) rfl d_S_tryRow_70 ?_
              refine lv_iload hx hb d_S_tryRow_73 (lv_at hl 6 rfl) ?_
              refine va_lald hx hb hK hP 2 1 rfl rfl (vp_in_nI (n := k) (N := 8) (by omega) (by decide)) d_S_tryRow_75 ?_
              refine lv_topl (fun z16 ez16 => ?_)
              rw [nI_clamp (n := k) (by omega)] at ez16
              obtain rfl : z16 = ((v.2.2.2 1) k) := ez16
              refine lv_topl (fun z17 ez17 => ?_)
              obtain rfl : z17 = (lN (hi k)) := by rw [ez17]; exact (v1 k hkn).2.2.1
              have hh := (v1 k hkn).2.2.2
              refine lv_lload hx hb d_S_tryRow_76 (lv_at hl 5 rfl) ?_
              refine W.lcmp hx hb d_S_tryRow_78 ?_
              refine lv_if_gt (tgt := 161) hx hb d_S_tryRow_79 (by decide) (fun w18 => ?_) (fun w18 => ?_)
              · have hgt : free < hi k := by have := (lg_cmp_gt _ _).mp w18; rw [← lZ_nat] at this; exact (lZ_lt (by omega) (by omega) (by omega) (by omega)).mp this
                have hsk : ST b k = b := by rw [hST]; exact if_neg (fun z => by have h1 := z.1; have h2 : (hi k : Int) ≤ free := z.2; omega)
                obtain ⟨v19, ev19⟩ : ∃ y : Int32, y = (nI k) + 1 := ⟨_, rfl⟩
                refine lv_iinc (v := v19) (lv' := [(6, .int v19), (8, .int (nI mo)), (7, .int (nI (k / 2))), (0, .ref (a 0)), (1, .int (nI pre.length)), (3, .int (nI (sr_cop pre))), (4, .long (lZ free))]) hx hb d_S_tryRow_161 hl (k := 6) rfl (by rw [ev19]; rfl) (by decide) rfl (fun ls hl => ?_)
                refine lv_goto (tgt := 32) hx hb d_S_tryRow_164 (by decide) ?_
                obtain rfl : v19 = nI (k + 1) := by rw [ev19]; exact nI_1 k
                exact ih2 (k + 1) b v (by omega) (by omega) hv (by rw [← hfo2, hsk]) _ _ hP hD hS ls (lv_sub hl [3, 4, 5, 6, 0] rfl)
              · have hle : (hi k : Int) ≤ free := Int.not_lt.mp (fun z => w18 ((lg_cmp_gt _ _).mpr (by rw [← lZ_nat]; exact (lZ_lt (by omega) (by omega) (by omega) (by omega)).mpr z)))
                obtain ⟨pq, hpq⟩ : ∃ z, z = pre ++ [(k, mo)] := ⟨_, rfl⟩
                obtain ⟨wq, hwq⟩ : ∃ z, z = va_up wl (k / 2) (wl (k / 2) - mo) := ⟨_, rfl⟩
                have hpl : pq.length = pre.length + 1 := by rw [hpq]; simp
                have hpc : sr_cop pq = sr_cop pre + mo := by rw [hpq, sr_cop_app]; simp [sr_cop]
                have hgo : ST b k = sr_try room (fun k => (hi k : Int)) gap mr f pq k (free - hi k - gap) wq (sr_keep b pq) := by rw [hST, hpq, hwq, hmo]; exact if_pos ⟨by omega, hle⟩
                refine lv_aload_n hx hb d_S_tryRow_82 rfl (lv_at hl 2 rfl) ?_
                refine va_get (D := D) (ci := 4) (v := .ref (a 4)) (C := R_S) (T := T_S) (N := 12) hx hb (uw_S Z.1 hg.1) (fun _ h => h) hown hK hP 0 rfl rfl 3 (by decide) (kw87 Z.1 _ _ hg.1) (fun _ h9 => h9) rfl d_S_tryRow_83 ?_
                refine lv_iload_n hx hb d_S_tryRow_86 rfl (lv_at hl 3 rfl) ?_
                refine lv_iload hx hb d_S_tryRow_87 (lv_at hl 6 rfl) ?_
                refine va_iast hx hb hK hP hD hS 4 0 rfl rfl (vp_in_nI (n := pre.length) (N := 9) (by omega) (by decide)) d_S_tryRow_89 (fun H locs hP hD hS => ?_)
                rw [nI_clamp (n := pre.length) (by omega)] at hP hD
                have hP : va_P D ncl (w_S a cA v.1 v.2.1 (va_up v.2.2.1 3 (upd (v.2.2.1 3) pre.length (nI k))) v.2.2.2) H := hP
                have hD : va_D _ (w_S a cA v.1 v.2.1 (va_up v.2.2.1 3 (upd (v.2.2.1 3) pre.length (nI k))) v.2.2.2) := hD
                refine lv_aload_n hx hb d_S_tryRow_90 rfl (lv_at hl 2 rfl) ?_
                refine va_get (D := D) (ci := 4) (v := .ref (a 5)) (C := R_S) (T := T_S) (N := 12) hx hb (uw_S Z.1 hg.1) (fun _ h => h) hown hK hP 0 rfl rfl 4 (by decide) (kw88 Z.1 _ _ hg.1) (fun _ h9 => h9) rfl d_S_tryRow_91 ?_
                refine lv_iload_n hx hb d_S_tryRow_94 rfl (lv_at hl 3 rfl) ?_
                refine lv_iload hx hb d_S_tryRow_95 (lv_at hl 0 rfl) ?_
                refine va_iast hx hb hK hP hD hS 5 0 rfl rfl (vp_in_nI (n := pre.length) (N := 9) (by omega) (by decide)) d_S_tryRow_97 (fun H locs hP hD hS => ?_)
                rw [nI_clamp (n := pre.length) (by omega)] at hP hD
                have hP : va_P D ncl (w_S a cA v.1 v.2.1 (va_up (va_up v.2.2.1 3 (upd (v.2.2.1 3) pre.length (nI k))) 4 (upd (v.2.2.1 4) pre.length (nI mo))) v.2.2.2) H := hP
                have hD : va_D _ (w_S a cA v.1 v.2.1 (va_up (va_up v.2.2.1 3 (upd (v.2.2.1 3) pre.length (nI k))) 4 (upd (v.2.2.1 4) pre.length (nI mo))) v.2.2.2) := hD
                refine lv_aload_n hx hb d_S_tryRow_98 rfl (lv_at hl 2 rfl) ?_
                refine va_get (D := D) (ci := 4) (v := .ref (a 3)) (C := R_S) (T := T_S) (N := 12) hx hb (uw_S Z.1 hg.1) (fun _ h => h) hown hK hP 0 rfl rfl 2 (by decide) (kw85 Z.1 _ _ hg.1) (fun _ h9 => h9) rfl d_S_tryRow_99 ?_
                refine lv_iload hx hb d_S_tryRow_102 (lv_at hl 1 rfl) ?_
                refine lv_dup2_11 hx hb d_S_tryRow_104 rfl rfl ?_
                refine va_iald hx hb hK hP 3 0 rfl rfl (vp_in_nI (n := k / 2) (N := 4) (by omega) (by decide)) d_S_tryRow_105 ?_
                refine lv_topi (fun z20 ez20 => ?_)
                rw [nI_clamp (n := (k / 2)) (by omega)] at ez20
                obtain rfl : z20 = ((v.2.2.1 2) (k / 2)) := ez20
                refine lv_topi (fun z21 ez21 => ?_)
                obtain rfl : z21 = (nI (wl (k / 2))) := by rw [ez21]; exact (v2 (k / 2) (by omega)).1
                refine lv_iload hx hb d_S_tryRow_106 (lv_at hl 0 rfl) ?_
                refine lv_isub hx hb d_S_tryRow_108 ?_
                refine lv_topi (fun z22 ez22 => ?_)
                obtain rfl : z22 = (nI (wl (k / 2) - mo)) := by rw [ez22]; exact nI_sub hmo20.2
                refine va_iast hx hb hK hP hD hS 3 0 rfl rfl (vp_in_nI (n := k / 2) (N := 4) (by omega) (by decide)) d_S_tryRow_109 (fun H locs hP hD hS => ?_)
                rw [nI_clamp (n := (k / 2)) (by omega)] at hP hD
                have hP : va_P D ncl (w_S a cA v.1 v.2.1 (va_up (va_up (va_up v.2.2.1 3 (upd (v.2.2.1 3) pre.length (nI k))) 4 (upd (v.2.2.1 4) pre.length (nI mo))) 2 (upd (v.2.2.1 2) (k / 2) (nI (wl (k / 2) - mo)))) v.2.2.2) H := hP
                have hD : va_D _ (w_S a cA v.1 v.2.1 (va_up (va_up (va_up v.2.2.1 3 (upd (v.2.2.1 3) pre.length (nI k))) 4 (upd (v.2.2.1 4) pre.length (nI mo))) 2 (upd (v.2.2.1 2) (k / 2) (nI (wl (k / 2) - mo)))) v.2.2.2) := hD
                refine lv_aload_n hx hb d_S_tryRow_110 rfl (lv_at hl 2 rfl) ?_
                refine lv_iload_n hx hb d_S_tryRow_111 rfl (lv_at hl 3 rfl) ?_
                refine lv_iconst (v := 1) hx hb d_S_tryRow_112 (by decide) ?_
                refine lv_iadd hx hb d_S_tryRow_113 ?_
                refine lv_topi (fun z23 ez23 => ?_)
                obtain rfl : z23 = (nI pq.length) := by rw [ez23]; rw [hpl]; exact nI_1 _
                refine lv_iload_n hx hb d_S_tryRow_114 rfl (lv_at hl 4 rfl) ?_
                refine lv_iload hx hb d_S_tryRow_115 (lv_at hl 0 rfl) ?_
                refine lv_iadd hx hb d_S_tryRow_117 ?_
                refine lv_topi (fun z24 ez24 => ?_)
                obtain rfl : z24 = (nI (sr_cop pq)) := by rw [ez24]; rw [hpc]; exact nI_add _ _
                have hu5 : sR room hi wq M mr gap pq b (v.1, v.2.1, (va_up (va_up (va_up v.2.2.1 3 (upd (v.2.2.1 3) pre.length (nI k))) 4 (upd (v.2.2.1 4) pre.length (nI mo))) 2 (upd (v.2.2.1 2) (k / 2) (nI (wl (k / 2) - mo)))), v.2.2.2) := by
                  refine ⟨v1, fun z hz => ?_, ⟨v3, v4, v5, v6⟩, ⟨v7, v7a, v7b, v7c, v7d, v7e⟩, fun j hj => ?_, v9⟩
                  · show upd (v.2.2.1 2) (k / 2) (nI (wl (k / 2) - mo)) z = nI (wq z) ∧ wq z ≤ 200
                    rw [hwq]
                    by_cases hz2 : z = k / 2
                    · subst hz2; rw [upd_s, up_s]; exact ⟨rfl, by omega⟩
                    · rw [upd_n _ _ hz2, up_n _ _ hz2]; exact v2 z hz
                  · show upd (v.2.2.1 3) pre.length (nI k) j = nI (pq.getD j (0, 0)).1 ∧ upd (v.2.2.1 4) pre.length (nI mo) j = nI (pq.getD j (0, 0)).2
                    rw [hpq]
                    rcases Nat.lt_or_ge j pre.length with h | h
                    · rw [upd_n _ _ (by omega), upd_n _ _ (by omega), gd_l _ _ _ h]; exact v8 j h
                    · obtain rfl : j = pre.length := by omega
                      rw [upd_s, upd_s, gd_r]; exact ⟨rfl, rfl⟩
                refine w_callv (wr := ([] : va_W)) (w_runV (rest := []) hx hb hml hown hl.1 hg hlo hK hP hD hS (m_S_keepIfBetter Z a _ _ _ _ room hi wq M mr gap pq b hu5 (by omega) (by omega) H.size) (kw422 Z.1) (kw424 Z.1) (kp_S_keepIfBetter Z.1) (kw425 Z.1) (kw4 Z.1) ⟨by decide, by decide, (by decide +kernel : (parseMethodDescriptor y_S_keepIfBetter.desc).map (fun d => d.parameters.length) = some 2)⟩ ⟨by show 0 + 1 ≤ f + 1 + 1; omega, by show 8 + (4 + 11) + (0) ≤ 40 * (f + 1) + 40; omega⟩ [0, 1, 2, 3, 4, 5, 6, 7] rfl rfl (ci := 4) (q0 := 0) rfl rfl rfl (Nat.le_of_ble_eq_true rfl) d_S_tryRow_118 ⟨Nat.le_of_ble_eq_true rfl, Nat.le_of_ble_eq_true rfl⟩) hP hD hS hA [0, 1, 2, 3, 4, 5, 6, 7] [] rfl rfl rfl (by decide) (fun u => w_S a cA u.1 u.2.1 u.2.2.1 u.2.2.2) [0, 1, 2, 3, 4, 5, 6, 7] rfl (fun _ => rfl) (fun u5 H locs hq5 hP hD hS => ?_)
                refine W.widen (k := 0) (n := 0) (Nat.le_of_ble_eq_true rfl) (Nat.le_of_ble_eq_true rfl) ?_
                refine lv_aload_n hx hb d_S_tryRow_121 rfl (lv_at hl 2 rfl) ?_
                refine lv_iload_n hx hb d_S_tryRow_122 rfl (lv_at hl 3 rfl) ?_
                refine lv_iconst (v := 1) hx hb d_S_tryRow_123 (by decide) ?_
                refine lv_iadd hx hb d_S_tryRow_124 ?_
                refine lv_topi (fun z26 ez26 => ?_)
                obtain rfl : z26 = (nI pq.length) := by rw [ez26]; rw [hpl]; exact nI_1 _
                refine lv_iload hx hb d_S_tryRow_125 (lv_at hl 6 rfl) ?_
                refine lv_iload_n hx hb d_S_tryRow_127 rfl (lv_at hl 4 rfl) ?_
                refine lv_iload hx hb d_S_tryRow_128 (lv_at hl 0 rfl) ?_
                refine lv_iadd hx hb d_S_tryRow_130 ?_
                refine lv_topi (fun z27 ez27 => ?_)
                obtain rfl : z27 = (nI (sr_cop pq)) := by rw [ez27]; rw [hpc]; exact nI_add _ _
                refine lv_lload hx hb d_S_tryRow_131 (lv_at hl 5 rfl) ?_
                refine lv_aload_n hx hb d_S_tryRow_133 rfl (lv_at hl 2 rfl) ?_
                refine va_get (D := D) (ci := 4) (v := .ref (a 2)) (C := R_S) (T := T_S) (N := 12) hx hb (uw_S Z.1 hg.1) (fun _ h => h) hown hK hP 0 rfl rfl 1 (by decide) (kw84 Z.1 _ _ hg.1) (fun _ h9 => h9) rfl d_S_tryRow_134 ?_
                refine lv_iload hx hb d_S_tryRow_137 (lv_at hl 6 rfl) ?_
                refine va_lald hx hb hK hP 2 1 rfl rfl (vp_in_nI (n := k) (N := 8) (by omega) (by decide)) d_S_tryRow_139 ?_
                refine lv_topl (fun z28 ez28 => ?_)
                rw [nI_clamp (n := k) (by omega)] at ez28
                obtain rfl : z28 = ((u5.2.2.2 1) k) := ez28
                refine lv_topl (fun z29 ez29 => ?_)
                obtain rfl : z29 = (lN (hi k)) := by rw [ez29]; exact (hq5.1 k hkn).2.2.1
                refine lv_lsub hx hb d_S_tryRow_140 ?_
                refine lv_aload_n hx hb d_S_tryRow_141 rfl (lv_at hl 2 rfl) ?_
                refine va_get (D := D) (ci := 4) (v := .long (u5.2.1 11)) (C := R_S) (T := T_S) (N := 12) hx hb (uw_S Z.1 hg.1) (fun _ h => h) hown hK hP 0 rfl rfl 11 (by decide) (kw98 Z.1 _ _ hg.1) (fun _ h9 => h9) rfl d_S_tryRow_142 ?_
                refine lv_topl (fun z30 ez30 => ?_)
                obtain rfl : z30 = (lN gap) := by rw [ez30]; exact hq5.2.2.2.1.2.2.2.2.1
                refine lv_lsub hx hb d_S_tryRow_145 ?_
                refine lv_topl (fun z31 ez31 => ?_)
                obtain rfl : z31 = (lZ (free - hi k - gap)) := by rw [ez31]; rw [← lZ_nat, ← lZ_nat, lZ_sub, lZ_sub]
                refine w_callv (wr := ([] : va_W)) (w_runV (rest := []) hx hb hml hown hl.1 hg hlo hK hP hD hS (ih _ _ _ _ wq pq (sr_keep b pq) k (free - hi k - gap) hq5 (by omega) (by omega) (by omega) (by omega) (by omega) H.size) (kw418 Z.1) (kw420 Z.1) (kp_S_tryRow Z.1) (kw421 Z.1) (kw4 Z.1) ⟨by decide, by decide, (by decide +kernel : (parseMethodDescriptor y_S_tryRow.desc).map (fun d => d.parameters.length) = some 4)⟩ ⟨by show (f + 1) + 1 ≤ f + 1 + 1; omega, by show 8 + (9 + 11) + (40 * f + 40) ≤ 40 * (f + 1) + 40; omega⟩ [0, 1, 2, 3, 4, 5, 6, 7] rfl rfl (ci := 4) (q0 := 0) rfl rfl rfl (Nat.le_of_ble_eq_true rfl) d_S_tryRow_146 ⟨Nat.le_of_ble_eq_true rfl, Nat.le_of_ble_eq_true rfl⟩) hP hD hS hA [0, 1, 2, 3, 4, 5, 6, 7] [] rfl rfl rfl (by decide) (fun u => w_S a cA u.1 u.2.1 u.2.2.1 u.2.2.2) [0, 1, 2, 3, 4, 5, 6, 7] rfl (fun _ => rfl) (fun u6 H locs hq6 hP hD hS => ?_)
                refine W.widen (k := 0) (n := 0) (Nat.le_of_ble_eq_true rfl) (Nat.le_of_ble_eq_true rfl) ?_
                obtain ⟨g1, g2, ⟨g3, g4, g5, g6⟩, g7, g8, g9⟩ := id hq6
                have hwk : wq (k / 2) = wl (k / 2) - mo := by rw [hwq, up_s]
                refine lv_aload_n hx hb d_S_tryRow_149 rfl (lv_at hl 2 rfl) ?_
                refine va_get (D := D) (ci := 4) (v := .ref (a 3)) (C := R_S) (T := T_S) (N := 12) hx hb (uw_S Z.1 hg.1) (fun _ h => h) hown hK hP 0 rfl rfl 2 (by decide) (kw85 Z.1 _ _ hg.1) (fun _ h9 => h9) rfl d_S_tryRow_150 ?_
                refine lv_iload hx hb d_S_tryRow_153 (lv_at hl 1 rfl) ?_
                refine lv_dup2_11 hx hb d_S_tryRow_155 rfl rfl ?_
                refine va_iald hx hb hK hP 3 0 rfl rfl (vp_in_nI (n := k / 2) (N := 4) (by omega) (by decide)) d_S_tryRow_156 ?_
                refine lv_topi (fun z33 ez33 => ?_)
                rw [nI_clamp (n := (k / 2)) (by omega)] at ez33
                obtain rfl : z33 = ((u6.2.2.1 2) (k / 2)) := ez33
                refine lv_topi (fun z34 ez34 => ?_)
                obtain rfl : z34 = (nI (wl (k / 2) - mo)) := by rw [ez34]; rw [← hwk]; exact (g2 (k / 2) (by omega)).1
                refine lv_iload hx hb d_S_tryRow_157 (lv_at hl 0 rfl) ?_
                refine lv_iadd hx hb d_S_tryRow_159 ?_
                refine lv_topi (fun z35 ez35 => ?_)
                obtain rfl : z35 = (nI (wl (k / 2))) := by rw [ez35]; rw [nI_add]; congr 1; omega
                refine va_iast hx hb hK hP hD hS 3 0 rfl rfl (vp_in_nI (n := k / 2) (N := 4) (by omega) (by decide)) d_S_tryRow_160 (fun H locs hP hD hS => ?_)
                rw [nI_clamp (n := (k / 2)) (by omega)] at hP hD
                have hP : va_P D ncl (w_S a cA u6.1 u6.2.1 (va_up u6.2.2.1 2 (upd (u6.2.2.1 2) (k / 2) (nI (wl (k / 2))))) u6.2.2.2) H := hP
                have hD : va_D _ (w_S a cA u6.1 u6.2.1 (va_up u6.2.2.1 2 (upd (u6.2.2.1 2) (k / 2) (nI (wl (k / 2))))) u6.2.2.2) := hD
                have hu7 : sR room hi wl M mr gap pre (ST b k) (u6.1, u6.2.1, (va_up u6.2.2.1 2 (upd (u6.2.2.1 2) (k / 2) (nI (wl (k / 2))))), u6.2.2.2) := by
                  rw [hgo]
                  refine ⟨g1, fun z hz => ?_, ⟨g3, g4, g5, g6⟩, g7, fun j hj => ?_, g9⟩
                  · show upd (u6.2.2.1 2) (k / 2) (nI (wl (k / 2))) z = nI (wl z) ∧ wl z ≤ 200
                    by_cases hz2 : z = k / 2
                    · subst hz2; rw [upd_s]; exact ⟨rfl, by omega⟩
                    · rw [upd_n _ _ hz2]; have := g2 z hz; rw [hwq, up_n _ _ hz2] at this; exact this
                  · have := g8 j (by omega)
                    rw [hpq, gd_l _ _ _ hj] at this; exact this
                obtain ⟨v36, ev36⟩ : ∃ y : Int32, y = (nI k) + 1 := ⟨_, rfl⟩
                refine lv_iinc (v := v36) (lv' := [(6, .int v36), (8, .int (nI mo)), (7, .int (nI (k / 2))), (0, .ref (a 0)), (1, .int (nI pre.length)), (3, .int (nI (sr_cop pre))), (4, .long (lZ free))]) hx hb d_S_tryRow_161 hl (k := 6) rfl (by rw [ev36]; rfl) (by decide) rfl (fun ls hl => ?_)
                refine lv_goto (tgt := 32) hx hb d_S_tryRow_164 (by decide) ?_
                obtain rfl : v36 = nI (k + 1) := by rw [ev36]; exact nI_1 k
                exact ih2 (k + 1) (ST b k) (u6.1, u6.2.1, (va_up u6.2.2.1 2 (upd (u6.2.2.1 2) (k / 2) (nI (wl (k / 2))))), u6.2.2.2) (by omega) (by omega) hu7 hfo2 _ _ hP hD hS ls (lv_sub hl [3, 4, 5, 6, 0] rfl)
      exact loop 9 first best (ii, li, ia, la) (by omega) hfi hu (by rw [hFI2]) _ _ hP hD hS ls (lv_sub hl [1, 2, 4, 5, 0] rfl)
    · have hcut : sr_cop pre + (f + 1) * mr ≤ sr_cop best := Nat.le_of_not_lt (fun q => c5 ((nI_ltI (by omega) (by omega)).mpr q))
      exact w_vret hx hb hr hlk hP hD hS (ii, li, ia, la) rfl (by show sR room hi wl M mr gap pre (sr_try room (fun k => (hi k : Int)) gap mr (f + 1) pre first free wl best) _; rw [sr_try, if_pos hcut]; exact hu) d_S_tryRow_28
