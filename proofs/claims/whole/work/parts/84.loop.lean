-- begun from kit/laws/SKELETON.whole.lean.txt
def R_law : String := "PanelFormsLaw"
def lw_P (b : Addr) (xs : List Int32) (args : Array Value) (s : State) : Prop := args = #[.ref b] ∧ s.IntsAt b xs ∧ xs.length ≤ 4098 ∧ (Jvm.Cond.and given_1 narrow_1).before args s = true
def lw_Q (_ : Array Value) (s : State) (o : Outcome) (t : State) : Prop := o = .returned (some (.int 1)) ∧ Framed s o t [] 601024 7293000
def lw_Z (below : List Frame) (a : Array Value) (s : State) : State → Prop := fun t => ∃ o, t.status = .running ∧ Ended t below o ∧ lw_Q a s o t
/-- the law's own end, with 1 on the stack, nothing written that was there before, its room as the claim has it -/
theorem lw_ret {p : Program} {l : Launch} {e : Env} {s : State} {m : MethodId} {below : List Frame} {meth : Method} {c : Code} {b : Nat} (hx : p.tables.exec = Jvm.exec) (hb : c.code = code) (hr : meth.sig.returnType = ret) (hlocks : meth.locks = false) {pc : Nat} {H : Heap} {ls : Array Slot} (hdg : decode code pc = .ok (.ireturn, 1)) : W p l e room_1 s m #[Value.ref b] below meth c H [] 601024 7293000 (lw_Z below #[Value.ref b] s) (F0 m pc ls [.int 1]) := by
  intro T hT X
  obtain ⟨fs, hret, hrun, hended, hW, hframe⟩ := X.leave (v := some (.int 1)) (hlocks := hlocks) (fun h => by rw [hr] at h; cases h)
  have hmeth' : T.vm.method? m = some meth := X.method'
  refine ⟨T.setFrames fs, ?_, .returned (some (.int 1)), hrun, hended, rfl, ⟨_, rfl⟩, hW, hframe⟩
  jvm_step X.here [X.here.top, hx, hb, hdg, hmeth', hr, ret, narrow_b1]
  (try refine ⟨rfl, ?_⟩); (try refine ⟨rfl, ?_⟩)
  first | (intro acts; rw [hret _ acts rfl rfl rfl]) | rw [hret _ _ rfl rfl rfl]
  exact Steps.refl _
/-- what holds at the law's entry: the machine, the code, the tables' words (any of lw_tbl by 'hts w (by decide +kernel)'), the script of L ints xs at the cell b, what the Statement gives of the start (any of its parts by flat_of_before) -/
def lw_At (p : Program) (s : State) (m : MethodId) (meth : Method) (c : Code) (b L : Nat) (xs : Nat → Int32) : Prop :=
  p.tables.exec = Jvm.exec ∧ c.code = code ∧ meth.sig.returnType = ret ∧ c.maxLocals = 8 ∧ s.vm.findClass R_law = some m.cls ∧ (∀ w ∈ lw_tbl, w.before #[Value.ref b] s = true) ∧ va_X b L xs s s.heap ∧ b < s.heap.size ∧ meth.locks = false ∧ (Jvm.Cond.and given_1 narrow_1).before #[Value.ref b] s = true
set_option maxHeartbeats 4000000 in
set_option maxRecDepth 100000 in
theorem law_loop {p : Program} {l : Launch} {e : Env} {s : State} {m : MethodId} {below : List Frame} {meth : Method} {c : Code} {D : va_G} {cA sa : Nat → Nat} (Z : zE l s D cA sa) (N9 : zN s) (hx : p.tables.exec = Jvm.exec) (hb : c.code = code) (hml : c.maxLocals = 8) (hown : s.vm.findClass R_L = some m.cls) (hg : gl s s) (hK : va_K D ncl (ty0 cA) s) {b L : Nat} {xs : Nat → Int32} (hX : va_X b L xs s s.heap) (hbl : b < s.heap.size) (hL : L ≤ 4098) {a sb yA bd am : Nat → Nat} {oA : Nat} {bb : Nat → Nat → Nat} (hsa : sb 0 = a 5) (hya : yA 0 = a 6) (hbd : ∀ k, k < 4 → bd k = bb k 0) (hr : meth.sig.returnType = ret) (hlk : meth.locks = false) : ∀ (f t : Nat) (Pp Sp Yp Mp : St) (Bi : Nat → Nat → Int32) (Bl : Nat → Nat → Int64) (Bj : Nat → Nat → Nat → Int32) (Bk : Nat → Nat → Nat → Int64) (oF : Nat → Int64), 600 - t < f → 8 * t ≤ 4096 → INV Pp Sp Yp Mp Bi Bl Bk → ∀ (H : Heap) (locs : List Loc), va_P D ncl (([(oA, .inl (cA 1, 1, .inr (.inl oF)))]) ++ (w_P a cA Pp.1 Pp.2.1 Pp.2.2.1 Pp.2.2.2 bd) ++ (w_S sb cA Sp.1 Sp.2.1 Sp.2.2.1 Sp.2.2.2) ++ (w_Y yA cA Yp.1 Yp.2.1 Yp.2.2.1 Yp.2.2.2) ++ (w_M am cA Mp.1 Mp.2.1 Mp.2.2.1 Mp.2.2.2) ++ (w_B (bb 0) cA (Bi 0) (Bl 0) (Bj 0) (Bk 0)) ++ (w_B (bb 1) cA (Bi 1) (Bl 1) (Bj 1) (Bk 1)) ++ (w_B (bb 2) cA (Bi 2) (Bl 2) (Bj 2) (Bk 2)) ++ (w_B (bb 3) cA (Bi 3) (Bl 3) (Bj 3) (Bk 3))) H → va_D (fun q => s.heap.size ≤ q) (([(oA, .inl (cA 1, 1, .inr (.inl oF)))]) ++ (w_P a cA Pp.1 Pp.2.1 Pp.2.2.1 Pp.2.2.2 bd) ++ (w_S sb cA Sp.1 Sp.2.1 Sp.2.2.1 Sp.2.2.2) ++ (w_Y yA cA Yp.1 Yp.2.1 Yp.2.2.1 Yp.2.2.2) ++ (w_M am cA Mp.1 Mp.2.1 Mp.2.2.1 Mp.2.2.2) ++ (w_B (bb 0) cA (Bi 0) (Bl 0) (Bj 0) (Bk 0)) ++ (w_B (bb 1) cA (Bi 1) (Bl 1) (Bj 1) (Bk 1)) ++ (w_B (bb 2) cA (Bi 2) (Bl 2) (Bj 2) (Bk 2)) ++ (w_B (bb 3) cA (Bi 3) (Bl 3) (Bj 3) (Bk 3))) → va_S (fun q => s.heap.size ≤ q) s.heap H locs → ∀ (ls : Array Slot), lv_has ls 8 [(0, .ref b), (1, .ref (a 0)), (2, .ref (am 0)), (3, .ref oA), (4, .int (nI (2 + 8 * t)))] → W p l e room_1 s m #[Value.ref b] below meth c H locs (100 + 5 * t) (3000 + 30 * t) (lw_Z below #[Value.ref b] s) (F0 m 47 ls []) := by
  intro f
  induction f with
  | zero => intro t Pp Sp Yp Mp Bi Bl Bj Bk oF h; exact absurd h (Nat.not_lt_zero _)
  | succ f ih =>
    intro t Pp Sp Yp Mp Bi Bl Bj Bk oF hf ht hI H locs hP hD hS ls hl
    have hbA : ¬ (fun q : Nat => s.heap.size ≤ q) b := Nat.not_le.mpr hbl
    obtain ⟨i, hiq⟩ : ∃ z, z = 2 + 8 * t := ⟨_, rfl⟩
    rw [← hiq] at hl
    refine lv_iload hx hb d_L_law_47 (lv_at hl 4 rfl) ?_
    refine lv_aload_n hx hb d_L_law_49 rfl (lv_at hl 0 rfl) ?_
    refine va_slen hx hb hX hbl hbA hS d_L_law_50 ?_
    refine lv_bipush (v := 8) hx hb d_L_law_51 (by decide) ?_
    refine lv_isub hx hb d_L_law_53 ?_
    refine lv_icmp_gt (tgt := 1466) hx hb d_L_law_54 (by decide) (fun c1 => ?_) (fun c1 => ?_)
    · refine lv_iconst (v := 1) hx hb d_L_law_1466 (by decide) ?_
      refine va_forget (fun q hq => hS.2.2 q hq) ?_
      refine W.widen (k := 601024) (n := 7293000) (by omega) (by omega) ?_
      exact lw_ret hx hb hr hlk d_L_law_1467
    · have hi : i + 8 ≤ L := Nat.le_of_not_lt (fun z => c1 ((hd_gt hL (by omega)).mpr z))
      refine lv_aload_n hx hb d_L_law_57 rfl (lv_at hl 0 rfl) ?_
      refine lv_iload hx hb d_L_law_58 (lv_at hl 4 rfl) ?_
      refine va_sld hx hb hX hbl hbA hS (vp_in_nI (n := i) (N := L) (by omega) (by omega)) d_L_law_60 ?_
      refine lv_topi (fun z2 ez2 => ?_)
      rw [nI_clamp (n := i) (by omega)] at ez2
      obtain rfl : z2 = xs i := ez2
      refine lv_bipush (v := 31) hx hb d_L_law_61 (by decide) ?_
      refine lv_iand hx hb d_L_law_63 ?_
      refine lv_topi (fun x ex => ?_)
      have kk : ∀ (P1 S1 Y1 M1 : St) (Bi1 : Nat → Nat → Int32) (Bl1 : Nat → Nat → Int64) (Bj1 : Nat → Nat → Nat → Int32) (Bk1 : Nat → Nat → Nat → Int64) (oF1 : Nat → Int64) (H : Heap) (locs : List Loc), va_P D ncl (([(oA, .inl (cA 1, 1, .inr (.inl oF1)))]) ++ (w_P a cA P1.1 P1.2.1 P1.2.2.1 P1.2.2.2 bd) ++ (w_S sb cA S1.1 S1.2.1 S1.2.2.1 S1.2.2.2) ++ (w_Y yA cA Y1.1 Y1.2.1 Y1.2.2.1 Y1.2.2.2) ++ (w_M am cA M1.1 M1.2.1 M1.2.2.1 M1.2.2.2) ++ (w_B (bb 0) cA (Bi1 0) (Bl1 0) (Bj1 0) (Bk1 0)) ++ (w_B (bb 1) cA (Bi1 1) (Bl1 1) (Bj1 1) (Bk1 1)) ++ (w_B (bb 2) cA (Bi1 2) (Bl1 2) (Bj1 2) (Bk1 2)) ++ (w_B (bb 3) cA (Bi1 3) (Bl1 3) (Bj1 3) (Bk1 3))) H → va_D (fun q => s.heap.size ≤ q) (([(oA, .inl (cA 1, 1, .inr (.inl oF1)))]) ++ (w_P a cA P1.1 P1.2.1 P1.2.2.1 P1.2.2.2 bd) ++ (w_S sb cA S1.1 S1.2.1 S1.2.2.1 S1.2.2.2) ++ (w_Y yA cA Y1.1 Y1.2.1 Y1.2.2.1 Y1.2.2.2) ++ (w_M am cA M1.1 M1.2.1 M1.2.2.1 M1.2.2.2) ++ (w_B (bb 0) cA (Bi1 0) (Bl1 0) (Bj1 0) (Bk1 0)) ++ (w_B (bb 1) cA (Bi1 1) (Bl1 1) (Bj1 1) (Bk1 1)) ++ (w_B (bb 2) cA (Bi1 2) (Bl1 2) (Bj1 2) (Bk1 2)) ++ (w_B (bb 3) cA (Bi1 3) (Bl1 3) (Bj1 3) (Bk1 3))) → va_S (fun q => s.heap.size ≤ q) s.heap H locs → INV P1 S1 Y1 M1 Bi1 Bl1 Bk1 → ∀ ls : Array Slot, lv_has ls 8 [(0, .ref b), (1, .ref (a 0)), (2, .ref (am 0)), (3, .ref oA), (4, .int (nI i))] → W p l e room_1 s m #[Value.ref b] below meth c H locs (100 + 5 * t + 5) (3000 + 30 * t + 30) (lw_Z below #[Value.ref b] s) (F0 m 1460 ls []) := by
        intro P1 S1 Y1 M1 Bi1 Bl1 Bj1 Bk1 oF1 H locs hP hD hS hI ls hl
        obtain ⟨v3, ev3⟩ : ∃ y : Int32, y = (nI i) + 8 := ⟨_, rfl⟩
        refine lv_iinc (v := v3) (lv' := [(4, .int v3), (0, .ref b), (1, .ref (a 0)), (2, .ref (am 0)), (3, .ref oA)]) hx hb d_L_law_1460 hl (k := 4) rfl (by rw [ev3]; rfl) (by decide) rfl (fun ls hl => ?_)
        refine lv_goto (tgt := 47) hx hb d_L_law_1463 (by decide) ?_
        obtain rfl : v3 = nI (2 + 8 * (t + 1)) := by rw [ev3, show 2 + 8 * (t + 1) = i + 8 by omega]; exact nI_add i 8
        refine W.widen (k := 100 + 5 * (t + 1)) (n := 3000 + 30 * (t + 1)) (by omega) (by omega) ?_
        exact ih (t + 1) P1 S1 Y1 M1 Bi1 Bl1 Bj1 Bk1 oF1 (by omega) (by omega) hI _ _ hP hD hS ls (lv_sub hl [1, 2, 3, 4, 0] rfl)
      by_cases hsw : x.toInt < 0 ∨ 16 < x.toInt
      · refine lv_tableOut (tgt := 1460) hx hb d_L_law_64 hsw (by decide) ?_
        refine W.widen (k := 100 + 5 * t + 5) (n := 3000 + 30 * t + 30) (by omega) (by omega) ?_
        exact kk Pp Sp Yp Mp Bi Bl Bj Bk oF _ _ hP hD hS hI ls (lv_sub hl [0, 1, 2, 3, 4] rfl)
      · have hsw1 : ¬ x.toInt < 0 := fun z => hsw (Or.inl z)
        have hsw2 : ¬ 16 < x.toInt := fun z => hsw (Or.inr z)
        rcases (by omega : x.toInt = 0 ∨ x.toInt = 1 ∨ x.toInt = 2 ∨ x.toInt = 3 ∨ x.toInt = 4 ∨ x.toInt = 5 ∨ x.toInt = 6 ∨ x.toInt = 7 ∨ x.toInt = 8 ∨ x.toInt = 9 ∨ x.toInt = 10 ∨ x.toInt = 11 ∨ x.toInt = 12 ∨ x.toInt = 13 ∨ x.toInt = 14 ∨ x.toInt = 15 ∨ x.toInt = 16) with hc | hc | hc | hc | hc | hc | hc | hc | hc | hc | hc | hc | hc | hc | hc | hc | hc
        · refine lv_tableIn (off := 84) (tgt := 148) hx hb d_L_law_64 hsw1 hsw2 (by rw [hc]; rfl) (by decide) ?_
          exact lc_board Z N9 hx hb hml hown hg hK hX hbl hL hsa hya hbd (i := i) (cl := 100 + 5 * t) (sl := 3000 + 30 * t) hi (by omega) (by omega) hI kk hP hD hS (lv_sub hl [0, 1, 2, 3, 4] rfl)
        · refine lv_tableIn (off := 97) (tgt := 161) hx hb d_L_law_64 hsw1 hsw2 (by rw [hc]; rfl) (by decide) ?_
          exact lc_corner Z N9 hx hb hml hown hg hK hX hbl hL hsa hya hbd (i := i) (cl := 100 + 5 * t) (sl := 3000 + 30 * t) hi (by omega) (by omega) hI kk hP hD hS (lv_sub hl [0, 1, 2, 3, 4] rfl)
        · refine lv_tableIn (off := 248) (tgt := 312) hx hb d_L_law_64 hsw1 hsw2 (by rw [hc]; rfl) (by decide) ?_
          exact lc_run Z N9 hx hb hml hown hg hK hX hbl hL hsa hya hbd (i := i) (cl := 100 + 5 * t) (sl := 3000 + 30 * t) hi (by omega) (by omega) hI kk hP hD hS (lv_sub hl [0, 1, 2, 3, 4] rfl)
        · refine lv_tableIn (off := 348) (tgt := 412) hx hb d_L_law_64 hsw1 hsw2 (by rw [hc]; rfl) (by decide) ?_
          exact lc_at Z N9 hx hb hml hown hg hK hX hbl hL hsa hya hbd (i := i) (cl := 100 + 5 * t) (sl := 3000 + 30 * t) hi (by omega) (by omega) hI kk hP hD hS (lv_sub hl [0, 1, 2, 3, 4] rfl)
        · refine lv_tableIn (off := 415) (tgt := 479) hx hb d_L_law_64 hsw1 hsw2 (by rw [hc]; rfl) (by decide) ?_
          exact lc_proved Z N9 hx hb hml hown hg hK hX hbl hL hsa hya hbd (i := i) (cl := 100 + 5 * t) (sl := 3000 + 30 * t) hi (by omega) (by omega) hI kk hP hD hS (lv_sub hl [0, 1, 2, 3, 4] rfl)
        · refine lv_tableIn (off := 428) (tgt := 492) hx hb d_L_law_64 hsw1 hsw2 (by rw [hc]; rfl) (by decide) ?_
          exact lc_gap Z N9 hx hb hml hown hg hK hX hbl hL hsa hya hbd (i := i) (cl := 100 + 5 * t) (sl := 3000 + 30 * t) hi (by omega) (by omega) hI kk hP hD hS (lv_sub hl [0, 1, 2, 3, 4] rfl)
        · refine lv_tableIn (off := 523) (tgt := 587) hx hb d_L_law_64 hsw1 hsw2 (by rw [hc]; rfl) (by decide) ?_
          exact lc_tab Z N9 hx hb hml hown hg hK hX hbl hL hsa hya hbd (i := i) (cl := 100 + 5 * t) (sl := 3000 + 30 * t) hi (by omega) (by omega) hI kk hP hD hS (lv_sub hl [0, 1, 2, 3, 4] rfl)
        · refine lv_tableIn (off := 602) (tgt := 666) hx hb d_L_law_64 hsw1 hsw2 (by rw [hc]; rfl) (by decide) ?_
          exact lc_score Z N9 hx hb hml hown hg hK hX hbl hL hsa hya hbd (i := i) (cl := 100 + 5 * t) (sl := 3000 + 30 * t) hi (by omega) (by omega) hI kk hP hD hS (lv_sub hl [0, 1, 2, 3, 4] rfl)
        · refine lv_tableIn (off := 669) (tgt := 733) hx hb d_L_law_64 hsw1 hsw2 (by rw [hc]; rfl) (by decide) ?_
          exact lc_part Z N9 hx hb hml hown hg hK hX hbl hL hsa hya hbd (i := i) (cl := 100 + 5 * t) (sl := 3000 + 30 * t) hi (by omega) (by omega) hI kk hP hD hS (lv_sub hl [0, 1, 2, 3, 4] rfl)
        · refine lv_tableIn (off := 868) (tgt := 932) hx hb d_L_law_64 hsw1 hsw2 (by rw [hc]; rfl) (by decide) ?_
          exact lc_waste Z N9 hx hb hml hown hg hK hX hbl hL hsa hya hbd (i := i) (cl := 100 + 5 * t) (sl := 3000 + 30 * t) hi (by omega) (by omega) hI kk hP hD hS (lv_sub hl [0, 1, 2, 3, 4] rfl)
        · refine lv_tableIn (off := 923) (tgt := 987) hx hb d_L_law_64 hsw1 hsw2 (by rw [hc]; rfl) (by decide) ?_
          exact lc_mill Z N9 hx hb hml hown hg hK hX hbl hL hsa hya hbd (i := i) (cl := 100 + 5 * t) (sl := 3000 + 30 * t) hi (by omega) (by omega) hI kk hP hD hS (lv_sub hl [0, 1, 2, 3, 4] rfl)
        · refine lv_tableIn (off := 990) (tgt := 1054) hx hb d_L_law_64 hsw1 hsw2 (by rw [hc]; rfl) (by decide) ?_
          exact lc_radius Z N9 hx hb hml hown hg hK hX hbl hL hsa hya hbd (i := i) (cl := 100 + 5 * t) (sl := 3000 + 30 * t) hi (by omega) (by omega) hI kk hP hD hS (lv_sub hl [0, 1, 2, 3, 4] rfl)
        · refine lv_tableIn (off := 1085) (tgt := 1149) hx hb d_L_law_64 hsw1 hsw2 (by rw [hc]; rfl) (by decide) ?_
          exact lc_bad Z N9 hx hb hml hown hg hK hX hbl hL hsa hya hbd (i := i) (cl := 100 + 5 * t) (sl := 3000 + 30 * t) hi (by omega) (by omega) hI kk hP hD hS (lv_sub hl [0, 1, 2, 3, 4] rfl)
        · refine lv_tableIn (off := 1176) (tgt := 1240) hx hb d_L_law_64 hsw1 hsw2 (by rw [hc]; rfl) (by decide) ?_
          exact lc_rail Z N9 hx hb hml hown hg hK hX hbl hL hsa hya hbd (i := i) (cl := 100 + 5 * t) (sl := 3000 + 30 * t) hi (by omega) (by omega) hI kk hP hD hS (lv_sub hl [0, 1, 2, 3, 4] rfl)
        · refine lv_tableIn (off := 1283) (tgt := 1347) hx hb d_L_law_64 hsw1 hsw2 (by rw [hc]; rfl) (by decide) ?_
          exact lc_overlaps Z N9 hx hb hml hown hg hK hX hbl hL hsa hya hbd (i := i) (cl := 100 + 5 * t) (sl := 3000 + 30 * t) hi (by omega) (by omega) hI kk hP hD hS (lv_sub hl [0, 1, 2, 3, 4] rfl)
        · refine lv_tableIn (off := 1296) (tgt := 1360) hx hb d_L_law_64 hsw1 hsw2 (by rw [hc]; rfl) (by decide) ?_
          exact lc_order Z N9 hx hb hml hown hg hK hX hbl hL hsa hya hbd (i := i) (cl := 100 + 5 * t) (sl := 3000 + 30 * t) hi (by omega) (by omega) hI kk hP hD hS (lv_sub hl [0, 1, 2, 3, 4] rfl)
        · refine lv_tableIn (off := 1321) (tgt := 1385) hx hb d_L_law_64 hsw1 hsw2 (by rw [hc]; rfl) (by decide) ?_
          exact lc_wants Z N9 hx hb hml hown hg hK hX hbl hL hsa hya hbd (i := i) (cl := 100 + 5 * t) (sl := 3000 + 30 * t) hi (by omega) (by omega) hI kk hP hD hS (lv_sub hl [0, 1, 2, 3, 4] rfl)
section LQ
variable {p : Program} {l : Launch} {e : Env} {R : Room} {s : State} {m : MethodId} {args : Array Value} {below : List Frame} {meth : Method} {c : Code} {H : Heap} {locs : List Loc} {cells slots : Nat} {Q : State → Prop}
variable {D : va_G} {A : Nat → Prop} {wc wr : va_W} {pc : Nat} {ls : Array Slot} {rest st0 : List Value} {a : Array Value} {mc ms : Nat} {S : Type} {wf : S → va_W}
theorem p_callv {post : S → Prop} (hr : va_Run p l e R s m args below meth c H locs cells slots mc ms (F0 m pc ls st0) rest (va_Qv post (wB D (va_A wc H.size) wf) (va_A wc H.size) a) (va_A wc H.size)) (hP : va_P D ncl (wc ++ wr) H) (hD : va_D A (wc ++ wr)) (hS : va_S A s.heap H locs) (hA : ∀ q, s.heap.size ≤ q → A q)
    (kk : ∀ (u : S) (H1 : Heap) (locs1 : List Loc), post u → va_P D ncl (wf u ++ wr) H1 → va_D A (wf u ++ wr) → va_S A s.heap H1 locs1 → W p l e R s m args below meth c H1 locs1 (cells + mc) (slots + ms) Q (F0 m (pc + 3) ls rest)) : W p l e R s m args below meth c H locs cells slots Q (F0 m pc ls st0) := by
  have hF := w_freeP hD hS hA
  refine va_callv hr hS (fun q _ h => hF q h) hF (fun u t H1 locs1 ht hvm hp hB hz hk hS1 => ?_)
  obtain ⟨h1, h2⟩ := w_backP hP hD hS hA ht hB hk
  exact kk u H1 locs1 hp h1 h2 hS1
end LQ
