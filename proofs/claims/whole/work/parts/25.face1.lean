theorem th_wid {p : Program} {l : Launch} {e : Env} {R : Room} {s : State} {m : MethodId} {args : Array Value} {below : List Frame} {meth : Method} {c : Code} {H : Heap} {locs : List Loc} {cells slots k n x : Nat} {Q : State → Prop} {g : JFrame} (h1 : cells ≤ k) (h2 : slots ≤ n) (kk : th_W p l e R s m args below meth c H locs k n Q g x) : th_W p l e R s m args below meth c H locs cells slots Q g x := fun T hT X => kk T hT (stand_widen X h1 h2)
theorem w_throwF {p : Program} {l : Launch} {e : Env} {R : Room} {s : State} {m : MethodId} {args : Array Value} {below : List Frame} {meth : Method} {c : Code} {H : Heap} {locs : List Loc} {cells slots : Nat} {free : Addr → Prop} {Qc : Array Value → State → Outcome → State → Prop} {cc : ByteArray} {pc nL : Nat} {ls : Array Slot} {st : List Value} {own C tx : String} {i1 i2 i3 xa : Nat} (hx : p.tables.exec = Jvm.exec) (hb : c.code = cc) (hml : c.maxLocals = nL) (hls : ls.size = nL) (hown : s.vm.findClass own = some m.cls) (hlk : meth.locks = false) (hem : c.exceptionTable.isEmpty = true) (htr : l.stackTraces = false) (hS : va_S (fun q => s.heap.size ≤ q) s.heap H locs)
    (k1 : (Cond.classLink own i1 C).before args s = true) (k2 : (Cond.instantiable C 6).before args s = true) (k3 : (Cond.initialized C).before args s = true) (hZ : vk_R own i2 tx xa s) (hat : ∀ w ∈ Bundle.ownAtoms own i3 C th_names, w.before args s = true) (hfit : Bundle.fit C = true)
    (d0 : decode cc pc = .ok (.new i1, 3)) (d3 : decode cc (pc + 3) = .ok (.dup, 1)) (d4 : decode cc (pc + 4) = .ok (.ldc i2, 2)) (d6 : decode cc (pc + 6) = .ok (.invokespecial i3, 3)) (d9 : decode cc (pc + 9) = .ok (.athrow, 1)) (hc : cells + 1 ≤ R.cells) (hs : slots + 6 ≤ R.slots) (hRf : 6 ≤ R.frames) (hRl : (st.map fun v => v.category).sum + 90 ≤ R.locals)
    (hq : ∀ (x : Nat) (t : State), s.WarmedH t.vm → th_X C x s.heap t → Qc args s (.threw x) t) : W p l e R s m args below meth c H locs cells slots (th_MQ below Qc args s (cells + 1) (slots + 6) free) (F0 m pc ls st) := by
  refine va_forget (fun q hq => hS.2.2 q hq) ?_
  refine W.newc hx hb hown k1 k2 k3 rfl d0 hc hs (fun cC kC hfc hkc _ _ => ?_)
  refine W.eq (g2 := F0 m (pc + 3) ls (.ref H.size :: st)) rfl ?_
  refine lv_dup hx hb d3 rfl ?_
  refine va_ldcS hx hb hown hZ d4 ?_
  refine th_throwS (names := th_names) (cX := cC) (kX := kC) hx hb (hml.trans hls.symm) htr hown hfit (by decide) hat hfc hkc ?_ hS.1 rfl hem hlk d6 d9 (by show 2 + 3 < R.frames; omega) ?_ (fun t hW hX => hq _ t hW hX)
  · rw [Array.getElem?_push_size]
  · show 1 + (st.map fun v => v.category).sum + (13 * (2 + 1) + 42) ≤ R.locals
    omega
set_option maxHeartbeats 4000000 in
set_option maxRecDepth 100000 in
theorem m_P_board {l : Launch} {s0 : State} {D : va_G} {cA sa : Nat → Nat} (Z : zE l s0 D cA sa) (a : Nat → Nat) (ii : Nat → Int32) (li : Nat → Int64) (ia : Nat → Nat → Int32) (la : Nat → Nat → Int64) (bd : Nat → Nat) (n : Nat) (hn : ii 6 = nI n) (hn2 : n ≤ 4) (sz : Nat) : Met l y_P_board [.code y_P_board c_P_board 1 (some .int)] ({ frames := 0, cells := 0, slots := 0, locals := 0 }) (wP s0 D [.ref (a 0)] (w_P a cA ii li ia la bd) sz) (va_Qi (fun (r : Int32) (u : Nat → Int32) => if n < 4 then r = nI n ∧ u = va_up ii 6 (nI (n + 1)) else r = -1 ∧ u = ii) (wB D (va_A (w_P a cA ii li ia la bd) sz) (fun u => w_P a cA u li ia la bd)) (va_A (w_P a cA ii li ia la bd) sz)) 0 0 (va_A (w_P a cA ii li ia la bd) sz) := by
  refine wMet Z (by decide) (Nat.le_of_ble_eq_true rfl) ?_
  intro p e s m below meth c hx hb hr hml hown hlk hin hg hK hsz hP hD hA hlo hS ls hl
  subst hsz
  have hown : s.vm.findClass R_P = some m.cls := hown
  refine lv_aload_n hx hb d_P_board_0 rfl (lv_at hl 0 rfl) ?_
  refine va_get (D := D) (ci := 0) (v := .int (ii 6)) (C := R_P) (T := T_P) (N := 10) hx hb (uw_P Z.1 hg.1) (fun _ h => h) hown hK hP 0 rfl rfl 6 (by decide) (kw204 Z.1 _ _ hg.1) (fun _ h9 => h9) rfl d_P_board_1 ?_
  refine lv_iconst (v := 4) hx hb d_P_board_4 (by decide) ?_
  refine lv_icmp_lt (tgt := 10) hx hb d_P_board_5 (by decide) (fun c1 => ?_) (fun c1 => ?_)
  · have hlt : n < 4 := (nI_ltI (b := 4) (by omega) (by decide)).mp (by rw [← hn]; exact c1)
    refine lv_aload_n hx hb d_P_board_10 rfl (lv_at hl 0 rfl) ?_
    refine lv_dup hx hb d_P_board_11 rfl ?_
    refine va_get (D := D) (ci := 0) (v := .int (ii 6)) (C := R_P) (T := T_P) (N := 10) hx hb (uw_P Z.1 hg.1) (fun _ h => h) hown hK hP 0 rfl rfl 6 (by decide) (kw204 Z.1 _ _ hg.1) (fun _ h9 => h9) rfl d_P_board_12 ?_
    refine lv_iconst (v := 1) hx hb d_P_board_15 (by decide) ?_
    refine lv_iadd hx hb d_P_board_16 ?_
    refine lv_topi (fun z2 ez2 => ?_)
    obtain rfl : z2 = (nI (n + 1)) := by rw [ez2]; rw [hn]; exact nI_1 n
    refine va_put (D := D) (ci := 0) (v := .int (nI (n + 1))) (ty := t_P 6) (C := R_P) (T := T_P) (N := 10) hx hb (uw_P Z.1 hg.1) (fun _ h => h) t_P t_P_ok n_P hown hK hP hD hS 0 rfl rfl 6 (by decide) (kw204 Z.1 _ _ hg.1) (fun _ h9 => h9) rfl (by decide +kernel) rfl rfl (Nat.le_of_ble_eq_true rfl) d_P_board_17 (fun H locs hP hD hS => ?_)
    have hP : va_P D ncl (w_P a cA (va_up ii 6 (nI (n + 1))) li ia la bd) H := hP
    have hD : va_D _ (w_P a cA (va_up ii 6 (nI (n + 1))) li ia la bd) := hD
    refine lv_aload_n hx hb d_P_board_20 rfl (lv_at hl 0 rfl) ?_
    refine va_get (D := D) (ci := 0) (v := .int (nI (n + 1))) (C := R_P) (T := T_P) (N := 10) hx hb (uw_P Z.1 hg.1) (fun _ h => h) hown hK hP 0 rfl rfl 6 (by decide) (kw204 Z.1 _ _ hg.1) (fun _ h9 => h9) rfl d_P_board_21 ?_
    refine lv_iconst (v := 1) hx hb d_P_board_24 (by decide) ?_
    refine lv_isub hx hb d_P_board_25 ?_
    refine lv_topi (fun z3 ez3 => ?_)
    obtain rfl : z3 = (nI n) := by rw [ez3]; exact nI_pred n
    exact w_iret hx hb hr hlk hP hD hS (va_up ii 6 (nI (n + 1))) rfl (by rw [if_pos hlt]; exact ⟨rfl, rfl⟩) d_P_board_26
  · refine lv_iconst (v := (-1)) hx hb d_P_board_8 (by decide) ?_
    exact w_iret hx hb hr hlk hP hD hS ii rfl (by rw [if_neg (fun q => c1 (by rw [hn]; exact (nI_ltI (b := 4) (by omega) (by decide)).mpr q))]; exact ⟨rfl, rfl⟩) d_P_board_9
set_option maxHeartbeats 4000000 in
set_option maxRecDepth 100000 in
theorem m_P_proved {l : Launch} {s0 : State} {D : va_G} {cA sa : Nat → Nat} (Z : zE l s0 D cA sa) (a : Nat → Nat) (ii : Nat → Int32) (li : Nat → Int64) (ia : Nat → Nat → Int32) (la : Nat → Nat → Int64) (bd : Nat → Nat) (hz : ii 9 = 0 ∨ ii 9 = 1) (sz : Nat) : Met l y_P_proved [.code y_P_proved c_P_proved 1 (some .boolean)] ({ frames := 0, cells := 0, slots := 0, locals := 0 }) (wP s0 D [.ref (a 0)] (w_P a cA ii li ia la bd) sz) (va_Qi (fun r (_ : Unit) => r = ii 9) (wB D (va_A (w_P a cA ii li ia la bd) sz) (fun _ => w_P a cA ii li ia la bd)) (va_A (w_P a cA ii li ia la bd) sz)) 0 0 (va_A (w_P a cA ii li ia la bd) sz) := by
  refine wMet Z (by decide) (Nat.le_of_ble_eq_true rfl) ?_
  intro p e s m below meth c hx hb hr hml hown hlk hin hg hK hsz hP hD hA hlo hS ls hl
  subst hsz
  have hown : s.vm.findClass R_P = some m.cls := hown
  refine lv_aload_n hx hb d_P_proved_0 rfl (lv_at hl 0 rfl) ?_
  refine va_get (D := D) (ci := 0) (v := .int (ii 9)) (C := R_P) (T := T_P) (N := 10) hx hb (uw_P Z.1 hg.1) (fun _ h => h) hown hK hP 0 rfl rfl 9 (by decide) (kw207 Z.1 _ _ hg.1) (fun _ h9 => h9) rfl d_P_proved_1 ?_
  exact w_zret hx hb hr (by rcases hz with h | h <;> rw [h] <;> rfl) hlk hP hD hS () rfl rfl d_P_proved_4
set_option maxHeartbeats 4000000 in
set_option maxRecDepth 100000 in
theorem m_P_overlaps {l : Launch} {s0 : State} {D : va_G} {cA sa : Nat → Nat} (Z : zE l s0 D cA sa) (a : Nat → Nat) (ii : Nat → Int32) (li : Nat → Int64) (ia : Nat → Nat → Int32) (la : Nat → Nat → Int64) (bd : Nat → Nat) (sz : Nat) : Met l y_P_overlaps [.code y_P_overlaps c_P_overlaps 1 (some .boolean)] ({ frames := 0, cells := 0, slots := 0, locals := 0 }) (wP s0 D [.ref (a 0)] (w_P a cA ii li ia la bd) sz) (va_Qi (fun r (_ : Unit) => r = 0) (wB D (va_A (w_P a cA ii li ia la bd) sz) (fun _ => w_P a cA ii li ia la bd)) (va_A (w_P a cA ii li ia la bd) sz)) 0 0 (va_A (w_P a cA ii li ia la bd) sz) := by
  refine wMet Z (by decide) (Nat.le_of_ble_eq_true rfl) ?_
  intro p e s m below meth c hx hb hr hml hown hlk hin hg hK hsz hP hD hA hlo hS ls hl
  subst hsz
  have hown : s.vm.findClass R_P = some m.cls := hown
  refine lv_iconst (v := 0) hx hb d_P_overlaps_0 (by decide) ?_
  exact w_zret hx hb hr rfl hlk hP hD hS () rfl rfl d_P_overlaps_1
set_option maxHeartbeats 4000000 in
set_option maxRecDepth 100000 in
theorem m_P_gap {l : Launch} {s0 : State} {D : va_G} {cA sa : Nat → Nat} (Z : zE l s0 D cA sa) (a : Nat → Nat) (ii : Nat → Int32) (li : Nat → Int64) (ia : Nat → Nat → Int32) (la : Nat → Nat → Int64) (bd : Nat → Nat) (v : Int64) (sz : Nat) : th_Met l y_P_gap [.code y_P_gap c_P_gap 4 (some .boolean)] ({ frames := 10, cells := 1, slots := 6, locals := 300 }) (wP s0 D [.ref (a 0), .long v] (w_P a cA ii li ia la bd) sz) (th_Qi (fun (r : Int32) (u : Nat → Int64) => (0 ≤ v ∧ v ≤ 65536) ∧ r = (if li 7 = v then 0 else 1) ∧ u = va_up li 7 v) (wB D (va_A (w_P a cA ii li ia la bd) sz) (fun u => w_P a cA ii u ia la bd)) (va_A (w_P a cA ii li ia la bd) sz) (fun x H t => ¬ (0 ≤ v ∧ v ≤ 65536) ∧ th_X "java/lang/IllegalArgumentException" x H t)) 1 6 (va_A (w_P a cA ii li ia la bd) sz) := by
  refine wMetT Z (by decide) (Nat.le_of_ble_eq_true rfl) ?_
  intro p e s m below meth c hx hb hr hml hown hlk hem hg hK hsz hP hD hA hlo hS ls hl
  subst hsz
  have hown : s.vm.findClass R_P = some m.cls := hown
  have hS0 : va_S (fun q => s.heap.size ≤ q) s.heap s.heap [] := va_S.rf
  refine lv_lload_n hx hb d_P_gap_0 rfl (lv_at hl 1 rfl) ?_
  refine w_check (wt_runS (rest := []) hx hb hml hown hl.1 hg hlo hP hD (qS hS0 hA) (m_P_checkLength Z v s.heap.size) (kw344 Z.1) (kw345 Z.1) (kw346 Z.1) (kw1 Z.1) ⟨by decide, by decide, (by decide +kernel : (parseMethodDescriptor y_P_checkLength.desc).map (fun d => d.parameters.length) = some 1)⟩ ⟨Nat.le_of_ble_eq_true rfl, Nat.le_of_ble_eq_true rfl⟩ [] rfl rfl rfl (Nat.le_of_ble_eq_true rfl) d_P_gap_1 ⟨Nat.le_of_ble_eq_true rfl, Nat.le_of_ble_eq_true rfl⟩) hP hS0 (fun H locs hc1 hP hS0 => ?_) (fun x t locs1 al hth hS1 => ?_)
  · skip
    refine W.widen (k := 1) (n := 6) (Nat.le_of_ble_eq_true rfl) (Nat.le_of_ble_eq_true rfl) ?_
    have hS := qS hS0 hA
    refine lv_aload_n hx hb d_P_gap_4 rfl (lv_at hl 0 rfl) ?_
    refine va_get (D := D) (ci := 0) (v := .long (li 7)) (C := R_P) (T := T_P) (N := 10) hx hb (uw_P Z.1 hg.1) (fun _ h => h) hown hK hP 0 rfl rfl 7 (by decide) (kw205 Z.1 _ _ hg.1) (fun _ h9 => h9) rfl d_P_gap_5 ?_
    refine lv_lload_n hx hb d_P_gap_8 rfl (lv_at hl 1 rfl) ?_
    refine W.lcmp hx hb d_P_gap_9 ?_
    refine lv_if_eq (tgt := 17) hx hb d_P_gap_10 (by decide) (fun d1 => ?_) (fun d1 => ?_)
    · refine lv_iconst (v := 0) hx hb d_P_gap_17 (by decide) ?_
      refine lv_istore_n (lv' := [(3, .int 0), (0, .ref (a 0)), (1, .long v)]) hx hb d_P_gap_18 rfl hl (by decide) rfl (fun ls hl => ?_)
      refine lv_aload_n hx hb d_P_gap_19 rfl (lv_at hl 1 rfl) ?_
      refine lv_lload_n hx hb d_P_gap_20 rfl (lv_at hl 2 rfl) ?_
      refine va_put (D := D) (ci := 0) (v := .long v) (ty := t_P 7) (C := R_P) (T := T_P) (N := 10) hx hb (uw_P Z.1 hg.1) (fun _ h => h) t_P t_P_ok n_P hown hK hP hD hS 0 rfl rfl 7 (by decide) (kw205 Z.1 _ _ hg.1) (fun _ h9 => h9) rfl (by decide +kernel) rfl rfl (Nat.le_of_ble_eq_true rfl) d_P_gap_21 (fun H locs hP hD hS => ?_)
      have hP : va_P D ncl (w_P a cA ii (va_up li 7 v) ia la bd) H := hP
      have hD : va_D _ (w_P a cA ii (va_up li 7 v) ia la bd) := hD
      refine lv_iload_n hx hb d_P_gap_24 rfl (lv_at hl 0 rfl) ?_
      refine W.widen (k := 1) (n := 6) (Nat.le_of_ble_eq_true rfl) (Nat.le_of_ble_eq_true rfl) ?_
      exact wt_zret hx hb hr rfl hlk hP hD hS (va_up li 7 v) rfl ⟨hc1, by rw [if_pos ((lg_cmp_eq _ _).mp d1)], rfl⟩ d_P_gap_25
    · refine lv_iconst (v := 1) hx hb d_P_gap_13 (by decide) ?_
      refine lv_goto (tgt := 18) hx hb d_P_gap_14 (by decide) ?_
      refine lv_istore_n (lv' := [(3, .int 1), (0, .ref (a 0)), (1, .long v)]) hx hb d_P_gap_18 rfl hl (by decide) rfl (fun ls hl => ?_)
      refine lv_aload_n hx hb d_P_gap_19 rfl (lv_at hl 1 rfl) ?_
      refine lv_lload_n hx hb d_P_gap_20 rfl (lv_at hl 2 rfl) ?_
      refine va_put (D := D) (ci := 0) (v := .long v) (ty := t_P 7) (C := R_P) (T := T_P) (N := 10) hx hb (uw_P Z.1 hg.1) (fun _ h => h) t_P t_P_ok n_P hown hK hP hD hS 0 rfl rfl 7 (by decide) (kw205 Z.1 _ _ hg.1) (fun _ h9 => h9) rfl (by decide +kernel) rfl rfl (Nat.le_of_ble_eq_true rfl) d_P_gap_21 (fun H locs hP hD hS => ?_)
      have hP : va_P D ncl (w_P a cA ii (va_up li 7 v) ia la bd) H := hP
      have hD : va_D _ (w_P a cA ii (va_up li 7 v) ia la bd) := hD
      refine lv_iload_n hx hb d_P_gap_24 rfl (lv_at hl 0 rfl) ?_
      refine W.widen (k := 1) (n := 6) (Nat.le_of_ble_eq_true rfl) (Nat.le_of_ble_eq_true rfl) ?_
      exact wt_zret hx hb hr rfl hlk hP hD hS (va_up li 7 v) rfl ⟨hc1, by rw [if_neg (fun z => d1 ((lg_cmp_eq _ _).mpr z))], rfl⟩ d_P_gap_25
  · refine th_wid (k := 1) (n := 6) (Nat.le_of_ble_eq_true rfl) (Nat.le_of_ble_eq_true rfl) ?_
    exact wt_pass hem hlk hA hS1 (fun t1 ht hW => have hX := th_up hth.2 hS0 ht al hW; ⟨Or.inr ⟨x, rfl, hth.1, hX⟩, xF hX⟩)
set_option maxHeartbeats 4000000 in
set_option maxRecDepth 100000 in
theorem m_P_radius {l : Launch} {s0 : State} {D : va_G} {cA sa : Nat → Nat} (Z : zE l s0 D cA sa) (a : Nat → Nat) (ii : Nat → Int32) (li : Nat → Int64) (ia : Nat → Nat → Int32) (la : Nat → Nat → Int64) (bd : Nat → Nat) (v : Int64) (sz : Nat) : th_Met l y_P_radius [.code y_P_radius c_P_radius 4 (some .boolean)] ({ frames := 10, cells := 1, slots := 6, locals := 300 }) (wP s0 D [.ref (a 0), .long v] (w_P a cA ii li ia la bd) sz) (th_Qi (fun (r : Int32) (u : Nat → Int64) => (0 ≤ v ∧ v ≤ 65536) ∧ r = (if li 8 = v then 0 else 1) ∧ u = va_up li 8 v) (wB D (va_A (w_P a cA ii li ia la bd) sz) (fun u => w_P a cA ii u ia la bd)) (va_A (w_P a cA ii li ia la bd) sz) (fun x H t => ¬ (0 ≤ v ∧ v ≤ 65536) ∧ th_X "java/lang/IllegalArgumentException" x H t)) 1 6 (va_A (w_P a cA ii li ia la bd) sz) := by
  refine wMetT Z (by decide) (Nat.le_of_ble_eq_true rfl) ?_
  intro p e s m below meth c hx hb hr hml hown hlk hem hg hK hsz hP hD hA hlo hS ls hl
  subst hsz
  have hown : s.vm.findClass R_P = some m.cls := hown
  have hS0 : va_S (fun q => s.heap.size ≤ q) s.heap s.heap [] := va_S.rf
  refine lv_lload_n hx hb d_P_radius_0 rfl (lv_at hl 1 rfl) ?_
  refine w_check (wt_runS (rest := []) hx hb hml hown hl.1 hg hlo hP hD (qS hS0 hA) (m_P_checkLength Z v s.heap.size) (kw344 Z.1) (kw345 Z.1) (kw346 Z.1) (kw1 Z.1) ⟨by decide, by decide, (by decide +kernel : (parseMethodDescriptor y_P_checkLength.desc).map (fun d => d.parameters.length) = some 1)⟩ ⟨Nat.le_of_ble_eq_true rfl, Nat.le_of_ble_eq_true rfl⟩ [] rfl rfl rfl (Nat.le_of_ble_eq_true rfl) d_P_radius_1 ⟨Nat.le_of_ble_eq_true rfl, Nat.le_of_ble_eq_true rfl⟩) hP hS0 (fun H locs hc1 hP hS0 => ?_) (fun x t locs1 al hth hS1 => ?_)
  · skip
    refine W.widen (k := 1) (n := 6) (Nat.le_of_ble_eq_true rfl) (Nat.le_of_ble_eq_true rfl) ?_
    have hS := qS hS0 hA
    refine lv_aload_n hx hb d_P_radius_4 rfl (lv_at hl 0 rfl) ?_
    refine va_get (D := D) (ci := 0) (v := .long (li 8)) (C := R_P) (T := T_P) (N := 10) hx hb (uw_P Z.1 hg.1) (fun _ h => h) hown hK hP 0 rfl rfl 8 (by decide) (kw206 Z.1 _ _ hg.1) (fun _ h9 => h9) rfl d_P_radius_5 ?_
    refine lv_lload_n hx hb d_P_radius_8 rfl (lv_at hl 1 rfl) ?_
    refine W.lcmp hx hb d_P_radius_9 ?_
    refine lv_if_eq (tgt := 17) hx hb d_P_radius_10 (by decide) (fun d1 => ?_) (fun d1 => ?_)
    · refine lv_iconst (v := 0) hx hb d_P_radius_17 (by decide) ?_
      refine lv_istore_n (lv' := [(3, .int 0), (0, .ref (a 0)), (1, .long v)]) hx hb d_P_radius_18 rfl hl (by decide) rfl (fun ls hl => ?_)
      refine lv_aload_n hx hb d_P_radius_19 rfl (lv_at hl 1 rfl) ?_
      refine lv_lload_n hx hb d_P_radius_20 rfl (lv_at hl 2 rfl) ?_
      refine va_put (D := D) (ci := 0) (v := .long v) (ty := t_P 8) (C := R_P) (T := T_P) (N := 10) hx hb (uw_P Z.1 hg.1) (fun _ h => h) t_P t_P_ok n_P hown hK hP hD hS 0 rfl rfl 8 (by decide) (kw206 Z.1 _ _ hg.1) (fun _ h9 => h9) rfl (by decide +kernel) rfl rfl (Nat.le_of_ble_eq_true rfl) d_P_radius_21 (fun H locs hP hD hS => ?_)
      have hP : va_P D ncl (w_P a cA ii (va_up li 8 v) ia la bd) H := hP
      have hD : va_D _ (w_P a cA ii (va_up li 8 v) ia la bd) := hD
      refine lv_iload_n hx hb d_P_radius_24 rfl (lv_at hl 0 rfl) ?_
      refine W.widen (k := 1) (n := 6) (Nat.le_of_ble_eq_true rfl) (Nat.le_of_ble_eq_true rfl) ?_
      exact wt_zret hx hb hr rfl hlk hP hD hS (va_up li 8 v) rfl ⟨hc1, by rw [if_pos ((lg_cmp_eq _ _).mp d1)], rfl⟩ d_P_radius_25
    · refine lv_iconst (v := 1) hx hb d_P_radius_13 (by decide) ?_
      refine lv_goto (tgt := 18) hx hb d_P_radius_14 (by decide) ?_
      refine lv_istore_n (lv' := [(3, .int 1), (0, .ref (a 0)), (1, .long v)]) hx hb d_P_radius_18 rfl hl (by decide) rfl (fun ls hl => ?_)
      refine lv_aload_n hx hb d_P_radius_19 rfl (lv_at hl 1 rfl) ?_
      refine lv_lload_n hx hb d_P_radius_20 rfl (lv_at hl 2 rfl) ?_
      refine va_put (D := D) (ci := 0) (v := .long v) (ty := t_P 8) (C := R_P) (T := T_P) (N := 10) hx hb (uw_P Z.1 hg.1) (fun _ h => h) t_P t_P_ok n_P hown hK hP hD hS 0 rfl rfl 8 (by decide) (kw206 Z.1 _ _ hg.1) (fun _ h9 => h9) rfl (by decide +kernel) rfl rfl (Nat.le_of_ble_eq_true rfl) d_P_radius_21 (fun H locs hP hD hS => ?_)
      have hP : va_P D ncl (w_P a cA ii (va_up li 8 v) ia la bd) H := hP
      have hD : va_D _ (w_P a cA ii (va_up li 8 v) ia la bd) := hD
      refine lv_iload_n hx hb d_P_radius_24 rfl (lv_at hl 0 rfl) ?_
      refine W.widen (k := 1) (n := 6) (Nat.le_of_ble_eq_true rfl) (Nat.le_of_ble_eq_true rfl) ?_
      exact wt_zret hx hb hr rfl hlk hP hD hS (va_up li 8 v) rfl ⟨hc1, by rw [if_neg (fun z => d1 ((lg_cmp_eq _ _).mpr z))], rfl⟩ d_P_radius_25
  · refine th_wid (k := 1) (n := 6) (Nat.le_of_ble_eq_true rfl) (Nat.le_of_ble_eq_true rfl) ?_
    exact wt_pass hem hlk hA hS1 (fun t1 ht hW => have hX := th_up hth.2 hS0 ht al hW; ⟨Or.inr ⟨x, rfl, hth.1, hX⟩, xF hX⟩)
