theorem ib_iff {b : Int32} {n : Nat} {hi : Int64} (hn : n ≤ 100000) (hh : hi.toInt = (n : Int) - 1) : (0 ≤ b.toInt64 ∧ b.toInt64 ≤ hi) ↔ ∃ k, k < n ∧ b = nI k := by
  rw [Int64.le_iff_toInt_le, Int64.le_iff_toInt_le, Int32.toInt_toInt64, hh, show (0 : Int64).toInt = 0 from rfl]
  constructor
  · intro ⟨h1, h2⟩
    obtain ⟨k, hk, rfl⟩ := nI_of (x := b) (fun z => by rw [Int32.lt_iff_toInt_lt, show (0 : Int32).toInt = 0 from rfl] at z; omega)
    rw [nI_toInt hk] at h2
    exact ⟨k, by omega, rfl⟩
  · intro ⟨k, hk, h⟩
    rw [h, nI_toInt (by omega)]
    omega
theorem nm1_toInt {n : Nat} (hn : n ≤ 100000) : ((nI n - 1).toInt64).toInt = (n : Int) - 1 := by
  rw [Int32.toInt_toInt64, show (1 : Int32) = nI 1 from rfl, pk_sub_toInt (by omega) (by decide)]
  rfl
set_option maxHeartbeats 4000000 in
set_option maxRecDepth 100000 in
theorem m_P_checkLength {l : Launch} {s0 : State} {D : va_G} {cA sa : Nat → Nat} (Z : zE l s0 D cA sa) (v : Int64) (sz : Nat) : th_Met l y_P_checkLength [.code y_P_checkLength c_P_checkLength 2 none] ({ frames := 8, cells := 1, slots := 6, locals := 200 }) (wP s0 D [.long v] (([] : va_W)) sz) (th_Qv (fun (_ : Unit) => 0 ≤ v ∧ v ≤ 65536) (fun _ _ => True) (fun q => sz ≤ q) (fun x H t => ¬ (0 ≤ v ∧ v ≤ 65536) ∧ th_X "java/lang/IllegalArgumentException" x H t)) 1 6 (fun q => sz ≤ q) := by
  refine wMetR Z (by decide) (Nat.le_of_ble_eq_true rfl) ?_
  intro p e s m below meth c hx hb hr hml hown hlk hem hg hK hsz hPw hP hD hA hlo hS ls hl
  subst hsz
  have hown : s.vm.findClass R_P = some m.cls := hown
  refine lv_lload_n hx hb d_P_checkLength_0 rfl (lv_at hl 0 rfl) ?_
  refine lv_lconst (v := 0) hx hb d_P_checkLength_1 (by decide) ?_
  refine lv_ldc2 (v := 65536) hx hb hown (kw24 Z.1 _ _ hg.1) d_P_checkLength_2 ?_
  refine w_calli (wr := ([] : va_W)) (w_runS (rest := []) hx hb hml hown hl.1 hg hlo hP hD hS (m_P_isWithin Z v 0 65536 s.heap.size) (kw273 Z.1) (kw274 Z.1) (kw275 Z.1) (kw1 Z.1) ⟨by decide, by decide, (by decide +kernel : (parseMethodDescriptor y_P_isWithin.desc).map (fun d => d.parameters.length) = some 3)⟩ ⟨Nat.le_of_ble_eq_true rfl, Nat.le_of_ble_eq_true rfl⟩ [] rfl rfl rfl (Nat.le_of_ble_eq_true rfl) d_P_checkLength_5 ⟨Nat.le_of_ble_eq_true rfl, Nat.le_of_ble_eq_true rfl⟩) hP hD hS hA [] [] rfl rfl rfl (by decide) (fun _ => ([] : va_W)) [] rfl (fun _ => rfl) (fun r1 u H locs hr1 hP hD hS => ?_)
  refine W.widen (k := 0) (n := 0) (Nat.le_of_ble_eq_true rfl) (Nat.le_of_ble_eq_true rfl) ?_
  subst hr1
  refine lv_if_ne (tgt := 21) hx hb d_P_checkLength_8 (by decide) (fun c1 => ?_) (fun c1 => ?_)
  · have hc : 0 ≤ v ∧ v ≤ 65536 := (Classical.byContradiction (fun z => c1 (if_neg z)))
    refine W.widen (k := 1) (n := 6) (Nat.le_of_ble_eq_true rfl) (Nat.le_of_ble_eq_true rfl) ?_
    exact th_mono th_ofMQ (W.vret hx hb hr (fun t ht hW => ⟨Or.inl ⟨(), rfl, hc, trivial⟩, hS.F ht⟩) hS.2.2 d_P_checkLength_21 hlk)
  · have hc : ¬ (0 ≤ v ∧ v ≤ 65536) := fun z => absurd c1 (by rw [if_pos (z)]; decide)
    refine W.widen (k := 0) (n := 0) (Nat.le_of_ble_eq_true rfl) (Nat.le_of_ble_eq_true rfl) ?_
    exact w_throw (C := "java/lang/IllegalArgumentException") hx hb hml hl.1 hown hlk hem Z.2.2.1 hS (kw347 Z.1 _ _ hg.1) (kw348 Z.1 _ _ hg.1) (kw11 Z.1 _ _ hg.1) (vk_R.warm hg.1 (Z.2.2.2.1 (215, "lengths and places are 0 to 65536") (by decide))) (ow_73 Z hg) (by decide) d_P_checkLength_11 d_P_checkLength_14 d_P_checkLength_15 d_P_checkLength_17 d_P_checkLength_20 (Nat.le_of_ble_eq_true rfl) (Nat.le_of_ble_eq_true rfl) (Nat.le_of_ble_eq_true rfl) (Nat.le_of_ble_eq_true rfl) (fun x t hW hX => ⟨Or.inr ⟨x, rfl, hc, hX⟩, hX.2.1, fun q h _ => hX.2.2.2 q h⟩)
set_option maxHeartbeats 4000000 in
set_option maxRecDepth 100000 in
theorem m_P_checkSide {l : Launch} {s0 : State} {D : va_G} {cA sa : Nat → Nat} (Z : zE l s0 D cA sa) (v : Int32) (sz : Nat) : th_Met l y_P_checkSide [.code y_P_checkSide c_P_checkSide 1 none] ({ frames := 8, cells := 1, slots := 6, locals := 200 }) (wP s0 D [.int v] (([] : va_W)) sz) (th_Qv (fun (_ : Unit) => ∃ k, k < 4 ∧ v = nI k) (fun _ _ => True) (fun q => sz ≤ q) (fun x H t => ¬ (∃ k, k < 4 ∧ v = nI k) ∧ th_X "java/lang/IndexOutOfBoundsException" x H t)) 1 6 (fun q => sz ≤ q) := by
  refine wMetR Z (by decide) (Nat.le_of_ble_eq_true rfl) ?_
  intro p e s m below meth c hx hb hr hml hown hlk hem hg hK hsz hPw hP hD hA hlo hS ls hl
  subst hsz
  have hown : s.vm.findClass R_P = some m.cls := hown
  refine lv_iload_n hx hb d_P_checkSide_0 rfl (lv_at hl 0 rfl) ?_
  refine lv_i2l hx hb d_P_checkSide_1 rfl ?_
  refine lv_lconst (v := 0) hx hb d_P_checkSide_2 (by decide) ?_
  refine lv_ldc2 (v := 3) hx hb hown (kw482 Z.1 _ _ hg.1) d_P_checkSide_3 ?_
  refine w_calli (wr := ([] : va_W)) (w_runS (rest := []) hx hb hml hown hl.1 hg hlo hP hD hS (m_P_isWithin Z v.toInt64 0 3 s.heap.size) (kw273 Z.1) (kw274 Z.1) (kw275 Z.1) (kw1 Z.1) ⟨by decide, by decide, (by decide +kernel : (parseMethodDescriptor y_P_isWithin.desc).map (fun d => d.parameters.length) = some 3)⟩ ⟨Nat.le_of_ble_eq_true rfl, Nat.le_of_ble_eq_true rfl⟩ [] rfl rfl rfl (Nat.le_of_ble_eq_true rfl) d_P_checkSide_6 ⟨Nat.le_of_ble_eq_true rfl, Nat.le_of_ble_eq_true rfl⟩) hP hD hS hA [] [] rfl rfl rfl (by decide) (fun _ => ([] : va_W)) [] rfl (fun _ => rfl) (fun r1 u H locs hr1 hP hD hS => ?_)
  refine W.widen (k := 0) (n := 0) (Nat.le_of_ble_eq_true rfl) (Nat.le_of_ble_eq_true rfl) ?_
  subst hr1
  refine lv_if_ne (tgt := 22) hx hb d_P_checkSide_9 (by decide) (fun c1 => ?_) (fun c1 => ?_)
  · have hc : ∃ k, k < 4 ∧ v = nI k := (ib_iff (n := 4) (hi := 3) (by decide) rfl).mp (Classical.byContradiction (fun z => c1 (if_neg z)))
    refine W.widen (k := 1) (n := 6) (Nat.le_of_ble_eq_true rfl) (Nat.le_of_ble_eq_true rfl) ?_
    exact th_mono th_ofMQ (W.vret hx hb hr (fun t ht hW => ⟨Or.inl ⟨(), rfl, hc, trivial⟩, hS.F ht⟩) hS.2.2 d_P_checkSide_22 hlk)
  · have hc : ¬ (∃ k, k < 4 ∧ v = nI k) := fun z => absurd c1 (by rw [if_pos ((ib_iff (n := 4) (by decide) rfl).mpr z)]; decide)
    refine W.widen (k := 0) (n := 0) (Nat.le_of_ble_eq_true rfl) (Nat.le_of_ble_eq_true rfl) ?_
    exact w_throw (C := "java/lang/IndexOutOfBoundsException") hx hb hml hl.1 hown hlk hem Z.2.2.1 hS (kw276 Z.1 _ _ hg.1) (kw277 Z.1 _ _ hg.1) (kw10 Z.1 _ _ hg.1) (vk_R.warm hg.1 (Z.2.2.2.1 (219, "no such side") (by decide))) (ow_132 Z hg) (by decide) d_P_checkSide_12 d_P_checkSide_15 d_P_checkSide_16 d_P_checkSide_18 d_P_checkSide_21 (Nat.le_of_ble_eq_true rfl) (Nat.le_of_ble_eq_true rfl) (Nat.le_of_ble_eq_true rfl) (Nat.le_of_ble_eq_true rfl) (fun x t hW hX => ⟨Or.inr ⟨x, rfl, hc, hX⟩, hX.2.1, fun q h _ => hX.2.2.2 q h⟩)
set_option maxHeartbeats 4000000 in
set_option maxRecDepth 100000 in
theorem m_P_checkOneOfTwo {l : Launch} {s0 : State} {D : va_G} {cA sa : Nat → Nat} (Z : zE l s0 D cA sa) (v : Int32) (sz : Nat) : th_Met l y_P_checkOneOfTwo [.code y_P_checkOneOfTwo c_P_checkOneOfTwo 1 none] ({ frames := 8, cells := 1, slots := 6, locals := 200 }) (wP s0 D [.int v] (([] : va_W)) sz) (th_Qv (fun (_ : Unit) => ∃ k, k < 2 ∧ v = nI k) (fun _ _ => True) (fun q => sz ≤ q) (fun x H t => ¬ (∃ k, k < 2 ∧ v = nI k) ∧ th_X "java/lang/IndexOutOfBoundsException" x H t)) 1 6 (fun q => sz ≤ q) := by
  refine wMetR Z (by decide) (Nat.le_of_ble_eq_true rfl) ?_
  intro p e s m below meth c hx hb hr hml hown hlk hem hg hK hsz hPw hP hD hA hlo hS ls hl
  subst hsz
  have hown : s.vm.findClass R_P = some m.cls := hown
  refine lv_iload_n hx hb d_P_checkOneOfTwo_0 rfl (lv_at hl 0 rfl) ?_
  refine lv_i2l hx hb d_P_checkOneOfTwo_1 rfl ?_
  refine lv_lconst (v := 0) hx hb d_P_checkOneOfTwo_2 (by decide) ?_
  refine lv_lconst (v := 1) hx hb d_P_checkOneOfTwo_3 (by decide) ?_
  refine w_calli (wr := ([] : va_W)) (w_runS (rest := []) hx hb hml hown hl.1 hg hlo hP hD hS (m_P_isWithin Z v.toInt64 0 1 s.heap.size) (kw273 Z.1) (kw274 Z.1) (kw275 Z.1) (kw1 Z.1) ⟨by decide, by decide, (by decide +kernel : (parseMethodDescriptor y_P_isWithin.desc).map (fun d => d.parameters.length) = some 3)⟩ ⟨Nat.le_of_ble_eq_true rfl, Nat.le_of_ble_eq_true rfl⟩ [] rfl rfl rfl (Nat.le_of_ble_eq_true rfl) d_P_checkOneOfTwo_4 ⟨Nat.le_of_ble_eq_true rfl, Nat.le_of_ble_eq_true rfl⟩) hP hD hS hA [] [] rfl rfl rfl (by decide) (fun _ => ([] : va_W)) [] rfl (fun _ => rfl) (fun r1 u H locs hr1 hP hD hS => ?_)
  refine W.widen (k := 0) (n := 0) (Nat.le_of_ble_eq_true rfl) (Nat.le_of_ble_eq_true rfl) ?_
  subst hr1
  refine lv_if_ne (tgt := 20) hx hb d_P_checkOneOfTwo_7 (by decide) (fun c1 => ?_) (fun c1 => ?_)
  · have hc : ∃ k, k < 2 ∧ v = nI k := (ib_iff (n := 2) (hi := 1) (by decide) rfl).mp (Classical.byContradiction (fun z => c1 (if_neg z)))
    refine W.widen (k := 1) (n := 6) (Nat.le_of_ble_eq_true rfl) (Nat.le_of_ble_eq_true rfl) ?_
    exact th_mono th_ofMQ (W.vret hx hb hr (fun t ht hW => ⟨Or.inl ⟨(), rfl, hc, trivial⟩, hS.F ht⟩) hS.2.2 d_P_checkOneOfTwo_20 hlk)
  · have hc : ¬ (∃ k, k < 2 ∧ v = nI k) := fun z => absurd c1 (by rw [if_pos ((ib_iff (n := 2) (by decide) rfl).mpr z)]; decide)
    refine W.widen (k := 0) (n := 0) (Nat.le_of_ble_eq_true rfl) (Nat.le_of_ble_eq_true rfl) ?_
    exact w_throw (C := "java/lang/IndexOutOfBoundsException") hx hb hml hl.1 hown hlk hem Z.2.2.1 hS (kw276 Z.1 _ _ hg.1) (kw277 Z.1 _ _ hg.1) (kw10 Z.1 _ _ hg.1) (vk_R.warm hg.1 (Z.2.2.2.1 (221, "only 0 and 1 are told") (by decide))) (ow_132 Z hg) (by decide) d_P_checkOneOfTwo_10 d_P_checkOneOfTwo_13 d_P_checkOneOfTwo_14 d_P_checkOneOfTwo_16 d_P_checkOneOfTwo_19 (Nat.le_of_ble_eq_true rfl) (Nat.le_of_ble_eq_true rfl) (Nat.le_of_ble_eq_true rfl) (Nat.le_of_ble_eq_true rfl) (fun x t hW hX => ⟨Or.inr ⟨x, rfl, hc, hX⟩, hX.2.1, fun q h _ => hX.2.2.2 q h⟩)
set_option maxHeartbeats 4000000 in
set_option maxRecDepth 100000 in
theorem m_P_checkBoard {l : Launch} {s0 : State} {D : va_G} {cA sa : Nat → Nat} (Z : zE l s0 D cA sa) (a : Nat → Nat) (ii : Nat → Int32) (li : Nat → Int64) (ia : Nat → Nat → Int32) (la : Nat → Nat → Int64) (bd : Nat → Nat) (v : Int32) (n : Nat) (hn : ii 6 = nI n) (hn2 : n ≤ 100000) (sz : Nat) : th_Met l y_P_checkBoard [.code y_P_checkBoard c_P_checkBoard 2 none] ({ frames := 8, cells := 1, slots := 6, locals := 200 }) (wP s0 D [.ref (a 0), .int v] (w_P a cA ii li ia la bd) sz) (th_Qv (fun (_ : Unit) => ∃ k, k < n ∧ v = nI k) (fun _ _ => True) (fun q => sz ≤ q) (fun x H t => ¬ (∃ k, k < n ∧ v = nI k) ∧ th_X "java/lang/IndexOutOfBoundsException" x H t)) 1 6 (fun q => sz ≤ q) := by
  refine wMetR Z (by decide) (Nat.le_of_ble_eq_true rfl) ?_
  intro p e s m below meth c hx hb hr hml hown hlk hem hg hK hsz hPw hP hD hA hlo hS ls hl
  subst hsz
  have hown : s.vm.findClass R_P = some m.cls := hown
  refine lv_iload_n hx hb d_P_checkBoard_0 rfl (lv_at hl 1 rfl) ?_
  refine lv_i2l hx hb d_P_checkBoard_1 rfl ?_
  refine lv_lconst (v := 0) hx hb d_P_checkBoard_2 (by decide) ?_
  refine lv_aload_n hx hb d_P_checkBoard_3 rfl (lv_at hl 0 rfl) ?_
  refine va_get (D := D) (ci := 0) (v := .int (ii 6)) (C := R_P) (T := T_P) (N := 10) hx hb (uw_P Z.1 hg.1) (fun _ h => h) hown hK hPw 0 rfl rfl 6 (by decide) (kw204 Z.1 _ _ hg.1) (fun _ h9 => h9) rfl d_P_checkBoard_4 ?_
  refine lv_iconst (v := 1) hx hb d_P_checkBoard_7 (by decide) ?_
  rw [hn]
  refine lv_isub hx hb d_P_checkBoard_8 ?_
  refine lv_i2l hx hb d_P_checkBoard_9 rfl ?_
  refine w_calli (wr := ([] : va_W)) (w_runS (rest := []) hx hb hml hown hl.1 hg hlo hP hD hS (m_P_isWithin Z v.toInt64 0 (nI n - 1).toInt64 s.heap.size) (kw273 Z.1) (kw274 Z.1) (kw275 Z.1) (kw1 Z.1) ⟨by decide, by decide, (by decide +kernel : (parseMethodDescriptor y_P_isWithin.desc).map (fun d => d.parameters.length) = some 3)⟩ ⟨Nat.le_of_ble_eq_true rfl, Nat.le_of_ble_eq_true rfl⟩ [] rfl rfl rfl (Nat.le_of_ble_eq_true rfl) d_P_checkBoard_10 ⟨Nat.le_of_ble_eq_true rfl, Nat.le_of_ble_eq_true rfl⟩) hP hD hS hA [] [] rfl rfl rfl (by decide) (fun _ => ([] : va_W)) [] rfl (fun _ => rfl) (fun r1 u H locs hr1 hP hD hS => ?_)
  refine W.widen (k := 0) (n := 0) (Nat.le_of_ble_eq_true rfl) (Nat.le_of_ble_eq_true rfl) ?_
  subst hr1
  refine lv_if_ne (tgt := 26) hx hb d_P_checkBoard_13 (by decide) (fun c1 => ?_) (fun c1 => ?_)
  · have hc : ∃ k, k < n ∧ v = nI k := (ib_iff hn2 (nm1_toInt hn2)).mp (Classical.byContradiction (fun z => c1 (if_neg z)))
    refine W.widen (k := 1) (n := 6) (Nat.le_of_ble_eq_true rfl) (Nat.le_of_ble_eq_true rfl) ?_
    exact th_mono th_ofMQ (W.vret hx hb hr (fun t ht hW => ⟨Or.inl ⟨(), rfl, hc, trivial⟩, hS.F ht⟩) hS.2.2 d_P_checkBoard_26 hlk)
  · have hc : ¬ (∃ k, k < n ∧ v = nI k) := fun z => absurd c1 (by rw [if_pos ((ib_iff hn2 (nm1_toInt hn2)).mpr z)]; decide)
    refine W.widen (k := 0) (n := 0) (Nat.le_of_ble_eq_true rfl) (Nat.le_of_ble_eq_true rfl) ?_
    exact w_throw (C := "java/lang/IndexOutOfBoundsException") hx hb hml hl.1 hown hlk hem Z.2.2.1 hS (kw276 Z.1 _ _ hg.1) (kw277 Z.1 _ _ hg.1) (kw10 Z.1 _ _ hg.1) (vk_R.warm hg.1 (Z.2.2.2.1 (223, "no such board") (by decide))) (ow_132 Z hg) (by decide) d_P_checkBoard_16 d_P_checkBoard_19 d_P_checkBoard_20 d_P_checkBoard_22 d_P_checkBoard_25 (Nat.le_of_ble_eq_true rfl) (Nat.le_of_ble_eq_true rfl) (Nat.le_of_ble_eq_true rfl) (Nat.le_of_ble_eq_true rfl) (fun x t hW hX => ⟨Or.inr ⟨x, rfl, hc, hX⟩, hX.2.1, fun q h _ => hX.2.2.2 q h⟩)
set_option maxHeartbeats 4000000 in
set_option maxRecDepth 100000 in
theorem m_P_checkCopy {l : Launch} {s0 : State} {D : va_G} {cA sa : Nat → Nat} (Z : zE l s0 D cA sa) (a : Nat → Nat) (ii : Nat → Int32) (li : Nat → Int64) (ia : Nat → Nat → Int32) (la : Nat → Nat → Int64) (bd : Nat → Nat) (a2 : Nat → Nat) (ii2 : Nat → Int32) (li2 : Nat → Int64) (ia2 : Nat → Nat → Int32) (la2 : Nat → Nat → Int64) (ha2 : a2 0 = a 6) (v : Int32) (n : Nat) (hn : ii2 12 = nI n) (hn2 : n ≤ 100000) (sz : Nat) : th_Met l y_P_checkCopy [.code y_P_checkCopy c_P_checkCopy 2 none] ({ frames := 8, cells := 1, slots := 6, locals := 200 }) (wP s0 D [.ref (a 0), .int v] ((w_P a cA ii li ia la bd) ++ (w_Y a2 cA ii2 li2 ia2 la2)) sz) (th_Qv (fun (_ : Unit) => ∃ k, k < n ∧ v = nI k) (fun _ _ => True) (fun q => sz ≤ q) (fun x H t => ¬ (∃ k, k < n ∧ v = nI k) ∧ th_X "java/lang/IndexOutOfBoundsException" x H t)) 1 6 (fun q => sz ≤ q) := by
  refine wMetR Z (by decide) (Nat.le_of_ble_eq_true rfl) ?_
  intro p e s m below meth c hx hb hr hml hown hlk hem hg hK hsz hPw hP hD hA hlo hS ls hl
  subst hsz
  have hown : s.vm.findClass R_P = some m.cls := hown
  refine lv_iload_n hx hb d_P_checkCopy_0 rfl (lv_at hl 1 rfl) ?_
  refine lv_i2l hx hb d_P_checkCopy_1 rfl ?_
  refine lv_lconst (v := 0) hx hb d_P_checkCopy_2 (by decide) ?_
  refine lv_aload_n hx hb d_P_checkCopy_3 rfl (lv_at hl 0 rfl) ?_
  refine va_get (D := D) (ci := 0) (v := .ref (a 6)) (C := R_P) (T := T_P) (N := 10) hx hb (uw_P Z.1 hg.1) (fun _ h => h) hown hK hPw 0 rfl rfl 5 (by decide) (kw203 Z.1 _ _ hg.1) (fun _ h9 => h9) rfl d_P_checkCopy_4 ?_
  rw [← ha2]
  refine va_getN (D := D) (ci := 3) (v := .int (ii2 12)) (C := R_Y) (T := T_Y) (N := 17) hx hb (uw_Y Z.1 hg.1) (fun _ h => h) hown hK hPw 3 rfl rfl 12 (by decide) (kw156 Z.1 _ _ hg.1) (fun _ h9 => h9) rfl d_P_checkCopy_7 ?_
  refine lv_iconst (v := 1) hx hb d_P_checkCopy_10 (by decide) ?_
  rw [hn]
  refine lv_isub hx hb d_P_checkCopy_11 ?_
  refine lv_i2l hx hb d_P_checkCopy_12 rfl ?_
  refine w_calli (wr := ([] : va_W)) (w_runS (rest := []) hx hb hml hown hl.1 hg hlo hP hD hS (m_P_isWithin Z v.toInt64 0 (nI n - 1).toInt64 s.heap.size) (kw273 Z.1) (kw274 Z.1) (kw275 Z.1) (kw1 Z.1) ⟨by decide, by decide, (by decide +kernel : (parseMethodDescriptor y_P_isWithin.desc).map (fun d => d.parameters.length) = some 3)⟩ ⟨Nat.le_of_ble_eq_true rfl, Nat.le_of_ble_eq_true rfl⟩ [] rfl rfl rfl (Nat.le_of_ble_eq_true rfl) d_P_checkCopy_13 ⟨Nat.le_of_ble_eq_true rfl, Nat.le_of_ble_eq_true rfl⟩) hP hD hS hA [] [] rfl rfl rfl (by decide) (fun _ => ([] : va_W)) [] rfl (fun _ => rfl) (fun r1 u H locs hr1 hP hD hS => ?_)
  refine W.widen (k := 0) (n := 0) (Nat.le_of_ble_eq_true rfl) (Nat.le_of_ble_eq_true rfl) ?_
  subst hr1
  refine lv_if_ne (tgt := 29) hx hb d_P_checkCopy_16 (by decide) (fun c1 => ?_) (fun c1 => ?_)
  · have hc : ∃ k, k < n ∧ v = nI k := (ib_iff hn2 (nm1_toInt hn2)).mp (Classical.byContradiction (fun z => c1 (if_neg z)))
    refine W.widen (k := 1) (n := 6) (Nat.le_of_ble_eq_true rfl) (Nat.le_of_ble_eq_true rfl) ?_
    exact th_mono th_ofMQ (W.vret hx hb hr (fun t ht hW => ⟨Or.inl ⟨(), rfl, hc, trivial⟩, hS.F ht⟩) hS.2.2 d_P_checkCopy_29 hlk)
  · have hc : ¬ (∃ k, k < n ∧ v = nI k) := fun z => absurd c1 (by rw [if_pos ((ib_iff hn2 (nm1_toInt hn2)).mpr z)]; decide)
    refine W.widen (k := 0) (n := 0) (Nat.le_of_ble_eq_true rfl) (Nat.le_of_ble_eq_true rfl) ?_
    exact w_throw (C := "java/lang/IndexOutOfBoundsException") hx hb hml hl.1 hown hlk hem Z.2.2.1 hS (kw276 Z.1 _ _ hg.1) (kw277 Z.1 _ _ hg.1) (kw10 Z.1 _ _ hg.1) (vk_R.warm hg.1 (Z.2.2.2.1 (225, "no such copy") (by decide))) (ow_132 Z hg) (by decide) d_P_checkCopy_19 d_P_checkCopy_22 d_P_checkCopy_23 d_P_checkCopy_25 d_P_checkCopy_28 (Nat.le_of_ble_eq_true rfl) (Nat.le_of_ble_eq_true rfl) (Nat.le_of_ble_eq_true rfl) (Nat.le_of_ble_eq_true rfl) (fun x t hW hX => ⟨Or.inr ⟨x, rfl, hc, hX⟩, hX.2.1, fun q h _ => hX.2.2.2 q h⟩)
