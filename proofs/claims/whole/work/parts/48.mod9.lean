section R9
variable {p : Program} {l : Launch} {e : Env} {R : Room} {s : State} {m : MethodId} {args : Array Value} {below : List Frame} {meth : Method} {c : Code} {H : Heap} {locs : List Loc} {cells slots : Nat} {Q : State → Prop}
variable {s0 : State} {D : va_G} {cA sa : Nat → Nat} {A : Nat → Prop} {ws wc wr : va_W} {cc : ByteArray} {pc : Nat} {ls : Array Slot}
variable {y : MethodName} {bytes : ByteArray} {maxL nL n index mc ms : Nat} {ret : Option FieldType} {rm : Room} {Pc : Array Value → State → Prop} {Qc : Array Value → State → Outcome → State → Prop} {free : Addr → Prop} {own C host : String} {b : Addr} {As rest st0 : List Value} {tys : List (ClassId × FieldType)} {wsC Ts : List Cond} {g : JFrame}
/-- the call of a method by a walk that holds up to sixteen places below its arguments -/
theorem th_runV9 (S : CallFix p m c cc nL s args Ts own) (hM : th_Met l y wsC rm Pc Qc mc ms free) (cw : CallW R s args own C index y bytes maxL ret wsC rm mc ms n) (hp : PreV s H C b Pc As) (h9 : 16 + (maxL + 11) + rm.locals ≤ R.locals)
    (hg : g.method = m) (hn : As.length = n) (hsize : g.locals.size = nL) (hstack : g.stack = As.reverse ++ .ref b :: rest) (hW : 2 * g.monitorRoom + (rest.map fun v => v.category).sum ≤ 16) (hdg : decode cc g.pc = .ok (.invokevirtual index, 3)) (hf : cells + mc ≤ R.cells ∧ slots + ms ≤ R.slots) :
    th_Run p l e R s m args below meth c H locs cells slots mc ms g rest (Qc (Value.ref b :: As).toArray) (free) := by
  obtain ⟨⟨hrc, hrs, hfr, hlo, hws, -, hcode, hini, hy, hlen, hl⟩, hin, hse⟩ := cw
  obtain ⟨hx, hb, hml, ho, -⟩ := S
  obtain ⟨hbl, ⟨cellB, hcB, hoB, hclB⟩, hPc⟩ := hp
  intro T hT X
  obtain ⟨mk, methM, hnamed, hmethM, hstM, habM⟩ := Cond.instanceMethod_spec hin
  obtain ⟨methM', cM, hmethM', hcM, -, hlM, -, -, -, hsigM⟩ := Cond.code_spec hnamed hcode
  cases hmethM.symm.trans hmethM'
  obtain ⟨c2, r2, m2, q1, q2, q3, q4, kP, hkP, hkPi⟩ := Cond.selects_spec hse
  cases hclB.symm.trans q1
  cases (State.methodFound?_of_named hnamed hy).symm.trans q2
  cases hnamed.symm.trans q3
  have hselP : selectMethod e.platform s.vm cellB.cls mk = .method mk := by rw [Launch.admits_selectMethod X.admits]; exact q4
  obtain ⟨vm₁, X₁, hstep₁⟩ := X.invokevirtual hx ho hl hnamed hmethM hstM hkP hkPi hy (a := b) (cell := cellB) (by rw [hT]; exact hcB)
    (fun z h => by rw [h] at hoB; cases hoB) hselP hmethM habM hkP hkPi (g := g) hg (argsL := As) (rest := rest) (hn.trans (hlen _ hsigM)) hstack (by rw [hb]; exact hdg)
  obtain ⟨o, t, T', L, X', hL, e1, e2, hq, w1, w2⟩ := th_at (maxL := maxL) hM X₁ (g := { g with stack := rest }) hg (hsize.trans hml.symm) (ig := .invokevirtual index) (len := 3) (by rw [hb]; exact hdg) (mk := mk) (a := (Value.ref b :: As).toArray) hfr
    (by show 2 * g.monitorRoom + (rest.map fun v => v.category).sum + (maxL + 11) + rm.locals ≤ R.locals; omega) (by rw [hrc]; exact hf.1) (by rw [hrs]; exact hf.2) (fun w hw => hws w hw _ _ X₁.warmed) (methY := methM) (by rw [X₁.warmed.alike.method?]; exact hmethM) hcM hlM (X₁.named hnamed)
    (word_at X₁.warmed (Or.inl (by first | rfl | simp [Cond.onTables, Cond.keeps, Cond.steady])) hini) (hbl _ _ _ _ (hPc (T.setVm vm₁) hT X₁.warmed))
  exact ⟨o, (T.setVm vm₁).calling { g with stack := rest } mk (Value.ref b :: As).toArray, t, T', L, hT, X', hL, e1, e2, X₁.warmed.alike, hq, fun v hv tg h => hstep₁ _ fun acts => by rw [doInvoke_state]; exact (w1 v hv).trans h, fun x hv tg h => hstep₁ _ fun acts => by rw [doInvoke_state]; exact (w2 x hv).trans h⟩
theorem w_run9 {S : Type} {post : Int64 → S → Prop} {B : S → State → Prop} {A1 : Nat → Prop} (hx : p.tables.exec = Jvm.exec) (hb : c.code = cc) (hml : c.maxLocals = nL) (hown : s.vm.findClass own = some m.cls) (hls : ls.size = nL) (hg : gl s0 s) (hlo : ∀ q, A q → s0.heap.size ≤ q) (hK : va_K D ncl tys s) (hP : va_P D ncl ws H) (hD : va_D A ws) (hS : va_S A s.heap H locs)
    (hM : Met l y [.code y bytes maxL ret] rm (wP s0 D (.ref b :: As) wc H.size) (va_Ql post B A1) rm.cells rm.slots free) (k1 : kw s0 (.methodLink own index y)) (k2 : kw s0 (.instanceMethod y)) (k3 : kw s0 (.selects C y y)) (k4 : kw s0 (.code y bytes maxL ret)) (k5 : kw s0 (.initialized y.cls))
    (hd : y.cls ≠ "java/lang/invoke/MethodHandle" ∧ y.cls ≠ "java/lang/invoke/VarHandle" ∧ (parseMethodDescriptor y.desc).map (fun d => d.parameters.length) = some As.length) (hR : rm.frames + 1 ≤ R.frames ∧ 16 + (maxL + 11) + rm.locals ≤ R.locals)
    (isC : List Nat) (hn : va_nd isC = true) (hC : isC.map (fun i => ws[i]?) = wc.map some) {ci q0 : Nat} {fs : List Value} {T : u_T} {N : Nat} (hc : ncl[ci]? = some (C, T, N)) (he : ws[q0]? = some (b, .inr (ci, fs))) (hst : st0 = As.reverse ++ .ref b :: rest) (h8 : (rest.map fun v => v.category).sum ≤ 16) (hdg : decode cc pc = .ok (.invokevirtual index, 3)) (hf : cells + rm.cells ≤ R.cells ∧ slots + rm.slots ≤ R.slots) :
    va_Run p l e R s m args below meth c H locs cells slots rm.cells rm.slots (F0 m pc ls st0) rest (va_Ql post B A1 (Value.ref b :: As).toArray) free := by
  intro T hT X
  obtain ⟨o, st₀, t, T', L, h0, X', hL, e1, e2, -, hq, w1, w2⟩ := th_runV9 (Ts := []) (own := own) (C := C) (n := As.length) ⟨hx, hb, hml, hown, fun _ h => absurd h List.not_mem_nil⟩ (th_ofMet hM) ⟨wc_B hg k1 k4 k5 hd ⟨hR.1, by omega⟩, k2 s args hg.1, k3 s args hg.1⟩ ⟨wP_blind, va_recv hK hP hc he, w_pre hg hlo hS hP hD isC hn hC⟩ hR.2 rfl rfl hls hst (g := F0 m pc ls st0) (by show 2 * 0 + _ ≤ 16; omega) hdg hf T hT X
  have hq' := hq
  obtain ⟨⟨r, u, rfl, -, -⟩, -⟩ := hq
  exact ⟨some (.long r), st₀, t, T', L, h0, X', hL, e1, e2, hq', fun tg h => w1 _ rfl tg h⟩
end R9
/-- the copies as the model lays them down -/
def rwR (dn : List Cp) (ii : Nat → Int32) (ia : Nat → Nat → Int32) (la : Nat → Nat → Int64) : Prop := ii 13 = nI dn.length ∧ (∀ c, c < dn.length → ia 15 c = 0) ∧ ∀ c, c < dn.length → ∀ j, j < 6 → la 14 (6 * c + j) = lN (cpk (dn.getD c cp0) j)
def puI (ii : Nat → Int32) (ia : Nat → Nat → Int32) (la : Nat → Nat → Int64) (u : (Nat → Int32) × (Nat → Nat → Int32) × (Nat → Nat → Int64)) : Prop := (∀ z, z ≠ 13 → u.1 z = ii z) ∧ (∀ z, z ≠ 15 → u.2.1 z = ia z) ∧ ∀ z, z ≠ 14 → u.2.2 z = la z
theorem gd_snoc {α : Type} (s : List α) (x d : α) : (s ++ [x]).getD s.length d = x := by simp [List.getD_eq_getElem?_getD]
theorem gd_snl {α : Type} (s : List α) (x d : α) {j : Nat} (h : j < s.length) : (s ++ [x]).getD j d = s.getD j d := by simp [List.getD_eq_getElem?_getD, List.getElem?_append_left h]
theorem pu_fin {ia : Nat → Nat → Int32} {la : Nat → Nat → Int64} {dn : List Cp} {b x y t wd h : Nat} {u : (Nat → Int32) × (Nat → Nat → Int32) × (Nat → Nat → Int64)} (d2 : ∀ c, c < dn.length → ia 15 c = 0) (d3 : ∀ c, c < dn.length → ∀ j, j < 6 → la 14 (6 * c + j) = lN (cpk (dn.getD c cp0) j)) (h1 : u.1 13 = nI (dn.length + 1)) (h2 : u.2.1 15 = upd (ia 15) dn.length 0)
    (h3 : u.2.2 14 = vp_updL (vp_updL (vp_updL (vp_updL (vp_updL (vp_updL (la 14) (6 * dn.length + 0) (lN b)) (6 * dn.length + 1) (lN x)) (6 * dn.length + 2) (lN y)) (6 * dn.length + 3) (lN t)) (6 * dn.length + 4) (lN wd)) (6 * dn.length + 5) (lN h)) : rwR (dn ++ [(b, x, y, t, wd, h)]) u.1 u.2.1 u.2.2 := by
  refine ⟨by rw [h1]; simp, fun c hc => ?_, fun c hc j hj => ?_⟩
  · rw [h2]
    by_cases hz : c = dn.length
    · rw [hz, upd_s]
    · rw [upd_n _ _ hz]; exact d2 c (by simp at hc; omega)
  · by_cases hz : c = dn.length
    · rw [hz, gd_snoc, h3]
      rcases (by omega : j = 0 ∨ j = 1 ∨ j = 2 ∨ j = 3 ∨ j = 4 ∨ j = 5) with rfl | rfl | rfl | rfl | rfl | rfl
      · rw [updL_n _ _ (by omega), updL_n _ _ (by omega), updL_n _ _ (by omega), updL_n _ _ (by omega), updL_n _ _ (by omega), updL_s]; rfl
      · rw [updL_n _ _ (by omega), updL_n _ _ (by omega), updL_n _ _ (by omega), updL_n _ _ (by omega), updL_s]; rfl
      · rw [updL_n _ _ (by omega), updL_n _ _ (by omega), updL_n _ _ (by omega), updL_s]; rfl
      · rw [updL_n _ _ (by omega), updL_n _ _ (by omega), updL_s]; rfl
      · rw [updL_n _ _ (by omega), updL_s]; rfl
      · rw [updL_s]; rfl
    · have hlt : c < dn.length := by simp at hc; omega
      rw [gd_snl _ _ _ hlt, h3, updL_n _ _ (by omega), updL_n _ _ (by omega), updL_n _ _ (by omega), updL_n _ _ (by omega), updL_n _ _ (by omega), updL_n _ _ (by omega)]
      exact d3 c hlt j hj
set_option maxHeartbeats 4000000 in
set_option maxRecDepth 100000 in
theorem m_M_put {l : Launch} {s0 : State} {D : va_G} {cA sa : Nat → Nat} (Z : zE l s0 D cA sa) (a : Nat → Nat) (ii : Nat → Int32) (li : Nat → Int64) (ia : Nat → Nat → Int32) (la : Nat → Nat → Int64) (b x y t wd h : Nat) (dn : List Cp) (hb4 : b < 4) (ht2 : t < 2) (hn : dn.length < 200) (hdn : rwR dn ii ia la) (sz : Nat) : Met l y_M_put [.code y_M_put c_M_put 12 none] ({ frames := 0, cells := 0, slots := 0, locals := 0 }) (wP s0 D [.ref (a 0), .int (nI b), .long (lN x), .long (lN y), .int (nI t), .long (lN wd), .long (lN h)] (w_M a cA ii li ia la) sz) (va_Qv (fun u => puI ii ia la u ∧ rwR (dn ++ [(b, x, y, t, wd, h)]) u.1 u.2.1 u.2.2) (wB D (va_A (w_M a cA ii li ia la) sz) (fun (u : (Nat → Int32) × (Nat → Nat → Int32) × (Nat → Nat → Int64)) => w_M a cA u.1 li u.2.1 u.2.2)) (va_A (w_M a cA ii li ia la) sz)) 0 0 (va_A (w_M a cA ii li ia la) sz) := by
  refine wMet Z (by decide) (Nat.le_of_ble_eq_true rfl) ?_
  intro p e s m below meth c hx hb hr hml hown hlk hin hg hK hsz hP hD hA hlo hS ls hl
  subst hsz
  have hown : s.vm.findClass R_M = some m.cls := hown
  obtain ⟨d1, d2, d3⟩ := hdn
  refine lv_bipush (v := 6) hx hb d_M_put_0 (by decide) ?_
  refine lv_aload_n hx hb d_M_put_2 rfl (lv_at hl 0 rfl) ?_
  refine va_get (D := D) (ci := 1) (v := .int (ii 13)) (C := R_M) (T := T_M) (N := 26) hx hb (uw_M Z.1 hg.1) (fun _ h => h) hown hK hP 0 rfl rfl 13 (by decide) (kw617 Z.1 _ _ hg.1) (fun _ h9 => h9) rfl d_M_put_3 ?_
  refine lv_topi (fun z1 ez1 => ?_)
  obtain rfl : z1 = (nI dn.length) := by rw [ez1]; exact d1
  refine lv_imul hx hb d_M_put_6 ?_
  refine lv_topi (fun z2 ez2 => ?_)
  obtain rfl : z2 = (nI (6 * dn.length + 0)) := by rw [ez2]; exact pk_mul 6 _
  refine lv_istore (lv' := [(11, .int (nI (6 * dn.length + 0))), (0, .ref (a 0)), (1, .int (nI b)), (2, .long (lN x)), (4, .long (lN y)), (6, .int (nI t)), (7, .long (lN wd)), (9, .long (lN h))]) hx hb d_M_put_7 hl (by decide) rfl (fun ls hl => ?_)
  refine lv_aload_n hx hb d_M_put_9 rfl (lv_at hl 1 rfl) ?_
  refine va_get (D := D) (ci := 1) (v := .ref (a 15)) (C := R_M) (T := T_M) (N := 26) hx hb (uw_M Z.1 hg.1) (fun _ h => h) hown hK hP 0 rfl rfl 14 (by decide) (kw618 Z.1 _ _ hg.1) (fun _ h9 => h9) rfl d_M_put_10 ?_
  refine lv_iload hx hb d_M_put_13 (lv_at hl 0 rfl) ?_
  refine lv_iload_n hx hb d_M_put_15 rfl (lv_at hl 2 rfl) ?_
  refine lv_i2l hx hb d_M_put_16 rfl ?_
  refine lv_topl (fun z3 ez3 => ?_)
  obtain rfl : z3 = (lN b) := by rw [ez3]; exact nI_l (by omega)
  refine va_last hx hb hK hP hD hS 8 1 rfl rfl (vp_in_nI (n := 6 * dn.length + 0) (N := 1200) (by omega) (by decide)) d_M_put_17 (fun H locs hP hD hS => ?_)
  rw [nI_clamp (n := (6 * dn.length + 0)) (by omega)] at hP hD
  have hP : va_P D ncl (w_M a cA ii li ia (va_up la 14 (vp_updL (la 14) (6 * dn.length + 0) (lN b)))) H := hP
  have hD : va_D _ (w_M a cA ii li ia (va_up la 14 (vp_updL (la 14) (6 * dn.length + 0) (lN b)))) := hD
  refine lv_aload_n hx hb d_M_put_18 rfl (lv_at hl 1 rfl) ?_
  refine va_get (D := D) (ci := 1) (v := .ref (a 15)) (C := R_M) (T := T_M) (N := 26) hx hb (uw_M Z.1 hg.1) (fun _ h => h) hown hK hP 0 rfl rfl 14 (by decide) (kw618 Z.1 _ _ hg.1) (fun _ h9 => h9) rfl d_M_put_19 ?_
  refine lv_iload hx hb d_M_put_22 (lv_at hl 0 rfl) ?_
  refine lv_iconst (v := 1) hx hb d_M_put_24 (by decide) ?_
  refine lv_iadd hx hb d_M_put_25 ?_
  refine lv_topi (fun z4 ez4 => ?_)
  obtain rfl : z4 = (nI (6 * dn.length + 1)) := by rw [ez4]; exact nI_add _ 1
  refine lv_lload_n hx hb d_M_put_26 rfl (lv_at hl 3 rfl) ?_
  refine va_last hx hb hK hP hD hS 8 1 rfl rfl (vp_in_nI (n := 6 * dn.length + 1) (N := 1200) (by omega) (by decide)) d_M_put_27 (fun H locs hP hD hS => ?_)
  rw [nI_clamp (n := (6 * dn.length + 1)) (by omega)] at hP hD
  have hP : va_P D ncl (w_M a cA ii li ia (va_up (va_up la 14 (vp_updL (la 14) (6 * dn.length + 0) (lN b))) 14 (vp_updL (vp_updL (la 14) (6 * dn.length + 0) (lN b)) (6 * dn.length + 1) (lN x)))) H := hP
  have hD : va_D _ (w_M a cA ii li ia (va_up (va_up la 14 (vp_updL (la 14) (6 * dn.length + 0) (lN b))) 14 (vp_updL (vp_updL (la 14) (6 * dn.length + 0) (lN b)) (6 * dn.length + 1) (lN x)))) := hD
  refine lv_aload_n hx hb d_M_put_28 rfl (lv_at hl 1 rfl) ?_
  refine va_get (D := D) (ci := 1) (v := .ref (a 15)) (C := R_M) (T := T_M) (N := 26) hx hb (uw_M Z.1 hg.1) (fun _ h => h) hown hK hP 0 rfl rfl 14 (by decide) (kw618 Z.1 _ _ hg.1) (fun _ h9 => h9) rfl d_M_put_29 ?_
  refine lv_iload hx hb d_M_put_32 (lv_at hl 0 rfl) ?_
  refine lv_iconst (v := 2) hx hb d_M_put_34 (by decide) ?_
  refine lv_iadd hx hb d_M_put_35 ?_
  refine lv_topi (fun z5 ez5 => ?_)
  obtain rfl : z5 = (nI (6 * dn.length + 2)) := by rw [ez5]; exact nI_add _ 2
  refine lv_lload hx hb d_M_put_36 (lv_at hl 4 rfl) ?_
  refine va_last hx hb hK hP hD hS 8 1 rfl rfl (vp_in_nI (n := 6 * dn.length + 2) (N := 1200) (by omega) (by decide)) d_M_put_38 (fun H locs hP hD hS => ?_)
  rw [nI_clamp (n := (6 * dn.length + 2)) (by omega)] at hP hD
  have hP : va_P D ncl (w_M a cA ii li ia (va_up (va_up (va_up la 14 (vp_updL (la 14) (6 * dn.length + 0) (lN b))) 14 (vp_updL (vp_updL (la 14) (6 * dn.length + 0) (lN b)) (6 * dn.length + 1) (lN x))) 14 (vp_updL (vp_updL (vp_updL (la 14) (6 * dn.length + 0) (lN b)) (6 * dn.length + 1) (lN x)) (6 * dn.length + 2) (lN y)))) H := hP
  have hD : va_D _ (w_M a cA ii li ia (va_up (va_up (va_up la 14 (vp_updL (la 14) (6 * dn.length + 0) (lN b))) 14 (vp_updL (vp_updL (la 14) (6 * dn.length + 0) (lN b)) (6 * dn.length + 1) (lN x))) 14 (vp_updL (vp_updL (vp_updL (la 14) (6 * dn.length + 0) (lN b)) (6 * dn.length + 1) (lN x)) (6 * dn.length + 2) (lN y)))) := hD
  refine lv_aload_n hx hb d_M_put_39 rfl (lv_at hl 1 rfl) ?_
  refine va_get (D := D) (ci := 1) (v := .ref (a 15)) (C := R_M) (T := T_M) (N := 26) hx hb (uw_M Z.1 hg.1) (fun _ h => h) hown hK hP 0 rfl rfl 14 (by decide) (kw618 Z.1 _ _ hg.1) (fun _ h9 => h9) rfl d_M_put_40 ?_
  refine lv_iload hx hb d_M_put_43 (lv_at hl 0 rfl) ?_
  refine lv_iconst (v := 3) hx hb d_M_put_45 (by decide) ?_
  refine lv_iadd hx hb d_M_put_46 ?_
  refine lv_topi (fun z6 ez6 => ?_)
  obtain rfl : z6 = (nI (6 * dn.length + 3)) := by rw [ez6]; exact nI_add _ 3
  refine lv_iload hx hb d_M_put_47 (lv_at hl 5 rfl) ?_
  refine lv_i2l hx hb d_M_put_49 rfl ?_
  refine lv_topl (fun z7 ez7 => ?_)
  obtain rfl : z7 = (lN t) := by rw [ez7]; exact nI_l (by omega)
  refine va_last hx hb hK hP hD hS 8 1 rfl rfl (vp_in_nI (n := 6 * dn.length + 3) (N := 1200) (by omega) (by decide)) d_M_put_50 (fun H locs hP hD hS => ?_)
  rw [nI_clamp (n := (6 * dn.length + 3)) (by omega)] at hP hD
  have hP : va_P D ncl (w_M a cA ii li ia (va_up (va_up (va_up (va_up la 14 (vp_updL (la 14) (6 * dn.length + 0) (lN b))) 14 (vp_updL (vp_updL (la 14) (6 * dn.length + 0) (lN b)) (6 * dn.length + 1) (lN x))) 14 (vp_updL (vp_updL (vp_updL (la 14) (6 * dn.length + 0) (lN b)) (6 * dn.length + 1) (lN x)) (6 * dn.length + 2) (lN y))) 14 (vp_updL (vp_updL (vp_updL (vp_updL (la 14) (6 * dn.length + 0) (lN b)) (6 * dn.length + 1) (lN x)) (6 * dn.length + 2) (lN y)) (6 * dn.length + 3) (lN t)))) H := hP
  have hD : va_D _ (w_M a cA ii li ia (va_up (va_up (va_up (va_up la 14 (vp_updL (la 14) (6 * dn.length + 0) (lN b))) 14 (vp_updL (vp_updL (la 14) (6 * dn.length + 0) (lN b)) (6 * dn.length + 1) (lN x))) 14 (vp_updL (vp_updL (vp_updL (la 14) (6 * dn.length + 0) (lN b)) (6 * dn.length + 1) (lN x)) (6 * dn.length + 2) (lN y))) 14 (vp_updL (vp_updL (vp_updL (vp_updL (la 14) (6 * dn.length + 0) (lN b)) (6 * dn.length + 1) (lN x)) (6 * dn.length + 2) (lN y)) (6 * dn.length + 3) (lN t)))) := hD
  refine lv_aload_n hx hb d_M_put_51 rfl (lv_at hl 1 rfl) ?_
  refine va_get (D := D) (ci := 1) (v := .ref (a 15)) (C := R_M) (T := T_M) (N := 26) hx hb (uw_M Z.1 hg.1) (fun _ h => h) hown hK hP 0 rfl rfl 14 (by decide) (kw618 Z.1 _ _ hg.1) (fun _ h9 => h9) rfl d_M_put_52 ?_
  refine lv_iload hx hb d_M_put_55 (lv_at hl 0 rfl) ?_
  refine lv_iconst (v := 4) hx hb d_M_put_57 (by decide) ?_
  refine lv_iadd hx hb d_M_put_58 ?_
  refine lv_topi (fun z8 ez8 => ?_)
  obtain rfl : z8 = (nI (6 * dn.length + 4)) := by rw [ez8]; exact nI_add _ 4
  refine lv_lload hx hb d_M_put_59 (lv_at hl 6 rfl) ?_
  refine va_last hx hb hK hP hD hS 8 1 rfl rfl (vp_in_nI (n := 6 * dn.length + 4) (N := 1200) (by omega) (by decide)) d_M_put_61 (fun H locs hP hD hS => ?_)
  rw [nI_clamp (n := (6 * dn.length + 4)) (by omega)] at hP hD
  have hP : va_P D ncl (w_M a cA ii li ia (va_up (va_up (va_up (va_up (va_up la 14 (vp_updL (la 14) (6 * dn.length + 0) (lN b))) 14 (vp_updL (vp_updL (la 14) (6 * dn.length + 0) (lN b)) (6 * dn.length + 1) (lN x))) 14 (vp_updL (vp_updL (vp_updL (la 14) (6 * dn.length + 0) (lN b)) (6 * dn.length + 1) (lN x)) (6 * dn.length + 2) (lN y))) 14 (vp_updL (vp_updL (vp_updL (vp_updL (la 14) (6 * dn.length + 0) (lN b)) (6 * dn.length + 1) (lN x)) (6 * dn.length + 2) (lN y)) (6 * dn.length + 3) (lN t))) 14 (vp_updL (vp_updL (vp_updL (vp_updL (vp_updL (la 14) (6 * dn.length + 0) (lN b)) (6 * dn.length + 1) (lN x)) (6 * dn.length + 2) (lN y)) (6 * dn.length + 3) (lN t)) (6 * dn.length + 4) (lN wd)))) H := hP
  have hD : va_D _ (w_M a cA ii li ia (va_up (va_up (va_up (va_up (va_up la 14 (vp_updL (la 14) (6 * dn.length + 0) (lN b))) 14 (vp_updL (vp_updL (la 14) (6 * dn.length + 0) (lN b)) (6 * dn.length + 1) (lN x))) 14 (vp_updL (vp_updL (vp_updL (la 14) (6 * dn.length + 0) (lN b)) (6 * dn.length + 1) (lN x)) (6 * dn.length + 2) (lN y))) 14 (vp_updL (vp_updL (vp_updL (vp_updL (la 14) (6 * dn.length + 0) (lN b)) (6 * dn.length + 1) (lN x)) (6 * dn.length + 2) (lN y)) (6 * dn.length + 3) (lN t))) 14 (vp_updL (vp_updL (vp_updL (vp_updL (vp_updL (la 14) (6 * dn.length + 0) (lN b)) (6 * dn.length + 1) (lN x)) (6 * dn.length + 2) (lN y)) (6 * dn.length + 3) (lN t)) (6 * dn.length + 4) (lN wd)))) := hD
  refine lv_aload_n hx hb d_M_put_62 rfl (lv_at hl 1 rfl) ?_
  refine va_get (D := D) (ci := 1) (v := .ref (a 15)) (C := R_M) (T := T_M) (N := 26) hx hb (uw_M Z.1 hg.1) (fun _ h => h) hown hK hP 0 rfl rfl 14 (by decide) (kw618 Z.1 _ _ hg.1) (fun _ h9 => h9) rfl d_M_put_63 ?_
  refine lv_iload hx hb d_M_put_66 (lv_at hl 0 rfl) ?_
  refine lv_iconst (v := 5) hx hb d_M_put_68 (by decide) ?_
  refine lv_iadd hx hb d_M_put_69 ?_
  refine lv_topi (fun z9 ez9 => ?_)
  obtain rfl : z9 = (nI (6 * dn.length + 5)) := by rw [ez9]; exact nI_add _ 5
  refine lv_lload hx hb d_M_put_70 (lv_at hl 7 rfl) ?_
  refine va_last hx hb hK hP hD hS 8 1 rfl rfl (vp_in_nI (n := 6 * dn.length + 5) (N := 1200) (by omega) (by decide)) d_M_put_72 (fun H locs hP hD hS => ?_)
  rw [nI_clamp (n := (6 * dn.length + 5)) (by omega)] at hP hD
  have hP : va_P D ncl (w_M a cA ii li ia (va_up (va_up (va_up (va_up (va_up (va_up la 14 (vp_updL (la 14) (6 * dn.length + 0) (lN b))) 14 (vp_updL (vp_updL (la 14) (6 * dn.length + 0) (lN b)) (6 * dn.length + 1) (lN x))) 14 (vp_updL (vp_updL (vp_updL (la 14) (6 * dn.length + 0) (lN b)) (6 * dn.length + 1) (lN x)) (6 * dn.length + 2) (lN y))) 14 (vp_updL (vp_updL (vp_updL (vp_updL (la 14) (6 * dn.length + 0) (lN b)) (6 * dn.length + 1) (lN x)) (6 * dn.length + 2) (lN y)) (6 * dn.length + 3) (lN t))) 14 (vp_updL (vp_updL (vp_updL (vp_updL (vp_updL (la 14) (6 * dn.length + 0) (lN b)) (6 * dn.length + 1) (lN x)) (6 * dn.length + 2) (lN y)) (6 * dn.length + 3) (lN t)) (6 * dn.length + 4) (lN wd))) 14 (vp_updL (vp_updL (vp_updL (vp_updL (vp_updL (vp_updL (la 14) (6 * dn.length + 0) (lN b)) (6 * dn.length + 1) (lN x)) (6 * dn.length + 2) (lN y)) (6 * dn.length + 3) (lN t)) (6 * dn.length + 4) (lN wd)) (6 * dn.length + 5) (lN h)))) H := hP
  have hD : va_D _ (w_M a cA ii li ia (va_up (va_up (va_up (va_up (va_up (va_up la 14 (vp_updL (la 14) (6 * dn.length + 0) (lN b))) 14 (vp_updL (vp_updL (la 14) (6 * dn.length + 0) (lN b)) (6 * dn.length + 1) (lN x))) 14 (vp_updL (vp_updL (vp_updL (la 14) (6 * dn.length + 0) (lN b)) (6 * dn.length + 1) (lN x)) (6 * dn.length + 2) (lN y))) 14 (vp_updL (vp_updL (vp_updL (vp_updL (la 14) (6 * dn.length + 0) (lN b)) (6 * dn.length + 1) (lN x)) (6 * dn.length + 2) (lN y)) (6 * dn.length + 3) (lN t))) 14 (vp_updL (vp_updL (vp_updL (vp_updL (vp_updL (la 14) (6 * dn.length + 0) (lN b)) (6 * dn.length + 1) (lN x)) (6 * dn.length + 2) (lN y)) (6 * dn.length + 3) (lN t)) (6 * dn.length + 4) (lN wd))) 14 (vp_updL (vp_updL (vp_updL (vp_updL (vp_updL (vp_updL (la 14) (6 * dn.length + 0) (lN b)) (6 * dn.length + 1) (lN x)) (6 * dn.length + 2) (lN y)) (6 * dn.length + 3) (lN t)) (6 * dn.length + 4) (lN wd)) (6 * dn.length + 5) (lN h)))) := hD
  refine lv_aload_n hx hb d_M_put_73 rfl (lv_at hl 1 rfl) ?_
  refine va_get (D := D) (ci := 1) (v := .ref (a 16)) (C := R_M) (T := T_M) (N := 26) hx hb (uw_M Z.1 hg.1) (fun _ h => h) hown hK hP 0 rfl rfl 15 (by decide) (kw619 Z.1 _ _ hg.1) (fun _ h9 => h9) rfl d_M_put_74 ?_
  refine lv_aload_n hx hb d_M_put_77 rfl (lv_at hl 1 rfl) ?_
  refine va_get (D := D) (ci := 1) (v := .int (ii 13)) (C := R_M) (T := T_M) (N := 26) hx hb (uw_M Z.1 hg.1) (fun _ h => h) hown hK hP 0 rfl rfl 13 (by decide) (kw617 Z.1 _ _ hg.1) (fun _ h9 => h9) rfl d_M_put_78 ?_
  refine lv_topi (fun z10 ez10 => ?_)
  obtain rfl : z10 = (nI dn.length) := by rw [ez10]; exact d1
  refine lv_iconst (v := 0) hx hb d_M_put_81 (by decide) ?_
  refine va_zast hx hb hK hP hD hS 9 2 rfl rfl (vp_in_nI (n := dn.length) (N := 200) (by omega) (by decide)) d_M_put_82 (fun H locs hP hD hS => ?_)
  rw [nI_clamp (n := dn.length) (by omega)] at hP hD
  have hP : va_P D ncl (w_M a cA ii li (va_up ia 15 (upd (ia 15) dn.length (vp_nar .boolean 0))) (va_up (va_up (va_up (va_up (va_up (va_up la 14 (vp_updL (la 14) (6 * dn.length + 0) (lN b))) 14 (vp_updL (vp_updL (la 14) (6 * dn.length + 0) (lN b)) (6 * dn.length + 1) (lN x))) 14 (vp_updL (vp_updL (vp_updL (la 14) (6 * dn.length + 0) (lN b)) (6 * dn.length + 1) (lN x)) (6 * dn.length + 2) (lN y))) 14 (vp_updL (vp_updL (vp_updL (vp_updL (la 14) (6 * dn.length + 0) (lN b)) (6 * dn.length + 1) (lN x)) (6 * dn.length + 2) (lN y)) (6 * dn.length + 3) (lN t))) 14 (vp_updL (vp_updL (vp_updL (vp_updL (vp_updL (la 14) (6 * dn.length + 0) (lN b)) (6 * dn.length + 1) (lN x)) (6 * dn.length + 2) (lN y)) (6 * dn.length + 3) (lN t)) (6 * dn.length + 4) (lN wd))) 14 (vp_updL (vp_updL (vp_updL (vp_updL (vp_updL (vp_updL (la 14) (6 * dn.length + 0) (lN b)) (6 * dn.length + 1) (lN x)) (6 * dn.length + 2) (lN y)) (6 * dn.length + 3) (lN t)) (6 * dn.length + 4) (lN wd)) (6 * dn.length + 5) (lN h)))) H := hP
  have hD : va_D _ (w_M a cA ii li (va_up ia 15 (upd (ia 15) dn.length (vp_nar .boolean 0))) (va_up (va_up (va_up (va_up (va_up (va_up la 14 (vp_updL (la 14) (6 * dn.length + 0) (lN b))) 14 (vp_updL (vp_updL (la 14) (6 * dn.length + 0) (lN b)) (6 * dn.length + 1) (lN x))) 14 (vp_updL (vp_updL (vp_updL (la 14) (6 * dn.length + 0) (lN b)) (6 * dn.length + 1) (lN x)) (6 * dn.length + 2) (lN y))) 14 (vp_updL (vp_updL (vp_updL (vp_updL (la 14) (6 * dn.length + 0) (lN b)) (6 * dn.length + 1) (lN x)) (6 * dn.length + 2) (lN y)) (6 * dn.length + 3) (lN t))) 14 (vp_updL (vp_updL (vp_updL (vp_updL (vp_updL (la 14) (6 * dn.length + 0) (lN b)) (6 * dn.length + 1) (lN x)) (6 * dn.length + 2) (lN y)) (6 * dn.length + 3) (lN t)) (6 * dn.length + 4) (lN wd))) 14 (vp_updL (vp_updL (vp_updL (vp_updL (vp_updL (vp_updL (la 14) (6 * dn.length + 0) (lN b)) (6 * dn.length + 1) (lN x)) (6 * dn.length + 2) (lN y)) (6 * dn.length + 3) (lN t)) (6 * dn.length + 4) (lN wd)) (6 * dn.length + 5) (lN h)))) := hD
  refine lv_aload_n hx hb d_M_put_83 rfl (lv_at hl 1 rfl) ?_
  refine lv_dup hx hb d_M_put_84 rfl ?_
  refine va_get (D := D) (ci := 1) (v := .int (ii 13)) (C := R_M) (T := T_M) (N := 26) hx hb (uw_M Z.1 hg.1) (fun _ h => h) hown hK hP 0 rfl rfl 13 (by decide) (kw617 Z.1 _ _ hg.1) (fun _ h9 => h9) rfl d_M_put_85 ?_
  refine lv_topi (fun z11 ez11 => ?_)
  obtain rfl : z11 = (nI dn.length) := by rw [ez11]; exact d1
  refine lv_iconst (v := 1) hx hb d_M_put_88 (by decide) ?_
  refine lv_iadd hx hb d_M_put_89 ?_
  refine lv_topi (fun z12 ez12 => ?_)
  obtain rfl : z12 = (nI (dn.length + 1)) := by rw [ez12]; exact nI_1 _
  refine va_put (D := D) (ci := 1) (v := .int (nI (dn.length + 1))) (ty := t_M 13) (C := R_M) (T := T_M) (N := 26) hx hb (uw_M Z.1 hg.1) (fun _ h => h) t_M t_M_ok n_M hown hK hP hD hS 0 rfl rfl 13 (by decide) (kw617 Z.1 _ _ hg.1) (fun _ h9 => h9) rfl (by decide +kernel) rfl rfl (Nat.le_of_ble_eq_true rfl) d_M_put_90 (fun H locs hP hD hS => ?_)
  have hP : va_P D ncl (w_M a cA (va_up ii 13 (nI (dn.length + 1))) li (va_up ia 15 (upd (ia 15) dn.length (vp_nar .boolean 0))) (va_up (va_up (va_up (va_up (va_up (va_up la 14 (vp_updL (la 14) (6 * dn.length + 0) (lN b))) 14 (vp_updL (vp_updL (la 14) (6 * dn.length + 0) (lN b)) (6 * dn.length + 1) (lN x))) 14 (vp_updL (vp_updL (vp_updL (la 14) (6 * dn.length + 0) (lN b)) (6 * dn.length + 1) (lN x)) (6 * dn.length + 2) (lN y))) 14 (vp_updL (vp_updL (vp_updL (vp_updL (la 14) (6 * dn.length + 0) (lN b)) (6 * dn.length + 1) (lN x)) (6 * dn.length + 2) (lN y)) (6 * dn.length + 3) (lN t))) 14 (vp_updL (vp_updL (vp_updL (vp_updL (vp_updL (la 14) (6 * dn.length + 0) (lN b)) (6 * dn.length + 1) (lN x)) (6 * dn.length + 2) (lN y)) (6 * dn.length + 3) (lN t)) (6 * dn.length + 4) (lN wd))) 14 (vp_updL (vp_updL (vp_updL (vp_updL (vp_updL (vp_updL (la 14) (6 * dn.length + 0) (lN b)) (6 * dn.length + 1) (lN x)) (6 * dn.length + 2) (lN y)) (6 * dn.length + 3) (lN t)) (6 * dn.length + 4) (lN wd)) (6 * dn.length + 5) (lN h)))) H := hP
  have hD : va_D _ (w_M a cA (va_up ii 13 (nI (dn.length + 1))) li (va_up ia 15 (upd (ia 15) dn.length (vp_nar .boolean 0))) (va_up (va_up (va_up (va_up (va_up (va_up la 14 (vp_updL (la 14) (6 * dn.length + 0) (lN b))) 14 (vp_updL (vp_updL (la 14) (6 * dn.length + 0) (lN b)) (6 * dn.length + 1) (lN x))) 14 (vp_updL (vp_updL (vp_updL (la 14) (6 * dn.length + 0) (lN b)) (6 * dn.length + 1) (lN x)) (6 * dn.length + 2) (lN y))) 14 (vp_updL (vp_updL (vp_updL (vp_updL (la 14) (6 * dn.length + 0) (lN b)) (6 * dn.length + 1) (lN x)) (6 * dn.length + 2) (lN y)) (6 * dn.length + 3) (lN t))) 14 (vp_updL (vp_updL (vp_updL (vp_updL (vp_updL (la 14) (6 * dn.length + 0) (lN b)) (6 * dn.length + 1) (lN x)) (6 * dn.length + 2) (lN y)) (6 * dn.length + 3) (lN t)) (6 * dn.length + 4) (lN wd))) 14 (vp_updL (vp_updL (vp_updL (vp_updL (vp_updL (vp_updL (la 14) (6 * dn.length + 0) (lN b)) (6 * dn.length + 1) (lN x)) (6 * dn.length + 2) (lN y)) (6 * dn.length + 3) (lN t)) (6 * dn.length + 4) (lN wd)) (6 * dn.length + 5) (lN h)))) := hD
  obtain ⟨lz, hlz⟩ : ∃ z, z = (va_up (va_up (va_up (va_up (va_up (va_up la 14 (vp_updL (la 14) (6 * dn.length + 0) (lN b))) 14 (vp_updL (vp_updL (la 14) (6 * dn.length + 0) (lN b)) (6 * dn.length + 1) (lN x))) 14 (vp_updL (vp_updL (vp_updL (la 14) (6 * dn.length + 0) (lN b)) (6 * dn.length + 1) (lN x)) (6 * dn.length + 2) (lN y))) 14 (vp_updL (vp_updL (vp_updL (vp_updL (la 14) (6 * dn.length + 0) (lN b)) (6 * dn.length + 1) (lN x)) (6 * dn.length + 2) (lN y)) (6 * dn.length + 3) (lN t))) 14 (vp_updL (vp_updL (vp_updL (vp_updL (vp_updL (la 14) (6 * dn.length + 0) (lN b)) (6 * dn.length + 1) (lN x)) (6 * dn.length + 2) (lN y)) (6 * dn.length + 3) (lN t)) (6 * dn.length + 4) (lN wd))) 14 (vp_updL (vp_updL (vp_updL (vp_updL (vp_updL (vp_updL (la 14) (6 * dn.length + 0) (lN b)) (6 * dn.length + 1) (lN x)) (6 * dn.length + 2) (lN y)) (6 * dn.length + 3) (lN t)) (6 * dn.length + 4) (lN wd)) (6 * dn.length + 5) (lN h))) := ⟨_, rfl⟩
  rw [← hlz] at hP hD
  have hz14 : lz 14 = vp_updL (vp_updL (vp_updL (vp_updL (vp_updL (vp_updL (la 14) (6 * dn.length + 0) (lN b)) (6 * dn.length + 1) (lN x)) (6 * dn.length + 2) (lN y)) (6 * dn.length + 3) (lN t)) (6 * dn.length + 4) (lN wd)) (6 * dn.length + 5) (lN h) := by rw [hlz]; simp only [up_s]
  have hzz : ∀ z, z ≠ 14 → lz z = la z := fun z hz => by rw [hlz]; simp only [up_n _ _ hz]
  exact w_vret hx hb hr hlk hP hD hS ((va_up ii 13 (nI (dn.length + 1))), (va_up ia 15 (upd (ia 15) dn.length (vp_nar .boolean 0))), lz) rfl ⟨⟨fun z hz => up_n _ _ hz, fun z hz => up_n _ _ hz, hzz⟩, pu_fin (u := ((va_up ii 13 (nI (dn.length + 1))), (va_up ia 15 (upd (ia 15) dn.length (vp_nar .boolean 0))), lz)) d2 d3 (by dsimp only; rw [up_s]) (by dsimp only; rw [up_s]; rfl) hz14⟩ d_M_put_93
/-- the rows to be laid, of rows by their kinds -/
def rwL (ft bw bh : Nat → Nat) : List Nat → (Nat → Nat) → List Rw
  | [], _ => []
  | k :: ks, wl => (k / 2, k % 2, min (ft k) (wl (k / 2)), wkF bw bh k, hgF bw bh k) :: rwL ft bw bh ks (va_up wl (k / 2) (wl (k / 2) - min (ft k) (wl (k / 2))))
set_option maxHeartbeats 4000000 in
set_option maxRecDepth 100000 in
theorem m_M_layOut {l : Launch} {s0 : State} {D : va_G} {cA sa : Nat → Nat} (Z : zE l s0 D cA sa) (a : Nat → Nat) (ii : Nat → Int32) (li : Nat → Int64) (ia : Nat → Nat → Int32) (la : Nat → Nat → Int64) (g l0 y0 : Nat) (ft wt bs : Nat → Nat) (bw bh : Nat → Nat) (hbw : ∀ b, b < 4 → la 19 b = lN (bw b) ∧ bw b ≤ 65536) (hbh : ∀ b, b < 4 → la 20 b = lN (bh b) ∧ bh b ≤ 65536) (hft : ∀ k, k < 8 → ia 21 k = nI (ft k) ∧ ft k ≤ 20) (hwt : ∀ k, k < 4 → ia 7 k = nI (wt k) ∧ wt k ≤ 200) (hbs : ∀ k, k < 8 → ia 23 k = nI (bs k) ∧ bs k ≤ 9) (hg2 : li 11 = lN g) (hl0 : la 10 0 = lN l0) (hy0 : la 10 1 = lN y0) (hlen : (lcp l0 g y0 (rwL ft bw bh (rwF bs 8 0) wt)).length ≤ 200) (sz : Nat) : Met l y_M_layOut [.code y_M_layOut c_M_layOut 10 none] ({ frames := 1, cells := 0, slots := 0, locals := 80 }) (wP s0 D [.ref (a 0)] (w_M a cA ii li ia la) sz) (va_Qv (fun u => puI ii ia la u ∧ rwR (lcp l0 g y0 (rwL ft bw bh (rwF bs 8 0) wt)) u.1 u.2.1 u.2.2) (wB D (va_A (w_M a cA ii li ia la) sz) (fun (u : (Nat → Int32) × (Nat → Nat → Int32) × (Nat → Nat → Int64)) => w_M a cA u.1 li u.2.1 u.2.2)) (va_A (w_M a cA ii li ia la) sz)) 0 0 (va_A (w_M a cA ii li ia la) sz) := by
  refine wMet Z (by decide) (Nat.le_of_ble_eq_true rfl) ?_
  intro p e s m below meth c hx hb hr hml hown hlk hin hg hK hsz hP hD hA hlo hS ls hl
  subst hsz
  have hown : s.vm.findClass R_M = some m.cls := hown
  obtain ⟨full, hful⟩ : ∃ z, z = lcp l0 g y0 (rwL ft bw bh (rwF bs 8 0) wt) := ⟨_, rfl⟩
  rw [← hful] at hlen
  rw [rmn_0] at hful
  refine lv_aload_n hx hb d_M_layOut_0 rfl (lv_at hl 0 rfl) ?_
  refine lv_iconst (v := 0) hx hb d_M_layOut_1 (by decide) ?_
  refine va_put (D := D) (ci := 1) (v := .int 0) (ty := t_M 13) (C := R_M) (T := T_M) (N := 26) hx hb (uw_M Z.1 hg.1) (fun _ h => h) t_M t_M_ok n_M hown hK hP hD hS 0 rfl rfl 13 (by decide) (kw617 Z.1 _ _ hg.1) (fun _ h9 => h9) rfl (by decide +kernel) rfl rfl (Nat.le_of_ble_eq_true rfl) d_M_layOut_2 (fun H locs hP hD hS => ?_)
  have hP : va_P D ncl (w_M a cA (va_up ii 13 0) li ia la) H := hP
  have hD : va_D _ (w_M a cA (va_up ii 13 0) li ia la) := hD
  refine lv_aload_n hx hb d_M_layOut_5 rfl (lv_at hl 0 rfl) ?_
  refine va_get (D := D) (ci := 1) (v := .ref (a 11)) (C := R_M) (T := T_M) (N := 26) hx hb (uw_M Z.1 hg.1) (fun _ h => h) hown hK hP 0 rfl rfl 10 (by decide) (kw614 Z.1 _ _ hg.1) (fun _ h9 => h9) rfl d_M_layOut_6 ?_
  refine lv_iconst (v := 1) hx hb d_M_layOut_9 (by decide) ?_
  refine lv_topi (fun z1 ez1 => ?_)
  obtain rfl : z1 = (nI 1) := by rw [ez1]; rfl
  refine va_lald hx hb hK hP 7 1 rfl rfl (vp_in_nI (n := 1) (N := 4) (by omega) (by decide)) d_M_layOut_10 ?_
  refine lv_topl (fun z2 ez2 => ?_)
  rw [nI_clamp (n := 1) (by omega)] at ez2
  obtain rfl : z2 = ((la 10) 1) := ez2
  refine lv_topl (fun z3 ez3 => ?_)
  obtain rfl : z3 = (lN y0) := by rw [ez3]; exact hy0
  refine lv_lstore_n (lv' := [(1, .long (lN y0)), (0, .ref (a 0))]) hx hb d_M_layOut_11 rfl hl (by decide) rfl (fun ls hl => ?_)
  refine lv_iconst (v := 0) hx hb d_M_layOut_12 (by decide) ?_
  refine lv_topi (fun z4 ez4 => ?_)
  obtain rfl : z4 = (nI 0) := by rw [ez4]; rfl
  refine lv_istore_n (lv' := [(3, .int (nI 0)), (1, .long (lN y0)), (0, .ref (a 0))]) hx hb d_M_layOut_13 rfl hl (by decide) rfl (fun ls hl => ?_)
  refine lv_iload_n hx hb d_M_layOut_14 rfl (lv_at hl 0 rfl) ?_
  refine lv_iconst (v := 4) hx hb d_M_layOut_15 (by decide) ?_
  refine lv_icmp_ge (tgt := 182) hx hb d_M_layOut_16 (by decide) (fun k5 => by first | exact absurd (show ¬ (4 : Int32) ≤ nI 0 from nI_ge (b := 4) (by decide) (by decide)) k5 | exact absurd k5 (show ¬ (4 : Int32) ≤ nI 0 from nI_ge (b := 4) (by decide) (by decide))) (fun _ => ?_)
  refine lv_aload_n hx hb d_M_layOut_19 rfl (lv_at hl 2 rfl) ?_
  refine va_get (D := D) (ci := 1) (v := .ref (a 8)) (C := R_M) (T := T_M) (N := 26) hx hb (uw_M Z.1 hg.1) (fun _ h => h) hown hK hP 0 rfl rfl 7 (by decide) (kw611 Z.1 _ _ hg.1) (fun _ h9 => h9) rfl d_M_layOut_20 ?_
  refine lv_iload_n hx hb d_M_layOut_23 rfl (lv_at hl 0 rfl) ?_
  refine va_iald hx hb hK hP 4 0 rfl rfl (vp_in_nI (n := 0) (N := 4) (by omega) (by decide)) d_M_layOut_24 ?_
  refine lv_topi (fun z6 ez6 => ?_)
  rw [nI_clamp (n := 0) (by omega)] at ez6
  obtain rfl : z6 = ((ia 7) 0) := ez6
  refine lv_topi (fun z7 ez7 => ?_)
  obtain rfl : z7 = (nI (wt 0)) := by rw [ez7]; exact (hwt 0 (by decide)).1
  refine lv_istore (lv' := [(4, .int (nI (wt 0))), (3, .int (nI 0)), (1, .long (lN y0)), (0, .ref (a 0))]) hx hb d_M_layOut_25 hl (by decide) rfl (fun ls hl => ?_)
  refine lv_iconst (v := 0) hx hb d_M_layOut_27 (by decide) ?_
  refine lv_topi (fun z8 ez8 => ?_)
  obtain rfl : z8 = (nI 0) := by rw [ez8]; rfl
  refine lv_istore (lv' := [(5, .int (nI 0)), (4, .int (nI (wt 0))), (3, .int (nI 0)), (1, .long (lN y0)), (0, .ref (a 0))]) hx hb d_M_layOut_28 hl (by decide) rfl (fun ls hl => ?_)
  refine lv_iload hx hb d_M_layOut_30 (lv_at hl 0 rfl) ?_
  refine lv_iconst (v := 2) hx hb d_M_layOut_32 (by decide) ?_
  refine lv_icmp_ge (tgt := 176) hx hb d_M_layOut_33 (by decide) (fun k9 => by first | exact absurd (show ¬ (2 : Int32) ≤ nI 0 from nI_ge (b := 2) (by decide) (by decide)) k9 | exact absurd k9 (show ¬ (2 : Int32) ≤ nI 0 from nI_ge (b := 2) (by decide) (by decide))) (fun _ => ?_)
  refine lv_iconst (v := 2) hx hb d_M_layOut_36 (by decide) ?_
  refine lv_iload_n hx hb d_M_layOut_37 rfl (lv_at hl 2 rfl) ?_
  refine lv_imul hx hb d_M_layOut_38 ?_
  refine lv_iload hx hb d_M_layOut_39 (lv_at hl 0 rfl) ?_
  refine lv_iadd hx hb d_M_layOut_41 ?_
  refine lv_topi (fun z10 ez10 => ?_)
  obtain rfl : z10 = (nI (2 * 0 + 0)) := by rw [ez10]; rfl
  refine lv_istore (lv' := [(6, .int (nI (2 * 0 + 0))), (5, .int (nI 0)), (4, .int (nI (wt 0))), (3, .int (nI 0)), (1, .long (lN y0)), (0, .ref (a 0))]) hx hb d_M_layOut_42 hl (by decide) rfl (fun ls hl => ?_)
  refine lv_iconst (v := 0) hx hb d_M_layOut_44 (by decide) ?_
  refine lv_topi (fun z11 ez11 => ?_)
  obtain rfl : z11 = (nI 0) := by rw [ez11]; rfl
  refine lv_istore (lv' := [(7, .int (nI 0)), (6, .int (nI (2 * 0 + 0))), (5, .int (nI 0)), (4, .int (nI (wt 0))), (3, .int (nI 0)), (1, .long (lN y0)), (0, .ref (a 0))]) hx hb d_M_layOut_45 hl (by decide) rfl (fun ls hl => ?_)
  have loop : ∀ (f : Nat) (b t r yy : Nat) (wl : Nat → Nat) (u : (Nat → Int32) × (Nat → Nat → Int32) × (Nat → Nat → Int64)) (dn : List Cp), (rmn bs (2 * b + t) r).length + (8 - (2 * b + t)) < f → b < 4 → t < 2 → r ≤ bs (2 * b + t) → wl b ≤ 200 → (∀ j, b < j → wl j = wt j) → puI ii ia la u → rwR dn u.1 u.2.1 u.2.2 → dn ++ lcp l0 g yy (rwL ft bw bh (rmn bs (2 * b + t) r) wl) = full → ∀ (H : Heap) (locs : List Loc), va_P D ncl (w_M a cA u.1 li u.2.1 u.2.2) H → va_D (va_A (w_M a cA ii li ia la) s.heap.size) (w_M a cA u.1 li u.2.1 u.2.2) → va_S (va_A (w_M a cA ii li ia la) s.heap.size) s.heap H locs → ∀ (ls : Array Slot), lv_has ls 10 [(0, .ref (a 0)), (1, .long (lN yy)), (3, .int (nI b)), (4, .int (nI (wl b))), (5, .int (nI t)), (6, .int (nI (2 * b + t))), (7, .int (nI r))] → W p l e ({ frames := 1, cells := 0, slots := 0, locals := 80 }) s m ([.ref (a 0)] : List Value).toArray below meth c H locs 0 0 (MQ below (va_Qv (fun u => puI ii ia la u ∧ rwR (lcp l0 g y0 (rwL ft bw bh (rwF bs 8 0) wt)) u.1 u.2.1 u.2.2) (wB D (va_A (w_M a cA ii li ia la) s.heap.size) (fun (u : (Nat → Int32) × (Nat → Nat → Int32) × (Nat → Nat → Int64)) => w_M a cA u.1 li u.2.1 u.2.2)) (va_A (w_M a cA ii li ia la) s.heap.size)) ([.ref (a 0)] : List Value).toArray s 0 0 (va_A (w_M a cA ii li ia la) s.heap.size)) (F0 m 47 ls []) := by
    intro f
    induction f with
    | zero => intro b t r yy wl u dn h; exact absurd h (Nat.not_lt_zero _)
    | succ f ih =>
      intro b t r yy wl u dn hf hb4 ht2 hr2 hwl hwj hpu hdn hc H locs hP hD hS ls hl
      have hc1 := hbs (2 * b + t) (by omega)
      have hf1 := hft (2 * b + t) (by omega)
      have hu23 : u.2.1 23 = ia 23 := hpu.2.1 23 (by decide)
      have hu21 : u.2.1 21 = ia 21 := hpu.2.1 21 (by decide)
      have hu7 : u.2.1 7 = ia 7 := hpu.2.1 7 (by decide)
      refine lv_iload hx hb d_M_layOut_47 (lv_at hl 6 rfl) ?_
      refine lv_aload_n hx hb d_M_layOut_49 rfl (lv_at hl 0 rfl) ?_
      refine va_get (D := D) (ci := 1) (v := .ref (a 24)) (C := R_M) (T := T_M) (N := 26) hx hb (uw_M Z.1 hg.1) (fun _ h => h) hown hK hP 0 rfl rfl 23 (by decide) (kw627 Z.1 _ _ hg.1) (fun _ h9 => h9) rfl d_M_layOut_50 ?_
      refine lv_iload hx hb d_M_layOut_53 (lv_at hl 5 rfl) ?_
      refine va_iald hx hb hK hP 16 0 rfl rfl (vp_in_nI (n := 2 * b + t) (N := 8) (by omega) (by decide)) d_M_layOut_55 ?_
      refine lv_topi (fun z12 ez12 => ?_)
      rw [nI_clamp (n := (2 * b + t)) (by omega)] at ez12
      obtain rfl : z12 = ((u.2.1 23) (2 * b + t)) := ez12
      refine lv_topi (fun z13 ez13 => ?_)
      obtain rfl : z13 = (nI (bs (2 * b + t))) := by rw [ez13]; rw [hu23]; exact hc1.1
      refine lv_icmp_ge (tgt := 170) hx hb d_M_layOut_56 (by decide) (fun c14 => ?_) (fun c14 => ?_)
      · obtain rfl : r = bs (2 * b + t) := by have := (nI_leI (by omega) (by omega)).mp c14; omega
        rcases (by omega : t = 0 ∨ t = 1) with rfl | rfl
        · rw [rmn_e bs (by omega)] at hc hf
          obtain ⟨v38, ev38⟩ : ∃ y : Int32, y = (nI 0) + 1 := ⟨_, rfl⟩
          refine lv_iinc (v := v38) (lv' := [(5, .int v38), (0, .ref (a 0)), (1, .long (lN yy)), (3, .int (nI b)), (4, .int (nI (wl b))), (6, .int (nI (2 * b + 0))), (7, .int (nI (bs (2 * b + 0))))]) hx hb d_M_layOut_170 hl (k := 4) rfl (by rw [ev38]; rfl) (by decide) rfl (fun ls hl => ?_)
          refine lv_goto (tgt := 30) hx hb d_M_layOut_173 (by decide) ?_
          obtain rfl : v38 = nI 1 := by rw [ev38]; rfl
          refine lv_iload hx hb d_M_layOut_30 (lv_at hl 0 rfl) ?_
          refine lv_iconst (v := 2) hx hb d_M_layOut_32 (by decide) ?_
          refine lv_icmp_ge (tgt := 176) hx hb d_M_layOut_33 (by decide) (fun k39 => by first | exact absurd (show ¬ (2 : Int32) ≤ nI 1 from nI_ge (b := 2) (by decide) (by decide)) k39 | exact absurd k39 (show ¬ (2 : Int32) ≤ nI 1 from nI_ge (b := 2) (by decide) (by decide))) (fun _ => ?_)
          refine lv_iconst (v := 2) hx hb d_M_layOut_36 (by decide) ?_
          refine lv_iload_n hx hb d_M_layOut_37 rfl (lv_at hl 3 rfl) ?_
          refine lv_imul hx hb d_M_layOut_38 ?_
          refine lv_topi (fun z40 ez40 => ?_)
          obtain rfl : z40 = (nI (2 * b)) := by rw [ez40]; exact pk_mul 2 b
          refine lv_iload hx hb d_M_layOut_39 (lv_at hl 0 rfl) ?_
          refine lv_iadd hx hb d_M_layOut_41 ?_
          refine lv_topi (fun z41 ez41 => ?_)
          obtain rfl : z41 = (nI (2 * b + 1)) := by rw [ez41]; exact nI_add _ 1
          refine lv_istore (lv' := [(6, .int (nI (2 * b + 1))), (5, .int (nI 1)), (0, .ref (a 0)), (1, .long (lN yy)), (3, .int (nI b)), (4, .int (nI (wl b))), (7, .int (nI (bs (2 * b + 0))))]) hx hb d_M_layOut_42 hl (by decide) rfl (fun ls hl => ?_)
          refine lv_iconst (v := 0) hx hb d_M_layOut_44 (by decide) ?_
          refine lv_topi (fun z42 ez42 => ?_)
          obtain rfl : z42 = (nI 0) := by rw [ez42]; rfl
          refine lv_istore (lv' := [(7, .int (nI 0)), (6, .int (nI (2 * b + 1))), (5, .int (nI 1)), (0, .ref (a 0)), (1, .long (lN yy)), (3, .int (nI b)), (4, .int (nI (wl b)))]) hx hb d_M_layOut_45 hl (by decide) rfl (fun ls hl => ?_)
          exact ih b 1 0 yy wl u dn (by have : 2 * b + 0 + 1 = 2 * b + 1 := rfl; rw [this] at hf; omega) hb4 (by decide) (Nat.zero_le _) hwl hwj hpu hdn hc _ _ hP hD hS ls (lv_sub hl [3, 4, 5, 6, 2, 1, 0] rfl)
        · obtain ⟨v43, ev43⟩ : ∃ y : Int32, y = (nI 1) + 1 := ⟨_, rfl⟩
          refine lv_iinc (v := v43) (lv' := [(5, .int v43), (0, .ref (a 0)), (1, .long (lN yy)), (3, .int (nI b)), (4, .int (nI (wl b))), (6, .int (nI (2 * b + 1))), (7, .int (nI (bs (2 * b + 1))))]) hx hb d_M_layOut_170 hl (k := 4) rfl (by rw [ev43]; rfl) (by decide) rfl (fun ls hl => ?_)
          refine lv_goto (tgt := 30) hx hb d_M_layOut_173 (by decide) ?_
          obtain rfl : v43 = nI 2 := by rw [ev43]; rfl
          refine lv_iload hx hb d_M_layOut_30 (lv_at hl 0 rfl) ?_
          refine lv_iconst (v := 2) hx hb d_M_layOut_32 (by decide) ?_
          refine lv_icmp_ge (tgt := 176) hx hb d_M_layOut_33 (by decide) (fun _ => ?_) (fun k44 => by first | exact absurd (show (2 : Int32) ≤ nI 2 from nI_le (a := 2) (by decide) (by decide)) k44 | exact absurd k44 (show (2 : Int32) ≤ nI 2 from nI_le (a := 2) (by decide) (by decide)))
          obtain ⟨v45, ev45⟩ : ∃ y : Int32, y = (nI b) + 1 := ⟨_, rfl⟩
          refine lv_iinc (v := v45) (lv' := [(3, .int v45), (5, .int (nI 2)), (0, .ref (a 0)), (1, .long (lN yy)), (4, .int (nI (wl b))), (6, .int (nI (2 * b + 1))), (7, .int (nI (bs (2 * b + 1))))]) hx hb d_M_layOut_176 hl (k := 3) rfl (by rw [ev45]; rfl) (by decide) rfl (fun ls hl => ?_)
          refine lv_goto (tgt := 14) hx hb d_M_layOut_179 (by decide) ?_
          obtain rfl : v45 = nI (b + 1) := by rw [ev45]; exact nI_1 b
          refine lv_iload_n hx hb d_M_layOut_14 rfl (lv_at hl 0 rfl) ?_
          refine lv_iconst (v := 4) hx hb d_M_layOut_15 (by decide) ?_
          refine lv_icmp_ge (tgt := 182) hx hb d_M_layOut_16 (by decide) (fun w46 => ?_) (fun w46 => ?_)
          · obtain rfl : b = 3 := by have := (nI_leI (a := 4) (by decide) (by omega)).mp w46; omega
            rw [show 2 * 3 + 1 = 7 from rfl, rmn_z, rwL, lcp, List.append_nil] at hc
            exact w_vret hx hb hr hlk hP hD hS u rfl ⟨hpu, by rw [rmn_0, ← hful, ← hc]; exact hdn⟩ d_M_layOut_182
          · have hb3 : b + 1 < 4 := Nat.lt_of_not_le (fun z => w46 ((nI_leI (a := 4) (by decide) (by omega)).mpr z))
            rw [rmn_e bs (by omega)] at hc hf
            refine lv_aload_n hx hb d_M_layOut_19 rfl (lv_at hl 2 rfl) ?_
            refine va_get (D := D) (ci := 1) (v := .ref (a 8)) (C := R_M) (T := T_M) (N := 26) hx hb (uw_M Z.1 hg.1) (fun _ h => h) hown hK hP 0 rfl rfl 7 (by decide) (kw611 Z.1 _ _ hg.1) (fun _ h9 => h9) rfl d_M_layOut_20 ?_
            refine lv_iload_n hx hb d_M_layOut_23 rfl (lv_at hl 0 rfl) ?_
            refine va_iald hx hb hK hP 4 0 rfl rfl (vp_in_nI (n := b + 1) (N := 4) (by omega) (by decide)) d_M_layOut_24 ?_
            refine lv_topi (fun z47 ez47 => ?_)
            rw [nI_clamp (n := (b + 1)) (by omega)] at ez47
            obtain rfl : z47 = ((u.2.1 7) (b + 1)) := ez47
            refine lv_topi (fun z48 ez48 => ?_)
            obtain rfl : z48 = (nI (wl (b + 1))) := by rw [ez48]; rw [hwj (b + 1) (by omega), hu7]; exact (hwt (b + 1) hb3).1
            refine lv_istore (lv' := [(4, .int (nI (wl (b + 1)))), (3, .int (nI (b + 1))), (5, .int (nI 2)), (0, .ref (a 0)), (1, .long (lN yy)), (6, .int (nI (2 * b + 1))), (7, .int (nI (bs (2 * b + 1))))]) hx hb d_M_layOut_25 hl (by decide) rfl (fun ls hl => ?_)
            refine lv_iconst (v := 0) hx hb d_M_layOut_27 (by decide) ?_
            refine lv_topi (fun z49 ez49 => ?_)
            obtain rfl : z49 = (nI 0) := by rw [ez49]; rfl
            refine lv_istore (lv' := [(5, .int (nI 0)), (4, .int (nI (wl (b + 1)))), (3, .int (nI (b + 1))), (0, .ref (a 0)), (1, .long (lN yy)), (6, .int (nI (2 * b + 1))), (7, .int (nI (bs (2 * b + 1))))]) hx hb d_M_layOut_28 hl (by decide) rfl (fun ls hl => ?_)
            refine lv_iload hx hb d_M_layOut_30 (lv_at hl 0 rfl) ?_
            refine lv_iconst (v := 2) hx hb d_M_layOut_32 (by decide) ?_
            refine lv_icmp_ge (tgt := 176) hx hb d_M_layOut_33 (by decide) (fun k50 => by first | exact absurd (show ¬ (2 : Int32) ≤ nI 0 from nI_ge (b := 2) (by decide) (by decide)) k50 | exact absurd k50 (show ¬ (2 : Int32) ≤ nI 0 from nI_ge (b := 2) (by decide) (by decide))) (fun _ => ?_)
            refine lv_iconst (v := 2) hx hb d_M_layOut_36 (by decide) ?_
            refine lv_iload_n hx hb d_M_layOut_37 rfl (lv_at hl 2 rfl) ?_
            refine lv_imul hx hb d_M_layOut_38 ?_
            refine lv_topi (fun z51 ez51 => ?_)
            obtain rfl : z51 = (nI (2 * (b + 1))) := by rw [ez51]; exact pk_mul 2 (b + 1)
            refine lv_iload hx hb d_M_layOut_39 (lv_at hl 0 rfl) ?_
            refine lv_iadd hx hb d_M_layOut_41 ?_
            refine lv_topi (fun z52 ez52 => ?_)
            obtain rfl : z52 = (nI (2 * (b + 1) + 0)) := by rw [ez52]; exact nI_add _ 0
            refine lv_istore (lv' := [(6, .int (nI (2 * (b + 1) + 0))), (5, .int (nI 0)), (4, .int (nI (wl (b + 1)))), (3, .int (nI (b + 1))), (0, .ref (a 0)), (1, .long (lN yy)), (7, .int (nI (bs (2 * b + 1))))]) hx hb d_M_layOut_42 hl (by decide) rfl (fun ls hl => ?_)
            refine lv_iconst (v := 0) hx hb d_M_layOut_44 (by decide) ?_
            refine lv_topi (fun z53 ez53 => ?_)
            obtain rfl : z53 = (nI 0) := by rw [ez53]; rfl
            refine lv_istore (lv' := [(7, .int (nI 0)), (6, .int (nI (2 * (b + 1) + 0))), (5, .int (nI 0)), (4, .int (nI (wl (b + 1)))), (3, .int (nI (b + 1))), (0, .ref (a 0)), (1, .long (lN yy))]) hx hb d_M_layOut_45 hl (by decide) rfl (fun ls hl => ?_)
            have e1 : 2 * b + 1 + 1 = 2 * (b + 1) + 0 := by omega
            rw [e1] at hc hf
            exact ih (b + 1) 0 0 yy wl u dn (by omega) hb3 (by decide) (Nat.zero_le _) (by rw [hwj (b + 1) (by omega)]; exact (hwt (b + 1) hb3).2) (fun j hj => hwj j (by omega)) hpu hdn hc _ _ hP hD hS ls (lv_sub hl [5, 6, 4, 3, 2, 1, 0] rfl)
      · have hlt : r < bs (2 * b + t) := Nat.lt_of_not_le (fun z => c14 ((nI_leI (by omega) (by omega)).mpr z))
        rw [rmn_s bs hlt] at hc hf
        rw [rwL, lcp, List.range_eq_range'] at hc
        rw [List.length_cons] at hf
        dsimp only at hc
        rw [show (2 * b + t) / 2 = b by omega, show (2 * b + t) % 2 = t by omega] at hc
        obtain ⟨mn, hmn⟩ : ∃ z, z = min (ft (2 * b + t)) (wl b) := ⟨_, rfl⟩
        rw [← hmn] at hc
        obtain ⟨wd, hwd⟩ : ∃ z, z = wkF bw bh (2 * b + t) := ⟨_, rfl⟩
        obtain ⟨hd, hhd⟩ : ∃ z, z = hgF bw bh (2 * b + t) := ⟨_, rfl⟩
        rw [← hwd, ← hhd] at hc
        have ihO := ih
        have hfO := hf
        have jn15 : ∀ v : Int32, v = (nI mn) → W p l e ({ frames := 1, cells := 0, slots := 0, locals := 80 }) s m ([.ref (a 0)] : List Value).toArray below meth c H locs 0 0 (MQ below (va_Qv (fun u => puI ii ia la u ∧ rwR (lcp l0 g y0 (rwL ft bw bh (rwF bs 8 0) wt)) u.1 u.2.1 u.2.2) (wB D (va_A (w_M a cA ii li ia la) s.heap.size) (fun (u : (Nat → Int32) × (Nat → Nat → Int32) × (Nat → Nat → Int64)) => w_M a cA u.1 li u.2.1 u.2.2)) (va_A (w_M a cA ii li ia la) s.heap.size)) ([.ref (a 0)] : List Value).toArray s 0 0 (va_A (w_M a cA ii li ia la) s.heap.size)) (F0 m 83 ls (.int v :: [])) := by
          intro v hv
          subst hv
          refine lv_istore (lv' := [(8, .int (nI mn)), (0, .ref (a 0)), (1, .long (lN yy)), (3, .int (nI b)), (4, .int (nI (wl b))), (5, .int (nI t)), (6, .int (nI (2 * b + t))), (7, .int (nI r))]) hx hb d_M_layOut_83 hl (by decide) rfl (fun ls hl => ?_)
          refine lv_iload hx hb d_M_layOut_85 (lv_at hl 4 rfl) ?_
          refine lv_iload hx hb d_M_layOut_87 (lv_at hl 0 rfl) ?_
          refine lv_isub hx hb d_M_layOut_89 ?_
          refine lv_topi (fun z16 ez16 => ?_)
          obtain rfl : z16 = (nI (va_up wl b (wl b - mn) b)) := by rw [ez16]; rw [up_s]; exact nI_sub (by omega)
          refine lv_istore (lv' := [(4, .int (nI (va_up wl b (wl b - mn) b))), (8, .int (nI mn)), (0, .ref (a 0)), (1, .long (lN yy)), (3, .int (nI b)), (5, .int (nI t)), (6, .int (nI (2 * b + t))), (7, .int (nI r))]) hx hb d_M_layOut_90 hl (by decide) rfl (fun ls hl => ?_)
          refine lv_iconst (v := 0) hx hb d_M_layOut_92 (by decide) ?_
          refine lv_topi (fun z17 ez17 => ?_)
          obtain rfl : z17 = (nI 0) := by rw [ez17]; rfl
          refine lv_istore (lv' := [(9, .int (nI 0)), (4, .int (nI (va_up wl b (wl b - mn) b))), (8, .int (nI mn)), (0, .ref (a 0)), (1, .long (lN yy)), (3, .int (nI b)), (5, .int (nI t)), (6, .int (nI (2 * b + t))), (7, .int (nI r))]) hx hb d_M_layOut_93 hl (by decide) rfl (fun ls hl => ?_)
          have inner : ∀ (f : Nat) (i : Nat) (v : (Nat → Int32) × (Nat → Nat → Int32) × (Nat → Nat → Int64)) (dm : List Cp), mn - i < f → i ≤ mn → puI ii ia la v → rwR dm v.1 v.2.1 v.2.2 → dm ++ ((List.range' i (mn - i)).map (fun i => (b, l0 + i * (wd + g), yy, t, wd, hd)) ++ lcp l0 g (yy + (hd + g)) (rwL ft bw bh (rmn bs (2 * b + t) (r + 1)) (va_up wl b (wl b - mn)))) = full → ∀ (H : Heap) (locs : List Loc), va_P D ncl (w_M a cA v.1 li v.2.1 v.2.2) H → va_D (va_A (w_M a cA ii li ia la) s.heap.size) (w_M a cA v.1 li v.2.1 v.2.2) → va_S (va_A (w_M a cA ii li ia la) s.heap.size) s.heap H locs → ∀ (ls : Array Slot), lv_has ls 10 [(0, .ref (a 0)), (1, .long (lN yy)), (3, .int (nI b)), (4, .int (nI (va_up wl b (wl b - mn) b))), (5, .int (nI t)), (6, .int (nI (2 * b + t))), (7, .int (nI r)), (8, .int (nI mn)), (9, .int (nI i))] → W p l e ({ frames := 1, cells := 0, slots := 0, locals := 80 }) s m ([.ref (a 0)] : List Value).toArray below meth c H locs 0 0 (MQ below (va_Qv (fun u => puI ii ia la u ∧ rwR (lcp l0 g y0 (rwL ft bw bh (rwF bs 8 0) wt)) u.1 u.2.1 u.2.2) (wB D (va_A (w_M a cA ii li ia la) s.heap.size) (fun (u : (Nat → Int32) × (Nat → Nat → Int32) × (Nat → Nat → Int64)) => w_M a cA u.1 li u.2.1 u.2.2)) (va_A (w_M a cA ii li ia la) s.heap.size)) ([.ref (a 0)] : List Value).toArray s 0 0 (va_A (w_M a cA ii li ia la) s.heap.size)) (F0 m 95 ls []) := by
            intro f
            induction f with
            | zero => intro i v dm h; exact absurd h (Nat.not_lt_zero _)
            | succ f ih =>
              intro i v dm hf hi ipu idn ic H locs hP hD hS ls hl
              have v10 : v.2.2 10 = la 10 := ipu.2.2 10 (by decide)
              have v19 : v.2.2 19 = la 19 := ipu.2.2 19 (by decide)
              have v20 : v.2.2 20 = la 20 := ipu.2.2 20 (by decide)
              have hwd1 : ∀ r1, (r1 = if (2 * b + t) % 2 = 0 then v.2.2 19 ((2 * b + t) / 2) else v.2.2 20 ((2 * b + t) / 2)) → r1 = lN wd := fun r1 h => by rw [h, v19, v20, hwd, wkF]; split; exact (hbw _ (by omega)).1; exact (hbh _ (by omega)).1
              have hhd1 : ∀ r1, (r1 = if (2 * b + t) % 2 = 0 then v.2.2 20 ((2 * b + t) / 2) else v.2.2 19 ((2 * b + t) / 2)) → r1 = lN hd := fun r1 h => by rw [h, v19, v20, hhd, hgF]; split; exact (hbh _ (by omega)).1; exact (hbw _ (by omega)).1
              refine lv_iload hx hb d_M_layOut_95 (lv_at hl 8 rfl) ?_
              refine lv_iload hx hb d_M_layOut_97 (lv_at hl 7 rfl) ?_
              refine lv_icmp_ge (tgt := 150) hx hb d_M_layOut_99 (by decide) (fun e18 => ?_) (fun e18 => ?_)
              · obtain rfl : i = mn := by have := (nI_leI (by omega) (by omega)).mp e18; omega
                rw [Nat.sub_self, List.range'_zero, List.map_nil, List.nil_append] at ic
                refine lv_lload_n hx hb d_M_layOut_150 rfl (lv_at hl 1 rfl) ?_
                refine lv_aload_n hx hb d_M_layOut_151 rfl (lv_at hl 0 rfl) ?_
                refine lv_iload hx hb d_M_layOut_152 (lv_at hl 5 rfl) ?_
                refine w_calll (wr := ([] : va_W)) (w_runV (rest := [.long (lN yy)]) hx hb hml hown hl.1 hg hlo hK hP hD hS (m_M_highOf Z a v.1 li v.2.1 v.2.2 (2 * b + t) (by omega) H.size) (kw764 Z.1) (kw766 Z.1) (kp_M_highOf Z.1) (kw767 Z.1) (kw6 Z.1) ⟨by decide, by decide, (by decide +kernel : (parseMethodDescriptor y_M_highOf.desc).map (fun d => d.parameters.length) = some 1)⟩ ⟨Nat.le_of_ble_eq_true rfl, Nat.le_of_ble_eq_true rfl⟩ [0, 1, 2, 3, 4, 5, 6, 7, 8, 9, 10, 11, 12, 13, 14, 15, 16] rfl rfl (ci := 1) (q0 := 0) rfl rfl rfl (Nat.le_of_ble_eq_true rfl) d_M_layOut_154 ⟨Nat.le_of_ble_eq_true rfl, Nat.le_of_ble_eq_true rfl⟩) hP hD hS hA [0, 1, 2, 3, 4, 5, 6, 7, 8, 9, 10, 11, 12, 13, 14, 15, 16] [] rfl rfl rfl (by decide) (fun _ => w_M a cA v.1 li v.2.1 v.2.2) [0, 1, 2, 3, 4, 5, 6, 7, 8, 9, 10, 11, 12, 13, 14, 15, 16] rfl (fun _ => rfl) (fun r1 u H locs hr1 hP hD hS => ?_)
                refine W.widen (k := 0) (n := 0) (Nat.le_of_ble_eq_true rfl) (Nat.le_of_ble_eq_true rfl) ?_
                obtain rfl := hhd1 _ hr1
                refine lv_aload_n hx hb d_M_layOut_157 rfl (lv_at hl 0 rfl) ?_
                refine va_get (D := D) (ci := 1) (v := .long (li 11)) (C := R_M) (T := T_M) (N := 26) hx hb (uw_M Z.1 hg.1) (fun _ h => h) hown hK hP 0 rfl rfl 11 (by decide) (kw615 Z.1 _ _ hg.1) (fun _ h9 => h9) rfl d_M_layOut_158 ?_
                refine lv_topl (fun z29 ez29 => ?_)
                obtain rfl : z29 = (lN g) := by rw [ez29]; exact hg2
                refine lv_ladd hx hb d_M_layOut_161 ?_
                refine lv_topl (fun z30 ez30 => ?_)
                obtain rfl : z30 = (lN (hd + g)) := by rw [ez30]; exact lN_add _ _
                refine lv_ladd hx hb d_M_layOut_162 ?_
                refine lv_topl (fun z31 ez31 => ?_)
                obtain rfl : z31 = (lN (yy + (hd + g))) := by rw [ez31]; exact lN_add _ _
                refine lv_lstore_n (lv' := [(1, .long (lN (yy + (hd + g)))), (0, .ref (a 0)), (3, .int (nI b)), (4, .int (nI (va_up wl b (wl b - i) b))), (5, .int (nI t)), (6, .int (nI (2 * b + t))), (7, .int (nI r)), (8, .int (nI i)), (9, .int (nI i))]) hx hb d_M_layOut_163 rfl hl (by decide) rfl (fun ls hl => ?_)
                obtain ⟨v32, ev32⟩ : ∃ y : Int32, y = (nI r) + 1 := ⟨_, rfl⟩
                refine lv_iinc (v := v32) (lv' := [(7, .int v32), (1, .long (lN (yy + (hd + g)))), (0, .ref (a 0)), (3, .int (nI b)), (4, .int (nI (va_up wl b (wl b - i) b))), (5, .int (nI t)), (6, .int (nI (2 * b + t))), (8, .int (nI i)), (9, .int (nI i))]) hx hb d_M_layOut_164 hl (k := 6) rfl (by rw [ev32]; rfl) (by decide) rfl (fun ls hl => ?_)
                refine lv_goto (tgt := 47) hx hb d_M_layOut_167 (by decide) ?_
                obtain rfl : v32 = nI (r + 1) := by rw [ev32]; exact nI_1 r
                exact ihO b t (r + 1) (yy + (hd + g)) (va_up wl b (wl b - i)) v dm (by omega) hb4 ht2 hlt (by rw [up_s]; omega) (fun j hj => by rw [up_n _ _ (by omega)]; exact hwj j hj) ipu idn ic _ _ hP hD hS ls (lv_sub hl [2, 1, 3, 4, 5, 6, 0] rfl)
              · have hlt2 : i < mn := Nat.lt_of_not_le (fun z => e18 ((nI_leI (by omega) (by omega)).mpr z))
                rw [show mn - i = (mn - (i + 1)) + 1 by omega, List.range'_succ, List.map_cons, List.cons_append] at ic
                have hdl : dm.length < 200 := by have := congrArg List.length ic; simp only [List.length_append, List.length_cons] at this; omega
                refine lv_aload_n hx hb d_M_layOut_102 rfl (lv_at hl 0 rfl) ?_
                refine lv_iload_n hx hb d_M_layOut_103 rfl (lv_at hl 2 rfl) ?_
                refine lv_aload_n hx hb d_M_layOut_104 rfl (lv_at hl 0 rfl) ?_
                refine va_get (D := D) (ci := 1) (v := .ref (a 11)) (C := R_M) (T := T_M) (N := 26) hx hb (uw_M Z.1 hg.1) (fun _ h => h) hown hK hP 0 rfl rfl 10 (by decide) (kw614 Z.1 _ _ hg.1) (fun _ h9 => h9) rfl d_M_layOut_105 ?_
                refine lv_iconst (v := 0) hx hb d_M_layOut_108 (by decide) ?_
                refine lv_topi (fun z19 ez19 => ?_)
                obtain rfl : z19 = (nI 0) := by rw [ez19]; rfl
                refine va_lald hx hb hK hP 7 1 rfl rfl (vp_in_nI (n := 0) (N := 4) (by omega) (by decide)) d_M_layOut_109 ?_
                refine lv_topl (fun z20 ez20 => ?_)
                rw [nI_clamp (n := 0) (by omega)] at ez20
                obtain rfl : z20 = ((v.2.2 10) 0) := ez20
                refine lv_topl (fun z21 ez21 => ?_)
                obtain rfl : z21 = (lN l0) := by rw [ez21]; rw [v10]; exact hl0
                refine lv_iload hx hb d_M_layOut_110 (lv_at hl 8 rfl) ?_
                refine lv_i2l hx hb d_M_layOut_112 rfl ?_
                refine lv_topl (fun z22 ez22 => ?_)
                obtain rfl : z22 = (lN i) := by rw [ez22]; exact nI_l (by omega)
                refine lv_aload_n hx hb d_M_layOut_113 rfl (lv_at hl 0 rfl) ?_
                refine lv_iload hx hb d_M_layOut_114 (lv_at hl 5 rfl) ?_
                refine w_calll (wr := ([] : va_W)) (w_runV (rest := [.long (lN i), .long (lN l0), .int (nI b), .ref (a 0)]) hx hb hml hown hl.1 hg hlo hK hP hD hS (m_M_wideOf Z a v.1 li v.2.1 v.2.2 (2 * b + t) (by omega) H.size) (kw735 Z.1) (kw737 Z.1) (kp_M_wideOf Z.1) (kw738 Z.1) (kw6 Z.1) ⟨by decide, by decide, (by decide +kernel : (parseMethodDescriptor y_M_wideOf.desc).map (fun d => d.parameters.length) = some 1)⟩ ⟨Nat.le_of_ble_eq_true rfl, Nat.le_of_ble_eq_true rfl⟩ [0, 1, 2, 3, 4, 5, 6, 7, 8, 9, 10, 11, 12, 13, 14, 15, 16] rfl rfl (ci := 1) (q0 := 0) rfl rfl rfl (Nat.le_of_ble_eq_true rfl) d_M_layOut_116 ⟨Nat.le_of_ble_eq_true rfl, Nat.le_of_ble_eq_true rfl⟩) hP hD hS hA [0, 1, 2, 3, 4, 5, 6, 7, 8, 9, 10, 11, 12, 13, 14, 15, 16] [] rfl rfl rfl (by decide) (fun _ => w_M a cA v.1 li v.2.1 v.2.2) [0, 1, 2, 3, 4, 5, 6, 7, 8, 9, 10, 11, 12, 13, 14, 15, 16] rfl (fun _ => rfl) (fun r1 u H locs hr1 hP hD hS => ?_)
                refine W.widen (k := 0) (n := 0) (Nat.le_of_ble_eq_true rfl) (Nat.le_of_ble_eq_true rfl) ?_
                obtain rfl := hwd1 _ hr1
                refine lv_aload_n hx hb d_M_layOut_119 rfl (lv_at hl 0 rfl) ?_
                refine va_get (D := D) (ci := 1) (v := .long (li 11)) (C := R_M) (T := T_M) (N := 26) hx hb (uw_M Z.1 hg.1) (fun _ h => h) hown hK hP 0 rfl rfl 11 (by decide) (kw615 Z.1 _ _ hg.1) (fun _ h9 => h9) rfl d_M_layOut_120 ?_
                refine lv_topl (fun z23 ez23 => ?_)
                obtain rfl : z23 = (lN g) := by rw [ez23]; exact hg2
                refine lv_ladd hx hb d_M_layOut_123 ?_
                refine lv_topl (fun z24 ez24 => ?_)
                obtain rfl : z24 = (lN (wd + g)) := by rw [ez24]; exact lN_add _ _
                refine lv_lmul hx hb d_M_layOut_124 ?_
                refine lv_topl (fun z25 ez25 => ?_)
                obtain rfl : z25 = (lN (i * (wd + g))) := by rw [ez25]; exact lN_mul _ _
                refine lv_ladd hx hb d_M_layOut_125 ?_
                refine lv_topl (fun z26 ez26 => ?_)
                obtain rfl : z26 = (lN (l0 + i * (wd + g))) := by rw [ez26]; exact lN_add _ _
                refine lv_lload_n hx hb d_M_layOut_126 rfl (lv_at hl 1 rfl) ?_
                refine lv_iload hx hb d_M_layOut_127 (lv_at hl 4 rfl) ?_
                refine lv_aload_n hx hb d_M_layOut_129 rfl (lv_at hl 0 rfl) ?_
                refine lv_iload hx hb d_M_layOut_130 (lv_at hl 5 rfl) ?_
                refine w_calll (wr := ([] : va_W)) (w_runV (rest := [.int (nI t), .long (lN yy), .long (lN (l0 + i * (wd + g))), .int (nI b), .ref (a 0)]) hx hb hml hown hl.1 hg hlo hK hP hD hS (m_M_wideOf Z a v.1 li v.2.1 v.2.2 (2 * b + t) (by omega) H.size) (kw735 Z.1) (kw737 Z.1) (kp_M_wideOf Z.1) (kw738 Z.1) (kw6 Z.1) ⟨by decide, by decide, (by decide +kernel : (parseMethodDescriptor y_M_wideOf.desc).map (fun d => d.parameters.length) = some 1)⟩ ⟨Nat.le_of_ble_eq_true rfl, Nat.le_of_ble_eq_true rfl⟩ [0, 1, 2, 3, 4, 5, 6, 7, 8, 9, 10, 11, 12, 13, 14, 15, 16] rfl rfl (ci := 1) (q0 := 0) rfl rfl rfl (Nat.le_of_ble_eq_true rfl) d_M_layOut_132 ⟨Nat.le_of_ble_eq_true rfl, Nat.le_of_ble_eq_true rfl⟩) hP hD hS hA [0, 1, 2, 3, 4, 5, 6, 7, 8, 9, 10, 11, 12, 13, 14, 15, 16] [] rfl rfl rfl (by decide) (fun _ => w_M a cA v.1 li v.2.1 v.2.2) [0, 1, 2, 3, 4, 5, 6, 7, 8, 9, 10, 11, 12, 13, 14, 15, 16] rfl (fun _ => rfl) (fun r2 u H locs hr2 hP hD hS => ?_)
                refine W.widen (k := 0) (n := 0) (Nat.le_of_ble_eq_true rfl) (Nat.le_of_ble_eq_true rfl) ?_
                obtain rfl := hwd1 _ hr2
                refine lv_aload_n hx hb d_M_layOut_135 rfl (lv_at hl 0 rfl) ?_
                refine lv_iload hx hb d_M_layOut_136 (lv_at hl 5 rfl) ?_
                refine w_calll (wr := ([] : va_W)) (w_run9 (rest := [.long (lN wd), .int (nI t), .long (lN yy), .long (lN (l0 + i * (wd + g))), .int (nI b), .ref (a 0)]) hx hb hml hown hl.1 hg hlo hK hP hD hS (m_M_highOf Z a v.1 li v.2.1 v.2.2 (2 * b + t) (by omega) H.size) (kw764 Z.1) (kw766 Z.1) (kp_M_highOf Z.1) (kw767 Z.1) (kw6 Z.1) ⟨by decide, by decide, (by decide +kernel : (parseMethodDescriptor y_M_highOf.desc).map (fun d => d.parameters.length) = some 1)⟩ ⟨Nat.le_of_ble_eq_true rfl, Nat.le_of_ble_eq_true rfl⟩ [0, 1, 2, 3, 4, 5, 6, 7, 8, 9, 10, 11, 12, 13, 14, 15, 16] rfl rfl (ci := 1) (q0 := 0) rfl rfl rfl (Nat.le_of_ble_eq_true rfl) d_M_layOut_138 ⟨Nat.le_of_ble_eq_true rfl, Nat.le_of_ble_eq_true rfl⟩) hP hD hS hA [0, 1, 2, 3, 4, 5, 6, 7, 8, 9, 10, 11, 12, 13, 14, 15, 16] [] rfl rfl rfl (by decide) (fun _ => w_M a cA v.1 li v.2.1 v.2.2) [0, 1, 2, 3, 4, 5, 6, 7, 8, 9, 10, 11, 12, 13, 14, 15, 16] rfl (fun _ => rfl) (fun r3 u H locs hr3 hP hD hS => ?_)
                refine W.widen (k := 0) (n := 0) (Nat.le_of_ble_eq_true rfl) (Nat.le_of_ble_eq_true rfl) ?_
                obtain rfl := hhd1 _ hr3
                refine w_callv (wr := ([] : va_W)) (w_runV (rest := []) hx hb hml hown hl.1 hg hlo hK hP hD hS (m_M_put Z a v.1 li v.2.1 v.2.2 b (l0 + i * (wd + g)) yy t wd hd dm hb4 ht2 hdl idn H.size) (kw776 Z.1) (kw778 Z.1) (kp_M_put Z.1) (kw779 Z.1) (kw6 Z.1) ⟨by decide, by decide, (by decide +kernel : (parseMethodDescriptor y_M_put.desc).map (fun d => d.parameters.length) = some 6)⟩ ⟨Nat.le_of_ble_eq_true rfl, Nat.le_of_ble_eq_true rfl⟩ [0, 1, 2, 3, 4, 5, 6, 7, 8, 9, 10, 11, 12, 13, 14, 15, 16] rfl rfl (ci := 1) (q0 := 0) rfl rfl rfl (Nat.le_of_ble_eq_true rfl) d_M_layOut_141 ⟨Nat.le_of_ble_eq_true rfl, Nat.le_of_ble_eq_true rfl⟩) hP hD hS hA [0, 1, 2, 3, 4, 5, 6, 7, 8, 9, 10, 11, 12, 13, 14, 15, 16] [] rfl rfl rfl (by decide) (fun (u : (Nat → Int32) × (Nat → Nat → Int32) × (Nat → Nat → Int64)) => w_M a cA u.1 li u.2.1 u.2.2) [0, 1, 2, 3, 4, 5, 6, 7, 8, 9, 10, 11, 12, 13, 14, 15, 16] rfl (fun _ => rfl) (fun u4 H locs hq hP hD hS => ?_)
                refine W.widen (k := 0) (n := 0) (Nat.le_of_ble_eq_true rfl) (Nat.le_of_ble_eq_true rfl) ?_
                obtain ⟨v28, ev28⟩ : ∃ y : Int32, y = (nI i) + 1 := ⟨_, rfl⟩
                refine lv_iinc (v := v28) (lv' := [(9, .int v28), (0, .ref (a 0)), (1, .long (lN yy)), (3, .int (nI b)), (4, .int (nI (va_up wl b (wl b - mn) b))), (5, .int (nI t)), (6, .int (nI (2 * b + t))), (7, .int (nI r)), (8, .int (nI mn))]) hx hb d_M_layOut_144 hl (k := 8) rfl (by rw [ev28]; rfl) (by decide) rfl (fun ls hl => ?_)
                refine lv_goto (tgt := 95) hx hb d_M_layOut_147 (by decide) ?_
                obtain rfl : v28 = nI (i + 1) := by rw [ev28]; exact nI_1 i
                exact ih (i + 1) u4 (dm ++ [(b, l0 + i * (wd + g), yy, t, wd, hd)]) (by omega) hlt2 ⟨fun z hz => by rw [hq.1.1 z hz]; exact ipu.1 z hz, fun z hz => by rw [hq.1.2.1 z hz]; exact ipu.2.1 z hz, fun z hz => by rw [hq.1.2.2 z hz]; exact ipu.2.2 z hz⟩ hq.2 (by rw [List.append_assoc, List.singleton_append]; exact ic) _ _ hP hD hS ls (lv_sub hl [1, 2, 3, 4, 5, 6, 7, 8, 0] rfl)
          exact inner (mn + 1) 0 u dn (by omega) (Nat.zero_le _) hpu hdn hc _ _ hP hD hS ls (lv_sub hl [3, 4, 5, 1, 6, 7, 8, 2, 0] rfl)
        refine lv_aload_n hx hb d_M_layOut_59 rfl (lv_at hl 0 rfl) ?_
        refine va_get (D := D) (ci := 1) (v := .ref (a 22)) (C := R_M) (T := T_M) (N := 26) hx hb (uw_M Z.1 hg.1) (fun _ h => h) hown hK hP 0 rfl rfl 21 (by decide) (kw625 Z.1 _ _ hg.1) (fun _ h9 => h9) rfl d_M_layOut_60 ?_
        refine lv_iload hx hb d_M_layOut_63 (lv_at hl 5 rfl) ?_
        refine va_iald hx hb hK hP 14 0 rfl rfl (vp_in_nI (n := 2 * b + t) (N := 8) (by omega) (by decide)) d_M_layOut_65 ?_
        refine lv_topi (fun z33 ez33 => ?_)
        rw [nI_clamp (n := (2 * b + t)) (by omega)] at ez33
        obtain rfl : z33 = ((u.2.1 21) (2 * b + t)) := ez33
        refine lv_topi (fun z34 ez34 => ?_)
        obtain rfl : z34 = (nI (ft (2 * b + t))) := by rw [ez34]; rw [hu21]; exact hf1.1
        refine lv_iload hx hb d_M_layOut_66 (lv_at hl 3 rfl) ?_
        refine lv_icmp_ge (tgt := 81) hx hb d_M_layOut_68 (by decide) (fun e35 => ?_) (fun e35 => ?_)
        · refine lv_iload hx hb d_M_layOut_81 (lv_at hl 3 rfl) ?_
          exact jn15 _ (by rw [hmn, Nat.min_eq_right ((nI_leI (by omega) (by omega)).mp e35)])
        · refine lv_aload_n hx hb d_M_layOut_71 rfl (lv_at hl 0 rfl) ?_
          refine va_get (D := D) (ci := 1) (v := .ref (a 22)) (C := R_M) (T := T_M) (N := 26) hx hb (uw_M Z.1 hg.1) (fun _ h => h) hown hK hP 0 rfl rfl 21 (by decide) (kw625 Z.1 _ _ hg.1) (fun _ h9 => h9) rfl d_M_layOut_72 ?_
          refine lv_iload hx hb d_M_layOut_75 (lv_at hl 5 rfl) ?_
          refine va_iald hx hb hK hP 14 0 rfl rfl (vp_in_nI (n := 2 * b + t) (N := 8) (by omega) (by decide)) d_M_layOut_77 ?_
          refine lv_topi (fun z36 ez36 => ?_)
          rw [nI_clamp (n := (2 * b + t)) (by omega)] at ez36
          obtain rfl : z36 = ((u.2.1 21) (2 * b + t)) := ez36
          refine lv_topi (fun z37 ez37 => ?_)
          obtain rfl : z37 = (nI (ft (2 * b + t))) := by rw [ez37]; rw [hu21]; exact hf1.1
          refine lv_goto (tgt := 83) hx hb d_M_layOut_78 (by decide) ?_
          exact jn15 _ (by rw [hmn, Nat.min_eq_left (Nat.le_of_lt (Nat.lt_of_not_le (fun z => e35 ((nI_leI (by omega) (by omega)).mpr z))))])
  exact loop ((rmn bs 0 0).length + 9) 0 0 0 y0 wt ((va_up ii 13 0), ia, la) [] (by show (rmn bs 0 0).length + 8 < _; omega) (by decide) (by decide) (Nat.zero_le _) (hwt 0 (by decide)).2 (fun _ _ => rfl) ⟨fun z hz => up_n _ _ hz, fun _ _ => rfl, fun _ _ => rfl⟩ ⟨by dsimp only; rw [up_s]; rfl, fun c hc => absurd hc (Nat.not_lt_zero _), fun c hc => absurd hc (Nat.not_lt_zero _)⟩ hful.symm _ _ hP hD hS ls (lv_sub hl [6, 5, 4, 3, 2, 1, 0] rfl)
