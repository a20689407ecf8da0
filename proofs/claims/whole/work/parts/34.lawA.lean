/-! the law's own small methods: each catches what it may meet -/
theorem tb_SW {own : String} {idx : Nat} {y : MethodName} {cc : ByteArray} {n : Nat} {r : Option FieldType} {hh : List (Nat × Nat × Nat × Nat)} (h1 : Cond.methodLink own idx y ∈ TB) (h2 : Cond.static y ∈ TB) (h3 : Cond.initialized y.cls ∈ TB) (h5 : Cond.codeWith y cc n r hh ∈ TB) : GoodIn TB (va_wsS own idx y (Cond.codeWith y cc n r hh :: TB)) := tb_good (fun w hw => by
  simp only [va_wsS, List.cons_append, List.nil_append, List.mem_cons] at hw
  rcases hw with rfl | rfl | rfl | rfl | hw <;> assumption)
theorem ct_ofWH {l : Launch} {y : MethodName} {wd wd' : List Cond} {rm : Room} {D : va_G} {cl : List vw_C} {cJ cB : ClassId} {av : List Value} {ws : va_W} {sz : Nat} {Qc : Array Value → State → Outcome → State → Prop} {mc ms : Nat} {cc : ByteArray} {maxL : Nat} {ret : Option FieldType} {hh : List (Nat × Nat × Nat × Nat)}
    (hy : plainName y.cls = true) (hw : wd = Cond.codeWith y cc maxL ret hh :: wd') (hn : (lg_sl av).length ≤ maxL)
    (body : ∀ (p : Program) (e : Env) (s : State) (m : MethodId) (below : List Frame) (meth : Method) (c : Code), p.tables.exec = Jvm.exec → c.code = cc → meth.sig.returnType = ret → c.maxLocals = maxL → (∀ w ∈ wd, w.before av.toArray s = true) → s.vm.findClass y.cls = some m.cls → meth.locks = false → meth.name = y.name → s.heap.size = sz →
      va_K D cl (ct_ty cJ cB) s → va_P D cl ws s.heap → va_D (va_A ws sz) ws → (∀ q, s.heap.size ≤ q → va_A ws sz q) → va_S (va_A ws sz) s.heap s.heap [] → ct_Z (va_A ws sz) s s.heap → c.exceptionTable.toList = tableOf hh → ∀ ls : Array Slot, lv_has ls maxL (lv_args 0 av) →
      W p l e rm s m av.toArray below meth c s.heap [] 0 0 (MQ below Qc av.toArray s mc ms (va_A ws sz)) (F0 m 0 ls [])) :
    Met l y wd rm (va_Pc av (ct_pre D cl cJ cB ws sz)) Qc mc ms (va_A ws sz) := by
  refine va_MetW (cc := cc) (maxL := maxL) (ret := ret) (hh := hh) hy hw ?_
  intro p e s m args below meth c s₁ B hml hv
  obtain ⟨rfl, hsz, hP, hK, hD0, hZ⟩ := hv
  have hts := atoms_spec (ws := wd) B.pre
  have hex := vx_table (x := y) B (hts _ (by rw [hw]; exact List.mem_cons_self))
  have hown := findClass_of_methodNamed B.named
  have hin : meth.name = y.name := (name_of_methodNamed B.named B.method).1
  have hl := lv_entry av (n := maxL) hn
  rw [lg_entry_eq]
  exact body p e s m below meth c B.exec B.bytes B.returns hml hts hown B.notSynchronized hin hsz hK hP (hD0.self (sz := sz)) (fun q h => Or.inr (by rw [← hsz]; exact h)) va_S.rf hZ hex _ hl

set_option maxHeartbeats 4000000 in
set_option maxRecDepth 100000 in
theorem cc_L_add (l : Launch) (hlt : l.stackTraces = false) (D : va_G) (cJ cB : ClassId) (q qp qs qb qc tk : Nat) (qt qv : Nat) (n : Nat) (f g : Nat → Int64) (t v : Int64) (qo : Nat) (fo : Nat → Int64) (sz : Nat) (h1 : n ≤ 3000) : ct_i l my_L_add (Cond.codeWith my_L_add mb_L_add 7 (some .int) [(0, 11, 14, 13), (0, 11, 18, 15)] :: TB) ({ frames := 7, cells := 1, slots := 6, locals := 114 } : Room) D classes cJ cB [.ref q, .long t, .long v, .ref qo] [(q, .inr (5, [.ref qp, .ref qs, .ref qb, .ref qc, .int (nI tk)])), (qp, .inr (2, [.ref qt, .ref qv, .int (nI n)])), (qt, .inl (cJ, 3000, .inr (.inl f))), (qv, .inl (cJ, 3000, .inr (.inl g))), (qo, .inl (cJ, 1, .inr (.inl fo)))] sz (fun (r : Int32) (u : Nat × (Nat → Int64) × (Nat → Int64) × (Nat → Int64)) => (r = nI 0 ∧ cp_okt n f t ∧ n < 3000 ∧ u = (n + 1, vp_updL f n t, vp_updL g n v, vp_updL fo 0 (lN (n + 1)))) ∨ (r = nI 1 ∧ ¬ cp_okt n f t ∧ u = (n, f, g, fo)) ∨ (r = nI 2 ∧ cp_okt n f t ∧ n = 3000 ∧ u = (n, f, g, fo))) (fun u => [(q, .inr (5, [.ref qp, .ref qs, .ref qb, .ref qc, .int (nI tk)])), (qp, .inr (2, [.ref qt, .ref qv, .int (nI u.1)])), (qt, .inl (cJ, 3000, .inr (.inl u.2.1))), (qv, .inl (cJ, 3000, .inr (.inl u.2.2.1))), (qo, .inl (cJ, 1, .inr (.inl u.2.2.2)))]) 1 6 := by
  refine ct_ofWH (cc := mb_L_add) (maxL := 7) (ret := some .int) (hh := [(0, 11, 14, 13), (0, 11, 18, 15)]) (by decide) rfl (Nat.le_of_ble_eq_true rfl) ?_
  intro p e s m below meth c hx hb hr hml hts hown hlocks hin hsz hK hP hD hA hS hZ hex ls hl
  have hw : ∀ w ∈ TB, w.before _ s = true := fun w h => hts w (List.mem_cons_of_mem _ h)
  have hown : s.vm.findClass cn_L = some m.cls := hown
  generalize hAe : va_A [(q, .inr (5, [.ref qp, .ref qs, .ref qb, .ref qc, .int (nI tk)])), (qp, .inr (2, [.ref qt, .ref qv, .int (nI n)])), (qt, .inl (cJ, 3000, .inr (.inl f))), (qv, .inl (cJ, 3000, .inr (.inl g))), (qo, .inl (cJ, 1, .inr (.inl fo)))] sz = A at hD hA hS hZ ⊢
  clear hAe
  have hl : lv_has ls 7 [(0, .ref q), (1, .long t), (3, .long v), (5, .ref qo)] := hl
  have hP : va_P D classes [(q, .inr (5, [.ref qp, .ref qs, .ref qb, .ref qc, .int (nI tk)])), (qp, .inr (2, [.ref qt, .ref qv, .int (nI n)])), (qt, .inl (cJ, 3000, .inr (.inl f))), (qv, .inl (cJ, 3000, .inr (.inl g))), (qo, .inl (cJ, 1, .inr (.inl fo)))] s.heap := hP
  refine lv_aload hx hb dd_L_add_0 (lv_at hl 3 rfl) ?_
  refine lv_iconst (v := nI 0) hx hb dd_L_add_2 (by decide) ?_
  refine lv_aload_n hx hb dd_L_add_3 rfl (lv_at hl 0 rfl) ?_
  refine lv_lload_n hx hb dd_L_add_4 rfl (lv_at hl 1 rfl) ?_
  refine lv_lload_n hx hb dd_L_add_5 rfl (lv_at hl 2 rfl) ?_
  refine cx_behind_i (wc := [(q, .inr (5, [.ref qp, .ref qs, .ref qb, .ref qc, .int (nI tk)])), (qp, .inr (2, [.ref qt, .ref qv, .int (nI n)])), (qt, .inl (cJ, 3000, .inr (.inl f))), (qv, .inl (cJ, 3000, .inr (.inl g)))]) (wr := [(qo, .inl (cJ, 1, .inr (.inl fo)))]) (av := [.ref q, .long t, .long v]) (vx_runV (As := [.long t, .long v]) (rest := [.int (nI 0), .ref qo]) ⟨hx, hb, hml, hown, hw⟩ (cc_X_add l hlt D cJ cB q qp qs qb qc tk qt qv n f g t v _ h1) (cwV 2 hw (tb_V wi_101 wi_102 wi_103 wi_22 wi_104) rfl rfl rfl (by decide +kernel) ⟨Nat.le_of_ble_eq_true rfl, Nat.le_of_ble_eq_true rfl⟩) ⟨ct_blind, ct_recv hK hP (q0 := 0) (ci := 5) rfl rfl, ct_pc hZ hK hP hD hS hA [0, 1, 2, 3] rfl (by decide)⟩ rfl rfl hl.1 rfl (lv_room (Nat.le_of_ble_eq_true rfl)) dd_L_add_6 ⟨Nat.le_of_ble_eq_true rfl, Nat.le_of_ble_eq_true rfl⟩) hK hP hD hS hA [0, 1, 2, 3] [4] rfl rfl (by decide) (by decide) (fun E ce q9 H locs hpx hP hD hS hce hcv hcl => ?_) (fun r_6 u_6 H locs hw_6 hP hD hS => ?_)
  · skip
    rcases hpx with ⟨rfl, hno⟩ | ⟨rfl, hok, hn3⟩
    · skip
      refine vx_catch (own := cn_L) (name := ex_A) hown [] ⟨0, 11, 14, 13⟩ [⟨0, 11, 18, 15⟩] (hex.trans rfl) (fun z hz => nomatch hz) (by decide) (by decide) (hw _ wi_99) (va_Nw.use rfl (hZ.2.2.1 (.castable ex_A ex_A) (by decide +kernel))) hce hcv hcl ?_
      have hP : va_P D classes [(qo, .inl (cJ, 1, .inr (.inl fo))), (q, .inr (5, [.ref qp, .ref qs, .ref qb, .ref qc, .int (nI tk)])), (qp, .inr (2, [.ref qt, .ref qv, .int (nI n)])), (qt, .inl (cJ, 3000, .inr (.inl f))), (qv, .inl (cJ, 3000, .inr (.inl g)))] _ := hP
      have hD : va_D A [(qo, .inl (cJ, 1, .inr (.inl fo))), (q, .inr (5, [.ref qp, .ref qs, .ref qb, .ref qc, .int (nI tk)])), (qp, .inr (2, [.ref qt, .ref qv, .int (nI n)])), (qt, .inl (cJ, 3000, .inr (.inl f))), (qv, .inl (cJ, 3000, .inr (.inl g)))] := hD
      refine lv_astore (lv' := [(6, .ref q9), (0, .ref q), (1, .long t), (3, .long v), (5, .ref qo)]) hx hb dd_L_add_14 hl (by decide) rfl (fun ls hl => ?_)
      refine lv_iconst (v := nI 1) hx hb dd_L_add_16 (by decide) ?_
      refine W.widen (k := 1) (n := 6) (Nat.le_of_ble_eq_true rfl) (Nat.le_of_ble_eq_true rfl) ?_
      refine ct_iret (u := (n, f, g, fo)) hx hb hr hlocks hK (hP.sub [1, 2, 3, 4, 0] rfl) (hD.sub [1, 2, 3, 4, 0] (by decide) rfl) hS rfl ?_ dd_L_add_17
      exact Or.inr (Or.inl ⟨rfl, hno, rfl⟩)
    · skip
      refine vx_catch (own := cn_L) (name := ex_S) hown [⟨0, 11, 14, 13⟩] ⟨0, 11, 18, 15⟩ [] (hex.trans rfl) (fun z hz => by rw [List.mem_singleton] at hz; subst hz; exact Or.inr ⟨by decide, ex_A, hw _ wi_99, hZ.2.2.2.2⟩) (by decide) (by decide) (hw _ wi_100) (va_Nw.use rfl (hZ.2.2.1 (.castable ex_S ex_S) (by decide +kernel))) hce hcv hcl ?_
      have hP : va_P D classes [(qo, .inl (cJ, 1, .inr (.inl fo))), (q, .inr (5, [.ref qp, .ref qs, .ref qb, .ref qc, .int (nI tk)])), (qp, .inr (2, [.ref qt, .ref qv, .int (nI n)])), (qt, .inl (cJ, 3000, .inr (.inl f))), (qv, .inl (cJ, 3000, .inr (.inl g)))] _ := hP
      have hD : va_D A [(qo, .inl (cJ, 1, .inr (.inl fo))), (q, .inr (5, [.ref qp, .ref qs, .ref qb, .ref qc, .int (nI tk)])), (qp, .inr (2, [.ref qt, .ref qv, .int (nI n)])), (qt, .inl (cJ, 3000, .inr (.inl f))), (qv, .inl (cJ, 3000, .inr (.inl g)))] := hD
      refine lv_astore (lv' := [(6, .ref q9), (0, .ref q), (1, .long t), (3, .long v), (5, .ref qo)]) hx hb dd_L_add_18 hl (by decide) rfl (fun ls hl => ?_)
      refine lv_iconst (v := nI 2) hx hb dd_L_add_20 (by decide) ?_
      refine W.widen (k := 1) (n := 6) (Nat.le_of_ble_eq_true rfl) (Nat.le_of_ble_eq_true rfl) ?_
      refine ct_iret (u := (n, f, g, fo)) hx hb hr hlocks hK (hP.sub [1, 2, 3, 4, 0] rfl) (hD.sub [1, 2, 3, 4, 0] (by decide) rfl) hS rfl ?_ dd_L_add_21
      exact Or.inr (Or.inr ⟨rfl, hok, hn3, rfl⟩)
  obtain ⟨hr_6, hok, hlt3⟩ := hw_6
  subst hr_6
  have hP : va_P D classes [(qo, .inl (cJ, 1, .inr (.inl fo))), (q, .inr (5, [.ref qp, .ref qs, .ref qb, .ref qc, .int (nI tk)])), (qp, .inr (2, [.ref qt, .ref qv, .int (nI (n + 1))])), (qt, .inl (cJ, 3000, .inr (.inl (vp_updL f n t)))), (qv, .inl (cJ, 3000, .inr (.inl (vp_updL g n v))))] _ := hP
  have hD : va_D A [(qo, .inl (cJ, 1, .inr (.inl fo))), (q, .inr (5, [.ref qp, .ref qs, .ref qb, .ref qc, .int (nI tk)])), (qp, .inr (2, [.ref qt, .ref qv, .int (nI (n + 1))])), (qt, .inl (cJ, 3000, .inr (.inl (vp_updL f n t)))), (qv, .inl (cJ, 3000, .inr (.inl (vp_updL g n v))))] := hD
  refine lv_i2l (v := (nI (n + 1)).toInt64) hx hb dd_L_add_9 rfl ?_
  refine ct_topl (y := lN (n + 1)) (nI_l (by omega)) ?_
  refine va_last hx hb hK hP hD hS 0 0 rfl rfl (vp_in_nI (by omega) (by omega)) dd_L_add_10 (fun H locs hP hD hS => ?_)
  rw [show (nI 0).toNatClampNeg = 0 from nI_clamp (by omega)] at hP hD
  have hP : va_P D classes [(qo, .inl (cJ, 1, .inr (.inl (vp_updL fo 0 (lN (n + 1)))))), (q, .inr (5, [.ref qp, .ref qs, .ref qb, .ref qc, .int (nI tk)])), (qp, .inr (2, [.ref qt, .ref qv, .int (nI (n + 1))])), (qt, .inl (cJ, 3000, .inr (.inl (vp_updL f n t)))), (qv, .inl (cJ, 3000, .inr (.inl (vp_updL g n v))))] _ := hP
  have hD : va_D A [(qo, .inl (cJ, 1, .inr (.inl (vp_updL fo 0 (lN (n + 1)))))), (q, .inr (5, [.ref qp, .ref qs, .ref qb, .ref qc, .int (nI tk)])), (qp, .inr (2, [.ref qt, .ref qv, .int (nI (n + 1))])), (qt, .inl (cJ, 3000, .inr (.inl (vp_updL f n t)))), (qv, .inl (cJ, 3000, .inr (.inl (vp_updL g n v))))] := hD
  refine lv_goto (tgt := 22) hx hb dd_L_add_11 (by decide) ?_
  refine lv_iconst (v := nI 0) hx hb dd_L_add_22 (by decide) ?_
  refine W.widen (k := 1) (n := 6) (Nat.le_of_ble_eq_true rfl) (Nat.le_of_ble_eq_true rfl) ?_
  refine ct_iret (u := (n + 1, vp_updL f n t, vp_updL g n v, vp_updL fo 0 (lN (n + 1)))) hx hb hr hlocks hK (hP.sub [1, 2, 3, 4, 0] rfl) (hD.sub [1, 2, 3, 4, 0] (by decide) rfl) hS rfl ?_ dd_L_add_23
  exact Or.inl ⟨rfl, hok, hlt3, rfl⟩

set_option maxHeartbeats 4000000 in
set_option maxRecDepth 100000 in
theorem cc_L_keep (l : Launch) (hlt : l.stackTraces = false) (D : va_G) (cJ cB : ClassId) (q qp qs qb qc tk : Nat) (qt qv : Nat) (n : Nat) (f g : Nat → Int64) (k : Int32) (qo : Nat) (fo : Nat → Int64) (sz : Nat) (h1 : n ≤ 3000) : ct_i l my_L_keep (Cond.codeWith my_L_keep mb_L_keep 4 (some .int) [(0, 9, 12, 13)] :: TB) ({ frames := 7, cells := 1, slots := 6, locals := 112 } : Room) D classes cJ cB [.ref q, .int k, .ref qo] [(q, .inr (5, [.ref qp, .ref qs, .ref qb, .ref qc, .int (nI tk)])), (qp, .inr (2, [.ref qt, .ref qv, .int (nI n)])), (qt, .inl (cJ, 3000, .inr (.inl f))), (qv, .inl (cJ, 3000, .inr (.inl g))), (qo, .inl (cJ, 1, .inr (.inl fo)))] sz (fun (r : Int32) (u : Nat × (Nat → Int64)) => (r = nI 0 ∧ u.1 ≤ n ∧ k = nI u.1 ∧ u.2 = vp_updL fo 0 (lN (n - u.1))) ∨ (r = nI 1 ∧ ¬ cp_ix k (n + 1) ∧ u = (n, fo))) (fun u => [(q, .inr (5, [.ref qp, .ref qs, .ref qb, .ref qc, .int (nI tk)])), (qp, .inr (2, [.ref qt, .ref qv, .int (nI u.1)])), (qt, .inl (cJ, 3000, .inr (.inl f))), (qv, .inl (cJ, 3000, .inr (.inl g))), (qo, .inl (cJ, 1, .inr (.inl u.2)))]) 1 6 := by
  refine ct_ofWH (cc := mb_L_keep) (maxL := 4) (ret := some .int) (hh := [(0, 9, 12, 13)]) (by decide) rfl (Nat.le_of_ble_eq_true rfl) ?_
  intro p e s m below meth c hx hb hr hml hts hown hlocks hin hsz hK hP hD hA hS hZ hex ls hl
  have hw : ∀ w ∈ TB, w.before _ s = true := fun w h => hts w (List.mem_cons_of_mem _ h)
  have hown : s.vm.findClass cn_L = some m.cls := hown
  generalize hAe : va_A [(q, .inr (5, [.ref qp, .ref qs, .ref qb, .ref qc, .int (nI tk)])), (qp, .inr (2, [.ref qt, .ref qv, .int (nI n)])), (qt, .inl (cJ, 3000, .inr (.inl f))), (qv, .inl (cJ, 3000, .inr (.inl g))), (qo, .inl (cJ, 1, .inr (.inl fo)))] sz = A at hD hA hS hZ ⊢
  clear hAe
  have hl : lv_has ls 4 [(0, .ref q), (1, .int k), (2, .ref qo)] := hl
  have hP : va_P D classes [(q, .inr (5, [.ref qp, .ref qs, .ref qb, .ref qc, .int (nI tk)])), (qp, .inr (2, [.ref qt, .ref qv, .int (nI n)])), (qt, .inl (cJ, 3000, .inr (.inl f))), (qv, .inl (cJ, 3000, .inr (.inl g))), (qo, .inl (cJ, 1, .inr (.inl fo)))] s.heap := hP
  refine lv_aload_n hx hb dd_L_keep_0 rfl (lv_at hl 2 rfl) ?_
  refine lv_iconst (v := nI 0) hx hb dd_L_keep_1 (by decide) ?_
  refine lv_aload_n hx hb dd_L_keep_2 rfl (lv_at hl 0 rfl) ?_
  refine lv_iload_n hx hb dd_L_keep_3 rfl (lv_at hl 1 rfl) ?_
  refine cx_behind_i (wc := [(q, .inr (5, [.ref qp, .ref qs, .ref qb, .ref qc, .int (nI tk)])), (qp, .inr (2, [.ref qt, .ref qv, .int (nI n)])), (qt, .inl (cJ, 3000, .inr (.inl f))), (qv, .inl (cJ, 3000, .inr (.inl g)))]) (wr := [(qo, .inl (cJ, 1, .inr (.inl fo)))]) (av := [.ref q, .int k]) (vx_runV (As := [.int k]) (rest := [.int (nI 0), .ref qo]) ⟨hx, hb, hml, hown, hw⟩ (cc_X_keep l hlt D cJ cB q qp qs qb qc tk qt qv n f g k _ h1) (cwV 1 hw (tb_V wi_207 wi_208 wi_209 wi_22 wi_210) rfl rfl rfl (by decide +kernel) ⟨Nat.le_of_ble_eq_true rfl, Nat.le_of_ble_eq_true rfl⟩) ⟨ct_blind, ct_recv hK hP (q0 := 0) (ci := 5) rfl rfl, ct_pc hZ hK hP hD hS hA [0, 1, 2, 3] rfl (by decide)⟩ rfl rfl hl.1 rfl (lv_room (Nat.le_of_ble_eq_true rfl)) dd_L_keep_4 ⟨Nat.le_of_ble_eq_true rfl, Nat.le_of_ble_eq_true rfl⟩) hK hP hD hS hA [0, 1, 2, 3] [4] rfl rfl (by decide) (by decide) (fun E ce q9 H locs hpx hP hD hS hce hcv hcl => ?_) (fun r_4 u_4 H locs hw_4 hP hD hS => ?_)
  · skip
    rcases hpx with ⟨rfl, hno⟩
    · skip
      refine vx_catch (own := cn_L) (name := ex_A) hown [] ⟨0, 9, 12, 13⟩ [] (hex.trans rfl) (fun z hz => nomatch hz) (by decide) (by decide) (hw _ wi_99) (va_Nw.use rfl (hZ.2.2.1 (.castable ex_A ex_A) (by decide +kernel))) hce hcv hcl ?_
      have hP : va_P D classes [(qo, .inl (cJ, 1, .inr (.inl fo))), (q, .inr (5, [.ref qp, .ref qs, .ref qb, .ref qc, .int (nI tk)])), (qp, .inr (2, [.ref qt, .ref qv, .int (nI n)])), (qt, .inl (cJ, 3000, .inr (.inl f))), (qv, .inl (cJ, 3000, .inr (.inl g)))] _ := hP
      have hD : va_D A [(qo, .inl (cJ, 1, .inr (.inl fo))), (q, .inr (5, [.ref qp, .ref qs, .ref qb, .ref qc, .int (nI tk)])), (qp, .inr (2, [.ref qt, .ref qv, .int (nI n)])), (qt, .inl (cJ, 3000, .inr (.inl f))), (qv, .inl (cJ, 3000, .inr (.inl g)))] := hD
      refine lv_astore_n (lv' := [(3, .ref q9), (0, .ref q), (1, .int k), (2, .ref qo)]) hx hb dd_L_keep_12 rfl hl (by decide) rfl (fun ls hl => ?_)
      refine lv_iconst (v := nI 1) hx hb dd_L_keep_13 (by decide) ?_
      refine W.widen (k := 1) (n := 6) (Nat.le_of_ble_eq_true rfl) (Nat.le_of_ble_eq_true rfl) ?_
      refine ct_iret (u := (n, fo)) hx hb hr hlocks hK (hP.sub [1, 2, 3, 4, 0] rfl) (hD.sub [1, 2, 3, 4, 0] (by decide) rfl) hS rfl ?_ dd_L_keep_14
      exact Or.inr ⟨rfl, hno, rfl⟩
  obtain ⟨hu_4, hk_4, hr_4⟩ := hw_4
  subst hr_4
  have hP : va_P D classes [(qo, .inl (cJ, 1, .inr (.inl fo))), (q, .inr (5, [.ref qp, .ref qs, .ref qb, .ref qc, .int (nI tk)])), (qp, .inr (2, [.ref qt, .ref qv, .int (nI u_4)])), (qt, .inl (cJ, 3000, .inr (.inl f))), (qv, .inl (cJ, 3000, .inr (.inl g)))] _ := hP
  have hD : va_D A [(qo, .inl (cJ, 1, .inr (.inl fo))), (q, .inr (5, [.ref qp, .ref qs, .ref qb, .ref qc, .int (nI tk)])), (qp, .inr (2, [.ref qt, .ref qv, .int (nI u_4)])), (qt, .inl (cJ, 3000, .inr (.inl f))), (qv, .inl (cJ, 3000, .inr (.inl g)))] := hD
  refine lv_i2l (v := (nI (n - u_4)).toInt64) hx hb dd_L_keep_7 rfl ?_
  refine ct_topl (y := lN (n - u_4)) (nI_l (by omega)) ?_
  refine va_last hx hb hK hP hD hS 0 0 rfl rfl (vp_in_nI (by omega) (by omega)) dd_L_keep_8 (fun H locs hP hD hS => ?_)
  rw [show (nI 0).toNatClampNeg = 0 from nI_clamp (by omega)] at hP hD
  have hP : va_P D classes [(qo, .inl (cJ, 1, .inr (.inl (vp_updL fo 0 (lN (n - u_4)))))), (q, .inr (5, [.ref qp, .ref qs, .ref qb, .ref qc, .int (nI tk)])), (qp, .inr (2, [.ref qt, .ref qv, .int (nI u_4)])), (qt, .inl (cJ, 3000, .inr (.inl f))), (qv, .inl (cJ, 3000, .inr (.inl g)))] _ := hP
  have hD : va_D A [(qo, .inl (cJ, 1, .inr (.inl (vp_updL fo 0 (lN (n - u_4)))))), (q, .inr (5, [.ref qp, .ref qs, .ref qb, .ref qc, .int (nI tk)])), (qp, .inr (2, [.ref qt, .ref qv, .int (nI u_4)])), (qt, .inl (cJ, 3000, .inr (.inl f))), (qv, .inl (cJ, 3000, .inr (.inl g)))] := hD
  refine lv_goto (tgt := 15) hx hb dd_L_keep_9 (by decide) ?_
  refine lv_iconst (v := nI 0) hx hb dd_L_keep_15 (by decide) ?_
  refine W.widen (k := 1) (n := 6) (Nat.le_of_ble_eq_true rfl) (Nat.le_of_ble_eq_true rfl) ?_
  refine ct_iret (u := (u_4, vp_updL fo 0 (lN (n - u_4)))) hx hb hr hlocks hK (hP.sub [1, 2, 3, 4, 0] rfl) (hD.sub [1, 2, 3, 4, 0] (by decide) rfl) hS rfl ?_ dd_L_keep_16
  exact Or.inl ⟨rfl, hu_4, hk_4, rfl⟩

set_option maxHeartbeats 4000000 in
set_option maxRecDepth 100000 in
theorem cc_L_pack (l : Launch) (hlt : l.stackTraces = false) (D : va_G) (cJ cB : ClassId) (q qp qs qb qc tk : Nat) (qt qv : Nat) (n : Nat) (f g : Nat → Int64) (qd n3 : Nat) (w2 : Nat → Int64) (qo : Nat) (fo : Nat → Int64) (sz : Nat) (h1 : n ≤ 3000) (hf0 : n ≠ 0 → cp_fit (f 0) 40) : ct_i l my_L_pack (Cond.codeWith my_L_pack mb_L_pack 3 (some .int) [(0, 8, 11, 15)] :: TB) ({ frames := 6, cells := 2, slots := 7, locals := 153 } : Room) D classes cJ cB [.ref q, .ref qo] [(q, .inr (5, [.ref qp, .ref qs, .ref qb, .ref qc, .int (nI tk)])), (qp, .inr (2, [.ref qt, .ref qv, .int (nI n)])), (qt, .inl (cJ, 3000, .inr (.inl f))), (qv, .inl (cJ, 3000, .inr (.inl g))), (qc, .inr (0, [.ref qd, .int (nI n3)])), (qd, .inl (cJ, 6250, .inr (.inl w2))), (qo, .inl (cJ, 1, .inr (.inl fo)))] sz (fun (r : Int32) (u : Nat → Int64) => r = nI 0 ∧ cp_Rw u (cp_pk f g n).1) (fun u => [(q, .inr (5, [.ref qp, .ref qs, .ref qc, .ref qb, .int (nI tk)])), (qp, .inr (2, [.ref qt, .ref qv, .int (nI n)])), (qt, .inl (cJ, 3000, .inr (.inl f))), (qv, .inl (cJ, 3000, .inr (.inl g))), (qc, .inr (0, [.ref qd, .int (nI ((cp_pk f g n).1.length))])), (qd, .inl (cJ, 6250, .inr (.inl u))), (qo, .inl (cJ, 1, .inr (.inl (vp_updL fo 0 (lN (cp_pk f g n).1.length)))))]) 2 7 := by
  refine ct_ofWH (cc := mb_L_pack) (maxL := 3) (ret := some .int) (hh := [(0, 8, 11, 15)]) (by decide) rfl (Nat.le_of_ble_eq_true rfl) ?_
  intro p e s m below meth c hx hb hr hml hts hown hlocks hin hsz hK hP hD hA hS hZ hex ls hl
  have hw : ∀ w ∈ TB, w.before _ s = true := fun w h => hts w (List.mem_cons_of_mem _ h)
  have hown : s.vm.findClass cn_L = some m.cls := hown
  generalize hAe : va_A [(q, .inr (5, [.ref qp, .ref qs, .ref qb, .ref qc, .int (nI tk)])), (qp, .inr (2, [.ref qt, .ref qv, .int (nI n)])), (qt, .inl (cJ, 3000, .inr (.inl f))), (qv, .inl (cJ, 3000, .inr (.inl g))), (qc, .inr (0, [.ref qd, .int (nI n3)])), (qd, .inl (cJ, 6250, .inr (.inl w2))), (qo, .inl (cJ, 1, .inr (.inl fo)))] sz = A at hD hA hS hZ ⊢
  clear hAe
  have hl : lv_has ls 3 [(0, .ref q), (1, .ref qo)] := hl
  have hP : va_P D classes [(q, .inr (5, [.ref qp, .ref qs, .ref qb, .ref qc, .int (nI tk)])), (qp, .inr (2, [.ref qt, .ref qv, .int (nI n)])), (qt, .inl (cJ, 3000, .inr (.inl f))), (qv, .inl (cJ, 3000, .inr (.inl g))), (qc, .inr (0, [.ref qd, .int (nI n3)])), (qd, .inl (cJ, 6250, .inr (.inl w2))), (qo, .inl (cJ, 1, .inr (.inl fo)))] s.heap := hP
  refine lv_aload_n hx hb dd_L_pack_0 rfl (lv_at hl 1 rfl) ?_
  refine lv_iconst (v := nI 0) hx hb dd_L_pack_1 (by decide) ?_
  refine lv_aload_n hx hb dd_L_pack_2 rfl (lv_at hl 0 rfl) ?_
  refine ct_behind_i (wc := [(q, .inr (5, [.ref qp, .ref qs, .ref qb, .ref qc, .int (nI tk)])), (qp, .inr (2, [.ref qt, .ref qv, .int (nI n)])), (qt, .inl (cJ, 3000, .inr (.inl f))), (qv, .inl (cJ, 3000, .inr (.inl g))), (qc, .inr (0, [.ref qd, .int (nI n3)])), (qd, .inl (cJ, 6250, .inr (.inl w2)))]) (wr := [(qo, .inl (cJ, 1, .inr (.inl fo)))]) (av := [.ref q]) (va_runV (As := []) (rest := [.int (nI 0), .ref qo]) ⟨hx, hb, hml, hown, hw⟩ (cc_X_pack l D cJ cB q qp qs qb qc tk qt qv n f g qd n3 w2 _ h1 hf0) (cwV 0 hw (tb_V wi_219 wi_220 wi_221 wi_22 wi_222) rfl rfl rfl (by decide +kernel) ⟨Nat.le_of_ble_eq_true rfl, Nat.le_of_ble_eq_true rfl⟩) ⟨ct_blind, ct_recv hK hP (q0 := 0) (ci := 5) rfl rfl, ct_pc hZ hK hP hD hS hA [0, 1, 2, 3, 4, 5] rfl (by decide)⟩ rfl rfl hl.1 rfl (lv_room (Nat.le_of_ble_eq_true rfl)) dd_L_pack_3 ⟨Nat.le_of_ble_eq_true rfl, Nat.le_of_ble_eq_true rfl⟩) hK hP hD hS hA [0, 1, 2, 3, 4, 5] [6] rfl rfl (by decide) (by decide) (fun r_3 u_3 H locs hw_3 hP hD hS => ?_)
  obtain ⟨hr_3, hR_3⟩ := hw_3
  subst hr_3
  have hpk := cp_pk_inv f g n
  have hP : va_P D classes [(qo, .inl (cJ, 1, .inr (.inl fo))), (q, .inr (5, [.ref qp, .ref qs, .ref qc, .ref qb, .int (nI tk)])), (qp, .inr (2, [.ref qt, .ref qv, .int (nI n)])), (qt, .inl (cJ, 3000, .inr (.inl f))), (qv, .inl (cJ, 3000, .inr (.inl g))), (qc, .inr (0, [.ref qd, .int (nI ((cp_pk f g n).1.length))])), (qd, .inl (cJ, 6250, .inr (.inl u_3)))] _ := hP
  have hD : va_D A [(qo, .inl (cJ, 1, .inr (.inl fo))), (q, .inr (5, [.ref qp, .ref qs, .ref qc, .ref qb, .int (nI tk)])), (qp, .inr (2, [.ref qt, .ref qv, .int (nI n)])), (qt, .inl (cJ, 3000, .inr (.inl f))), (qv, .inl (cJ, 3000, .inr (.inl g))), (qc, .inr (0, [.ref qd, .int (nI ((cp_pk f g n).1.length))])), (qd, .inl (cJ, 6250, .inr (.inl u_3)))] := hD
  refine lv_i2l (v := (nI ((cp_pk f g n).1.length)).toInt64) hx hb dd_L_pack_6 rfl ?_
  refine ct_topl (y := lN ((cp_pk f g n).1.length)) (nI_l (by omega)) ?_
  refine va_last hx hb hK hP hD hS 0 0 rfl rfl (vp_in_nI (by omega) (by omega)) dd_L_pack_7 (fun H locs hP hD hS => ?_)
  rw [show (nI 0).toNatClampNeg = 0 from nI_clamp (by omega)] at hP hD
  have hP : va_P D classes [(qo, .inl (cJ, 1, .inr (.inl (vp_updL fo 0 (lN ((cp_pk f g n).1.length)))))), (q, .inr (5, [.ref qp, .ref qs, .ref qc, .ref qb, .int (nI tk)])), (qp, .inr (2, [.ref qt, .ref qv, .int (nI n)])), (qt, .inl (cJ, 3000, .inr (.inl f))), (qv, .inl (cJ, 3000, .inr (.inl g))), (qc, .inr (0, [.ref qd, .int (nI ((cp_pk f g n).1.length))])), (qd, .inl (cJ, 6250, .inr (.inl u_3)))] _ := hP
  have hD : va_D A [(qo, .inl (cJ, 1, .inr (.inl (vp_updL fo 0 (lN ((cp_pk f g n).1.length)))))), (q, .inr (5, [.ref qp, .ref qs, .ref qc, .ref qb, .int (nI tk)])), (qp, .inr (2, [.ref qt, .ref qv, .int (nI n)])), (qt, .inl (cJ, 3000, .inr (.inl f))), (qv, .inl (cJ, 3000, .inr (.inl g))), (qc, .inr (0, [.ref qd, .int (nI ((cp_pk f g n).1.length))])), (qd, .inl (cJ, 6250, .inr (.inl u_3)))] := hD
  refine lv_goto (tgt := 14) hx hb dd_L_pack_8 (by decide) ?_
  refine lv_iconst (v := nI 0) hx hb dd_L_pack_14 (by decide) ?_
  refine W.widen (k := 2) (n := 7) (Nat.le_of_ble_eq_true rfl) (Nat.le_of_ble_eq_true rfl) ?_
  refine ct_iret (u := u_3) hx hb hr hlocks hK (hP.sub [1, 2, 3, 4, 5, 6, 0] rfl) (hD.sub [1, 2, 3, 4, 5, 6, 0] (by decide) rfl) hS rfl ?_ dd_L_pack_15
  exact ⟨rfl, hR_3⟩

set_option maxHeartbeats 4000000 in
set_option maxRecDepth 100000 in
theorem cc_L_unpack (l : Launch) (hlt : l.stackTraces = false) (D : va_G) (cJ cB : ClassId) (q qp qs qb qc tk : Nat) (qw : Nat) (w : Nat → Int64) (L : List Bool) (qs1 qs2 n2 : Nat) (f2 g2 : Nat → Int64) (k : Int32) (qo : Nat) (fo : Nat → Int64) (sz : Nat) (hL : L.length ≤ 400000) (hR : cp_Rw w L) : ct_i l my_L_unpack (Cond.codeWith my_L_unpack mb_L_unpack 4 (some .int) [(0, 9, 12, 13)] :: TB) ({ frames := 7, cells := 2, slots := 9, locals := 158 } : Room) D classes cJ cB [.ref q, .int k, .ref qo] [(q, .inr (5, [.ref qp, .ref qs, .ref qb, .ref qc, .int (nI tk)])), (qb, .inr (0, [.ref qw, .int (nI L.length)])), (qw, .inl (cJ, 6250, .inr (.inl w))), (qs, .inr (2, [.ref qs1, .ref qs2, .int (nI n2)])), (qs1, .inl (cJ, 3000, .inr (.inl f2))), (qs2, .inl (cJ, 3000, .inr (.inl g2))), (qo, .inl (cJ, 1, .inr (.inl fo)))] sz (fun (r : Int32) (u : Nat × Nat × Nat × Nat × Nat × (Nat → Int64) × (Nat → Int64) × (Nat → Int64)) => (r = nI 0 ∧ u.2.2.2.1 ≤ 3000 ∧ k = nI u.2.2.2.1 ∧ u.2.2.1 = (cp_ru L u.2.2.2.1).2.1 ∧ (((cp_ru L u.2.2.2.1).1 = true ∧ u.2.2.2.2.2.2.2 = vp_updL fo 0 (lN (cp_ru L u.2.2.2.1).2.1) ∧ u.1 = qs ∧ u.2.1 = qp ∧ u.2.2.2.2.1 = u.2.2.2.1 ∧ ∀ j, j < u.2.2.2.1 → u.2.2.2.2.2.1 j = (cp_ru L (j + 1)).2.2.1 ∧ u.2.2.2.2.2.2.1 j = (cp_ru L (j + 1)).2.2.2.2.1) ∨ (¬ (cp_ru L u.2.2.2.1).1 = true ∧ u.2.2.2.2.2.2.2 = vp_updL fo 0 (-1) ∧ u.1 = qp ∧ u.2.1 = qs))) ∨ (r = nI 1 ∧ ¬ cp_ix k (3000 + 1) ∧ u = (qp, qs, tk, 0, n2, f2, g2, fo))) (fun u => [(q, .inr (5, [.ref u.1, .ref u.2.1, .ref qb, .ref qc, .int (nI u.2.2.1)])), (qb, .inr (0, [.ref qw, .int (nI L.length)])), (qw, .inl (cJ, 6250, .inr (.inl w))), (qs, .inr (2, [.ref qs1, .ref qs2, .int (nI u.2.2.2.2.1)])), (qs1, .inl (cJ, 3000, .inr (.inl u.2.2.2.2.2.1))), (qs2, .inl (cJ, 3000, .inr (.inl u.2.2.2.2.2.2.1))), (qo, .inl (cJ, 1, .inr (.inl u.2.2.2.2.2.2.2)))]) 2 9 := by
  refine ct_ofWH (cc := mb_L_unpack) (maxL := 4) (ret := some .int) (hh := [(0, 9, 12, 13)]) (by decide) rfl (Nat.le_of_ble_eq_true rfl) ?_
  intro p e s m below meth c hx hb hr hml hts hown hlocks hin hsz hK hP hD hA hS hZ hex ls hl
  have hw : ∀ w ∈ TB, w.before _ s = true := fun w h => hts w (List.mem_cons_of_mem _ h)
  have hown : s.vm.findClass cn_L = some m.cls := hown
  generalize hAe : va_A [(q, .inr (5, [.ref qp, .ref qs, .ref qb, .ref qc, .int (nI tk)])), (qb, .inr (0, [.ref qw, .int (nI L.length)])), (qw, .inl (cJ, 6250, .inr (.inl w))), (qs, .inr (2, [.ref qs1, .ref qs2, .int (nI n2)])), (qs1, .inl (cJ, 3000, .inr (.inl f2))), (qs2, .inl (cJ, 3000, .inr (.inl g2))), (qo, .inl (cJ, 1, .inr (.inl fo)))] sz = A at hD hA hS hZ ⊢
  clear hAe
  have hl : lv_has ls 4 [(0, .ref q), (1, .int k), (2, .ref qo)] := hl
  have hP : va_P D classes [(q, .inr (5, [.ref qp, .ref qs, .ref qb, .ref qc, .int (nI tk)])), (qb, .inr (0, [.ref qw, .int (nI L.length)])), (qw, .inl (cJ, 6250, .inr (.inl w))), (qs, .inr (2, [.ref qs1, .ref qs2, .int (nI n2)])), (qs1, .inl (cJ, 3000, .inr (.inl f2))), (qs2, .inl (cJ, 3000, .inr (.inl g2))), (qo, .inl (cJ, 1, .inr (.inl fo)))] s.heap := hP
  refine lv_aload_n hx hb dd_L_unpack_0 rfl (lv_at hl 2 rfl) ?_
  refine lv_iconst (v := nI 0) hx hb dd_L_unpack_1 (by decide) ?_
  refine lv_aload_n hx hb dd_L_unpack_2 rfl (lv_at hl 0 rfl) ?_
  refine lv_iload_n hx hb dd_L_unpack_3 rfl (lv_at hl 1 rfl) ?_
  refine cx_behind_i (wc := [(q, .inr (5, [.ref qp, .ref qs, .ref qb, .ref qc, .int (nI tk)])), (qb, .inr (0, [.ref qw, .int (nI L.length)])), (qw, .inl (cJ, 6250, .inr (.inl w))), (qs, .inr (2, [.ref qs1, .ref qs2, .int (nI n2)])), (qs1, .inl (cJ, 3000, .inr (.inl f2))), (qs2, .inl (cJ, 3000, .inr (.inl g2)))]) (wr := [(qo, .inl (cJ, 1, .inr (.inl fo)))]) (av := [.ref q, .int k]) (vx_runV (As := [.int k]) (rest := [.int (nI 0), .ref qo]) ⟨hx, hb, hml, hown, hw⟩ (cc_X_unpack l hlt D cJ cB q qp qs qb qc tk qw w L qs1 qs2 n2 f2 g2 k _ hL hR) (cwV 1 hw (tb_V wi_372 wi_373 wi_374 wi_22 wi_375) rfl rfl rfl (by decide +kernel) ⟨Nat.le_of_ble_eq_true rfl, Nat.le_of_ble_eq_true rfl⟩) ⟨ct_blind, ct_recv hK hP (q0 := 0) (ci := 5) rfl rfl, ct_pc hZ hK hP hD hS hA [0, 1, 2, 3, 4, 5] rfl (by decide)⟩ rfl rfl hl.1 rfl (lv_room (Nat.le_of_ble_eq_true rfl)) dd_L_unpack_4 ⟨Nat.le_of_ble_eq_true rfl, Nat.le_of_ble_eq_true rfl⟩) hK hP hD hS hA [0, 1, 2, 3, 4, 5] [6] rfl rfl (by decide) (by decide) (fun E ce q9 H locs hpx hP hD hS hce hcv hcl => ?_) (fun r_4 u_4 H locs hw_4 hP hD hS => ?_)
  · skip
    rcases hpx with ⟨rfl, hno⟩
    · skip
      refine vx_catch (own := cn_L) (name := ex_A) hown [] ⟨0, 9, 12, 13⟩ [] (hex.trans rfl) (fun z hz => nomatch hz) (by decide) (by decide) (hw _ wi_99) (va_Nw.use rfl (hZ.2.2.1 (.castable ex_A ex_A) (by decide +kernel))) hce hcv hcl ?_
      have hP : va_P D classes [(qo, .inl (cJ, 1, .inr (.inl fo))), (q, .inr (5, [.ref qp, .ref qs, .ref qb, .ref qc, .int (nI tk)])), (qb, .inr (0, [.ref qw, .int (nI L.length)])), (qw, .inl (cJ, 6250, .inr (.inl w))), (qs, .inr (2, [.ref qs1, .ref qs2, .int (nI n2)])), (qs1, .inl (cJ, 3000, .inr (.inl f2))), (qs2, .inl (cJ, 3000, .inr (.inl g2)))] _ := hP
      have hD : va_D A [(qo, .inl (cJ, 1, .inr (.inl fo))), (q, .inr (5, [.ref qp, .ref qs, .ref qb, .ref qc, .int (nI tk)])), (qb, .inr (0, [.ref qw, .int (nI L.length)])), (qw, .inl (cJ, 6250, .inr (.inl w))), (qs, .inr (2, [.ref qs1, .ref qs2, .int (nI n2)])), (qs1, .inl (cJ, 3000, .inr (.inl f2))), (qs2, .inl (cJ, 3000, .inr (.inl g2)))] := hD
      refine lv_astore_n (lv' := [(3, .ref q9), (0, .ref q), (1, .int k), (2, .ref qo)]) hx hb dd_L_unpack_12 rfl hl (by decide) rfl (fun ls hl => ?_)
      refine lv_iconst (v := nI 1) hx hb dd_L_unpack_13 (by decide) ?_
      refine W.widen (k := 2) (n := 9) (Nat.le_of_ble_eq_true rfl) (Nat.le_of_ble_eq_true rfl) ?_
      refine ct_iret (u := (qp, qs, tk, 0, n2, f2, g2, fo)) hx hb hr hlocks hK (hP.sub [1, 2, 3, 4, 5, 6, 0] rfl) (hD.sub [1, 2, 3, 4, 5, 6, 0] (by decide) rfl) hS rfl ?_ dd_L_unpack_14
      exact Or.inr ⟨rfl, hno, rfl⟩
  obtain ⟨u1, u2, u3, u4, u5, u6, u7⟩ := u_4
  have hP : va_P D classes [(qo, .inl (cJ, 1, .inr (.inl fo))), (q, .inr (5, [.ref u1, .ref u2, .ref qb, .ref qc, .int (nI u3)])), (qb, .inr (0, [.ref qw, .int (nI L.length)])), (qw, .inl (cJ, 6250, .inr (.inl w))), (qs, .inr (2, [.ref qs1, .ref qs2, .int (nI u5)])), (qs1, .inl (cJ, 3000, .inr (.inl u6))), (qs2, .inl (cJ, 3000, .inr (.inl u7)))] _ := hP
  have hD : va_D A [(qo, .inl (cJ, 1, .inr (.inl fo))), (q, .inr (5, [.ref u1, .ref u2, .ref qb, .ref qc, .int (nI u3)])), (qb, .inr (0, [.ref qw, .int (nI L.length)])), (qw, .inl (cJ, 6250, .inr (.inl w))), (qs, .inr (2, [.ref qs1, .ref qs2, .int (nI u5)])), (qs1, .inl (cJ, 3000, .inr (.inl u6))), (qs2, .inl (cJ, 3000, .inr (.inl u7)))] := hD
  refine lv_i2l (v := r_4.toInt64) hx hb dd_L_unpack_7 rfl ?_
  refine va_last hx hb hK hP hD hS 0 0 rfl rfl (vp_in_nI (by omega) (by omega)) dd_L_unpack_8 (fun H locs hP hD hS => ?_)
  rw [show (nI 0).toNatClampNeg = 0 from nI_clamp (by omega)] at hP hD
  have hP : va_P D classes [(qo, .inl (cJ, 1, .inr (.inl (vp_updL fo 0 r_4.toInt64)))), (q, .inr (5, [.ref u1, .ref u2, .ref qb, .ref qc, .int (nI u3)])), (qb, .inr (0, [.ref qw, .int (nI L.length)])), (qw, .inl (cJ, 6250, .inr (.inl w))), (qs, .inr (2, [.ref qs1, .ref qs2, .int (nI u5)])), (qs1, .inl (cJ, 3000, .inr (.inl u6))), (qs2, .inl (cJ, 3000, .inr (.inl u7)))] _ := hP
  have hD : va_D A [(qo, .inl (cJ, 1, .inr (.inl (vp_updL fo 0 r_4.toInt64)))), (q, .inr (5, [.ref u1, .ref u2, .ref qb, .ref qc, .int (nI u3)])), (qb, .inr (0, [.ref qw, .int (nI L.length)])), (qw, .inl (cJ, 6250, .inr (.inl w))), (qs, .inr (2, [.ref qs1, .ref qs2, .int (nI u5)])), (qs1, .inl (cJ, 3000, .inr (.inl u6))), (qs2, .inl (cJ, 3000, .inr (.inl u7)))] := hD
  refine lv_goto (tgt := 15) hx hb dd_L_unpack_9 (by decide) ?_
  refine lv_iconst (v := nI 0) hx hb dd_L_unpack_15 (by decide) ?_
  refine W.widen (k := 2) (n := 9) (Nat.le_of_ble_eq_true rfl) (Nat.le_of_ble_eq_true rfl) ?_
  refine ct_iret (u := (u1, u2, u3, u4, u5, u6, u7, vp_updL fo 0 r_4.toInt64)) hx hb hr hlocks hK (hP.sub [1, 2, 3, 4, 5, 6, 0] rfl) (hD.sub [1, 2, 3, 4, 5, 6, 0] (by decide) rfl) hS rfl ?_ dd_L_unpack_16
  obtain ⟨x1, x2, x3, x4⟩ := hw_4
  have hi9 := (ru_inv L u4).1
  refine Or.inl ⟨rfl, x1, x2, x3, x4.elim (fun y => Or.inl ⟨y.1, ?_, y.2.2⟩) (fun y => Or.inr ⟨y.1, ?_, y.2.2⟩)⟩
  · have e9 : r_4 = nI (cp_ru L u4).2.1 := y.2.1
    show vp_updL fo 0 r_4.toInt64 = _
    rw [e9, nI_l (by omega)]
  · show vp_updL fo 0 r_4.toInt64 = _
    rw [y.2.1]; rfl

set_option maxHeartbeats 4000000 in
set_option maxRecDepth 100000 in
theorem cc_L_count (l : Launch) (hlt : l.stackTraces = false) (D : va_G) (cJ cB : ClassId) (q qp qs qb qc tk : Nat) (qt qv : Nat) (n : Nat) (f g : Nat → Int64) (qw : Nat) (w : Nat → Int64) (L : List Bool) (k : Int32) (qo : Nat) (fo : Nat → Int64) (sz : Nat) (h1 : n ≤ 3000) (hL : L.length ≤ 400000) : ct_i l my_L_count (Cond.codeWith my_L_count mb_L_count 4 (some .int) [(0, 9, 12, 13)] :: TB) ({ frames := 7, cells := 1, slots := 6, locals := 111 } : Room) D classes cJ cB [.ref q, .int k, .ref qo] [(q, .inr (5, [.ref qp, .ref qs, .ref qb, .ref qc, .int (nI tk)])), (qp, .inr (2, [.ref qt, .ref qv, .int (nI n)])), (qt, .inl (cJ, 3000, .inr (.inl f))), (qv, .inl (cJ, 3000, .inr (.inl g))), (qb, .inr (0, [.ref qw, .int (nI L.length)])), (qw, .inl (cJ, 6250, .inr (.inl w))), (qo, .inl (cJ, 1, .inr (.inl fo)))] sz (fun (r : Int32) (u : Nat → Int64) => (r = nI 0 ∧ ((k = 0 ∧ u = vp_updL fo 0 (lN n)) ∨ (k = 1 ∧ u = vp_updL fo 0 (lN L.length)))) ∨ (r = nI 1 ∧ (¬ k = 0 ∧ ¬ k = 1) ∧ u = fo)) (fun u => [(q, .inr (5, [.ref qp, .ref qs, .ref qb, .ref qc, .int (nI tk)])), (qp, .inr (2, [.ref qt, .ref qv, .int (nI n)])), (qt, .inl (cJ, 3000, .inr (.inl f))), (qv, .inl (cJ, 3000, .inr (.inl g))), (qb, .inr (0, [.ref qw, .int (nI L.length)])), (qw, .inl (cJ, 6250, .inr (.inl w))), (qo, .inl (cJ, 1, .inr (.inl u)))]) 1 6 := by
  refine ct_ofWH (cc := mb_L_count) (maxL := 4) (ret := some .int) (hh := [(0, 9, 12, 13)]) (by decide) rfl (Nat.le_of_ble_eq_true rfl) ?_
  intro p e s m below meth c hx hb hr hml hts hown hlocks hin hsz hK hP hD hA hS hZ hex ls hl
  have hw : ∀ w ∈ TB, w.before _ s = true := fun w h => hts w (List.mem_cons_of_mem _ h)
  have hown : s.vm.findClass cn_L = some m.cls := hown
  generalize hAe : va_A [(q, .inr (5, [.ref qp, .ref qs, .ref qb, .ref qc, .int (nI tk)])), (qp, .inr (2, [.ref qt, .ref qv, .int (nI n)])), (qt, .inl (cJ, 3000, .inr (.inl f))), (qv, .inl (cJ, 3000, .inr (.inl g))), (qb, .inr (0, [.ref qw, .int (nI L.length)])), (qw, .inl (cJ, 6250, .inr (.inl w))), (qo, .inl (cJ, 1, .inr (.inl fo)))] sz = A at hD hA hS hZ ⊢
  clear hAe
  have hl : lv_has ls 4 [(0, .ref q), (1, .int k), (2, .ref qo)] := hl
  have hP : va_P D classes [(q, .inr (5, [.ref qp, .ref qs, .ref qb, .ref qc, .int (nI tk)])), (qp, .inr (2, [.ref qt, .ref qv, .int (nI n)])), (qt, .inl (cJ, 3000, .inr (.inl f))), (qv, .inl (cJ, 3000, .inr (.inl g))), (qb, .inr (0, [.ref qw, .int (nI L.length)])), (qw, .inl (cJ, 6250, .inr (.inl w))), (qo, .inl (cJ, 1, .inr (.inl fo)))] s.heap := hP
  refine lv_aload_n hx hb dd_L_count_0 rfl (lv_at hl 2 rfl) ?_
  refine lv_iconst (v := nI 0) hx hb dd_L_count_1 (by decide) ?_
  refine lv_aload_n hx hb dd_L_count_2 rfl (lv_at hl 0 rfl) ?_
  refine lv_iload_n hx hb dd_L_count_3 rfl (lv_at hl 1 rfl) ?_
  refine cx_behind_i (wc := [(q, .inr (5, [.ref qp, .ref qs, .ref qb, .ref qc, .int (nI tk)])), (qp, .inr (2, [.ref qt, .ref qv, .int (nI n)])), (qt, .inl (cJ, 3000, .inr (.inl f))), (qv, .inl (cJ, 3000, .inr (.inl g))), (qb, .inr (0, [.ref qw, .int (nI L.length)])), (qw, .inl (cJ, 6250, .inr (.inl w)))]) (wr := [(qo, .inl (cJ, 1, .inr (.inl fo)))]) (av := [.ref q, .int k]) (vx_runV (As := [.int k]) (rest := [.int (nI 0), .ref qo]) ⟨hx, hb, hml, hown, hw⟩ (cc_X_count l hlt D cJ cB q qp qs qb qc tk qt qv n f g qw w L k _ h1) (cwV 1 hw (tb_V wi_464 wi_465 wi_466 wi_22 wi_467) rfl rfl rfl (by decide +kernel) ⟨Nat.le_of_ble_eq_true rfl, Nat.le_of_ble_eq_true rfl⟩) ⟨ct_blind, ct_recv hK hP (q0 := 0) (ci := 5) rfl rfl, ct_pc hZ hK hP hD hS hA [0, 1, 2, 3, 4, 5] rfl (by decide)⟩ rfl rfl hl.1 rfl (lv_room (Nat.le_of_ble_eq_true rfl)) dd_L_count_4 ⟨Nat.le_of_ble_eq_true rfl, Nat.le_of_ble_eq_true rfl⟩) hK hP hD hS hA [0, 1, 2, 3, 4, 5] [6] rfl rfl (by decide) (by decide) (fun E ce q9 H locs hpx hP hD hS hce hcv hcl => ?_) (fun r_4 u_4 H locs hw_4 hP hD hS => ?_)
  · skip
    rcases hpx with ⟨rfl, hno⟩
    · skip
      refine vx_catch (own := cn_L) (name := ex_A) hown [] ⟨0, 9, 12, 13⟩ [] (hex.trans rfl) (fun z hz => nomatch hz) (by decide) (by decide) (hw _ wi_99) (va_Nw.use rfl (hZ.2.2.1 (.castable ex_A ex_A) (by decide +kernel))) hce hcv hcl ?_
      have hP : va_P D classes [(qo, .inl (cJ, 1, .inr (.inl fo))), (q, .inr (5, [.ref qp, .ref qs, .ref qb, .ref qc, .int (nI tk)])), (qp, .inr (2, [.ref qt, .ref qv, .int (nI n)])), (qt, .inl (cJ, 3000, .inr (.inl f))), (qv, .inl (cJ, 3000, .inr (.inl g))), (qb, .inr (0, [.ref qw, .int (nI L.length)])), (qw, .inl (cJ, 6250, .inr (.inl w)))] _ := hP
      have hD : va_D A [(qo, .inl (cJ, 1, .inr (.inl fo))), (q, .inr (5, [.ref qp, .ref qs, .ref qb, .ref qc, .int (nI tk)])), (qp, .inr (2, [.ref qt, .ref qv, .int (nI n)])), (qt, .inl (cJ, 3000, .inr (.inl f))), (qv, .inl (cJ, 3000, .inr (.inl g))), (qb, .inr (0, [.ref qw, .int (nI L.length)])), (qw, .inl (cJ, 6250, .inr (.inl w)))] := hD
      refine lv_astore_n (lv' := [(3, .ref q9), (0, .ref q), (1, .int k), (2, .ref qo)]) hx hb dd_L_count_12 rfl hl (by decide) rfl (fun ls hl => ?_)
      refine lv_iconst (v := nI 1) hx hb dd_L_count_13 (by decide) ?_
      refine W.widen (k := 1) (n := 6) (Nat.le_of_ble_eq_true rfl) (Nat.le_of_ble_eq_true rfl) ?_
      refine ct_iret (u := fo) hx hb hr hlocks hK (hP.sub [1, 2, 3, 4, 5, 6, 0] rfl) (hD.sub [1, 2, 3, 4, 5, 6, 0] (by decide) rfl) hS rfl ?_ dd_L_count_14
      exact Or.inr ⟨rfl, hno, rfl⟩
  have hP : va_P D classes [(qo, .inl (cJ, 1, .inr (.inl fo))), (q, .inr (5, [.ref qp, .ref qs, .ref qb, .ref qc, .int (nI tk)])), (qp, .inr (2, [.ref qt, .ref qv, .int (nI n)])), (qt, .inl (cJ, 3000, .inr (.inl f))), (qv, .inl (cJ, 3000, .inr (.inl g))), (qb, .inr (0, [.ref qw, .int (nI L.length)])), (qw, .inl (cJ, 6250, .inr (.inl w)))] _ := hP
  have hD : va_D A [(qo, .inl (cJ, 1, .inr (.inl fo))), (q, .inr (5, [.ref qp, .ref qs, .ref qb, .ref qc, .int (nI tk)])), (qp, .inr (2, [.ref qt, .ref qv, .int (nI n)])), (qt, .inl (cJ, 3000, .inr (.inl f))), (qv, .inl (cJ, 3000, .inr (.inl g))), (qb, .inr (0, [.ref qw, .int (nI L.length)])), (qw, .inl (cJ, 6250, .inr (.inl w)))] := hD
  refine lv_i2l (v := r_4.toInt64) hx hb dd_L_count_7 rfl ?_
  refine va_last hx hb hK hP hD hS 0 0 rfl rfl (vp_in_nI (by omega) (by omega)) dd_L_count_8 (fun H locs hP hD hS => ?_)
  rw [show (nI 0).toNatClampNeg = 0 from nI_clamp (by omega)] at hP hD
  have hP : va_P D classes [(qo, .inl (cJ, 1, .inr (.inl (vp_updL fo 0 r_4.toInt64)))), (q, .inr (5, [.ref qp, .ref qs, .ref qb, .ref qc, .int (nI tk)])), (qp, .inr (2, [.ref qt, .ref qv, .int (nI n)])), (qt, .inl (cJ, 3000, .inr (.inl f))), (qv, .inl (cJ, 3000, .inr (.inl g))), (qb, .inr (0, [.ref qw, .int (nI L.length)])), (qw, .inl (cJ, 6250, .inr (.inl w)))] _ := hP
  have hD : va_D A [(qo, .inl (cJ, 1, .inr (.inl (vp_updL fo 0 r_4.toInt64)))), (q, .inr (5, [.ref qp, .ref qs, .ref qb, .ref qc, .int (nI tk)])), (qp, .inr (2, [.ref qt, .ref qv, .int (nI n)])), (qt, .inl (cJ, 3000, .inr (.inl f))), (qv, .inl (cJ, 3000, .inr (.inl g))), (qb, .inr (0, [.ref qw, .int (nI L.length)])), (qw, .inl (cJ, 6250, .inr (.inl w)))] := hD
  refine lv_goto (tgt := 15) hx hb dd_L_count_9 (by decide) ?_
  refine lv_iconst (v := nI 0) hx hb dd_L_count_15 (by decide) ?_
  refine W.widen (k := 1) (n := 6) (Nat.le_of_ble_eq_true rfl) (Nat.le_of_ble_eq_true rfl) ?_
  refine ct_iret (u := vp_updL fo 0 r_4.toInt64) hx hb hr hlocks hK (hP.sub [1, 2, 3, 4, 5, 6, 0] rfl) (hD.sub [1, 2, 3, 4, 5, 6, 0] (by decide) rfl) hS rfl ?_ dd_L_count_16
  refine Or.inl ⟨rfl, hw_4.elim (fun y => Or.inl ⟨y.1, ?_⟩) (fun y => Or.inr ⟨y.1, ?_⟩)⟩
  · rw [y.2, nI_l (by omega)]
  · rw [y.2, nI_l (by omega)]

set_option maxHeartbeats 4000000 in
set_option maxRecDepth 100000 in
theorem cc_L_time (l : Launch) (hlt : l.stackTraces = false) (D : va_G) (cJ cB : ClassId) (q qp qs qb qc tk : Nat) (qt qv : Nat) (n : Nat) (f g : Nat → Int64) (k : Int32) (qo : Nat) (fo : Nat → Int64) (sz : Nat) (h1 : n ≤ 3000) : ct_i l my_L_time (Cond.codeWith my_L_time mb_L_time 4 (some .int) [(0, 8, 11, 35)] :: TB) ({ frames := 8, cells := 1, slots := 6, locals := 141 } : Room) D classes cJ cB [.ref q, .int k, .ref qo] [(q, .inr (5, [.ref qp, .ref qs, .ref qb, .ref qc, .int (nI tk)])), (qp, .inr (2, [.ref qt, .ref qv, .int (nI n)])), (qt, .inl (cJ, 3000, .inr (.inl f))), (qv, .inl (cJ, 3000, .inr (.inl g))), (qo, .inl (cJ, 1, .inr (.inl fo)))] sz (fun (r : Int32) (u : Nat → Int64) => (r = nI 0 ∧ ∃ j : Nat, j < n ∧ k = nI j ∧ u = vp_updL fo 0 (f j)) ∨ (r = nI 1 ∧ ¬ cp_ix k n ∧ u = fo)) (fun u => [(q, .inr (5, [.ref qp, .ref qs, .ref qb, .ref qc, .int (nI tk)])), (qp, .inr (2, [.ref qt, .ref qv, .int (nI n)])), (qt, .inl (cJ, 3000, .inr (.inl f))), (qv, .inl (cJ, 3000, .inr (.inl g))), (qo, .inl (cJ, 1, .inr (.inl u)))]) 1 6 := by
  refine ct_ofWH (cc := mb_L_time) (maxL := 4) (ret := some .int) (hh := [(0, 8, 11, 35)]) (by decide) rfl (Nat.le_of_ble_eq_true rfl) ?_
  intro p e s m below meth c hx hb hr hml hts hown hlocks hin hsz hK hP hD hA hS hZ hex ls hl
  have hw : ∀ w ∈ TB, w.before _ s = true := fun w h => hts w (List.mem_cons_of_mem _ h)
  have hown : s.vm.findClass cn_L = some m.cls := hown
  generalize hAe : va_A [(q, .inr (5, [.ref qp, .ref qs, .ref qb, .ref qc, .int (nI tk)])), (qp, .inr (2, [.ref qt, .ref qv, .int (nI n)])), (qt, .inl (cJ, 3000, .inr (.inl f))), (qv, .inl (cJ, 3000, .inr (.inl g))), (qo, .inl (cJ, 1, .inr (.inl fo)))] sz = A at hD hA hS hZ ⊢
  clear hAe
  have hl : lv_has ls 4 [(0, .ref q), (1, .int k), (2, .ref qo)] := hl
  have hP : va_P D classes [(q, .inr (5, [.ref qp, .ref qs, .ref qb, .ref qc, .int (nI tk)])), (qp, .inr (2, [.ref qt, .ref qv, .int (nI n)])), (qt, .inl (cJ, 3000, .inr (.inl f))), (qv, .inl (cJ, 3000, .inr (.inl g))), (qo, .inl (cJ, 1, .inr (.inl fo)))] s.heap := hP
  refine lv_aload_n hx hb dd_L_time_0 rfl (lv_at hl 2 rfl) ?_
  refine lv_iconst (v := nI 0) hx hb dd_L_time_1 (by decide) ?_
  refine lv_aload_n hx hb dd_L_time_2 rfl (lv_at hl 0 rfl) ?_
  refine lv_iload_n hx hb dd_L_time_3 rfl (lv_at hl 1 rfl) ?_
  refine cx_behind_l (wc := [(q, .inr (5, [.ref qp, .ref qs, .ref qb, .ref qc, .int (nI tk)])), (qp, .inr (2, [.ref qt, .ref qv, .int (nI n)])), (qt, .inl (cJ, 3000, .inr (.inl f))), (qv, .inl (cJ, 3000, .inr (.inl g)))]) (wr := [(qo, .inl (cJ, 1, .inr (.inl fo)))]) (av := [.ref q, .int k]) (vx_runV (As := [.int k]) (rest := [.int (nI 0), .ref qo]) ⟨hx, hb, hml, hown, hw⟩ (cc_X_time l hlt D cJ cB q qp qs qb qc tk qt qv n f g k _ h1) (cwV 1 hw (tb_V wi_473 wi_474 wi_475 wi_22 wi_476) rfl rfl rfl (by decide +kernel) ⟨Nat.le_of_ble_eq_true rfl, Nat.le_of_ble_eq_true rfl⟩) ⟨ct_blind, ct_recv hK hP (q0 := 0) (ci := 5) rfl rfl, ct_pc hZ hK hP hD hS hA [0, 1, 2, 3] rfl (by decide)⟩ rfl rfl hl.1 rfl (lv_room (Nat.le_of_ble_eq_true rfl)) dd_L_time_4 ⟨Nat.le_of_ble_eq_true rfl, Nat.le_of_ble_eq_true rfl⟩) hK hP hD hS hA [0, 1, 2, 3] [4] rfl rfl (by decide) (by decide) (fun E ce q9 H locs hpx hP hD hS hce hcv hcl => ?_) (fun r_4 u_4 H locs hw_4 hP hD hS => ?_)
  · skip
    rcases hpx with ⟨rfl, hno⟩
    · skip
      refine vx_catch (own := cn_L) (name := ex_I) hown [] ⟨0, 8, 11, 35⟩ [] (hex.trans rfl) (fun z hz => nomatch hz) (by decide) (by decide) (hw _ wi_472) (va_Nw.use rfl (hZ.2.2.1 (.castable ex_I ex_I) (by decide +kernel))) hce hcv hcl ?_
      have hP : va_P D classes [(qo, .inl (cJ, 1, .inr (.inl fo))), (q, .inr (5, [.ref qp, .ref qs, .ref qb, .ref qc, .int (nI tk)])), (qp, .inr (2, [.ref qt, .ref qv, .int (nI n)])), (qt, .inl (cJ, 3000, .inr (.inl f))), (qv, .inl (cJ, 3000, .inr (.inl g)))] _ := hP
      have hD : va_D A [(qo, .inl (cJ, 1, .inr (.inl fo))), (q, .inr (5, [.ref qp, .ref qs, .ref qb, .ref qc, .int (nI tk)])), (qp, .inr (2, [.ref qt, .ref qv, .int (nI n)])), (qt, .inl (cJ, 3000, .inr (.inl f))), (qv, .inl (cJ, 3000, .inr (.inl g)))] := hD
      refine lv_astore_n (lv' := [(3, .ref q9), (0, .ref q), (1, .int k), (2, .ref qo)]) hx hb dd_L_time_11 rfl hl (by decide) rfl (fun ls hl => ?_)
      refine lv_iconst (v := nI 1) hx hb dd_L_time_12 (by decide) ?_
      refine W.widen (k := 1) (n := 6) (Nat.le_of_ble_eq_true rfl) (Nat.le_of_ble_eq_true rfl) ?_
      refine ct_iret (u := fo) hx hb hr hlocks hK (hP.sub [1, 2, 3, 4, 0] rfl) (hD.sub [1, 2, 3, 4, 0] (by decide) rfl) hS rfl ?_ dd_L_time_13
      exact Or.inr ⟨rfl, hno, rfl⟩
  have hP : va_P D classes [(qo, .inl (cJ, 1, .inr (.inl fo))), (q, .inr (5, [.ref qp, .ref qs, .ref qb, .ref qc, .int (nI tk)])), (qp, .inr (2, [.ref qt, .ref qv, .int (nI n)])), (qt, .inl (cJ, 3000, .inr (.inl f))), (qv, .inl (cJ, 3000, .inr (.inl g)))] _ := hP
  have hD : va_D A [(qo, .inl (cJ, 1, .inr (.inl fo))), (q, .inr (5, [.ref qp, .ref qs, .ref qb, .ref qc, .int (nI tk)])), (qp, .inr (2, [.ref qt, .ref qv, .int (nI n)])), (qt, .inl (cJ, 3000, .inr (.inl f))), (qv, .inl (cJ, 3000, .inr (.inl g)))] := hD
  refine va_last hx hb hK hP hD hS 0 0 rfl rfl (vp_in_nI (by omega) (by omega)) dd_L_time_7 (fun H locs hP hD hS => ?_)
  rw [show (nI 0).toNatClampNeg = 0 from nI_clamp (by omega)] at hP hD
  have hP : va_P D classes [(qo, .inl (cJ, 1, .inr (.inl (vp_updL fo 0 r_4)))), (q, .inr (5, [.ref qp, .ref qs, .ref qb, .ref qc, .int (nI tk)])), (qp, .inr (2, [.ref qt, .ref qv, .int (nI n)])), (qt, .inl (cJ, 3000, .inr (.inl f))), (qv, .inl (cJ, 3000, .inr (.inl g)))] _ := hP
  have hD : va_D A [(qo, .inl (cJ, 1, .inr (.inl (vp_updL fo 0 r_4)))), (q, .inr (5, [.ref qp, .ref qs, .ref qb, .ref qc, .int (nI tk)])), (qp, .inr (2, [.ref qt, .ref qv, .int (nI n)])), (qt, .inl (cJ, 3000, .inr (.inl f))), (qv, .inl (cJ, 3000, .inr (.inl g)))] := hD
  refine lv_goto (tgt := 14) hx hb dd_L_time_8 (by decide) ?_
  refine lv_iconst (v := nI 0) hx hb dd_L_time_14 (by decide) ?_
  refine W.widen (k := 1) (n := 6) (Nat.le_of_ble_eq_true rfl) (Nat.le_of_ble_eq_true rfl) ?_
  refine ct_iret (u := vp_updL fo 0 r_4) hx hb hr hlocks hK (hP.sub [1, 2, 3, 4, 0] rfl) (hD.sub [1, 2, 3, 4, 0] (by decide) rfl) hS rfl ?_ dd_L_time_15
  obtain ⟨j, hj, hk, hr⟩ := hw_4
  exact Or.inl ⟨rfl, j, hj, hk, by rw [hr]⟩

set_option maxHeartbeats 4000000 in
set_option maxRecDepth 100000 in
theorem cc_L_value (l : Launch) (hlt : l.stackTraces = false) (D : va_G) (cJ cB : ClassId) (q qp qs qb qc tk : Nat) (qt qv : Nat) (n : Nat) (f g : Nat → Int64) (k : Int32) (qo : Nat) (fo : Nat → Int64) (sz : Nat) (h1 : n ≤ 3000) : ct_i l my_L_value (Cond.codeWith my_L_value mb_L_value 4 (some .int) [(0, 8, 11, 35)] :: TB) ({ frames := 8, cells := 1, slots := 6, locals := 141 } : Room) D classes cJ cB [.ref q, .int k, .ref qo] [(q, .inr (5, [.ref qp, .ref qs, .ref qb, .ref qc, .int (nI tk)])), (qp, .inr (2, [.ref qt, .ref qv, .int (nI n)])), (qt, .inl (cJ, 3000, .inr (.inl f))), (qv, .inl (cJ, 3000, .inr (.inl g))), (qo, .inl (cJ, 1, .inr (.inl fo)))] sz (fun (r : Int32) (u : Nat → Int64) => (r = nI 0 ∧ ∃ j : Nat, j < n ∧ k = nI j ∧ u = vp_updL fo 0 (g j)) ∨ (r = nI 1 ∧ ¬ cp_ix k n ∧ u = fo)) (fun u => [(q, .inr (5, [.ref qp, .ref qs, .ref qb, .ref qc, .int (nI tk)])), (qp, .inr (2, [.ref qt, .ref qv, .int (nI n)])), (qt, .inl (cJ, 3000, .inr (.inl f))), (qv, .inl (cJ, 3000, .inr (.inl g))), (qo, .inl (cJ, 1, .inr (.inl u)))]) 1 6 := by
  refine ct_ofWH (cc := mb_L_value) (maxL := 4) (ret := some .int) (hh := [(0, 8, 11, 35)]) (by decide) rfl (Nat.le_of_ble_eq_true rfl) ?_
  intro p e s m below meth c hx hb hr hml hts hown hlocks hin hsz hK hP hD hA hS hZ hex ls hl
  have hw : ∀ w ∈ TB, w.before _ s = true := fun w h => hts w (List.mem_cons_of_mem _ h)
  have hown : s.vm.findClass cn_L = some m.cls := hown
  generalize hAe : va_A [(q, .inr (5, [.ref qp, .ref qs, .ref qb, .ref qc, .int (nI tk)])), (qp, .inr (2, [.ref qt, .ref qv, .int (nI n)])), (qt, .inl (cJ, 3000, .inr (.inl f))), (qv, .inl (cJ, 3000, .inr (.inl g))), (qo, .inl (cJ, 1, .inr (.inl fo)))] sz = A at hD hA hS hZ ⊢
  clear hAe
  have hl : lv_has ls 4 [(0, .ref q), (1, .int k), (2, .ref qo)] := hl
  have hP : va_P D classes [(q, .inr (5, [.ref qp, .ref qs, .ref qb, .ref qc, .int (nI tk)])), (qp, .inr (2, [.ref qt, .ref qv, .int (nI n)])), (qt, .inl (cJ, 3000, .inr (.inl f))), (qv, .inl (cJ, 3000, .inr (.inl g))), (qo, .inl (cJ, 1, .inr (.inl fo)))] s.heap := hP
  refine lv_aload_n hx hb dd_L_value_0 rfl (lv_at hl 2 rfl) ?_
  refine lv_iconst (v := nI 0) hx hb dd_L_value_1 (by decide) ?_
  refine lv_aload_n hx hb dd_L_value_2 rfl (lv_at hl 0 rfl) ?_
  refine lv_iload_n hx hb dd_L_value_3 rfl (lv_at hl 1 rfl) ?_
  refine cx_behind_l (wc := [(q, .inr (5, [.ref qp, .ref qs, .ref qb, .ref qc, .int (nI tk)])), (qp, .inr (2, [.ref qt, .ref qv, .int (nI n)])), (qt, .inl (cJ, 3000, .inr (.inl f))), (qv, .inl (cJ, 3000, .inr (.inl g)))]) (wr := [(qo, .inl (cJ, 1, .inr (.inl fo)))]) (av := [.ref q, .int k]) (vx_runV (As := [.int k]) (rest := [.int (nI 0), .ref qo]) ⟨hx, hb, hml, hown, hw⟩ (cc_X_value l hlt D cJ cB q qp qs qb qc tk qt qv n f g k _ h1) (cwV 1 hw (tb_V wi_481 wi_482 wi_483 wi_22 wi_484) rfl rfl rfl (by decide +kernel) ⟨Nat.le_of_ble_eq_true rfl, Nat.le_of_ble_eq_true rfl⟩) ⟨ct_blind, ct_recv hK hP (q0 := 0) (ci := 5) rfl rfl, ct_pc hZ hK hP hD hS hA [0, 1, 2, 3] rfl (by decide)⟩ rfl rfl hl.1 rfl (lv_room (Nat.le_of_ble_eq_true rfl)) dd_L_value_4 ⟨Nat.le_of_ble_eq_true rfl, Nat.le_of_ble_eq_true rfl⟩) hK hP hD hS hA [0, 1, 2, 3] [4] rfl rfl (by decide) (by decide) (fun E ce q9 H locs hpx hP hD hS hce hcv hcl => ?_) (fun r_4 u_4 H locs hw_4 hP hD hS => ?_)
  · skip
    rcases hpx with ⟨rfl, hno⟩
    · skip
      refine vx_catch (own := cn_L) (name := ex_I) hown [] ⟨0, 8, 11, 35⟩ [] (hex.trans rfl) (fun z hz => nomatch hz) (by decide) (by decide) (hw _ wi_472) (va_Nw.use rfl (hZ.2.2.1 (.castable ex_I ex_I) (by decide +kernel))) hce hcv hcl ?_
      have hP : va_P D classes [(qo, .inl (cJ, 1, .inr (.inl fo))), (q, .inr (5, [.ref qp, .ref qs, .ref qb, .ref qc, .int (nI tk)])), (qp, .inr (2, [.ref qt, .ref qv, .int (nI n)])), (qt, .inl (cJ, 3000, .inr (.inl f))), (qv, .inl (cJ, 3000, .inr (.inl g)))] _ := hP
      have hD : va_D A [(qo, .inl (cJ, 1, .inr (.inl fo))), (q, .inr (5, [.ref qp, .ref qs, .ref qb, .ref qc, .int (nI tk)])), (qp, .inr (2, [.ref qt, .ref qv, .int (nI n)])), (qt, .inl (cJ, 3000, .inr (.inl f))), (qv, .inl (cJ, 3000, .inr (.inl g)))] := hD
      refine lv_astore_n (lv' := [(3, .ref q9), (0, .ref q), (1, .int k), (2, .ref qo)]) hx hb dd_L_value_11 rfl hl (by decide) rfl (fun ls hl => ?_)
      refine lv_iconst (v := nI 1) hx hb dd_L_value_12 (by decide) ?_
      refine W.widen (k := 1) (n := 6) (Nat.le_of_ble_eq_true rfl) (Nat.le_of_ble_eq_true rfl) ?_
      refine ct_iret (u := fo) hx hb hr hlocks hK (hP.sub [1, 2, 3, 4, 0] rfl) (hD.sub [1, 2, 3, 4, 0] (by decide) rfl) hS rfl ?_ dd_L_value_13
      exact Or.inr ⟨rfl, hno, rfl⟩
  have hP : va_P D classes [(qo, .inl (cJ, 1, .inr (.inl fo))), (q, .inr (5, [.ref qp, .ref qs, .ref qb, .ref qc, .int (nI tk)])), (qp, .inr (2, [.ref qt, .ref qv, .int (nI n)])), (qt, .inl (cJ, 3000, .inr (.inl f))), (qv, .inl (cJ, 3000, .inr (.inl g)))] _ := hP
  have hD : va_D A [(qo, .inl (cJ, 1, .inr (.inl fo))), (q, .inr (5, [.ref qp, .ref qs, .ref qb, .ref qc, .int (nI tk)])), (qp, .inr (2, [.ref qt, .ref qv, .int (nI n)])), (qt, .inl (cJ, 3000, .inr (.inl f))), (qv, .inl (cJ, 3000, .inr (.inl g)))] := hD
  refine va_last hx hb hK hP hD hS 0 0 rfl rfl (vp_in_nI (by omega) (by omega)) dd_L_value_7 (fun H locs hP hD hS => ?_)
  rw [show (nI 0).toNatClampNeg = 0 from nI_clamp (by omega)] at hP hD
  have hP : va_P D classes [(qo, .inl (cJ, 1, .inr (.inl (vp_updL fo 0 r_4)))), (q, .inr (5, [.ref qp, .ref qs, .ref qb, .ref qc, .int (nI tk)])), (qp, .inr (2, [.ref qt, .ref qv, .int (nI n)])), (qt, .inl (cJ, 3000, .inr (.inl f))), (qv, .inl (cJ, 3000, .inr (.inl g)))] _ := hP
  have hD : va_D A [(qo, .inl (cJ, 1, .inr (.inl (vp_updL fo 0 r_4)))), (q, .inr (5, [.ref qp, .ref qs, .ref qb, .ref qc, .int (nI tk)])), (qp, .inr (2, [.ref qt, .ref qv, .int (nI n)])), (qt, .inl (cJ, 3000, .inr (.inl f))), (qv, .inl (cJ, 3000, .inr (.inl g)))] := hD
  refine lv_goto (tgt := 14) hx hb dd_L_value_8 (by decide) ?_
  refine lv_iconst (v := nI 0) hx hb dd_L_value_14 (by decide) ?_
  refine W.widen (k := 1) (n := 6) (Nat.le_of_ble_eq_true rfl) (Nat.le_of_ble_eq_true rfl) ?_
  refine ct_iret (u := vp_updL fo 0 r_4) hx hb hr hlocks hK (hP.sub [1, 2, 3, 4, 0] rfl) (hD.sub [1, 2, 3, 4, 0] (by decide) rfl) hS rfl ?_ dd_L_value_15
  obtain ⟨j, hj, hk, hr⟩ := hw_4
  exact Or.inl ⟨rfl, j, hj, hk, by rw [hr]⟩


set_option maxHeartbeats 4000000 in
set_option maxRecDepth 100000 in
theorem cc_L_bit (l : Launch) (hlt : l.stackTraces = false) (D : va_G) (cJ cB : ClassId) (q qp qs qb qc tk : Nat) (qw : Nat) (w : Nat → Int64) (L : List Bool) (k : Int32) (qo : Nat) (fo : Nat → Int64) (sz : Nat) (hL : L.length ≤ 400000) (hR : cp_Rw w L) : ct_i l my_L_bit (Cond.codeWith my_L_bit mb_L_bit 4 (some .int) [(0, 16, 19, 35)] :: TB) ({ frames := 8, cells := 1, slots := 6, locals := 141 } : Room) D classes cJ cB [.ref q, .int k, .ref qo] [(q, .inr (5, [.ref qp, .ref qs, .ref qb, .ref qc, .int (nI tk)])), (qb, .inr (0, [.ref qw, .int (nI L.length)])), (qw, .inl (cJ, 6250, .inr (.inl w))), (qo, .inl (cJ, 1, .inr (.inl fo)))] sz (fun (r : Int32) (u : Nat → Int64) => (r = nI 0 ∧ ∃ j : Nat, j < L.length ∧ k = nI j ∧ u = vp_updL fo 0 (if cp_g L j = true then 1 else 0)) ∨ (r = nI 1 ∧ ¬ cp_ix k L.length ∧ u = fo)) (fun u => [(q, .inr (5, [.ref qp, .ref qs, .ref qb, .ref qc, .int (nI tk)])), (qb, .inr (0, [.ref qw, .int (nI L.length)])), (qw, .inl (cJ, 6250, .inr (.inl w))), (qo, .inl (cJ, 1, .inr (.inl u)))]) 1 6 := by
  refine ct_ofWH (cc := mb_L_bit) (maxL := 4) (ret := some .int) (hh := [(0, 16, 19, 35)]) (by decide) rfl (Nat.le_of_ble_eq_true rfl) ?_
  intro p e s m below meth c hx hb hr hml hts hown hlocks hin hsz hK hP hD hA hS hZ hex ls hl
  have hw : ∀ w ∈ TB, w.before _ s = true := fun w h => hts w (List.mem_cons_of_mem _ h)
  have hown : s.vm.findClass cn_L = some m.cls := hown
  generalize hAe : va_A [(q, .inr (5, [.ref qp, .ref qs, .ref qb, .ref qc, .int (nI tk)])), (qb, .inr (0, [.ref qw, .int (nI L.length)])), (qw, .inl (cJ, 6250, .inr (.inl w))), (qo, .inl (cJ, 1, .inr (.inl fo)))] sz = A at hD hA hS hZ ⊢
  clear hAe
  have hl : lv_has ls 4 [(0, .ref q), (1, .int k), (2, .ref qo)] := hl
  have hP : va_P D classes [(q, .inr (5, [.ref qp, .ref qs, .ref qb, .ref qc, .int (nI tk)])), (qb, .inr (0, [.ref qw, .int (nI L.length)])), (qw, .inl (cJ, 6250, .inr (.inl w))), (qo, .inl (cJ, 1, .inr (.inl fo)))] s.heap := hP
  refine lv_aload_n hx hb dd_L_bit_0 rfl (lv_at hl 2 rfl) ?_
  refine lv_iconst (v := nI 0) hx hb dd_L_bit_1 (by decide) ?_
  refine lv_aload_n hx hb dd_L_bit_2 rfl (lv_at hl 0 rfl) ?_
  refine lv_iload_n hx hb dd_L_bit_3 rfl (lv_at hl 1 rfl) ?_
  refine cx_behind_i (wc := [(q, .inr (5, [.ref qp, .ref qs, .ref qb, .ref qc, .int (nI tk)])), (qb, .inr (0, [.ref qw, .int (nI L.length)])), (qw, .inl (cJ, 6250, .inr (.inl w)))]) (wr := [(qo, .inl (cJ, 1, .inr (.inl fo)))]) (av := [.ref q, .int k]) (vx_runV (As := [.int k]) (rest := [.int (nI 0), .ref qo]) ⟨hx, hb, hml, hown, hw⟩ (cc_X_bit l hlt D cJ cB q qp qs qb qc tk qw w L k _ hL hR) (cwV 1 hw (tb_V wi_489 wi_490 wi_491 wi_22 wi_492) rfl rfl rfl (by decide +kernel) ⟨Nat.le_of_ble_eq_true rfl, Nat.le_of_ble_eq_true rfl⟩) ⟨ct_blind, ct_recv hK hP (q0 := 0) (ci := 5) rfl rfl, ct_pc hZ hK hP hD hS hA [0, 1, 2] rfl (by decide)⟩ rfl rfl hl.1 rfl (lv_room (Nat.le_of_ble_eq_true rfl)) dd_L_bit_4 ⟨Nat.le_of_ble_eq_true rfl, Nat.le_of_ble_eq_true rfl⟩) hK hP hD hS hA [0, 1, 2] [3] rfl rfl (by decide) (by decide) (fun E ce q9 H locs hpx hP hD hS hce hcv hcl => ?_) (fun r_4 u_4 H locs hw_4 hP hD hS => ?_)
  · skip
    rcases hpx with ⟨rfl, hno⟩
    · skip
      refine vx_catch (own := cn_L) (name := ex_I) hown [] ⟨0, 16, 19, 35⟩ [] (hex.trans rfl) (fun z hz => nomatch hz) (by decide) (by decide) (hw _ wi_472) (va_Nw.use rfl (hZ.2.2.1 (.castable ex_I ex_I) (by decide +kernel))) hce hcv hcl ?_
      have hP : va_P D classes [(qo, .inl (cJ, 1, .inr (.inl fo))), (q, .inr (5, [.ref qp, .ref qs, .ref qb, .ref qc, .int (nI tk)])), (qb, .inr (0, [.ref qw, .int (nI L.length)])), (qw, .inl (cJ, 6250, .inr (.inl w)))] _ := hP
      have hD : va_D A [(qo, .inl (cJ, 1, .inr (.inl fo))), (q, .inr (5, [.ref qp, .ref qs, .ref qb, .ref qc, .int (nI tk)])), (qb, .inr (0, [.ref qw, .int (nI L.length)])), (qw, .inl (cJ, 6250, .inr (.inl w)))] := hD
      refine lv_astore_n (lv' := [(3, .ref q9), (0, .ref q), (1, .int k), (2, .ref qo)]) hx hb dd_L_bit_19 rfl hl (by decide) rfl (fun ls hl => ?_)
      refine lv_iconst (v := nI 1) hx hb dd_L_bit_20 (by decide) ?_
      refine W.widen (k := 1) (n := 6) (Nat.le_of_ble_eq_true rfl) (Nat.le_of_ble_eq_true rfl) ?_
      refine ct_iret (u := fo) hx hb hr hlocks hK (hP.sub [1, 2, 3, 0] rfl) (hD.sub [1, 2, 3, 0] (by decide) rfl) hS rfl ?_ dd_L_bit_21
      exact Or.inr ⟨rfl, hno, rfl⟩
  obtain ⟨j, hj, hk, hr⟩ := hw_4
  subst hr
  have hP : va_P D classes [(qo, .inl (cJ, 1, .inr (.inl fo))), (q, .inr (5, [.ref qp, .ref qs, .ref qb, .ref qc, .int (nI tk)])), (qb, .inr (0, [.ref qw, .int (nI L.length)])), (qw, .inl (cJ, 6250, .inr (.inl w)))] _ := hP
  have hD : va_D A [(qo, .inl (cJ, 1, .inr (.inl fo))), (q, .inr (5, [.ref qp, .ref qs, .ref qb, .ref qc, .int (nI tk)])), (qb, .inr (0, [.ref qw, .int (nI L.length)])), (qw, .inl (cJ, 6250, .inr (.inl w)))] := hD
  refine lv_if_eq (tgt := 14) hx hb dd_L_bit_7 (by decide) (fun c_7 => ?_) (fun c_7 => ?_)
  · skip
    have c_7 : ¬ (cp_g L j = true) := bI_z.mp c_7
    refine lv_lconst (v := 0) hx hb dd_L_bit_14 (by decide) ?_
    refine va_last hx hb hK hP hD hS 0 0 rfl rfl (vp_in_nI (by omega) (by omega)) dd_L_bit_15 (fun H locs hP hD hS => ?_)
    rw [show (nI 0).toNatClampNeg = 0 from nI_clamp (by omega)] at hP hD
    have hP : va_P D classes [(qo, .inl (cJ, 1, .inr (.inl (vp_updL fo 0 0)))), (q, .inr (5, [.ref qp, .ref qs, .ref qb, .ref qc, .int (nI tk)])), (qb, .inr (0, [.ref qw, .int (nI L.length)])), (qw, .inl (cJ, 6250, .inr (.inl w)))] _ := hP
    have hD : va_D A [(qo, .inl (cJ, 1, .inr (.inl (vp_updL fo 0 0)))), (q, .inr (5, [.ref qp, .ref qs, .ref qb, .ref qc, .int (nI tk)])), (qb, .inr (0, [.ref qw, .int (nI L.length)])), (qw, .inl (cJ, 6250, .inr (.inl w)))] := hD
    refine lv_goto (tgt := 22) hx hb dd_L_bit_16 (by decide) ?_
    refine lv_iconst (v := nI 0) hx hb dd_L_bit_22 (by decide) ?_
    refine W.widen (k := 1) (n := 6) (Nat.le_of_ble_eq_true rfl) (Nat.le_of_ble_eq_true rfl) ?_
    refine ct_iret (u := vp_updL fo 0 0) hx hb hr hlocks hK (hP.sub [1, 2, 3, 0] rfl) (hD.sub [1, 2, 3, 0] (by decide) rfl) hS rfl ?_ dd_L_bit_23
    exact Or.inl ⟨rfl, j, hj, hk, by rw [if_neg c_7]⟩
  have c_7 : cp_g L j = true := bI_n.mp c_7
  refine lv_lconst (v := 1) hx hb dd_L_bit_10 (by decide) ?_
  refine lv_goto (tgt := 15) hx hb dd_L_bit_11 (by decide) ?_
  refine va_last hx hb hK hP hD hS 0 0 rfl rfl (vp_in_nI (by omega) (by omega)) dd_L_bit_15 (fun H locs hP hD hS => ?_)
  rw [show (nI 0).toNatClampNeg = 0 from nI_clamp (by omega)] at hP hD
  have hP : va_P D classes [(qo, .inl (cJ, 1, .inr (.inl (vp_updL fo 0 1)))), (q, .inr (5, [.ref qp, .ref qs, .ref qb, .ref qc, .int (nI tk)])), (qb, .inr (0, [.ref qw, .int (nI L.length)])), (qw, .inl (cJ, 6250, .inr (.inl w)))] _ := hP
  have hD : va_D A [(qo, .inl (cJ, 1, .inr (.inl (vp_updL fo 0 1)))), (q, .inr (5, [.ref qp, .ref qs, .ref qb, .ref qc, .int (nI tk)])), (qb, .inr (0, [.ref qw, .int (nI L.length)])), (qw, .inl (cJ, 6250, .inr (.inl w)))] := hD
  refine lv_goto (tgt := 22) hx hb dd_L_bit_16 (by decide) ?_
  refine lv_iconst (v := nI 0) hx hb dd_L_bit_22 (by decide) ?_
  refine W.widen (k := 1) (n := 6) (Nat.le_of_ble_eq_true rfl) (Nat.le_of_ble_eq_true rfl) ?_
  refine ct_iret (u := vp_updL fo 0 1) hx hb hr hlocks hK (hP.sub [1, 2, 3, 0] rfl) (hD.sub [1, 2, 3, 0] (by decide) rfl) hS rfl ?_ dd_L_bit_23
  exact Or.inl ⟨rfl, j, hj, hk, by rw [if_pos c_7]⟩

set_option maxHeartbeats 4000000 in
set_option maxRecDepth 100000 in
theorem cc_L_flip (l : Launch) (hlt : l.stackTraces = false) (D : va_G) (cJ cB : ClassId) (q qp qs qb qc tk : Nat) (qw : Nat) (w : Nat → Int64) (L : List Bool) (k : Int32) (sz : Nat) (hL : L.length ≤ 400000) (hR : cp_Rw w L) : ct_i l my_L_flip (Cond.codeWith my_L_flip mb_L_flip 3 (some .int) [(0, 5, 8, 35)] :: TB) ({ frames := 8, cells := 1, slots := 6, locals := 141 } : Room) D classes cJ cB [.ref q, .int k] [(q, .inr (5, [.ref qp, .ref qs, .ref qb, .ref qc, .int (nI tk)])), (qb, .inr (0, [.ref qw, .int (nI L.length)])), (qw, .inl (cJ, 6250, .inr (.inl w)))] sz (fun (r : Int32) (u : Nat → Int64) => (r = nI 0 ∧ ∃ j : Nat, j < L.length ∧ k = nI j ∧ cp_Rw u (L.set j (!cp_g L j))) ∨ (r = nI 1 ∧ ¬ cp_ix k L.length ∧ u = w)) (fun u => [(q, .inr (5, [.ref qp, .ref qs, .ref qb, .ref qc, .int (nI tk)])), (qb, .inr (0, [.ref qw, .int (nI L.length)])), (qw, .inl (cJ, 6250, .inr (.inl u)))]) 1 6 := by
  refine ct_ofWH (cc := mb_L_flip) (maxL := 3) (ret := some .int) (hh := [(0, 5, 8, 35)]) (by decide) rfl (Nat.le_of_ble_eq_true rfl) ?_
  intro p e s m below meth c hx hb hr hml hts hown hlocks hin hsz hK hP hD hA hS hZ hex ls hl
  have hw : ∀ w ∈ TB, w.before _ s = true := fun w h => hts w (List.mem_cons_of_mem _ h)
  have hown : s.vm.findClass cn_L = some m.cls := hown
  generalize hAe : va_A [(q, .inr (5, [.ref qp, .ref qs, .ref qb, .ref qc, .int (nI tk)])), (qb, .inr (0, [.ref qw, .int (nI L.length)])), (qw, .inl (cJ, 6250, .inr (.inl w)))] sz = A at hD hA hS hZ ⊢
  clear hAe
  have hl : lv_has ls 3 [(0, .ref q), (1, .int k)] := hl
  have hP : va_P D classes [(q, .inr (5, [.ref qp, .ref qs, .ref qb, .ref qc, .int (nI tk)])), (qb, .inr (0, [.ref qw, .int (nI L.length)])), (qw, .inl (cJ, 6250, .inr (.inl w)))] s.heap := hP
  refine lv_aload_n hx hb dd_L_flip_0 rfl (lv_at hl 0 rfl) ?_
  refine lv_iload_n hx hb dd_L_flip_1 rfl (lv_at hl 1 rfl) ?_
  refine cx_behind_v (wc := [(q, .inr (5, [.ref qp, .ref qs, .ref qb, .ref qc, .int (nI tk)])), (qb, .inr (0, [.ref qw, .int (nI L.length)])), (qw, .inl (cJ, 6250, .inr (.inl w)))]) (wr := []) (av := [.ref q, .int k]) (vx_runV (As := [.int k]) (rest := []) ⟨hx, hb, hml, hown, hw⟩ (cc_X_flip l hlt D cJ cB q qp qs qb qc tk qw w L k _ hL hR) (cwV 1 hw (tb_V wi_504 wi_505 wi_506 wi_22 wi_507) rfl rfl rfl (by decide +kernel) ⟨Nat.le_of_ble_eq_true rfl, Nat.le_of_ble_eq_true rfl⟩) ⟨ct_blind, ct_recv hK hP (q0 := 0) (ci := 5) rfl rfl, ct_pc hZ hK hP hD hS hA [0, 1, 2] rfl (by decide)⟩ rfl rfl hl.1 rfl (lv_room (Nat.le_of_ble_eq_true rfl)) dd_L_flip_2 ⟨Nat.le_of_ble_eq_true rfl, Nat.le_of_ble_eq_true rfl⟩) hK hP hD hS hA [0, 1, 2] [] rfl rfl (by decide) (by decide) (fun E ce q9 H locs hpx hP hD hS hce hcv hcl => ?_) (fun u_2 H locs hw_2 hP hD hS => ?_)
  · skip
    rcases hpx with ⟨rfl, hno⟩
    · skip
      refine vx_catch (own := cn_L) (name := ex_I) hown [] ⟨0, 5, 8, 35⟩ [] (hex.trans rfl) (fun z hz => nomatch hz) (by decide) (by decide) (hw _ wi_472) (va_Nw.use rfl (hZ.2.2.1 (.castable ex_I ex_I) (by decide +kernel))) hce hcv hcl ?_
      have hP : va_P D classes [(q, .inr (5, [.ref qp, .ref qs, .ref qb, .ref qc, .int (nI tk)])), (qb, .inr (0, [.ref qw, .int (nI L.length)])), (qw, .inl (cJ, 6250, .inr (.inl w)))] _ := hP
      have hD : va_D A [(q, .inr (5, [.ref qp, .ref qs, .ref qb, .ref qc, .int (nI tk)])), (qb, .inr (0, [.ref qw, .int (nI L.length)])), (qw, .inl (cJ, 6250, .inr (.inl w)))] := hD
      refine lv_astore_n (lv' := [(2, .ref q9), (0, .ref q), (1, .int k)]) hx hb dd_L_flip_8 rfl hl (by decide) rfl (fun ls hl => ?_)
      refine lv_iconst (v := nI 1) hx hb dd_L_flip_9 (by decide) ?_
      refine W.widen (k := 1) (n := 6) (Nat.le_of_ble_eq_true rfl) (Nat.le_of_ble_eq_true rfl) ?_
      refine ct_iret (u := w) hx hb hr hlocks hK hP hD hS rfl ?_ dd_L_flip_10
      exact Or.inr ⟨rfl, hno, rfl⟩
  have hP : va_P D classes [(q, .inr (5, [.ref qp, .ref qs, .ref qb, .ref qc, .int (nI tk)])), (qb, .inr (0, [.ref qw, .int (nI L.length)])), (qw, .inl (cJ, 6250, .inr (.inl u_2)))] _ := hP
  have hD : va_D A [(q, .inr (5, [.ref qp, .ref qs, .ref qb, .ref qc, .int (nI tk)])), (qb, .inr (0, [.ref qw, .int (nI L.length)])), (qw, .inl (cJ, 6250, .inr (.inl u_2)))] := hD
  refine lv_goto (tgt := 11) hx hb dd_L_flip_5 (by decide) ?_
  refine lv_iconst (v := nI 0) hx hb dd_L_flip_11 (by decide) ?_
  refine W.widen (k := 1) (n := 6) (Nat.le_of_ble_eq_true rfl) (Nat.le_of_ble_eq_true rfl) ?_
  refine ct_iret (u := u_2) hx hb hr hlocks hK hP hD hS rfl ?_ dd_L_flip_12
  exact Or.inl ⟨rfl, hw_2⟩

set_option maxHeartbeats 4000000 in
set_option maxRecDepth 100000 in
theorem cc_L_put (l : Launch) (hlt : l.stackTraces = false) (D : va_G) (cJ cB : ClassId) (q qp qs qb qc tk : Nat) (qw : Nat) (w : Nat → Int64) (L : List Bool) (v : Int64) (k : Int32) (qo : Nat) (fo : Nat → Int64) (sz : Nat) (hL : L.length ≤ 400000) (hR : cp_Rw w L) : ct_i l my_L_put (Cond.codeWith my_L_put mb_L_put 6 (some .int) [(0, 11, 14, 13), (0, 11, 18, 15)] :: TB) ({ frames := 7, cells := 1, slots := 6, locals := 113 } : Room) D classes cJ cB [.ref q, .long v, .int k, .ref qo] [(q, .inr (5, [.ref qp, .ref qs, .ref qb, .ref qc, .int (nI tk)])), (qb, .inr (0, [.ref qw, .int (nI L.length)])), (qw, .inl (cJ, 6250, .inr (.inl w))), (qo, .inl (cJ, 1, .inr (.inl fo)))] sz (fun (r : Int32) (u : Nat × (Nat → Int64) × (Nat → Int64)) => (r = nI 0 ∧ ∃ j : Nat, j ≤ 64 ∧ k = nI j ∧ cp_fit v j ∧ L.length + j ≤ 400000 ∧ u.1 = (L ++ cp_bl v j).length ∧ cp_Rw u.2.1 (L ++ cp_bl v j) ∧ u.2.2 = vp_updL fo 0 (lN (L ++ cp_bl v j).length)) ∨ (r = nI 1 ∧ ¬ cp_okp k v ∧ u = (L.length, w, fo)) ∨ (r = nI 2 ∧ (∃ j : Nat, j ≤ 64 ∧ k = nI j ∧ cp_fit v j ∧ 400000 < L.length + j) ∧ u = (L.length, w, fo))) (fun u => [(q, .inr (5, [.ref qp, .ref qs, .ref qb, .ref qc, .int (nI tk)])), (qb, .inr (0, [.ref qw, .int (nI u.1)])), (qw, .inl (cJ, 6250, .inr (.inl u.2.1))), (qo, .inl (cJ, 1, .inr (.inl u.2.2)))]) 1 6 := by
  refine ct_ofWH (cc := mb_L_put) (maxL := 6) (ret := some .int) (hh := [(0, 11, 14, 13), (0, 11, 18, 15)]) (by decide) rfl (Nat.le_of_ble_eq_true rfl) ?_
  intro p e s m below meth c hx hb hr hml hts hown hlocks hin hsz hK hP hD hA hS hZ hex ls hl
  have hw : ∀ w ∈ TB, w.before _ s = true := fun w h => hts w (List.mem_cons_of_mem _ h)
  have hown : s.vm.findClass cn_L = some m.cls := hown
  generalize hAe : va_A [(q, .inr (5, [.ref qp, .ref qs, .ref qb, .ref qc, .int (nI tk)])), (qb, .inr (0, [.ref qw, .int (nI L.length)])), (qw, .inl (cJ, 6250, .inr (.inl w))), (qo, .inl (cJ, 1, .inr (.inl fo)))] sz = A at hD hA hS hZ ⊢
  clear hAe
  have hl : lv_has ls 6 [(0, .ref q), (1, .long v), (3, .int k), (4, .ref qo)] := hl
  have hP : va_P D classes [(q, .inr (5, [.ref qp, .ref qs, .ref qb, .ref qc, .int (nI tk)])), (qb, .inr (0, [.ref qw, .int (nI L.length)])), (qw, .inl (cJ, 6250, .inr (.inl w))), (qo, .inl (cJ, 1, .inr (.inl fo)))] s.heap := hP
  refine lv_aload hx hb dd_L_put_0 (lv_at hl 3 rfl) ?_
  refine lv_iconst (v := nI 0) hx hb dd_L_put_2 (by decide) ?_
  refine lv_aload_n hx hb dd_L_put_3 rfl (lv_at hl 0 rfl) ?_
  refine lv_lload_n hx hb dd_L_put_4 rfl (lv_at hl 1 rfl) ?_
  refine lv_iload_n hx hb dd_L_put_5 rfl (lv_at hl 2 rfl) ?_
  refine cx_behind_i (wc := [(q, .inr (5, [.ref qp, .ref qs, .ref qb, .ref qc, .int (nI tk)])), (qb, .inr (0, [.ref qw, .int (nI L.length)])), (qw, .inl (cJ, 6250, .inr (.inl w)))]) (wr := [(qo, .inl (cJ, 1, .inr (.inl fo)))]) (av := [.ref q, .long v, .int k]) (vx_runV (As := [.long v, .int k]) (rest := [.int (nI 0), .ref qo]) ⟨hx, hb, hml, hown, hw⟩ (cc_X_put l hlt D cJ cB q qp qs qb qc tk qw w L v k _ hL hR) (cwV 2 hw (tb_V wi_515 wi_516 wi_517 wi_22 wi_518) rfl rfl rfl (by decide +kernel) ⟨Nat.le_of_ble_eq_true rfl, Nat.le_of_ble_eq_true rfl⟩) ⟨ct_blind, ct_recv hK hP (q0 := 0) (ci := 5) rfl rfl, ct_pc hZ hK hP hD hS hA [0, 1, 2] rfl (by decide)⟩ rfl rfl hl.1 rfl (lv_room (Nat.le_of_ble_eq_true rfl)) dd_L_put_6 ⟨Nat.le_of_ble_eq_true rfl, Nat.le_of_ble_eq_true rfl⟩) hK hP hD hS hA [0, 1, 2] [3] rfl rfl (by decide) (by decide) (fun E ce q9 H locs hpx hP hD hS hce hcv hcl => ?_) (fun r_6 u_6 H locs hw_6 hP hD hS => ?_)
  · skip
    rcases hpx with ⟨rfl, hno⟩ | ⟨rfl, hfull⟩
    · skip
      refine vx_catch (own := cn_L) (name := ex_A) hown [] ⟨0, 11, 14, 13⟩ [⟨0, 11, 18, 15⟩] (hex.trans rfl) (fun z hz => nomatch hz) (by decide) (by decide) (hw _ wi_99) (va_Nw.use rfl (hZ.2.2.1 (.castable ex_A ex_A) (by decide +kernel))) hce hcv hcl ?_
      have hP : va_P D classes [(qo, .inl (cJ, 1, .inr (.inl fo))), (q, .inr (5, [.ref qp, .ref qs, .ref qb, .ref qc, .int (nI tk)])), (qb, .inr (0, [.ref qw, .int (nI L.length)])), (qw, .inl (cJ, 6250, .inr (.inl w)))] _ := hP
      have hD : va_D A [(qo, .inl (cJ, 1, .inr (.inl fo))), (q, .inr (5, [.ref qp, .ref qs, .ref qb, .ref qc, .int (nI tk)])), (qb, .inr (0, [.ref qw, .int (nI L.length)])), (qw, .inl (cJ, 6250, .inr (.inl w)))] := hD
      refine lv_astore (lv' := [(5, .ref q9), (0, .ref q), (1, .long v), (3, .int k), (4, .ref qo)]) hx hb dd_L_put_14 hl (by decide) rfl (fun ls hl => ?_)
      refine lv_iconst (v := nI 1) hx hb dd_L_put_16 (by decide) ?_
      refine W.widen (k := 1) (n := 6) (Nat.le_of_ble_eq_true rfl) (Nat.le_of_ble_eq_true rfl) ?_
      refine ct_iret (u := (L.length, w, fo)) hx hb hr hlocks hK (hP.sub [1, 2, 3, 0] rfl) (hD.sub [1, 2, 3, 0] (by decide) rfl) hS rfl ?_ dd_L_put_17
      exact Or.inr (Or.inl ⟨rfl, hno, rfl⟩)
    · skip
      refine vx_catch (own := cn_L) (name := ex_S) hown [⟨0, 11, 14, 13⟩] ⟨0, 11, 18, 15⟩ [] (hex.trans rfl) (fun z hz => by rw [List.mem_singleton] at hz; subst hz; exact Or.inr ⟨by decide, ex_A, hw _ wi_99, hZ.2.2.2.2⟩) (by decide) (by decide) (hw _ wi_100) (va_Nw.use rfl (hZ.2.2.1 (.castable ex_S ex_S) (by decide +kernel))) hce hcv hcl ?_
      have hP : va_P D classes [(qo, .inl (cJ, 1, .inr (.inl fo))), (q, .inr (5, [.ref qp, .ref qs, .ref qb, .ref qc, .int (nI tk)])), (qb, .inr (0, [.ref qw, .int (nI L.length)])), (qw, .inl (cJ, 6250, .inr (.inl w)))] _ := hP
      have hD : va_D A [(qo, .inl (cJ, 1, .inr (.inl fo))), (q, .inr (5, [.ref qp, .ref qs, .ref qb, .ref qc, .int (nI tk)])), (qb, .inr (0, [.ref qw, .int (nI L.length)])), (qw, .inl (cJ, 6250, .inr (.inl w)))] := hD
      refine lv_astore (lv' := [(5, .ref q9), (0, .ref q), (1, .long v), (3, .int k), (4, .ref qo)]) hx hb dd_L_put_18 hl (by decide) rfl (fun ls hl => ?_)
      refine lv_iconst (v := nI 2) hx hb dd_L_put_20 (by decide) ?_
      refine W.widen (k := 1) (n := 6) (Nat.le_of_ble_eq_true rfl) (Nat.le_of_ble_eq_true rfl) ?_
      refine ct_iret (u := (L.length, w, fo)) hx hb hr hlocks hK (hP.sub [1, 2, 3, 0] rfl) (hD.sub [1, 2, 3, 0] (by decide) rfl) hS rfl ?_ dd_L_put_21
      exact Or.inr (Or.inr ⟨rfl, hfull, rfl⟩)
  obtain ⟨j, hj, hk, hfit, hle, hr, hu1, hu2⟩ := hw_6
  obtain ⟨n1, w1⟩ := u_6
  have hlen : (L ++ cp_bl v j).length = L.length + j := by rw [List.length_append, cp_bl_len]
  have hu1 : n1 = _ := hu1
  rw [← hlen] at hr hu1
  subst hr hu1
  have hP : va_P D classes [(qo, .inl (cJ, 1, .inr (.inl fo))), (q, .inr (5, [.ref qp, .ref qs, .ref qb, .ref qc, .int (nI tk)])), (qb, .inr (0, [.ref qw, .int (nI ((L ++ cp_bl v j).length))])), (qw, .inl (cJ, 6250, .inr (.inl w1)))] _ := hP
  have hD : va_D A [(qo, .inl (cJ, 1, .inr (.inl fo))), (q, .inr (5, [.ref qp, .ref qs, .ref qb, .ref qc, .int (nI tk)])), (qb, .inr (0, [.ref qw, .int (nI ((L ++ cp_bl v j).length))])), (qw, .inl (cJ, 6250, .inr (.inl w1)))] := hD
  refine lv_i2l (v := (nI ((L ++ cp_bl v j).length)).toInt64) hx hb dd_L_put_9 rfl ?_
  refine ct_topl (y := lN ((L ++ cp_bl v j).length)) (nI_l (by omega)) ?_
  refine va_last hx hb hK hP hD hS 0 0 rfl rfl (vp_in_nI (by omega) (by omega)) dd_L_put_10 (fun H locs hP hD hS => ?_)
  rw [show (nI 0).toNatClampNeg = 0 from nI_clamp (by omega)] at hP hD
  have hP : va_P D classes [(qo, .inl (cJ, 1, .inr (.inl (vp_updL fo 0 (lN ((L ++ cp_bl v j).length)))))), (q, .inr (5, [.ref qp, .ref qs, .ref qb, .ref qc, .int (nI tk)])), (qb, .inr (0, [.ref qw, .int (nI ((L ++ cp_bl v j).length))])), (qw, .inl (cJ, 6250, .inr (.inl w1)))] _ := hP
  have hD : va_D A [(qo, .inl (cJ, 1, .inr (.inl (vp_updL fo 0 (lN ((L ++ cp_bl v j).length)))))), (q, .inr (5, [.ref qp, .ref qs, .ref qb, .ref qc, .int (nI tk)])), (qb, .inr (0, [.ref qw, .int (nI ((L ++ cp_bl v j).length))])), (qw, .inl (cJ, 6250, .inr (.inl w1)))] := hD
  refine lv_goto (tgt := 22) hx hb dd_L_put_11 (by decide) ?_
  refine lv_iconst (v := nI 0) hx hb dd_L_put_22 (by decide) ?_
  refine W.widen (k := 1) (n := 6) (Nat.le_of_ble_eq_true rfl) (Nat.le_of_ble_eq_true rfl) ?_
  refine ct_iret (u := ((L ++ cp_bl v j).length, w1, vp_updL fo 0 (lN (L ++ cp_bl v j).length))) hx hb hr hlocks hK (hP.sub [1, 2, 3, 0] rfl) (hD.sub [1, 2, 3, 0] (by decide) rfl) hS rfl ?_ dd_L_put_23
  exact Or.inl ⟨rfl, j, hj, hk, hfit, hle, rfl, hu2, rfl⟩

set_option maxHeartbeats 4000000 in
set_option maxRecDepth 100000 in
theorem cc_L_cut (l : Launch) (hlt : l.stackTraces = false) (D : va_G) (cJ cB : ClassId) (q qp qs qb qc tk : Nat) (qw : Nat) (w : Nat → Int64) (L : List Bool) (k : Int32) (sz : Nat) (hL : L.length ≤ 400000) (hR : cp_Rw w L) : ct_i l my_L_cut (Cond.codeWith my_L_cut mb_L_cut 3 (some .int) [(0, 5, 8, 13)] :: TB) ({ frames := 7, cells := 1, slots := 6, locals := 111 } : Room) D classes cJ cB [.ref q, .int k] [(q, .inr (5, [.ref qp, .ref qs, .ref qb, .ref qc, .int (nI tk)])), (qb, .inr (0, [.ref qw, .int (nI L.length)])), (qw, .inl (cJ, 6250, .inr (.inl w)))] sz (fun (r : Int32) (u : Nat) => (r = nI 0 ∧ u ≤ L.length ∧ k = nI u) ∨ (r = nI 1 ∧ ¬ cp_ix k (L.length + 1) ∧ u = L.length)) (fun u => [(q, .inr (5, [.ref qp, .ref qs, .ref qb, .ref qc, .int (nI tk)])), (qb, .inr (0, [.ref qw, .int (nI u)])), (qw, .inl (cJ, 6250, .inr (.inl w)))]) 1 6 := by
  refine ct_ofWH (cc := mb_L_cut) (maxL := 3) (ret := some .int) (hh := [(0, 5, 8, 13)]) (by decide) rfl (Nat.le_of_ble_eq_true rfl) ?_
  intro p e s m below meth c hx hb hr hml hts hown hlocks hin hsz hK hP hD hA hS hZ hex ls hl
  have hw : ∀ w ∈ TB, w.before _ s = true := fun w h => hts w (List.mem_cons_of_mem _ h)
  have hown : s.vm.findClass cn_L = some m.cls := hown
  generalize hAe : va_A [(q, .inr (5, [.ref qp, .ref qs, .ref qb, .ref qc, .int (nI tk)])), (qb, .inr (0, [.ref qw, .int (nI L.length)])), (qw, .inl (cJ, 6250, .inr (.inl w)))] sz = A at hD hA hS hZ ⊢
  clear hAe
  have hl : lv_has ls 3 [(0, .ref q), (1, .int k)] := hl
  have hP : va_P D classes [(q, .inr (5, [.ref qp, .ref qs, .ref qb, .ref qc, .int (nI tk)])), (qb, .inr (0, [.ref qw, .int (nI L.length)])), (qw, .inl (cJ, 6250, .inr (.inl w)))] s.heap := hP
  refine lv_aload_n hx hb dd_L_cut_0 rfl (lv_at hl 0 rfl) ?_
  refine lv_iload_n hx hb dd_L_cut_1 rfl (lv_at hl 1 rfl) ?_
  refine cx_behind_v (wc := [(q, .inr (5, [.ref qp, .ref qs, .ref qb, .ref qc, .int (nI tk)])), (qb, .inr (0, [.ref qw, .int (nI L.length)])), (qw, .inl (cJ, 6250, .inr (.inl w)))]) (wr := []) (av := [.ref q, .int k]) (vx_runV (As := [.int k]) (rest := []) ⟨hx, hb, hml, hown, hw⟩ (cc_X_cut l hlt D cJ cB q qp qs qb qc tk qw w L k _ hL hR) (cwV 1 hw (tb_V wi_525 wi_526 wi_527 wi_22 wi_528) rfl rfl rfl (by decide +kernel) ⟨Nat.le_of_ble_eq_true rfl, Nat.le_of_ble_eq_true rfl⟩) ⟨ct_blind, ct_recv hK hP (q0 := 0) (ci := 5) rfl rfl, ct_pc hZ hK hP hD hS hA [0, 1, 2] rfl (by decide)⟩ rfl rfl hl.1 rfl (lv_room (Nat.le_of_ble_eq_true rfl)) dd_L_cut_2 ⟨Nat.le_of_ble_eq_true rfl, Nat.le_of_ble_eq_true rfl⟩) hK hP hD hS hA [0, 1, 2] [] rfl rfl (by decide) (by decide) (fun E ce q9 H locs hpx hP hD hS hce hcv hcl => ?_) (fun u_2 H locs hw_2 hP hD hS => ?_)
  · skip
    rcases hpx with ⟨rfl, hno⟩
    · skip
      refine vx_catch (own := cn_L) (name := ex_A) hown [] ⟨0, 5, 8, 13⟩ [] (hex.trans rfl) (fun z hz => nomatch hz) (by decide) (by decide) (hw _ wi_99) (va_Nw.use rfl (hZ.2.2.1 (.castable ex_A ex_A) (by decide +kernel))) hce hcv hcl ?_
      have hP : va_P D classes [(q, .inr (5, [.ref qp, .ref qs, .ref qb, .ref qc, .int (nI tk)])), (qb, .inr (0, [.ref qw, .int (nI L.length)])), (qw, .inl (cJ, 6250, .inr (.inl w)))] _ := hP
      have hD : va_D A [(q, .inr (5, [.ref qp, .ref qs, .ref qb, .ref qc, .int (nI tk)])), (qb, .inr (0, [.ref qw, .int (nI L.length)])), (qw, .inl (cJ, 6250, .inr (.inl w)))] := hD
      refine lv_astore_n (lv' := [(2, .ref q9), (0, .ref q), (1, .int k)]) hx hb dd_L_cut_8 rfl hl (by decide) rfl (fun ls hl => ?_)
      refine lv_iconst (v := nI 1) hx hb dd_L_cut_9 (by decide) ?_
      refine W.widen (k := 1) (n := 6) (Nat.le_of_ble_eq_true rfl) (Nat.le_of_ble_eq_true rfl) ?_
      refine ct_iret (u := L.length) hx hb hr hlocks hK hP hD hS rfl ?_ dd_L_cut_10
      exact Or.inr ⟨rfl, hno, rfl⟩
  have hP : va_P D classes [(q, .inr (5, [.ref qp, .ref qs, .ref qb, .ref qc, .int (nI tk)])), (qb, .inr (0, [.ref qw, .int (nI u_2)])), (qw, .inl (cJ, 6250, .inr (.inl w)))] _ := hP
  have hD : va_D A [(q, .inr (5, [.ref qp, .ref qs, .ref qb, .ref qc, .int (nI tk)])), (qb, .inr (0, [.ref qw, .int (nI u_2)])), (qw, .inl (cJ, 6250, .inr (.inl w)))] := hD
  refine lv_goto (tgt := 11) hx hb dd_L_cut_5 (by decide) ?_
  refine lv_iconst (v := nI 0) hx hb dd_L_cut_11 (by decide) ?_
  refine W.widen (k := 1) (n := 6) (Nat.le_of_ble_eq_true rfl) (Nat.le_of_ble_eq_true rfl) ?_
  refine ct_iret (u := u_2) hx hb hr hlocks hK hP hD hS rfl ?_ dd_L_cut_12
  exact Or.inl ⟨rfl, hw_2⟩
