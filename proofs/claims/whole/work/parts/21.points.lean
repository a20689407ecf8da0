set_option maxHeartbeats 4000000 in
set_option maxRecDepth 100000 in
theorem cc_P_init (l : Launch) (D : va_G) (cJ cB : ClassId) (q : Nat) (sz : Nat) : ct_v l my_P_init (Cond.code my_P_init mb_P_init 1 none :: TB) ({ frames := 1, cells := 2, slots := 6000, locals := 12 } : Room) D classes cJ cB [.ref q] [(q, .inr (2, [.null, .null, .int 0]))] sz (fun (u : Nat × Nat) => True) (fun u => [(q, .inr (2, [.ref u.1, .ref u.2, .int (nI 0)])), (u.1, .inl (cJ, 3000, .inr (.inl (fun _ => 0)))), (u.2, .inl (cJ, 3000, .inr (.inl (fun _ => 0))))]) 2 6000 := by
  refine ct_ofW (cc := mb_P_init) (maxL := 1) (ret := none) (by decide) rfl (Nat.le_of_ble_eq_true rfl) ?_
  intro p e s m below meth c hx hb hr hml hts hown hlocks hin hsz hK hP hD hA hS hZ ls hl
  have hw : ∀ w ∈ TB, w.before _ s = true := fun w h => hts w (List.mem_cons_of_mem _ h)
  have hown : s.vm.findClass cn_P = some m.cls := hown
  have hin : meth.name = "<init>" := hin
  generalize hAe : va_A [(q, .inr (2, [.null, .null, .int 0]))] sz = A at hD hA hS hZ ⊢
  clear hAe
  have hl : lv_has ls 1 [(0, .ref q)] := hl
  have hP : va_P D classes [(q, .inr (2, [.null, .null, .int 0]))] s.heap := hP
  refine lv_aload_n hx hb dd_P_init_0 rfl (lv_at hl 0 rfl) ?_
  refine W.objInit hx hb hown (hw _ wi_51) (hw _ wi_44) (hw _ wi_obj) rfl (by rw [hml]; exact hl.1) rfl dd_P_init_1 (Nat.le_of_ble_eq_true rfl) (Nat.le_of_ble_eq_true rfl) ?_
  refine W.eq (g2 := F0 m 4 ls []) rfl ?_
  refine lv_aload_n hx hb dd_P_init_4 rfl (lv_at hl 0 rfl) ?_
  refine lv_sipush (v := nI 3000) hx hb dd_P_init_5 (by decide) ?_
  refine ct_newa (atype := .long) (ty := .long) (N' := 3000) (a0 := (3000, .inr (.inl (fun _ => 0)))) hx hb (hw _ wi_62) rfl hK hP hD hS hA (ct_J hK) (fun cA => vp_cell_l cA _ _) (nI_pos (by decide)) (nI_clamp (by decide)) (by decide) (Nat.le_of_ble_eq_true rfl) (Nat.le_of_ble_eq_true rfl) dd_P_init_8 (fun qt H hP hD hS => ?_)
  have hP : va_P D classes [(q, .inr (2, [.null, .null, .int 0])), (qt, .inl (cJ, 3000, .inr (.inl (fun _ => 0))))] _ := hP
  have hD : va_D A [(q, .inr (2, [.null, .null, .int 0])), (qt, .inl (cJ, 3000, .inr (.inl (fun _ => 0))))] := hD
  refine va_putF (D := D) (ci := 2) (v := .ref qt) (ty := .array .long) (C := cn_P) (T := cf_P) (N := 3) hx hb hw in_P ty_P to_P nn_P hown hK hP hD hS 0 rfl rfl 0 (by decide) (hw _ wi_52) (fun _ h9 => h9) rfl hin rfl (by decide +kernel) (rfl) (rfl) (Nat.le_of_ble_eq_true rfl) dd_P_init_10 (fun H locs hP hD hS => ?_)
  have hP : va_P D classes [(q, .inr (2, [.ref qt, .null, .int 0])), (qt, .inl (cJ, 3000, .inr (.inl (fun _ => 0))))] _ := hP
  have hD : va_D A [(q, .inr (2, [.ref qt, .null, .int 0])), (qt, .inl (cJ, 3000, .inr (.inl (fun _ => 0))))] := hD
  refine lv_aload_n hx hb dd_P_init_13 rfl (lv_at hl 0 rfl) ?_
  refine lv_sipush (v := nI 3000) hx hb dd_P_init_14 (by decide) ?_
  refine ct_newa (atype := .long) (ty := .long) (N' := 3000) (a0 := (3000, .inr (.inl (fun _ => 0)))) hx hb (hw _ wi_62) rfl hK hP hD hS hA (ct_J hK) (fun cA => vp_cell_l cA _ _) (nI_pos (by decide)) (nI_clamp (by decide)) (by decide) (Nat.le_of_ble_eq_true rfl) (Nat.le_of_ble_eq_true rfl) dd_P_init_17 (fun qv H hP hD hS => ?_)
  have hP : va_P D classes [(q, .inr (2, [.ref qt, .null, .int 0])), (qt, .inl (cJ, 3000, .inr (.inl (fun _ => 0)))), (qv, .inl (cJ, 3000, .inr (.inl (fun _ => 0))))] _ := hP
  have hD : va_D A [(q, .inr (2, [.ref qt, .null, .int 0])), (qt, .inl (cJ, 3000, .inr (.inl (fun _ => 0)))), (qv, .inl (cJ, 3000, .inr (.inl (fun _ => 0))))] := hD
  refine va_putF (D := D) (ci := 2) (v := .ref qv) (ty := .array .long) (C := cn_P) (T := cf_P) (N := 3) hx hb hw in_P ty_P to_P nn_P hown hK hP hD hS 0 rfl rfl 1 (by decide) (hw _ wi_53) (fun _ h9 => h9) rfl hin rfl (by decide +kernel) (rfl) (rfl) (Nat.le_of_ble_eq_true rfl) dd_P_init_19 (fun H locs hP hD hS => ?_)
  have hP : va_P D classes [(q, .inr (2, [.ref qt, .ref qv, .int 0])), (qt, .inl (cJ, 3000, .inr (.inl (fun _ => 0)))), (qv, .inl (cJ, 3000, .inr (.inl (fun _ => 0))))] _ := hP
  have hD : va_D A [(q, .inr (2, [.ref qt, .ref qv, .int 0])), (qt, .inl (cJ, 3000, .inr (.inl (fun _ => 0)))), (qv, .inl (cJ, 3000, .inr (.inl (fun _ => 0))))] := hD
  refine lv_aload_n hx hb dd_P_init_22 rfl (lv_at hl 0 rfl) ?_
  refine lv_iconst (v := nI 0) hx hb dd_P_init_23 (by decide) ?_
  refine va_put (D := D) (ci := 2) (v := .int (nI 0)) (ty := .int) (C := cn_P) (T := cf_P) (N := 3) hx hb hw in_P ty_P to_P nn_P hown hK hP hD hS 0 rfl rfl 2 (by decide) (hw _ wi_54) (fun _ h9 => h9) rfl (by decide +kernel) (rfl) (rfl) (Nat.le_of_ble_eq_true rfl) dd_P_init_24 (fun H locs hP hD hS => ?_)
  have hP : va_P D classes [(q, .inr (2, [.ref qt, .ref qv, .int (nI 0)])), (qt, .inl (cJ, 3000, .inr (.inl (fun _ => 0)))), (qv, .inl (cJ, 3000, .inr (.inl (fun _ => 0))))] _ := hP
  have hD : va_D A [(q, .inr (2, [.ref qt, .ref qv, .int (nI 0)])), (qt, .inl (cJ, 3000, .inr (.inl (fun _ => 0)))), (qv, .inl (cJ, 3000, .inr (.inl (fun _ => 0))))] := hD
  refine ct_vret (u := (qt, qv)) hx hb hr hlocks hK hP hD hS rfl ?_ dd_P_init_27
  trivial

set_option maxHeartbeats 4000000 in
set_option maxRecDepth 100000 in
theorem cc_P_size (l : Launch) (D : va_G) (cJ cB : ClassId) (q qt qv : Nat) (n : Nat) (f g : Nat → Int64) (sz : Nat) (h1 : n ≤ 3000) : ct_i l my_P_size (Cond.code my_P_size mb_P_size 1 (some .int) :: TB) ({ frames := 0, cells := 0, slots := 0, locals := 0 } : Room) D classes cJ cB [.ref q] [(q, .inr (2, [.ref qt, .ref qv, .int (nI n)])), (qt, .inl (cJ, 3000, .inr (.inl f))), (qv, .inl (cJ, 3000, .inr (.inl g)))] sz (fun (r : Int32) (u : Unit) => r = nI n) (fun u => [(q, .inr (2, [.ref qt, .ref qv, .int (nI n)])), (qt, .inl (cJ, 3000, .inr (.inl f))), (qv, .inl (cJ, 3000, .inr (.inl g)))]) 0 0 := by
  refine ct_ofW (cc := mb_P_size) (maxL := 1) (ret := some .int) (by decide) rfl (Nat.le_of_ble_eq_true rfl) ?_
  intro p e s m below meth c hx hb hr hml hts hown hlocks hin hsz hK hP hD hA hS hZ ls hl
  have hw : ∀ w ∈ TB, w.before _ s = true := fun w h => hts w (List.mem_cons_of_mem _ h)
  have hown : s.vm.findClass cn_P = some m.cls := hown
  have hin : meth.name = "size" := hin
  generalize hAe : va_A [(q, .inr (2, [.ref qt, .ref qv, .int (nI n)])), (qt, .inl (cJ, 3000, .inr (.inl f))), (qv, .inl (cJ, 3000, .inr (.inl g)))] sz = A at hD hA hS hZ ⊢
  clear hAe
  have hl : lv_has ls 1 [(0, .ref q)] := hl
  have hP : va_P D classes [(q, .inr (2, [.ref qt, .ref qv, .int (nI n)])), (qt, .inl (cJ, 3000, .inr (.inl f))), (qv, .inl (cJ, 3000, .inr (.inl g)))] s.heap := hP
  refine lv_aload_n hx hb dd_P_size_0 rfl (lv_at hl 0 rfl) ?_
  refine va_get (D := D) (ci := 2) (C := cn_P) (T := cf_P) (N := 3) hx hb hw in_P hown hK hP 0 rfl rfl 2 (by decide) (hw _ wi_54) (fun _ h9 => h9) rfl dd_P_size_1 ?_
  refine ct_iret (u := ()) hx hb hr hlocks hK hP hD hS rfl ?_ dd_P_size_4
  rfl

set_option maxHeartbeats 4000000 in
set_option maxRecDepth 100000 in
theorem cc_P_latestTime (l : Launch) (D : va_G) (cJ cB : ClassId) (q qt qv : Nat) (n : Nat) (f g : Nat → Int64) (sz : Nat) (h1 : n ≤ 3000) : ct_l l my_P_latestTime (Cond.code my_P_latestTime mb_P_latestTime 1 (some .long) :: TB) ({ frames := 0, cells := 0, slots := 0, locals := 0 } : Room) D classes cJ cB [.ref q] [(q, .inr (2, [.ref qt, .ref qv, .int (nI n)])), (qt, .inl (cJ, 3000, .inr (.inl f))), (qv, .inl (cJ, 3000, .inr (.inl g)))] sz (fun (r : Int64) (u : Unit) => r = if n = 0 then -1 else f (n - 1)) (fun u => [(q, .inr (2, [.ref qt, .ref qv, .int (nI n)])), (qt, .inl (cJ, 3000, .inr (.inl f))), (qv, .inl (cJ, 3000, .inr (.inl g)))]) 0 0 := by
  refine ct_ofW (cc := mb_P_latestTime) (maxL := 1) (ret := some .long) (by decide) rfl (Nat.le_of_ble_eq_true rfl) ?_
  intro p e s m below meth c hx hb hr hml hts hown hlocks hin hsz hK hP hD hA hS hZ ls hl
  have hw : ∀ w ∈ TB, w.before _ s = true := fun w h => hts w (List.mem_cons_of_mem _ h)
  have hown : s.vm.findClass cn_P = some m.cls := hown
  have hin : meth.name = "latestTime" := hin
  generalize hAe : va_A [(q, .inr (2, [.ref qt, .ref qv, .int (nI n)])), (qt, .inl (cJ, 3000, .inr (.inl f))), (qv, .inl (cJ, 3000, .inr (.inl g)))] sz = A at hD hA hS hZ ⊢
  clear hAe
  have hl : lv_has ls 1 [(0, .ref q)] := hl
  have hP : va_P D classes [(q, .inr (2, [.ref qt, .ref qv, .int (nI n)])), (qt, .inl (cJ, 3000, .inr (.inl f))), (qv, .inl (cJ, 3000, .inr (.inl g)))] s.heap := hP
  refine lv_aload_n hx hb dd_P_latestTime_0 rfl (lv_at hl 0 rfl) ?_
  refine va_get (D := D) (ci := 2) (C := cn_P) (T := cf_P) (N := 3) hx hb hw in_P hown hK hP 0 rfl rfl 2 (by decide) (hw _ wi_54) (fun _ h9 => h9) rfl dd_P_latestTime_1 ?_
  refine lv_if_ne (tgt := 13) hx hb dd_P_latestTime_4 (by decide) (fun c_4 => ?_) (fun c_4 => ?_)
  · skip
    have c_4 : ¬ (n = 0) := fun z => c_4 ((ct_zeq (by omega)).mpr z)
    refine lv_aload_n hx hb dd_P_latestTime_13 rfl (lv_at hl 0 rfl) ?_
    refine va_get (D := D) (ci := 2) (C := cn_P) (T := cf_P) (N := 3) hx hb hw in_P hown hK hP 0 rfl rfl 0 (by decide) (hw _ wi_52) (fun _ h9 => h9) rfl dd_P_latestTime_14 ?_
    refine lv_aload_n hx hb dd_P_latestTime_17 rfl (lv_at hl 0 rfl) ?_
    refine va_get (D := D) (ci := 2) (C := cn_P) (T := cf_P) (N := 3) hx hb hw in_P hown hK hP 0 rfl rfl 2 (by decide) (hw _ wi_54) (fun _ h9 => h9) rfl dd_P_latestTime_18 ?_
    refine lv_iconst (v := nI 1) hx hb dd_P_latestTime_21 (by decide) ?_
    refine lv_isub hx hb dd_P_latestTime_22 ?_
    refine ct_topi (y := nI (n - 1)) (pk_sub (by omega)) ?_
    refine va_lald hx hb hK hP 1 0 rfl rfl (vp_in_nI (by omega) (by omega)) dd_P_latestTime_23 ?_
    refine ct_topl (y := f (n - 1)) (by rw [nI_clamp (by omega)]) ?_
    refine ct_lret (u := ()) hx hb hr hlocks hK hP hD hS rfl ?_ dd_P_latestTime_24
    exact (if_neg c_4).symm
  have c_4 : n = 0 := (ct_zeq (by omega)).mp c_4
  refine lv_ldc2 (v := (-1)) hx hb hown (hw _ wi_178) dd_P_latestTime_7 ?_
  refine lv_goto (tgt := 24) hx hb dd_P_latestTime_10 (by decide) ?_
  refine ct_lret (u := ()) hx hb hr hlocks hK hP hD hS rfl ?_ dd_P_latestTime_24
  exact (if_pos c_4).symm

set_option maxHeartbeats 4000000 in
set_option maxRecDepth 100000 in
theorem cc_P_timeAt (l : Launch) (D : va_G) (cJ cB : ClassId) (q qt qv : Nat) (n : Nat) (f g : Nat → Int64) (k : Nat) (sz : Nat) (h1 : n ≤ 3000) (h2 : k < n) : ct_l l my_P_timeAt (Cond.code my_P_timeAt mb_P_timeAt 2 (some .long) :: TB) ({ frames := 0, cells := 0, slots := 0, locals := 0 } : Room) D classes cJ cB [.ref q, .int (nI k)] [(q, .inr (2, [.ref qt, .ref qv, .int (nI n)])), (qt, .inl (cJ, 3000, .inr (.inl f))), (qv, .inl (cJ, 3000, .inr (.inl g)))] sz (fun (r : Int64) (u : Unit) => r = f k) (fun u => [(q, .inr (2, [.ref qt, .ref qv, .int (nI n)])), (qt, .inl (cJ, 3000, .inr (.inl f))), (qv, .inl (cJ, 3000, .inr (.inl g)))]) 0 0 := by
  refine ct_ofW (cc := mb_P_timeAt) (maxL := 2) (ret := some .long) (by decide) rfl (Nat.le_of_ble_eq_true rfl) ?_
  intro p e s m below meth c hx hb hr hml hts hown hlocks hin hsz hK hP hD hA hS hZ ls hl
  have hw : ∀ w ∈ TB, w.before _ s = true := fun w h => hts w (List.mem_cons_of_mem _ h)
  have hown : s.vm.findClass cn_P = some m.cls := hown
  have hin : meth.name = "timeAt" := hin
  generalize hAe : va_A [(q, .inr (2, [.ref qt, .ref qv, .int (nI n)])), (qt, .inl (cJ, 3000, .inr (.inl f))), (qv, .inl (cJ, 3000, .inr (.inl g)))] sz = A at hD hA hS hZ ⊢
  clear hAe
  have hl : lv_has ls 2 [(0, .ref q), (1, .int (nI k))] := hl
  have hP : va_P D classes [(q, .inr (2, [.ref qt, .ref qv, .int (nI n)])), (qt, .inl (cJ, 3000, .inr (.inl f))), (qv, .inl (cJ, 3000, .inr (.inl g)))] s.heap := hP
  refine lv_iload_n hx hb dd_P_timeAt_0 rfl (lv_at hl 1 rfl) ?_
  refine lv_if_lt (tgt := 12) hx hb dd_P_timeAt_1 (by decide) (fun c_1 => ?_) (fun c_1 => ?_)
  · skip
    have c_1 : k < 0 := (ct_zlt (by omega)).mp c_1
    exfalso
    omega
  have c_1 : ¬ (k < 0) := fun z => c_1 ((ct_zlt (by omega)).mpr z)
  refine lv_iload_n hx hb dd_P_timeAt_4 rfl (lv_at hl 1 rfl) ?_
  refine lv_aload_n hx hb dd_P_timeAt_5 rfl (lv_at hl 0 rfl) ?_
  refine va_get (D := D) (ci := 2) (C := cn_P) (T := cf_P) (N := 3) hx hb hw in_P hown hK hP 0 rfl rfl 2 (by decide) (hw _ wi_54) (fun _ h9 => h9) rfl dd_P_timeAt_6 ?_
  refine lv_icmp_lt (tgt := 22) hx hb dd_P_timeAt_9 (by decide) (fun c_9 => ?_) (fun c_9 => ?_)
  · skip
    have c_9 : k < n := (nI_ltI (by omega) (by omega)).mp c_9
    refine lv_aload_n hx hb dd_P_timeAt_22 rfl (lv_at hl 0 rfl) ?_
    refine va_get (D := D) (ci := 2) (C := cn_P) (T := cf_P) (N := 3) hx hb hw in_P hown hK hP 0 rfl rfl 0 (by decide) (hw _ wi_52) (fun _ h9 => h9) rfl dd_P_timeAt_23 ?_
    refine lv_iload_n hx hb dd_P_timeAt_26 rfl (lv_at hl 1 rfl) ?_
    refine va_lald hx hb hK hP 1 0 rfl rfl (vp_in_nI (by omega) (by omega)) dd_P_timeAt_27 ?_
    refine ct_topl (y := f k) (by rw [nI_clamp (by omega)]) ?_
    refine ct_lret (u := ()) hx hb hr hlocks hK hP hD hS rfl ?_ dd_P_timeAt_28
    rfl
  have c_9 : ¬ (k < n) := fun z => c_9 ((nI_ltI (by omega) (by omega)).mpr z)
  exfalso
  omega

set_option maxHeartbeats 4000000 in
set_option maxRecDepth 100000 in
theorem cx_P_timeAt (l : Launch) (hlt : l.stackTraces = false) (D : va_G) (cJ cB : ClassId) (q qt qv : Nat) (n : Nat) (f g : Nat → Int64) (k : Int32) (sz : Nat) (h1 : n ≤ 3000) : cx_l l my_P_timeAt (Cond.code my_P_timeAt mb_P_timeAt 2 (some .long) :: TB) ({ frames := 6, cells := 1, slots := 6, locals := 90 } : Room) D classes cJ cB [.ref q, .int k] [(q, .inr (2, [.ref qt, .ref qv, .int (nI n)])), (qt, .inl (cJ, 3000, .inr (.inl f))), (qv, .inl (cJ, 3000, .inr (.inl g)))] sz (fun (r : Int64) (u : Unit) => ∃ j : Nat, j < n ∧ k = nI j ∧ r = f j) (fun u => [(q, .inr (2, [.ref qt, .ref qv, .int (nI n)])), (qt, .inl (cJ, 3000, .inr (.inl f))), (qv, .inl (cJ, 3000, .inr (.inl g)))]) (fun E => E = ex_I ∧ ¬ cp_ix k n) 1 6 := by
  refine cx_ofW (cc := mb_P_timeAt) (maxL := 2) (ret := some .long) (by decide) rfl (Nat.le_of_ble_eq_true rfl) ?_
  intro p e s m below meth c hx hb hr hml hts hown hlocks hin hsz hK hP hD hA hS hZ hex ls hl
  have hw : ∀ w ∈ TB, w.before _ s = true := fun w h => hts w (List.mem_cons_of_mem _ h)
  have hown : s.vm.findClass cn_P = some m.cls := hown
  have hin : meth.name = "timeAt" := hin
  generalize hAe : va_A [(q, .inr (2, [.ref qt, .ref qv, .int (nI n)])), (qt, .inl (cJ, 3000, .inr (.inl f))), (qv, .inl (cJ, 3000, .inr (.inl g)))] sz = A at hD hA hS hZ ⊢
  clear hAe
  have hl : lv_has ls 2 [(0, .ref q), (1, .int k)] := hl
  have hP : va_P D classes [(q, .inr (2, [.ref qt, .ref qv, .int (nI n)])), (qt, .inl (cJ, 3000, .inr (.inl f))), (qv, .inl (cJ, 3000, .inr (.inl g)))] s.heap := hP
  refine lv_iload_n hx hb dd_P_timeAt_0 rfl (lv_at hl 1 rfl) ?_
  refine lv_if_lt (tgt := 12) hx hb dd_P_timeAt_1 (by decide) (fun c_1 => ?_) (fun c_1 => ?_)
  · skip
    refine cx_throw (own := cn_P) (cls := ex_I) (text := "no such point") (ik := 24) (is := 26) (ic := 28) hx hb hlt hw hZ hown (by decide +kernel) wi_271 wi_33 (by decide +kernel) ht_P_28_1 ht_P_28_2 ht_P_24_28_3 hK hP hD hS (hl.1.trans hml.symm) hex dd_P_timeAt_12 dd_P_timeAt_15 dd_P_timeAt_16 dd_P_timeAt_18 dd_P_timeAt_21 (Nat.le_of_ble_eq_true rfl) (Nat.le_of_ble_eq_true rfl) (Nat.le_of_ble_eq_true rfl) (Nat.le_of_ble_eq_true rfl) hlocks ?_ (Nat.le_of_ble_eq_true rfl) (Nat.le_of_ble_eq_true rfl)
    exact ⟨rfl, cp_ix_n (by omega) (Or.inl c_1)⟩
  refine lv_iload_n hx hb dd_P_timeAt_4 rfl (lv_at hl 1 rfl) ?_
  refine lv_aload_n hx hb dd_P_timeAt_5 rfl (lv_at hl 0 rfl) ?_
  refine va_get (D := D) (ci := 2) (C := cn_P) (T := cf_P) (N := 3) hx hb hw in_P hown hK hP 0 rfl rfl 2 (by decide) (hw _ wi_54) (fun _ h9 => h9) rfl dd_P_timeAt_6 ?_
  refine lv_icmp_lt (tgt := 22) hx hb dd_P_timeAt_9 (by decide) (fun c_9 => ?_) (fun c_9 => ?_)
  · skip
    obtain ⟨j, hj, hkj⟩ := cp_ix_of (by omega) c_1 c_9
    subst hkj
    refine lv_aload_n hx hb dd_P_timeAt_22 rfl (lv_at hl 0 rfl) ?_
    refine va_get (D := D) (ci := 2) (C := cn_P) (T := cf_P) (N := 3) hx hb hw in_P hown hK hP 0 rfl rfl 0 (by decide) (hw _ wi_52) (fun _ h9 => h9) rfl dd_P_timeAt_23 ?_
    refine lv_iload_n hx hb dd_P_timeAt_26 rfl (lv_at hl 1 rfl) ?_
    refine va_lald hx hb hK hP 1 0 rfl rfl (vp_in_nI (by omega) (by omega)) dd_P_timeAt_27 ?_
    refine ct_topl (y := f j) (by rw [nI_clamp (by omega)]) ?_
    refine vx_ret ?_
    refine W.widen (k := 1) (n := 6) (Nat.le_of_ble_eq_true rfl) (Nat.le_of_ble_eq_true rfl) ?_
    refine ct_lret (u := ()) hx hb hr hlocks hK hP hD hS rfl ?_ dd_P_timeAt_28
    exact ⟨j, hj, rfl, rfl⟩
  refine cx_throw (own := cn_P) (cls := ex_I) (text := "no such point") (ik := 24) (is := 26) (ic := 28) hx hb hlt hw hZ hown (by decide +kernel) wi_271 wi_33 (by decide +kernel) ht_P_28_1 ht_P_28_2 ht_P_24_28_3 hK hP hD hS (hl.1.trans hml.symm) hex dd_P_timeAt_12 dd_P_timeAt_15 dd_P_timeAt_16 dd_P_timeAt_18 dd_P_timeAt_21 (Nat.le_of_ble_eq_true rfl) (Nat.le_of_ble_eq_true rfl) (Nat.le_of_ble_eq_true rfl) (Nat.le_of_ble_eq_true rfl) hlocks ?_ (Nat.le_of_ble_eq_true rfl) (Nat.le_of_ble_eq_true rfl)
  exact ⟨rfl, cp_ix_n (by omega) (Or.inr c_9)⟩

set_option maxHeartbeats 4000000 in
set_option maxRecDepth 100000 in
theorem cc_P_valueAt (l : Launch) (D : va_G) (cJ cB : ClassId) (q qt qv : Nat) (n : Nat) (f g : Nat → Int64) (k : Nat) (sz : Nat) (h1 : n ≤ 3000) (h2 : k < n) : ct_l l my_P_valueAt (Cond.code my_P_valueAt mb_P_valueAt 2 (some .long) :: TB) ({ frames := 0, cells := 0, slots := 0, locals := 0 } : Room) D classes cJ cB [.ref q, .int (nI k)] [(q, .inr (2, [.ref qt, .ref qv, .int (nI n)])), (qt, .inl (cJ, 3000, .inr (.inl f))), (qv, .inl (cJ, 3000, .inr (.inl g)))] sz (fun (r : Int64) (u : Unit) => r = g k) (fun u => [(q, .inr (2, [.ref qt, .ref qv, .int (nI n)])), (qt, .inl (cJ, 3000, .inr (.inl f))), (qv, .inl (cJ, 3000, .inr (.inl g)))]) 0 0 := by
  refine ct_ofW (cc := mb_P_valueAt) (maxL := 2) (ret := some .long) (by decide) rfl (Nat.le_of_ble_eq_true rfl) ?_
  intro p e s m below meth c hx hb hr hml hts hown hlocks hin hsz hK hP hD hA hS hZ ls hl
  have hw : ∀ w ∈ TB, w.before _ s = true := fun w h => hts w (List.mem_cons_of_mem _ h)
  have hown : s.vm.findClass cn_P = some m.cls := hown
  have hin : meth.name = "valueAt" := hin
  generalize hAe : va_A [(q, .inr (2, [.ref qt, .ref qv, .int (nI n)])), (qt, .inl (cJ, 3000, .inr (.inl f))), (qv, .inl (cJ, 3000, .inr (.inl g)))] sz = A at hD hA hS hZ ⊢
  clear hAe
  have hl : lv_has ls 2 [(0, .ref q), (1, .int (nI k))] := hl
  have hP : va_P D classes [(q, .inr (2, [.ref qt, .ref qv, .int (nI n)])), (qt, .inl (cJ, 3000, .inr (.inl f))), (qv, .inl (cJ, 3000, .inr (.inl g)))] s.heap := hP
  refine lv_iload_n hx hb dd_P_valueAt_0 rfl (lv_at hl 1 rfl) ?_
  refine lv_if_lt (tgt := 12) hx hb dd_P_valueAt_1 (by decide) (fun c_1 => ?_) (fun c_1 => ?_)
  · skip
    have c_1 : k < 0 := (ct_zlt (by omega)).mp c_1
    exfalso
    omega
  have c_1 : ¬ (k < 0) := fun z => c_1 ((ct_zlt (by omega)).mpr z)
  refine lv_iload_n hx hb dd_P_valueAt_4 rfl (lv_at hl 1 rfl) ?_
  refine lv_aload_n hx hb dd_P_valueAt_5 rfl (lv_at hl 0 rfl) ?_
  refine va_get (D := D) (ci := 2) (C := cn_P) (T := cf_P) (N := 3) hx hb hw in_P hown hK hP 0 rfl rfl 2 (by decide) (hw _ wi_54) (fun _ h9 => h9) rfl dd_P_valueAt_6 ?_
  refine lv_icmp_lt (tgt := 22) hx hb dd_P_valueAt_9 (by decide) (fun c_9 => ?_) (fun c_9 => ?_)
  · skip
    have c_9 : k < n := (nI_ltI (by omega) (by omega)).mp c_9
    refine lv_aload_n hx hb dd_P_valueAt_22 rfl (lv_at hl 0 rfl) ?_
    refine va_get (D := D) (ci := 2) (C := cn_P) (T := cf_P) (N := 3) hx hb hw in_P hown hK hP 0 rfl rfl 1 (by decide) (hw _ wi_53) (fun _ h9 => h9) rfl dd_P_valueAt_23 ?_
    refine lv_iload_n hx hb dd_P_valueAt_26 rfl (lv_at hl 1 rfl) ?_
    refine va_lald hx hb hK hP 2 0 rfl rfl (vp_in_nI (by omega) (by omega)) dd_P_valueAt_27 ?_
    refine ct_topl (y := g k) (by rw [nI_clamp (by omega)]) ?_
    refine ct_lret (u := ()) hx hb hr hlocks hK hP hD hS rfl ?_ dd_P_valueAt_28
    rfl
  have c_9 : ¬ (k < n) := fun z => c_9 ((nI_ltI (by omega) (by omega)).mpr z)
  exfalso
  omega

set_option maxHeartbeats 4000000 in
set_option maxRecDepth 100000 in
theorem cx_P_valueAt (l : Launch) (hlt : l.stackTraces = false) (D : va_G) (cJ cB : ClassId) (q qt qv : Nat) (n : Nat) (f g : Nat → Int64) (k : Int32) (sz : Nat) (h1 : n ≤ 3000) : cx_l l my_P_valueAt (Cond.code my_P_valueAt mb_P_valueAt 2 (some .long) :: TB) ({ frames := 6, cells := 1, slots := 6, locals := 90 } : Room) D classes cJ cB [.ref q, .int k] [(q, .inr (2, [.ref qt, .ref qv, .int (nI n)])), (qt, .inl (cJ, 3000, .inr (.inl f))), (qv, .inl (cJ, 3000, .inr (.inl g)))] sz (fun (r : Int64) (u : Unit) => ∃ j : Nat, j < n ∧ k = nI j ∧ r = g j) (fun u => [(q, .inr (2, [.ref qt, .ref qv, .int (nI n)])), (qt, .inl (cJ, 3000, .inr (.inl f))), (qv, .inl (cJ, 3000, .inr (.inl g)))]) (fun E => E = ex_I ∧ ¬ cp_ix k n) 1 6 := by
  refine cx_ofW (cc := mb_P_valueAt) (maxL := 2) (ret := some .long) (by decide) rfl (Nat.le_of_ble_eq_true rfl) ?_
  intro p e s m below meth c hx hb hr hml hts hown hlocks hin hsz hK hP hD hA hS hZ hex ls hl
  have hw : ∀ w ∈ TB, w.before _ s = true := fun w h => hts w (List.mem_cons_of_mem _ h)
  have hown : s.vm.findClass cn_P = some m.cls := hown
  have hin : meth.name = "valueAt" := hin
  generalize hAe : va_A [(q, .inr (2, [.ref qt, .ref qv, .int (nI n)])), (qt, .inl (cJ, 3000, .inr (.inl f))), (qv, .inl (cJ, 3000, .inr (.inl g)))] sz = A at hD hA hS hZ ⊢
  clear hAe
  have hl : lv_has ls 2 [(0, .ref q), (1, .int k)] := hl
  have hP : va_P D classes [(q, .inr (2, [.ref qt, .ref qv, .int (nI n)])), (qt, .inl (cJ, 3000, .inr (.inl f))), (qv, .inl (cJ, 3000, .inr (.inl g)))] s.heap := hP
  refine lv_iload_n hx hb dd_P_valueAt_0 rfl (lv_at hl 1 rfl) ?_
  refine lv_if_lt (tgt := 12) hx hb dd_P_valueAt_1 (by decide) (fun c_1 => ?_) (fun c_1 => ?_)
  · skip
    refine cx_throw (own := cn_P) (cls := ex_I) (text := "no such point") (ik := 24) (is := 26) (ic := 28) hx hb hlt hw hZ hown (by decide +kernel) wi_271 wi_33 (by decide +kernel) ht_P_28_1 ht_P_28_2 ht_P_24_28_3 hK hP hD hS (hl.1.trans hml.symm) hex dd_P_valueAt_12 dd_P_valueAt_15 dd_P_valueAt_16 dd_P_valueAt_18 dd_P_valueAt_21 (Nat.le_of_ble_eq_true rfl) (Nat.le_of_ble_eq_true rfl) (Nat.le_of_ble_eq_true rfl) (Nat.le_of_ble_eq_true rfl) hlocks ?_ (Nat.le_of_ble_eq_true rfl) (Nat.le_of_ble_eq_true rfl)
    exact ⟨rfl, cp_ix_n (by omega) (Or.inl c_1)⟩
  refine lv_iload_n hx hb dd_P_valueAt_4 rfl (lv_at hl 1 rfl) ?_
  refine lv_aload_n hx hb dd_P_valueAt_5 rfl (lv_at hl 0 rfl) ?_
  refine va_get (D := D) (ci := 2) (C := cn_P) (T := cf_P) (N := 3) hx hb hw in_P hown hK hP 0 rfl rfl 2 (by decide) (hw _ wi_54) (fun _ h9 => h9) rfl dd_P_valueAt_6 ?_
  refine lv_icmp_lt (tgt := 22) hx hb dd_P_valueAt_9 (by decide) (fun c_9 => ?_) (fun c_9 => ?_)
  · skip
    obtain ⟨j, hj, hkj⟩ := cp_ix_of (by omega) c_1 c_9
    subst hkj
    refine lv_aload_n hx hb dd_P_valueAt_22 rfl (lv_at hl 0 rfl) ?_
    refine va_get (D := D) (ci := 2) (C := cn_P) (T := cf_P) (N := 3) hx hb hw in_P hown hK hP 0 rfl rfl 1 (by decide) (hw _ wi_53) (fun _ h9 => h9) rfl dd_P_valueAt_23 ?_
    refine lv_iload_n hx hb dd_P_valueAt_26 rfl (lv_at hl 1 rfl) ?_
    refine va_lald hx hb hK hP 2 0 rfl rfl (vp_in_nI (by omega) (by omega)) dd_P_valueAt_27 ?_
    refine ct_topl (y := g j) (by rw [nI_clamp (by omega)]) ?_
    refine vx_ret ?_
    refine W.widen (k := 1) (n := 6) (Nat.le_of_ble_eq_true rfl) (Nat.le_of_ble_eq_true rfl) ?_
    refine ct_lret (u := ()) hx hb hr hlocks hK hP hD hS rfl ?_ dd_P_valueAt_28
    exact ⟨j, hj, rfl, rfl⟩
  refine cx_throw (own := cn_P) (cls := ex_I) (text := "no such point") (ik := 24) (is := 26) (ic := 28) hx hb hlt hw hZ hown (by decide +kernel) wi_271 wi_33 (by decide +kernel) ht_P_28_1 ht_P_28_2 ht_P_24_28_3 hK hP hD hS (hl.1.trans hml.symm) hex dd_P_valueAt_12 dd_P_valueAt_15 dd_P_valueAt_16 dd_P_valueAt_18 dd_P_valueAt_21 (Nat.le_of_ble_eq_true rfl) (Nat.le_of_ble_eq_true rfl) (Nat.le_of_ble_eq_true rfl) (Nat.le_of_ble_eq_true rfl) hlocks ?_ (Nat.le_of_ble_eq_true rfl) (Nat.le_of_ble_eq_true rfl)
  exact ⟨rfl, cp_ix_n (by omega) (Or.inr c_9)⟩

set_option maxHeartbeats 4000000 in
set_option maxRecDepth 100000 in
theorem cc_P_append (l : Launch) (D : va_G) (cJ cB : ClassId) (q qt qv : Nat) (n : Nat) (f g : Nat → Int64) (t v : Int64) (sz : Nat) (h1 : n ≤ 3000) : ct_i l my_P_append (Cond.code my_P_append mb_P_append 5 (some .boolean) :: TB) ({ frames := 0, cells := 0, slots := 0, locals := 0 } : Room) D classes cJ cB [.ref q, .long t, .long v] [(q, .inr (2, [.ref qt, .ref qv, .int (nI n)])), (qt, .inl (cJ, 3000, .inr (.inl f))), (qv, .inl (cJ, 3000, .inr (.inl g)))] sz (fun (r : Int32) (u : Nat × (Nat → Int64) × (Nat → Int64)) => r = bI (n < 3000) ∧ u = if n < 3000 then (n + 1, vp_updL f n t, vp_updL g n v) else (n, f, g)) (fun u => [(q, .inr (2, [.ref qt, .ref qv, .int (nI u.1)])), (qt, .inl (cJ, 3000, .inr (.inl u.2.1))), (qv, .inl (cJ, 3000, .inr (.inl u.2.2)))]) 0 0 := by
  refine ct_ofW (cc := mb_P_append) (maxL := 5) (ret := some .boolean) (by decide) rfl (Nat.le_of_ble_eq_true rfl) ?_
  intro p e s m below meth c hx hb hr hml hts hown hlocks hin hsz hK hP hD hA hS hZ ls hl
  have hw : ∀ w ∈ TB, w.before _ s = true := fun w h => hts w (List.mem_cons_of_mem _ h)
  have hown : s.vm.findClass cn_P = some m.cls := hown
  have hin : meth.name = "append" := hin
  generalize hAe : va_A [(q, .inr (2, [.ref qt, .ref qv, .int (nI n)])), (qt, .inl (cJ, 3000, .inr (.inl f))), (qv, .inl (cJ, 3000, .inr (.inl g)))] sz = A at hD hA hS hZ ⊢
  clear hAe
  have hl : lv_has ls 5 [(0, .ref q), (1, .long t), (3, .long v)] := hl
  have hP : va_P D classes [(q, .inr (2, [.ref qt, .ref qv, .int (nI n)])), (qt, .inl (cJ, 3000, .inr (.inl f))), (qv, .inl (cJ, 3000, .inr (.inl g)))] s.heap := hP
  refine lv_aload_n hx hb dd_P_append_0 rfl (lv_at hl 0 rfl) ?_
  refine va_get (D := D) (ci := 2) (C := cn_P) (T := cf_P) (N := 3) hx hb hw in_P hown hK hP 0 rfl rfl 2 (by decide) (hw _ wi_54) (fun _ h9 => h9) rfl dd_P_append_1 ?_
  refine lv_sipush (v := nI 3000) hx hb dd_P_append_4 (by decide) ?_
  refine lv_icmp_lt (tgt := 12) hx hb dd_P_append_7 (by decide) (fun c_7 => ?_) (fun c_7 => ?_)
  · skip
    have c_7 : n < 3000 := (nI_ltI (by omega) (by omega)).mp c_7
    refine lv_aload_n hx hb dd_P_append_12 rfl (lv_at hl 0 rfl) ?_
    refine va_get (D := D) (ci := 2) (C := cn_P) (T := cf_P) (N := 3) hx hb hw in_P hown hK hP 0 rfl rfl 0 (by decide) (hw _ wi_52) (fun _ h9 => h9) rfl dd_P_append_13 ?_
    refine lv_aload_n hx hb dd_P_append_16 rfl (lv_at hl 0 rfl) ?_
    refine va_get (D := D) (ci := 2) (C := cn_P) (T := cf_P) (N := 3) hx hb hw in_P hown hK hP 0 rfl rfl 2 (by decide) (hw _ wi_54) (fun _ h9 => h9) rfl dd_P_append_17 ?_
    refine lv_lload_n hx hb dd_P_append_20 rfl (lv_at hl 1 rfl) ?_
    refine va_last hx hb hK hP hD hS 1 0 rfl rfl (vp_in_nI (by omega) (by omega)) dd_P_append_21 (fun H locs hP hD hS => ?_)
    rw [show (nI n).toNatClampNeg = n from nI_clamp (by omega)] at hP hD
    have hP : va_P D classes [(q, .inr (2, [.ref qt, .ref qv, .int (nI n)])), (qt, .inl (cJ, 3000, .inr (.inl (vp_updL f n t)))), (qv, .inl (cJ, 3000, .inr (.inl g)))] _ := hP
    have hD : va_D A [(q, .inr (2, [.ref qt, .ref qv, .int (nI n)])), (qt, .inl (cJ, 3000, .inr (.inl (vp_updL f n t)))), (qv, .inl (cJ, 3000, .inr (.inl g)))] := hD
    refine lv_aload_n hx hb dd_P_append_22 rfl (lv_at hl 0 rfl) ?_
    refine va_get (D := D) (ci := 2) (C := cn_P) (T := cf_P) (N := 3) hx hb hw in_P hown hK hP 0 rfl rfl 1 (by decide) (hw _ wi_53) (fun _ h9 => h9) rfl dd_P_append_23 ?_
    refine lv_aload_n hx hb dd_P_append_26 rfl (lv_at hl 0 rfl) ?_
    refine va_get (D := D) (ci := 2) (C := cn_P) (T := cf_P) (N := 3) hx hb hw in_P hown hK hP 0 rfl rfl 2 (by decide) (hw _ wi_54) (fun _ h9 => h9) rfl dd_P_append_27 ?_
    refine lv_lload_n hx hb dd_P_append_30 rfl (lv_at hl 2 rfl) ?_
    refine va_last hx hb hK hP hD hS 2 0 rfl rfl (vp_in_nI (by omega) (by omega)) dd_P_append_31 (fun H locs hP hD hS => ?_)
    rw [show (nI n).toNatClampNeg = n from nI_clamp (by omega)] at hP hD
    have hP : va_P D classes [(q, .inr (2, [.ref qt, .ref qv, .int (nI n)])), (qt, .inl (cJ, 3000, .inr (.inl (vp_updL f n t)))), (qv, .inl (cJ, 3000, .inr (.inl (vp_updL g n v))))] _ := hP
    have hD : va_D A [(q, .inr (2, [.ref qt, .ref qv, .int (nI n)])), (qt, .inl (cJ, 3000, .inr (.inl (vp_updL f n t)))), (qv, .inl (cJ, 3000, .inr (.inl (vp_updL g n v))))] := hD
    refine lv_aload_n hx hb dd_P_append_32 rfl (lv_at hl 0 rfl) ?_
    refine lv_dup hx hb dd_P_append_33 rfl ?_
    refine va_get (D := D) (ci := 2) (C := cn_P) (T := cf_P) (N := 3) hx hb hw in_P hown hK hP 0 rfl rfl 2 (by decide) (hw _ wi_54) (fun _ h9 => h9) rfl dd_P_append_34 ?_
    refine lv_iconst (v := nI 1) hx hb dd_P_append_37 (by decide) ?_
    refine lv_iadd hx hb dd_P_append_38 ?_
    refine ct_topi (y := nI (n + 1)) (nI_add _ _) ?_
    refine va_put (D := D) (ci := 2) (v := .int (nI (n + 1))) (ty := .int) (C := cn_P) (T := cf_P) (N := 3) hx hb hw in_P ty_P to_P nn_P hown hK hP hD hS 0 rfl rfl 2 (by decide) (hw _ wi_54) (fun _ h9 => h9) rfl (by decide +kernel) (rfl) (rfl) (Nat.le_of_ble_eq_true rfl) dd_P_append_39 (fun H locs hP hD hS => ?_)
    have hP : va_P D classes [(q, .inr (2, [.ref qt, .ref qv, .int (nI (n + 1))])), (qt, .inl (cJ, 3000, .inr (.inl (vp_updL f n t)))), (qv, .inl (cJ, 3000, .inr (.inl (vp_updL g n v))))] _ := hP
    have hD : va_D A [(q, .inr (2, [.ref qt, .ref qv, .int (nI (n + 1))])), (qt, .inl (cJ, 3000, .inr (.inl (vp_updL f n t)))), (qv, .inl (cJ, 3000, .inr (.inl (vp_updL g n v))))] := hD
    refine lv_iconst (v := nI 1) hx hb dd_P_append_42 (by decide) ?_
    refine ct_zret (u := (n + 1, vp_updL f n t, vp_updL g n v)) hx hb hr hlocks (by decide) hK hP hD hS rfl ?_ dd_P_append_43
    exact ⟨bI_t c_7, (if_pos c_7).symm⟩
  have c_7 : ¬ (n < 3000) := fun z => c_7 ((nI_ltI (by omega) (by omega)).mpr z)
  refine lv_iconst (v := nI 0) hx hb dd_P_append_10 (by decide) ?_
  refine ct_zret (u := (n, f, g)) hx hb hr hlocks (by decide) hK hP hD hS rfl ?_ dd_P_append_11
  exact ⟨bI_f c_7, (if_neg c_7).symm⟩

set_option maxHeartbeats 4000000 in
set_option maxRecDepth 100000 in
theorem cc_P_shorten (l : Launch) (D : va_G) (cJ cB : ClassId) (q qt qv : Nat) (n : Nat) (f g : Nat → Int64) (k : Nat) (sz : Nat) : ct_v l my_P_shorten (Cond.code my_P_shorten mb_P_shorten 2 none :: TB) ({ frames := 0, cells := 0, slots := 0, locals := 0 } : Room) D classes cJ cB [.ref q, .int (nI k)] [(q, .inr (2, [.ref qt, .ref qv, .int (nI n)])), (qt, .inl (cJ, 3000, .inr (.inl f))), (qv, .inl (cJ, 3000, .inr (.inl g)))] sz (fun (u : Unit) => True) (fun u => [(q, .inr (2, [.ref qt, .ref qv, .int (nI k)])), (qt, .inl (cJ, 3000, .inr (.inl f))), (qv, .inl (cJ, 3000, .inr (.inl g)))]) 0 0 := by
  refine ct_ofW (cc := mb_P_shorten) (maxL := 2) (ret := none) (by decide) rfl (Nat.le_of_ble_eq_true rfl) ?_
  intro p e s m below meth c hx hb hr hml hts hown hlocks hin hsz hK hP hD hA hS hZ ls hl
  have hw : ∀ w ∈ TB, w.before _ s = true := fun w h => hts w (List.mem_cons_of_mem _ h)
  have hown : s.vm.findClass cn_P = some m.cls := hown
  have hin : meth.name = "shorten" := hin
  generalize hAe : va_A [(q, .inr (2, [.ref qt, .ref qv, .int (nI n)])), (qt, .inl (cJ, 3000, .inr (.inl f))), (qv, .inl (cJ, 3000, .inr (.inl g)))] sz = A at hD hA hS hZ ⊢
  clear hAe
  have hl : lv_has ls 2 [(0, .ref q), (1, .int (nI k))] := hl
  have hP : va_P D classes [(q, .inr (2, [.ref qt, .ref qv, .int (nI n)])), (qt, .inl (cJ, 3000, .inr (.inl f))), (qv, .inl (cJ, 3000, .inr (.inl g)))] s.heap := hP
  refine lv_aload_n hx hb dd_P_shorten_0 rfl (lv_at hl 0 rfl) ?_
  refine lv_iload_n hx hb dd_P_shorten_1 rfl (lv_at hl 1 rfl) ?_
  refine va_put (D := D) (ci := 2) (v := .int (nI k)) (ty := .int) (C := cn_P) (T := cf_P) (N := 3) hx hb hw in_P ty_P to_P nn_P hown hK hP hD hS 0 rfl rfl 2 (by decide) (hw _ wi_54) (fun _ h9 => h9) rfl (by decide +kernel) (rfl) (rfl) (Nat.le_of_ble_eq_true rfl) dd_P_shorten_2 (fun H locs hP hD hS => ?_)
  have hP : va_P D classes [(q, .inr (2, [.ref qt, .ref qv, .int (nI k)])), (qt, .inl (cJ, 3000, .inr (.inl f))), (qv, .inl (cJ, 3000, .inr (.inl g)))] _ := hP
  have hD : va_D A [(q, .inr (2, [.ref qt, .ref qv, .int (nI k)])), (qt, .inl (cJ, 3000, .inr (.inl f))), (qv, .inl (cJ, 3000, .inr (.inl g)))] := hD
  refine ct_vret (u := ()) hx hb hr hlocks hK hP hD hS rfl ?_ dd_P_shorten_5
  trivial
