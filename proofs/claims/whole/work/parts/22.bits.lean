set_option maxHeartbeats 4000000 in
set_option maxRecDepth 100000 in
theorem cc_B_init (l : Launch) (D : va_G) (cJ cB : ClassId) (q : Nat) (sz : Nat) : ct_v l my_B_init (Cond.code my_B_init mb_B_init 1 none :: TB) ({ frames := 1, cells := 1, slots := 6250, locals := 12 } : Room) D classes cJ cB [.ref q] [(q, .inr (0, [.null, .int 0]))] sz (fun (u : Nat) => True) (fun u => [(q, .inr (0, [.ref u, .int (nI 0)])), (u, .inl (cJ, 6250, .inr (.inl (fun _ => 0))))]) 1 6250 := by
  refine ct_ofW (cc := mb_B_init) (maxL := 1) (ret := none) (by decide) rfl (Nat.le_of_ble_eq_true rfl) ?_
  intro p e s m below meth c hx hb hr hml hts hown hlocks hin hsz hK hP hD hA hS hZ ls hl
  have hw : ∀ w ∈ TB, w.before _ s = true := fun w h => hts w (List.mem_cons_of_mem _ h)
  have hown : s.vm.findClass cn_B = some m.cls := hown
  have hin : meth.name = "<init>" := hin
  generalize hAe : va_A [(q, .inr (0, [.null, .int 0]))] sz = A at hD hA hS hZ ⊢
  clear hAe
  have hl : lv_has ls 1 [(0, .ref q)] := hl
  have hP : va_P D classes [(q, .inr (0, [.null, .int 0]))] s.heap := hP
  refine lv_aload_n hx hb dd_B_init_0 rfl (lv_at hl 0 rfl) ?_
  refine W.objInit hx hb hown (hw _ wi_68) (hw _ wi_44) (hw _ wi_obj) rfl (by rw [hml]; exact hl.1) rfl dd_B_init_1 (Nat.le_of_ble_eq_true rfl) (Nat.le_of_ble_eq_true rfl) ?_
  refine W.eq (g2 := F0 m 4 ls []) rfl ?_
  refine lv_aload_n hx hb dd_B_init_4 rfl (lv_at hl 0 rfl) ?_
  refine lv_sipush (v := nI 6250) hx hb dd_B_init_5 (by decide) ?_
  refine ct_newa (atype := .long) (ty := .long) (N' := 6250) (a0 := (6250, .inr (.inl (fun _ => 0)))) hx hb (hw _ wi_62) rfl hK hP hD hS hA (ct_J hK) (fun cA => vp_cell_l cA _ _) (nI_pos (by decide)) (nI_clamp (by decide)) (by decide) (Nat.le_of_ble_eq_true rfl) (Nat.le_of_ble_eq_true rfl) dd_B_init_8 (fun qw H hP hD hS => ?_)
  have hP : va_P D classes [(q, .inr (0, [.null, .int 0])), (qw, .inl (cJ, 6250, .inr (.inl (fun _ => 0))))] _ := hP
  have hD : va_D A [(q, .inr (0, [.null, .int 0])), (qw, .inl (cJ, 6250, .inr (.inl (fun _ => 0))))] := hD
  refine va_putF (D := D) (ci := 0) (v := .ref qw) (ty := .array .long) (C := cn_B) (T := cf_B) (N := 2) hx hb hw in_B ty_B to_B nn_B hown hK hP hD hS 0 rfl rfl 0 (by decide) (hw _ wi_69) (fun _ h9 => h9) rfl hin rfl (by decide +kernel) (rfl) (rfl) (Nat.le_of_ble_eq_true rfl) dd_B_init_10 (fun H locs hP hD hS => ?_)
  have hP : va_P D classes [(q, .inr (0, [.ref qw, .int 0])), (qw, .inl (cJ, 6250, .inr (.inl (fun _ => 0))))] _ := hP
  have hD : va_D A [(q, .inr (0, [.ref qw, .int 0])), (qw, .inl (cJ, 6250, .inr (.inl (fun _ => 0))))] := hD
  refine lv_aload_n hx hb dd_B_init_13 rfl (lv_at hl 0 rfl) ?_
  refine lv_iconst (v := nI 0) hx hb dd_B_init_14 (by decide) ?_
  refine va_put (D := D) (ci := 0) (v := .int (nI 0)) (ty := .int) (C := cn_B) (T := cf_B) (N := 2) hx hb hw in_B ty_B to_B nn_B hown hK hP hD hS 0 rfl rfl 1 (by decide) (hw _ wi_70) (fun _ h9 => h9) rfl (by decide +kernel) (rfl) (rfl) (Nat.le_of_ble_eq_true rfl) dd_B_init_15 (fun H locs hP hD hS => ?_)
  have hP : va_P D classes [(q, .inr (0, [.ref qw, .int (nI 0)])), (qw, .inl (cJ, 6250, .inr (.inl (fun _ => 0))))] _ := hP
  have hD : va_D A [(q, .inr (0, [.ref qw, .int (nI 0)])), (qw, .inl (cJ, 6250, .inr (.inl (fun _ => 0))))] := hD
  refine ct_vret (u := qw) hx hb hr hlocks hK hP hD hS rfl ?_ dd_B_init_18
  trivial

set_option maxHeartbeats 4000000 in
set_option maxRecDepth 100000 in
theorem cc_B_size (l : Launch) (D : va_G) (cJ cB : ClassId) (q qw n : Nat) (w : Nat → Int64) (sz : Nat) : ct_i l my_B_size (Cond.code my_B_size mb_B_size 1 (some .int) :: TB) ({ frames := 0, cells := 0, slots := 0, locals := 0 } : Room) D classes cJ cB [.ref q] [(q, .inr (0, [.ref qw, .int (nI n)])), (qw, .inl (cJ, 6250, .inr (.inl w)))] sz (fun (r : Int32) (u : Unit) => r = nI n) (fun u => [(q, .inr (0, [.ref qw, .int (nI n)])), (qw, .inl (cJ, 6250, .inr (.inl w)))]) 0 0 := by
  refine ct_ofW (cc := mb_B_size) (maxL := 1) (ret := some .int) (by decide) rfl (Nat.le_of_ble_eq_true rfl) ?_
  intro p e s m below meth c hx hb hr hml hts hown hlocks hin hsz hK hP hD hA hS hZ ls hl
  have hw : ∀ w ∈ TB, w.before _ s = true := fun w h => hts w (List.mem_cons_of_mem _ h)
  have hown : s.vm.findClass cn_B = some m.cls := hown
  have hin : meth.name = "size" := hin
  generalize hAe : va_A [(q, .inr (0, [.ref qw, .int (nI n)])), (qw, .inl (cJ, 6250, .inr (.inl w)))] sz = A at hD hA hS hZ ⊢
  clear hAe
  have hl : lv_has ls 1 [(0, .ref q)] := hl
  have hP : va_P D classes [(q, .inr (0, [.ref qw, .int (nI n)])), (qw, .inl (cJ, 6250, .inr (.inl w)))] s.heap := hP
  refine lv_aload_n hx hb dd_B_size_0 rfl (lv_at hl 0 rfl) ?_
  refine va_get (D := D) (ci := 0) (C := cn_B) (T := cf_B) (N := 2) hx hb hw in_B hown hK hP 0 rfl rfl 1 (by decide) (hw _ wi_70) (fun _ h9 => h9) rfl dd_B_size_1 ?_
  refine ct_iret (u := ()) hx hb hr hlocks hK hP hD hS rfl ?_ dd_B_size_4
  rfl

set_option maxHeartbeats 4000000 in
set_option maxRecDepth 100000 in
theorem cc_B_has (l : Launch) (D : va_G) (cJ cB : ClassId) (q qw n : Nat) (w : Nat → Int64) (p0 k : Nat) (sz : Nat) (h1 : n ≤ 400000) (h2 : p0 ≤ 400000) (h3 : k ≤ 64) : ct_i l my_B_has (Cond.code my_B_has mb_B_has 3 (some .boolean) :: TB) ({ frames := 0, cells := 0, slots := 0, locals := 0 } : Room) D classes cJ cB [.ref q, .int (nI p0), .int (nI k)] [(q, .inr (0, [.ref qw, .int (nI n)])), (qw, .inl (cJ, 6250, .inr (.inl w)))] sz (fun (r : Int32) (u : Unit) => r = bI (p0 + k ≤ n)) (fun u => [(q, .inr (0, [.ref qw, .int (nI n)])), (qw, .inl (cJ, 6250, .inr (.inl w)))]) 0 0 := by
  refine ct_ofW (cc := mb_B_has) (maxL := 3) (ret := some .boolean) (by decide) rfl (Nat.le_of_ble_eq_true rfl) ?_
  intro p e s m below meth c hx hb hr hml hts hown hlocks hin hsz hK hP hD hA hS hZ ls hl
  have hw : ∀ w ∈ TB, w.before _ s = true := fun w h => hts w (List.mem_cons_of_mem _ h)
  have hown : s.vm.findClass cn_B = some m.cls := hown
  have hin : meth.name = "has" := hin
  generalize hAe : va_A [(q, .inr (0, [.ref qw, .int (nI n)])), (qw, .inl (cJ, 6250, .inr (.inl w)))] sz = A at hD hA hS hZ ⊢
  clear hAe
  have hl : lv_has ls 3 [(0, .ref q), (1, .int (nI p0)), (2, .int (nI k))] := hl
  have hP : va_P D classes [(q, .inr (0, [.ref qw, .int (nI n)])), (qw, .inl (cJ, 6250, .inr (.inl w)))] s.heap := hP
  refine lv_iload_n hx hb dd_B_has_0 rfl (lv_at hl 1 rfl) ?_
  refine lv_if_lt (tgt := 26) hx hb dd_B_has_1 (by decide) (fun c_1 => ?_) (fun c_1 => ?_)
  · skip
    have c_1 : p0 < 0 := (ct_zlt (by omega)).mp c_1
    refine lv_iconst (v := nI 0) hx hb dd_B_has_26 (by decide) ?_
    refine ct_zret (u := ()) hx hb hr hlocks (by decide) hK hP hD hS rfl ?_ dd_B_has_27
    exact bI_f (by omega)
  have c_1 : ¬ (p0 < 0) := fun z => c_1 ((ct_zlt (by omega)).mpr z)
  refine lv_iload_n hx hb dd_B_has_4 rfl (lv_at hl 1 rfl) ?_
  refine lv_aload_n hx hb dd_B_has_5 rfl (lv_at hl 0 rfl) ?_
  refine va_get (D := D) (ci := 0) (C := cn_B) (T := cf_B) (N := 2) hx hb hw in_B hown hK hP 0 rfl rfl 1 (by decide) (hw _ wi_70) (fun _ h9 => h9) rfl dd_B_has_6 ?_
  refine lv_icmp_gt (tgt := 26) hx hb dd_B_has_9 (by decide) (fun c_9 => ?_) (fun c_9 => ?_)
  · skip
    have c_9 : n < p0 := (nI_ltI (by omega) (by omega)).mp c_9
    refine lv_iconst (v := nI 0) hx hb dd_B_has_26 (by decide) ?_
    refine ct_zret (u := ()) hx hb hr hlocks (by decide) hK hP hD hS rfl ?_ dd_B_has_27
    exact bI_f (by omega)
  have c_9 : ¬ (n < p0) := fun z => c_9 ((nI_ltI (by omega) (by omega)).mpr z)
  refine lv_iload_n hx hb dd_B_has_12 rfl (lv_at hl 2 rfl) ?_
  refine lv_aload_n hx hb dd_B_has_13 rfl (lv_at hl 0 rfl) ?_
  refine va_get (D := D) (ci := 0) (C := cn_B) (T := cf_B) (N := 2) hx hb hw in_B hown hK hP 0 rfl rfl 1 (by decide) (hw _ wi_70) (fun _ h9 => h9) rfl dd_B_has_14 ?_
  refine lv_iload_n hx hb dd_B_has_17 rfl (lv_at hl 1 rfl) ?_
  refine lv_isub hx hb dd_B_has_18 ?_
  refine ct_topi (y := nI (n - p0)) (pk_sub (by omega)) ?_
  refine lv_icmp_gt (tgt := 26) hx hb dd_B_has_19 (by decide) (fun c_19 => ?_) (fun c_19 => ?_)
  · skip
    have c_19 : (n - p0) < k := (nI_ltI (by omega) (by omega)).mp c_19
    refine lv_iconst (v := nI 0) hx hb dd_B_has_26 (by decide) ?_
    refine ct_zret (u := ()) hx hb hr hlocks (by decide) hK hP hD hS rfl ?_ dd_B_has_27
    exact bI_f (by omega)
  have c_19 : ¬ ((n - p0) < k) := fun z => c_19 ((nI_ltI (by omega) (by omega)).mpr z)
  refine lv_iconst (v := nI 1) hx hb dd_B_has_22 (by decide) ?_
  refine lv_goto (tgt := 27) hx hb dd_B_has_23 (by decide) ?_
  refine ct_zret (u := ()) hx hb hr hlocks (by decide) hK hP hD hS rfl ?_ dd_B_has_27
  exact bI_t (by omega)

set_option maxHeartbeats 4000000 in
set_option maxRecDepth 100000 in
theorem cc_B_numberAt (l : Launch) (D : va_G) (cJ cB : ClassId) (q qw : Nat) (w : Nat → Int64) (L : List Bool) (p0 k : Nat) (sz : Nat) (hL : L.length ≤ 400000) (hR : cp_Rw w L) (h1 : 0 < k) (h2 : k ≤ 64) (h3 : p0 + k ≤ L.length) : ct_l l my_B_numberAt (Cond.code my_B_numberAt mb_B_numberAt 7 (some .long) :: TB) ({ frames := 0, cells := 0, slots := 0, locals := 0 } : Room) D classes cJ cB [.ref q, .int (nI p0), .int (nI k)] [(q, .inr (0, [.ref qw, .int (nI L.length)])), (qw, .inl (cJ, 6250, .inr (.inl w)))] sz (fun (r : Int64) (u : Unit) => r = lN (cp_n L p0 k)) (fun u => [(q, .inr (0, [.ref qw, .int (nI L.length)])), (qw, .inl (cJ, 6250, .inr (.inl w)))]) 0 0 := by
  refine ct_ofW (cc := mb_B_numberAt) (maxL := 7) (ret := some .long) (by decide) rfl (Nat.le_of_ble_eq_true rfl) ?_
  intro p e s m below meth c hx hb hr hml hts hown hlocks hin hsz hK hP hD hA hS hZ ls hl
  have hw : ∀ w ∈ TB, w.before _ s = true := fun w h => hts w (List.mem_cons_of_mem _ h)
  have hown : s.vm.findClass cn_B = some m.cls := hown
  have hin : meth.name = "numberAt" := hin
  generalize hAe : va_A [(q, .inr (0, [.ref qw, .int (nI L.length)])), (qw, .inl (cJ, 6250, .inr (.inl w)))] sz = A at hD hA hS hZ ⊢
  clear hAe
  have hl : lv_has ls 7 [(0, .ref q), (1, .int (nI p0)), (2, .int (nI k))] := hl
  have hP : va_P D classes [(q, .inr (0, [.ref qw, .int (nI L.length)])), (qw, .inl (cJ, 6250, .inr (.inl w)))] s.heap := hP
  refine lv_iload_n hx hb dd_B_numberAt_0 rfl (lv_at hl 1 rfl) ?_
  refine lv_bipush (v := nI 64) hx hb dd_B_numberAt_1 (by decide) ?_
  refine lv_idiv hx hb dd_B_numberAt_3 (by decide) ?_
  refine ct_topi (y := nI (p0 / 64)) (pk_div (by omega) (by decide) (by decide)) ?_
  refine lv_istore_n (lv' := [(3, .int (nI (p0 / 64))), (0, .ref q), (1, .int (nI p0)), (2, .int (nI k))]) hx hb dd_B_numberAt_4 rfl hl (by decide) rfl (fun ls hl => ?_)
  refine lv_iload_n hx hb dd_B_numberAt_5 rfl (lv_at hl 2 rfl) ?_
  refine lv_bipush (v := nI 64) hx hb dd_B_numberAt_6 (by decide) ?_
  refine lv_irem hx hb dd_B_numberAt_8 (by decide) ?_
  refine ct_topi (y := nI (p0 % 64)) (pk_rem (by omega) (by decide) (by decide)) ?_
  refine lv_istore (lv' := [(4, .int (nI (p0 % 64))), (3, .int (nI (p0 / 64))), (0, .ref q), (1, .int (nI p0)), (2, .int (nI k))]) hx hb dd_B_numberAt_9 hl (by decide) rfl (fun ls hl => ?_)
  refine lv_aload_n hx hb dd_B_numberAt_11 rfl (lv_at hl 2 rfl) ?_
  refine va_get (D := D) (ci := 0) (C := cn_B) (T := cf_B) (N := 2) hx hb hw in_B hown hK hP 0 rfl rfl 0 (by decide) (hw _ wi_69) (fun _ h9 => h9) rfl dd_B_numberAt_12 ?_
  refine lv_iload_n hx hb dd_B_numberAt_15 rfl (lv_at hl 1 rfl) ?_
  refine va_lald hx hb hK hP 1 0 rfl rfl (vp_in_nI (by omega) (by omega)) dd_B_numberAt_16 ?_
  refine ct_topl (y := w (p0 / 64)) (by rw [nI_clamp (by omega)]) ?_
  refine lv_iload hx hb dd_B_numberAt_17 (lv_at hl 0 rfl) ?_
  refine lv_lshl (v := (w (p0 / 64)) <<< ((nI (p0 % 64)).toInt64 &&& 63)) hx hb dd_B_numberAt_19 rfl ?_
  refine lv_lstore (lv' := [(5, .long ((w (p0 / 64)) <<< ((nI (p0 % 64)).toInt64 &&& 63))), (4, .int (nI (p0 % 64))), (3, .int (nI (p0 / 64))), (0, .ref q), (1, .int (nI p0)), (2, .int (nI k))]) hx hb dd_B_numberAt_20 hl (by decide) rfl (fun ls hl => ?_)
  refine lv_iload hx hb dd_B_numberAt_22 (lv_at hl 1 rfl) ?_
  refine lv_iload_n hx hb dd_B_numberAt_24 rfl (lv_at hl 5 rfl) ?_
  refine lv_iadd hx hb dd_B_numberAt_25 ?_
  refine ct_topi (y := nI (p0 % 64 + k)) (nI_add _ _) ?_
  refine lv_bipush (v := nI 64) hx hb dd_B_numberAt_26 (by decide) ?_
  refine lv_icmp_le (tgt := 50) hx hb dd_B_numberAt_28 (by decide) (fun c_28 => ?_) (fun c_28 => ?_)
  · skip
    have c_28 : (p0 % 64 + k) ≤ 64 := (nI_leI (by omega) (by omega)).mp c_28
    refine lv_lload hx hb dd_B_numberAt_50 (lv_at hl 0 rfl) ?_
    refine lv_bipush (v := nI 64) hx hb dd_B_numberAt_52 (by decide) ?_
    refine lv_iload_n hx hb dd_B_numberAt_54 rfl (lv_at hl 5 rfl) ?_
    refine lv_isub hx hb dd_B_numberAt_55 ?_
    refine ct_topi (y := nI (64 - k)) (pk_sub (by omega)) ?_
    refine lv_lushr (v := (((w (p0 / 64)) <<< ((nI (p0 % 64)).toInt64 &&& 63)).toUInt64 >>> ((nI (64 - k)).toInt64.toUInt64 &&& Int64.toUInt64 63)).toInt64) hx hb dd_B_numberAt_56 rfl ?_
    refine ct_lret (u := ()) hx hb hr hlocks hK hP hD hS rfl ?_ dd_B_numberAt_57
    exact cp_num1 hR h1 h2 h3 (by omega)
  have c_28 : ¬ ((p0 % 64 + k) ≤ 64) := fun z => c_28 ((nI_leI (by omega) (by omega)).mpr z)
  refine lv_lload hx hb dd_B_numberAt_31 (lv_at hl 0 rfl) ?_
  refine lv_aload_n hx hb dd_B_numberAt_33 rfl (lv_at hl 3 rfl) ?_
  refine va_get (D := D) (ci := 0) (C := cn_B) (T := cf_B) (N := 2) hx hb hw in_B hown hK hP 0 rfl rfl 0 (by decide) (hw _ wi_69) (fun _ h9 => h9) rfl dd_B_numberAt_34 ?_
  refine lv_iload_n hx hb dd_B_numberAt_37 rfl (lv_at hl 2 rfl) ?_
  refine lv_iconst (v := nI 1) hx hb dd_B_numberAt_38 (by decide) ?_
  refine lv_iadd hx hb dd_B_numberAt_39 ?_
  refine ct_topi (y := nI (p0 / 64 + 1)) (nI_add _ _) ?_
  refine va_lald hx hb hK hP 1 0 rfl rfl (vp_in_nI (by omega) (by omega)) dd_B_numberAt_40 ?_
  refine ct_topl (y := w (p0 / 64 + 1)) (by rw [nI_clamp (by omega)]) ?_
  refine lv_bipush (v := nI 64) hx hb dd_B_numberAt_41 (by decide) ?_
  refine lv_iload hx hb dd_B_numberAt_43 (lv_at hl 1 rfl) ?_
  refine lv_isub hx hb dd_B_numberAt_45 ?_
  refine ct_topi (y := nI (64 - (p0 % 64))) (pk_sub (by omega)) ?_
  refine lv_lushr (v := ((w (p0 / 64 + 1)).toUInt64 >>> ((nI (64 - (p0 % 64))).toInt64.toUInt64 &&& Int64.toUInt64 63)).toInt64) hx hb dd_B_numberAt_46 rfl ?_
  refine lv_lor hx hb dd_B_numberAt_47 ?_
  refine lv_lstore (lv' := [(5, .long (((w (p0 / 64)) <<< ((nI (p0 % 64)).toInt64 &&& 63)) ||| (((w (p0 / 64 + 1)).toUInt64 >>> ((nI (64 - (p0 % 64))).toInt64.toUInt64 &&& Int64.toUInt64 63)).toInt64))), (4, .int (nI (p0 % 64))), (3, .int (nI (p0 / 64))), (0, .ref q), (1, .int (nI p0)), (2, .int (nI k))]) hx hb dd_B_numberAt_48 hl (by decide) rfl (fun ls hl => ?_)
  refine lv_lload hx hb dd_B_numberAt_50 (lv_at hl 0 rfl) ?_
  refine lv_bipush (v := nI 64) hx hb dd_B_numberAt_52 (by decide) ?_
  refine lv_iload_n hx hb dd_B_numberAt_54 rfl (lv_at hl 5 rfl) ?_
  refine lv_isub hx hb dd_B_numberAt_55 ?_
  refine ct_topi (y := nI (64 - k)) (pk_sub (by omega)) ?_
  refine lv_lushr (v := ((((w (p0 / 64)) <<< ((nI (p0 % 64)).toInt64 &&& 63)) ||| (((w (p0 / 64 + 1)).toUInt64 >>> ((nI (64 - (p0 % 64))).toInt64.toUInt64 &&& Int64.toUInt64 63)).toInt64)).toUInt64 >>> ((nI (64 - k)).toInt64.toUInt64 &&& Int64.toUInt64 63)).toInt64) hx hb dd_B_numberAt_56 rfl ?_
  refine ct_lret (u := ()) hx hb hr hlocks hK hP hD hS rfl ?_ dd_B_numberAt_57
  exact cp_num2 hR h1 h2 h3 (by omega)

set_option maxHeartbeats 4000000 in
set_option maxRecDepth 100000 in
theorem cc_B_append (l : Launch) (D : va_G) (cJ cB : ClassId) (q qw : Nat) (w : Nat → Int64) (L : List Bool) (v : Int64) (k : Nat) (sz : Nat) (hL : L.length ≤ 400000) (hR : cp_Rw w L) (hk : k ≤ 64) (hf : cp_fit v k) : ct_i l my_B_append (Cond.code my_B_append mb_B_append 10 (some .boolean) :: TB) ({ frames := 0, cells := 0, slots := 0, locals := 0 } : Room) D classes cJ cB [.ref q, .long v, .int (nI k)] [(q, .inr (0, [.ref qw, .int (nI L.length)])), (qw, .inl (cJ, 6250, .inr (.inl w)))] sz (fun (r : Int32) (u : Nat × (Nat → Int64)) => r = bI (L.length + k ≤ 400000) ∧ if L.length + k ≤ 400000 then u.1 = L.length + k ∧ cp_Rw u.2 (L ++ cp_bl v k) else u = (L.length, w)) (fun u => [(q, .inr (0, [.ref qw, .int (nI u.1)])), (qw, .inl (cJ, 6250, .inr (.inl u.2)))]) 0 0 := by
  refine ct_ofW (cc := mb_B_append) (maxL := 10) (ret := some .boolean) (by decide) rfl (Nat.le_of_ble_eq_true rfl) ?_
  intro p e s m below meth c hx hb hr hml hts hown hlocks hin hsz hK hP hD hA hS hZ ls hl
  have hw : ∀ w ∈ TB, w.before _ s = true := fun w h => hts w (List.mem_cons_of_mem _ h)
  have hown : s.vm.findClass cn_B = some m.cls := hown
  have hin : meth.name = "append" := hin
  generalize hAe : va_A [(q, .inr (0, [.ref qw, .int (nI L.length)])), (qw, .inl (cJ, 6250, .inr (.inl w)))] sz = A at hD hA hS hZ ⊢
  clear hAe
  have hl : lv_has ls 10 [(0, .ref q), (1, .long v), (3, .int (nI k))] := hl
  have hP : va_P D classes [(q, .inr (0, [.ref qw, .int (nI L.length)])), (qw, .inl (cJ, 6250, .inr (.inl w)))] s.heap := hP
  refine lv_iload_n hx hb dd_B_append_0 rfl (lv_at hl 2 rfl) ?_
  refine lv_ldc (v := 400000) hx hb hown (hw _ wi_299) dd_B_append_1 ?_
  refine ct_topi (y := nI 400000) (by decide) ?_
  refine lv_aload_n hx hb dd_B_append_3 rfl (lv_at hl 0 rfl) ?_
  refine va_get (D := D) (ci := 0) (C := cn_B) (T := cf_B) (N := 2) hx hb hw in_B hown hK hP 0 rfl rfl 1 (by decide) (hw _ wi_70) (fun _ h9 => h9) rfl dd_B_append_4 ?_
  refine lv_isub hx hb dd_B_append_7 ?_
  refine ct_topi (y := nI (400000 - L.length)) (pk_sub (by omega)) ?_
  refine lv_icmp_le (tgt := 13) hx hb dd_B_append_8 (by decide) (fun c_8 => ?_) (fun c_8 => ?_)
  · skip
    have c_8 : k ≤ (400000 - L.length) := (nI_leI (by omega) (by omega)).mp c_8
    refine lv_iload_n hx hb dd_B_append_13 rfl (lv_at hl 2 rfl) ?_
    refine lv_if_ne (tgt := 19) hx hb dd_B_append_14 (by decide) (fun c_14 => ?_) (fun c_14 => ?_)
    · skip
      have c_14 : ¬ (k = 0) := fun z => c_14 ((ct_zeq (by omega)).mpr z)
      refine lv_aload_n hx hb dd_B_append_19 rfl (lv_at hl 0 rfl) ?_
      refine va_get (D := D) (ci := 0) (C := cn_B) (T := cf_B) (N := 2) hx hb hw in_B hown hK hP 0 rfl rfl 1 (by decide) (hw _ wi_70) (fun _ h9 => h9) rfl dd_B_append_20 ?_
      refine lv_bipush (v := nI 64) hx hb dd_B_append_23 (by decide) ?_
      refine lv_idiv hx hb dd_B_append_25 (by decide) ?_
      refine ct_topi (y := nI (L.length / 64)) (pk_div (by omega) (by decide) (by decide)) ?_
      refine lv_istore (lv' := [(4, .int (nI (L.length / 64))), (0, .ref q), (1, .long v), (3, .int (nI k))]) hx hb dd_B_append_26 hl (by decide) rfl (fun ls hl => ?_)
      refine lv_aload_n hx hb dd_B_append_28 rfl (lv_at hl 1 rfl) ?_
      refine va_get (D := D) (ci := 0) (C := cn_B) (T := cf_B) (N := 2) hx hb hw in_B hown hK hP 0 rfl rfl 1 (by decide) (hw _ wi_70) (fun _ h9 => h9) rfl dd_B_append_29 ?_
      refine lv_bipush (v := nI 64) hx hb dd_B_append_32 (by decide) ?_
      refine lv_irem hx hb dd_B_append_34 (by decide) ?_
      refine ct_topi (y := nI (L.length % 64)) (pk_rem (by omega) (by decide) (by decide)) ?_
      refine lv_istore (lv' := [(5, .int (nI (L.length % 64))), (4, .int (nI (L.length / 64))), (0, .ref q), (1, .long v), (3, .int (nI k))]) hx hb dd_B_append_35 hl (by decide) rfl (fun ls hl => ?_)
      refine lv_bipush (v := nI 64) hx hb dd_B_append_37 (by decide) ?_
      refine lv_iload hx hb dd_B_append_39 (lv_at hl 0 rfl) ?_
      refine lv_isub hx hb dd_B_append_41 ?_
      refine ct_topi (y := nI (64 - (L.length % 64))) (pk_sub (by omega)) ?_
      refine lv_istore (lv' := [(6, .int (nI (64 - (L.length % 64)))), (5, .int (nI (L.length % 64))), (4, .int (nI (L.length / 64))), (0, .ref q), (1, .long v), (3, .int (nI k))]) hx hb dd_B_append_42 hl (by decide) rfl (fun ls hl => ?_)
      refine lv_iload hx hb dd_B_append_44 (lv_at hl 1 rfl) ?_
      refine lv_if_ne (tgt := 53) hx hb dd_B_append_46 (by decide) (fun c_46 => ?_) (fun c_46 => ?_)
      · skip
        have c_46 : ¬ ((L.length % 64) = 0) := fun z => c_46 ((ct_zeq (by omega)).mpr z)
        refine lv_aload_n hx hb dd_B_append_53 rfl (lv_at hl 3 rfl) ?_
        refine va_get (D := D) (ci := 0) (C := cn_B) (T := cf_B) (N := 2) hx hb hw in_B hown hK hP 0 rfl rfl 0 (by decide) (hw _ wi_69) (fun _ h9 => h9) rfl dd_B_append_54 ?_
        refine lv_iload hx hb dd_B_append_57 (lv_at hl 2 rfl) ?_
        refine va_lald hx hb hK hP 1 0 rfl rfl (vp_in_nI (by omega) (by omega)) dd_B_append_59 ?_
        refine ct_topl (y := w (L.length / 64)) (by rw [nI_clamp (by omega)]) ?_
        refine lv_iload hx hb dd_B_append_60 (lv_at hl 0 rfl) ?_
        refine lv_lushr (v := ((w (L.length / 64)).toUInt64 >>> ((nI (64 - (L.length % 64))).toInt64.toUInt64 &&& Int64.toUInt64 63)).toInt64) hx hb dd_B_append_62 rfl ?_
        refine lv_iload hx hb dd_B_append_63 (lv_at hl 0 rfl) ?_
        refine lv_lshl (v := (((w (L.length / 64)).toUInt64 >>> ((nI (64 - (L.length % 64))).toInt64.toUInt64 &&& Int64.toUInt64 63)).toInt64) <<< ((nI (64 - (L.length % 64))).toInt64 &&& 63)) hx hb dd_B_append_65 rfl ?_
        refine ct_topl (y := cp_hd w L.length) ((if_neg c_46).symm) ?_
        refine lv_lstore (lv' := [(7, .long (cp_hd w L.length)), (6, .int (nI (64 - (L.length % 64)))), (5, .int (nI (L.length % 64))), (4, .int (nI (L.length / 64))), (0, .ref q), (1, .long v), (3, .int (nI k))]) hx hb dd_B_append_66 hl (by decide) rfl (fun ls hl => ?_)
        refine lv_iload_n hx hb dd_B_append_68 rfl (lv_at hl 6 rfl) ?_
        refine lv_iload hx hb dd_B_append_69 (lv_at hl 1 rfl) ?_
        refine lv_icmp_gt (tgt := 93) hx hb dd_B_append_71 (by decide) (fun c_71 => ?_) (fun c_71 => ?_)
        · skip
          have c_71 : (64 - (L.length % 64)) < k := (nI_ltI (by omega) (by omega)).mp c_71
          refine lv_iload_n hx hb dd_B_append_93 rfl (lv_at hl 6 rfl) ?_
          refine lv_iload hx hb dd_B_append_94 (lv_at hl 1 rfl) ?_
          refine lv_isub hx hb dd_B_append_96 ?_
          refine ct_topi (y := nI (k - (64 - (L.length % 64)))) (pk_sub (by omega)) ?_
          refine lv_istore (lv' := [(9, .int (nI (k - (64 - (L.length % 64))))), (7, .long (cp_hd w L.length)), (6, .int (nI (64 - (L.length % 64)))), (5, .int (nI (L.length % 64))), (4, .int (nI (L.length / 64))), (0, .ref q), (1, .long v), (3, .int (nI k))]) hx hb dd_B_append_97 hl (by decide) rfl (fun ls hl => ?_)
          refine lv_aload_n hx hb dd_B_append_99 rfl (lv_at hl 5 rfl) ?_
          refine va_get (D := D) (ci := 0) (C := cn_B) (T := cf_B) (N := 2) hx hb hw in_B hown hK hP 0 rfl rfl 0 (by decide) (hw _ wi_69) (fun _ h9 => h9) rfl dd_B_append_100 ?_
          refine lv_iload hx hb dd_B_append_103 (lv_at hl 4 rfl) ?_
          refine lv_lload hx hb dd_B_append_105 (lv_at hl 1 rfl) ?_
          refine lv_lload_n hx hb dd_B_append_107 rfl (lv_at hl 6 rfl) ?_
          refine lv_iload hx hb dd_B_append_108 (lv_at hl 0 rfl) ?_
          refine lv_lushr (v := (v.toUInt64 >>> ((nI (k - (64 - (L.length % 64)))).toInt64.toUInt64 &&& Int64.toUInt64 63)).toInt64) hx hb dd_B_append_110 rfl ?_
          refine lv_lor hx hb dd_B_append_111 ?_
          refine va_last hx hb hK hP hD hS 1 0 rfl rfl (vp_in_nI (by omega) (by omega)) dd_B_append_112 (fun H locs hP hD hS => ?_)
          rw [show (nI (L.length / 64)).toNatClampNeg = L.length / 64 from nI_clamp (by omega)] at hP hD
          have hP : va_P D classes [(q, .inr (0, [.ref qw, .int (nI L.length)])), (qw, .inl (cJ, 6250, .inr (.inl (vp_updL w (L.length / 64) ((cp_hd w L.length) ||| ((v.toUInt64 >>> ((nI (k - (64 - (L.length % 64)))).toInt64.toUInt64 &&& Int64.toUInt64 63)).toInt64))))))] _ := hP
          have hD : va_D A [(q, .inr (0, [.ref qw, .int (nI L.length)])), (qw, .inl (cJ, 6250, .inr (.inl (vp_updL w (L.length / 64) ((cp_hd w L.length) ||| ((v.toUInt64 >>> ((nI (k - (64 - (L.length % 64)))).toInt64.toUInt64 &&& Int64.toUInt64 63)).toInt64))))))] := hD
          refine lv_aload_n hx hb dd_B_append_113 rfl (lv_at hl 5 rfl) ?_
          refine va_get (D := D) (ci := 0) (C := cn_B) (T := cf_B) (N := 2) hx hb hw in_B hown hK hP 0 rfl rfl 0 (by decide) (hw _ wi_69) (fun _ h9 => h9) rfl dd_B_append_114 ?_
          refine lv_iload hx hb dd_B_append_117 (lv_at hl 4 rfl) ?_
          refine lv_iconst (v := nI 1) hx hb dd_B_append_119 (by decide) ?_
          refine lv_iadd hx hb dd_B_append_120 ?_
          refine ct_topi (y := nI (L.length / 64 + 1)) (nI_add _ _) ?_
          refine lv_lload_n hx hb dd_B_append_121 rfl (lv_at hl 6 rfl) ?_
          refine lv_bipush (v := nI 64) hx hb dd_B_append_122 (by decide) ?_
          refine lv_iload hx hb dd_B_append_124 (lv_at hl 0 rfl) ?_
          refine lv_isub hx hb dd_B_append_126 ?_
          refine ct_topi (y := nI (64 - (k - (64 - (L.length % 64))))) (pk_sub (by omega)) ?_
          refine lv_lshl (v := v <<< ((nI (64 - (k - (64 - (L.length % 64))))).toInt64 &&& 63)) hx hb dd_B_append_127 rfl ?_
          refine va_last hx hb hK hP hD hS 1 0 rfl rfl (vp_in_nI (by omega) (by omega)) dd_B_append_128 (fun H locs hP hD hS => ?_)
          rw [show (nI (L.length / 64 + 1)).toNatClampNeg = L.length / 64 + 1 from nI_clamp (by omega)] at hP hD
          have hP : va_P D classes [(q, .inr (0, [.ref qw, .int (nI L.length)])), (qw, .inl (cJ, 6250, .inr (.inl (vp_updL (vp_updL w (L.length / 64) ((cp_hd w L.length) ||| ((v.toUInt64 >>> ((nI (k - (64 - (L.length % 64)))).toInt64.toUInt64 &&& Int64.toUInt64 63)).toInt64))) (L.length / 64 + 1) (v <<< ((nI (64 - (k - (64 - (L.length % 64))))).toInt64 &&& 63))))))] _ := hP
          have hD : va_D A [(q, .inr (0, [.ref qw, .int (nI L.length)])), (qw, .inl (cJ, 6250, .inr (.inl (vp_updL (vp_updL w (L.length / 64) ((cp_hd w L.length) ||| ((v.toUInt64 >>> ((nI (k - (64 - (L.length % 64)))).toInt64.toUInt64 &&& Int64.toUInt64 63)).toInt64))) (L.length / 64 + 1) (v <<< ((nI (64 - (k - (64 - (L.length % 64))))).toInt64 &&& 63))))))] := hD
          refine lv_aload_n hx hb dd_B_append_129 rfl (lv_at hl 5 rfl) ?_
          refine lv_dup hx hb dd_B_append_130 rfl ?_
          refine va_get (D := D) (ci := 0) (C := cn_B) (T := cf_B) (N := 2) hx hb hw in_B hown hK hP 0 rfl rfl 1 (by decide) (hw _ wi_70) (fun _ h9 => h9) rfl dd_B_append_131 ?_
          refine lv_iload_n hx hb dd_B_append_134 rfl (lv_at hl 7 rfl) ?_
          refine lv_iadd hx hb dd_B_append_135 ?_
          refine ct_topi (y := nI (L.length + k)) (nI_add _ _) ?_
          refine va_put (D := D) (ci := 0) (v := .int (nI (L.length + k))) (ty := .int) (C := cn_B) (T := cf_B) (N := 2) hx hb hw in_B ty_B to_B nn_B hown hK hP hD hS 0 rfl rfl 1 (by decide) (hw _ wi_70) (fun _ h9 => h9) rfl (by decide +kernel) (rfl) (rfl) (Nat.le_of_ble_eq_true rfl) dd_B_append_136 (fun H locs hP hD hS => ?_)
          have hP : va_P D classes [(q, .inr (0, [.ref qw, .int (nI (L.length + k))])), (qw, .inl (cJ, 6250, .inr (.inl (vp_updL (vp_updL w (L.length / 64) ((cp_hd w L.length) ||| ((v.toUInt64 >>> ((nI (k - (64 - (L.length % 64)))).toInt64.toUInt64 &&& Int64.toUInt64 63)).toInt64))) (L.length / 64 + 1) (v <<< ((nI (64 - (k - (64 - (L.length % 64))))).toInt64 &&& 63))))))] _ := hP
          have hD : va_D A [(q, .inr (0, [.ref qw, .int (nI (L.length + k))])), (qw, .inl (cJ, 6250, .inr (.inl (vp_updL (vp_updL w (L.length / 64) ((cp_hd w L.length) ||| ((v.toUInt64 >>> ((nI (k - (64 - (L.length % 64)))).toInt64.toUInt64 &&& Int64.toUInt64 63)).toInt64))) (L.length / 64 + 1) (v <<< ((nI (64 - (k - (64 - (L.length % 64))))).toInt64 &&& 63))))))] := hD
          refine lv_iconst (v := nI 1) hx hb dd_B_append_139 (by decide) ?_
          refine ct_zret (u := (L.length + k, vp_updL (vp_updL w (L.length / 64) ((cp_hd w L.length) ||| ((v.toUInt64 >>> ((nI (k - (64 - (L.length % 64)))).toInt64.toUInt64 &&& Int64.toUInt64 63)).toInt64))) (L.length / 64 + 1) (v <<< ((nI (64 - (k - (64 - (L.length % 64))))).toInt64 &&& 63)))) hx hb hr hlocks (by decide) hK hP hD hS rfl ?_ dd_B_append_140
          refine ⟨bI_t (by omega), ?_⟩
          rw [if_pos (by omega)]
          exact ⟨rfl, cp_app2 hR (by omega) hf (by omega)⟩
        have c_71 : ¬ ((64 - (L.length % 64)) < k) := fun z => c_71 ((nI_ltI (by omega) (by omega)).mpr z)
        refine lv_aload_n hx hb dd_B_append_74 rfl (lv_at hl 4 rfl) ?_
        refine va_get (D := D) (ci := 0) (C := cn_B) (T := cf_B) (N := 2) hx hb hw in_B hown hK hP 0 rfl rfl 0 (by decide) (hw _ wi_69) (fun _ h9 => h9) rfl dd_B_append_75 ?_
        refine lv_iload hx hb dd_B_append_78 (lv_at hl 3 rfl) ?_
        refine lv_lload hx hb dd_B_append_80 (lv_at hl 0 rfl) ?_
        refine lv_lload_n hx hb dd_B_append_82 rfl (lv_at hl 5 rfl) ?_
        refine lv_iload hx hb dd_B_append_83 (lv_at hl 1 rfl) ?_
        refine lv_iload_n hx hb dd_B_append_85 rfl (lv_at hl 6 rfl) ?_
        refine lv_isub hx hb dd_B_append_86 ?_
        refine ct_topi (y := nI (64 - (L.length % 64) - k)) (pk_sub (by omega)) ?_
        refine lv_lshl (v := v <<< ((nI (64 - (L.length % 64) - k)).toInt64 &&& 63)) hx hb dd_B_append_87 rfl ?_
        refine lv_lor hx hb dd_B_append_88 ?_
        refine va_last hx hb hK hP hD hS 1 0 rfl rfl (vp_in_nI (by omega) (by omega)) dd_B_append_89 (fun H locs hP hD hS => ?_)
        rw [show (nI (L.length / 64)).toNatClampNeg = L.length / 64 from nI_clamp (by omega)] at hP hD
        have hP : va_P D classes [(q, .inr (0, [.ref qw, .int (nI L.length)])), (qw, .inl (cJ, 6250, .inr (.inl (vp_updL w (L.length / 64) ((cp_hd w L.length) ||| (v <<< ((nI (64 - (L.length % 64) - k)).toInt64 &&& 63)))))))] _ := hP
        have hD : va_D A [(q, .inr (0, [.ref qw, .int (nI L.length)])), (qw, .inl (cJ, 6250, .inr (.inl (vp_updL w (L.length / 64) ((cp_hd w L.length) ||| (v <<< ((nI (64 - (L.length % 64) - k)).toInt64 &&& 63)))))))] := hD
        refine lv_goto (tgt := 129) hx hb dd_B_append_90 (by decide) ?_
        refine lv_aload_n hx hb dd_B_append_129 rfl (lv_at hl 4 rfl) ?_
        refine lv_dup hx hb dd_B_append_130 rfl ?_
        refine va_get (D := D) (ci := 0) (C := cn_B) (T := cf_B) (N := 2) hx hb hw in_B hown hK hP 0 rfl rfl 1 (by decide) (hw _ wi_70) (fun _ h9 => h9) rfl dd_B_append_131 ?_
        refine lv_iload_n hx hb dd_B_append_134 rfl (lv_at hl 6 rfl) ?_
        refine lv_iadd hx hb dd_B_append_135 ?_
        refine ct_topi (y := nI (L.length + k)) (nI_add _ _) ?_
        refine va_put (D := D) (ci := 0) (v := .int (nI (L.length + k))) (ty := .int) (C := cn_B) (T := cf_B) (N := 2) hx hb hw in_B ty_B to_B nn_B hown hK hP hD hS 0 rfl rfl 1 (by decide) (hw _ wi_70) (fun _ h9 => h9) rfl (by decide +kernel) (rfl) (rfl) (Nat.le_of_ble_eq_true rfl) dd_B_append_136 (fun H locs hP hD hS => ?_)
        have hP : va_P D classes [(q, .inr (0, [.ref qw, .int (nI (L.length + k))])), (qw, .inl (cJ, 6250, .inr (.inl (vp_updL w (L.length / 64) ((cp_hd w L.length) ||| (v <<< ((nI (64 - (L.length % 64) - k)).toInt64 &&& 63)))))))] _ := hP
        have hD : va_D A [(q, .inr (0, [.ref qw, .int (nI (L.length + k))])), (qw, .inl (cJ, 6250, .inr (.inl (vp_updL w (L.length / 64) ((cp_hd w L.length) ||| (v <<< ((nI (64 - (L.length % 64) - k)).toInt64 &&& 63)))))))] := hD
        refine lv_iconst (v := nI 1) hx hb dd_B_append_139 (by decide) ?_
        refine ct_zret (u := (L.length + k, vp_updL w (L.length / 64) ((cp_hd w L.length) ||| (v <<< ((nI (64 - (L.length % 64) - k)).toInt64 &&& 63))))) hx hb hr hlocks (by decide) hK hP hD hS rfl ?_ dd_B_append_140
        refine ⟨bI_t (by omega), ?_⟩
        rw [if_pos (by omega)]
        exact ⟨rfl, cp_app1 hR (by omega) hf (by omega)⟩
      have c_46 : (L.length % 64) = 0 := (ct_zeq (by omega)).mp c_46
      refine lv_lconst (v := 0) hx hb dd_B_append_49 (by decide) ?_
      refine ct_topl (y := cp_hd w L.length) ((if_pos c_46).symm) ?_
      refine lv_goto (tgt := 66) hx hb dd_B_append_50 (by decide) ?_
      refine lv_lstore (lv' := [(7, .long (cp_hd w L.length)), (6, .int (nI (64 - (L.length % 64)))), (5, .int (nI (L.length % 64))), (4, .int (nI (L.length / 64))), (0, .ref q), (1, .long v), (3, .int (nI k))]) hx hb dd_B_append_66 hl (by decide) rfl (fun ls hl => ?_)
      refine lv_iload_n hx hb dd_B_append_68 rfl (lv_at hl 6 rfl) ?_
      refine lv_iload hx hb dd_B_append_69 (lv_at hl 1 rfl) ?_
      refine lv_icmp_gt (tgt := 93) hx hb dd_B_append_71 (by decide) (fun c_71 => ?_) (fun c_71 => ?_)
      · skip
        have c_71 : (64 - (L.length % 64)) < k := (nI_ltI (by omega) (by omega)).mp c_71
        refine lv_iload_n hx hb dd_B_append_93 rfl (lv_at hl 6 rfl) ?_
        refine lv_iload hx hb dd_B_append_94 (lv_at hl 1 rfl) ?_
        refine lv_isub hx hb dd_B_append_96 ?_
        refine ct_topi (y := nI (k - (64 - (L.length % 64)))) (pk_sub (by omega)) ?_
        refine lv_istore (lv' := [(9, .int (nI (k - (64 - (L.length % 64))))), (7, .long (cp_hd w L.length)), (6, .int (nI (64 - (L.length % 64)))), (5, .int (nI (L.length % 64))), (4, .int (nI (L.length / 64))), (0, .ref q), (1, .long v), (3, .int (nI k))]) hx hb dd_B_append_97 hl (by decide) rfl (fun ls hl => ?_)
        refine lv_aload_n hx hb dd_B_append_99 rfl (lv_at hl 5 rfl) ?_
        refine va_get (D := D) (ci := 0) (C := cn_B) (T := cf_B) (N := 2) hx hb hw in_B hown hK hP 0 rfl rfl 0 (by decide) (hw _ wi_69) (fun _ h9 => h9) rfl dd_B_append_100 ?_
        refine lv_iload hx hb dd_B_append_103 (lv_at hl 4 rfl) ?_
        refine lv_lload hx hb dd_B_append_105 (lv_at hl 1 rfl) ?_
        refine lv_lload_n hx hb dd_B_append_107 rfl (lv_at hl 6 rfl) ?_
        refine lv_iload hx hb dd_B_append_108 (lv_at hl 0 rfl) ?_
        refine lv_lushr (v := (v.toUInt64 >>> ((nI (k - (64 - (L.length % 64)))).toInt64.toUInt64 &&& Int64.toUInt64 63)).toInt64) hx hb dd_B_append_110 rfl ?_
        refine lv_lor hx hb dd_B_append_111 ?_
        refine va_last hx hb hK hP hD hS 1 0 rfl rfl (vp_in_nI (by omega) (by omega)) dd_B_append_112 (fun H locs hP hD hS => ?_)
        rw [show (nI (L.length / 64)).toNatClampNeg = L.length / 64 from nI_clamp (by omega)] at hP hD
        have hP : va_P D classes [(q, .inr (0, [.ref qw, .int (nI L.length)])), (qw, .inl (cJ, 6250, .inr (.inl (vp_updL w (L.length / 64) ((cp_hd w L.length) ||| ((v.toUInt64 >>> ((nI (k - (64 - (L.length % 64)))).toInt64.toUInt64 &&& Int64.toUInt64 63)).toInt64))))))] _ := hP
        have hD : va_D A [(q, .inr (0, [.ref qw, .int (nI L.length)])), (qw, .inl (cJ, 6250, .inr (.inl (vp_updL w (L.length / 64) ((cp_hd w L.length) ||| ((v.toUInt64 >>> ((nI (k - (64 - (L.length % 64)))).toInt64.toUInt64 &&& Int64.toUInt64 63)).toInt64))))))] := hD
        refine lv_aload_n hx hb dd_B_append_113 rfl (lv_at hl 5 rfl) ?_
        refine va_get (D := D) (ci := 0) (C := cn_B) (T := cf_B) (N := 2) hx hb hw in_B hown hK hP 0 rfl rfl 0 (by decide) (hw _ wi_69) (fun _ h9 => h9) rfl dd_B_append_114 ?_
        refine lv_iload hx hb dd_B_append_117 (lv_at hl 4 rfl) ?_
        refine lv_iconst (v := nI 1) hx hb dd_B_append_119 (by decide) ?_
        refine lv_iadd hx hb dd_B_append_120 ?_
        refine ct_topi (y := nI (L.length / 64 + 1)) (nI_add _ _) ?_
        refine lv_lload_n hx hb dd_B_append_121 rfl (lv_at hl 6 rfl) ?_
        refine lv_bipush (v := nI 64) hx hb dd_B_append_122 (by decide) ?_
        refine lv_iload hx hb dd_B_append_124 (lv_at hl 0 rfl) ?_
        refine lv_isub hx hb dd_B_append_126 ?_
        refine ct_topi (y := nI (64 - (k - (64 - (L.length % 64))))) (pk_sub (by omega)) ?_
        refine lv_lshl (v := v <<< ((nI (64 - (k - (64 - (L.length % 64))))).toInt64 &&& 63)) hx hb dd_B_append_127 rfl ?_
        refine va_last hx hb hK hP hD hS 1 0 rfl rfl (vp_in_nI (by omega) (by omega)) dd_B_append_128 (fun H locs hP hD hS => ?_)
        rw [show (nI (L.length / 64 + 1)).toNatClampNeg = L.length / 64 + 1 from nI_clamp (by omega)] at hP hD
        have hP : va_P D classes [(q, .inr (0, [.ref qw, .int (nI L.length)])), (qw, .inl (cJ, 6250, .inr (.inl (vp_updL (vp_updL w (L.length / 64) ((cp_hd w L.length) ||| ((v.toUInt64 >>> ((nI (k - (64 - (L.length % 64)))).toInt64.toUInt64 &&& Int64.toUInt64 63)).toInt64))) (L.length / 64 + 1) (v <<< ((nI (64 - (k - (64 - (L.length % 64))))).toInt64 &&& 63))))))] _ := hP
        have hD : va_D A [(q, .inr (0, [.ref qw, .int (nI L.length)])), (qw, .inl (cJ, 6250, .inr (.inl (vp_updL (vp_updL w (L.length / 64) ((cp_hd w L.length) ||| ((v.toUInt64 >>> ((nI (k - (64 - (L.length % 64)))).toInt64.toUInt64 &&& Int64.toUInt64 63)).toInt64))) (L.length / 64 + 1) (v <<< ((nI (64 - (k - (64 - (L.length % 64))))).toInt64 &&& 63))))))] := hD
        refine lv_aload_n hx hb dd_B_append_129 rfl (lv_at hl 5 rfl) ?_
        refine lv_dup hx hb dd_B_append_130 rfl ?_
        refine va_get (D := D) (ci := 0) (C := cn_B) (T := cf_B) (N := 2) hx hb hw in_B hown hK hP 0 rfl rfl 1 (by decide) (hw _ wi_70) (fun _ h9 => h9) rfl dd_B_append_131 ?_
        refine lv_iload_n hx hb dd_B_append_134 rfl (lv_at hl 7 rfl) ?_
        refine lv_iadd hx hb dd_B_append_135 ?_
        refine ct_topi (y := nI (L.length + k)) (nI_add _ _) ?_
        refine va_put (D := D) (ci := 0) (v := .int (nI (L.length + k))) (ty := .int) (C := cn_B) (T := cf_B) (N := 2) hx hb hw in_B ty_B to_B nn_B hown hK hP hD hS 0 rfl rfl 1 (by decide) (hw _ wi_70) (fun _ h9 => h9) rfl (by decide +kernel) (rfl) (rfl) (Nat.le_of_ble_eq_true rfl) dd_B_append_136 (fun H locs hP hD hS => ?_)
        have hP : va_P D classes [(q, .inr (0, [.ref qw, .int (nI (L.length + k))])), (qw, .inl (cJ, 6250, .inr (.inl (vp_updL (vp_updL w (L.length / 64) ((cp_hd w L.length) ||| ((v.toUInt64 >>> ((nI (k - (64 - (L.length % 64)))).toInt64.toUInt64 &&& Int64.toUInt64 63)).toInt64))) (L.length / 64 + 1) (v <<< ((nI (64 - (k - (64 - (L.length % 64))))).toInt64 &&& 63))))))] _ := hP
        have hD : va_D A [(q, .inr (0, [.ref qw, .int (nI (L.length + k))])), (qw, .inl (cJ, 6250, .inr (.inl (vp_updL (vp_updL w (L.length / 64) ((cp_hd w L.length) ||| ((v.toUInt64 >>> ((nI (k - (64 - (L.length % 64)))).toInt64.toUInt64 &&& Int64.toUInt64 63)).toInt64))) (L.length / 64 + 1) (v <<< ((nI (64 - (k - (64 - (L.length % 64))))).toInt64 &&& 63))))))] := hD
        refine lv_iconst (v := nI 1) hx hb dd_B_append_139 (by decide) ?_
        refine ct_zret (u := (L.length + k, vp_updL (vp_updL w (L.length / 64) ((cp_hd w L.length) ||| ((v.toUInt64 >>> ((nI (k - (64 - (L.length % 64)))).toInt64.toUInt64 &&& Int64.toUInt64 63)).toInt64))) (L.length / 64 + 1) (v <<< ((nI (64 - (k - (64 - (L.length % 64))))).toInt64 &&& 63)))) hx hb hr hlocks (by decide) hK hP hD hS rfl ?_ dd_B_append_140
        refine ⟨bI_t (by omega), ?_⟩
        rw [if_pos (by omega)]
        exact ⟨rfl, cp_app2 hR (by omega) hf (by omega)⟩
      have c_71 : ¬ ((64 - (L.length % 64)) < k) := fun z => c_71 ((nI_ltI (by omega) (by omega)).mpr z)
      refine lv_aload_n hx hb dd_B_append_74 rfl (lv_at hl 4 rfl) ?_
      refine va_get (D := D) (ci := 0) (C := cn_B) (T := cf_B) (N := 2) hx hb hw in_B hown hK hP 0 rfl rfl 0 (by decide) (hw _ wi_69) (fun _ h9 => h9) rfl dd_B_append_75 ?_
      refine lv_iload hx hb dd_B_append_78 (lv_at hl 3 rfl) ?_
      refine lv_lload hx hb dd_B_append_80 (lv_at hl 0 rfl) ?_
      refine lv_lload_n hx hb dd_B_append_82 rfl (lv_at hl 5 rfl) ?_
      refine lv_iload hx hb dd_B_append_83 (lv_at hl 1 rfl) ?_
      refine lv_iload_n hx hb dd_B_append_85 rfl (lv_at hl 6 rfl) ?_
      refine lv_isub hx hb dd_B_append_86 ?_
      refine ct_topi (y := nI (64 - (L.length % 64) - k)) (pk_sub (by omega)) ?_
      refine lv_lshl (v := v <<< ((nI (64 - (L.length % 64) - k)).toInt64 &&& 63)) hx hb dd_B_append_87 rfl ?_
      refine lv_lor hx hb dd_B_append_88 ?_
      refine va_last hx hb hK hP hD hS 1 0 rfl rfl (vp_in_nI (by omega) (by omega)) dd_B_append_89 (fun H locs hP hD hS => ?_)
      rw [show (nI (L.length / 64)).toNatClampNeg = L.length / 64 from nI_clamp (by omega)] at hP hD
      have hP : va_P D classes [(q, .inr (0, [.ref qw, .int (nI L.length)])), (qw, .inl (cJ, 6250, .inr (.inl (vp_updL w (L.length / 64) ((cp_hd w L.length) ||| (v <<< ((nI (64 - (L.length % 64) - k)).toInt64 &&& 63)))))))] _ := hP
      have hD : va_D A [(q, .inr (0, [.ref qw, .int (nI L.length)])), (qw, .inl (cJ, 6250, .inr (.inl (vp_updL w (L.length / 64) ((cp_hd w L.length) ||| (v <<< ((nI (64 - (L.length % 64) - k)).toInt64 &&& 63)))))))] := hD
      refine lv_goto (tgt := 129) hx hb dd_B_append_90 (by decide) ?_
      refine lv_aload_n hx hb dd_B_append_129 rfl (lv_at hl 4 rfl) ?_
      refine lv_dup hx hb dd_B_append_130 rfl ?_
      refine va_get (D := D) (ci := 0) (C := cn_B) (T := cf_B) (N := 2) hx hb hw in_B hown hK hP 0 rfl rfl 1 (by decide) (hw _ wi_70) (fun _ h9 => h9) rfl dd_B_append_131 ?_
      refine lv_iload_n hx hb dd_B_append_134 rfl (lv_at hl 6 rfl) ?_
      refine lv_iadd hx hb dd_B_append_135 ?_
      refine ct_topi (y := nI (L.length + k)) (nI_add _ _) ?_
      refine va_put (D := D) (ci := 0) (v := .int (nI (L.length + k))) (ty := .int) (C := cn_B) (T := cf_B) (N := 2) hx hb hw in_B ty_B to_B nn_B hown hK hP hD hS 0 rfl rfl 1 (by decide) (hw _ wi_70) (fun _ h9 => h9) rfl (by decide +kernel) (rfl) (rfl) (Nat.le_of_ble_eq_true rfl) dd_B_append_136 (fun H locs hP hD hS => ?_)
      have hP : va_P D classes [(q, .inr (0, [.ref qw, .int (nI (L.length + k))])), (qw, .inl (cJ, 6250, .inr (.inl (vp_updL w (L.length / 64) ((cp_hd w L.length) ||| (v <<< ((nI (64 - (L.length % 64) - k)).toInt64 &&& 63)))))))] _ := hP
      have hD : va_D A [(q, .inr (0, [.ref qw, .int (nI (L.length + k))])), (qw, .inl (cJ, 6250, .inr (.inl (vp_updL w (L.length / 64) ((cp_hd w L.length) ||| (v <<< ((nI (64 - (L.length % 64) - k)).toInt64 &&& 63)))))))] := hD
      refine lv_iconst (v := nI 1) hx hb dd_B_append_139 (by decide) ?_
      refine ct_zret (u := (L.length + k, vp_updL w (L.length / 64) ((cp_hd w L.length) ||| (v <<< ((nI (64 - (L.length % 64) - k)).toInt64 &&& 63))))) hx hb hr hlocks (by decide) hK hP hD hS rfl ?_ dd_B_append_140
      refine ⟨bI_t (by omega), ?_⟩
      rw [if_pos (by omega)]
      exact ⟨rfl, cp_app1 hR (by omega) hf (by omega)⟩
    have c_14 : k = 0 := (ct_zeq (by omega)).mp c_14
    refine lv_iconst (v := nI 1) hx hb dd_B_append_17 (by decide) ?_
    refine ct_zret (u := (L.length, w)) hx hb hr hlocks (by decide) hK hP hD hS rfl ?_ dd_B_append_18
    refine ⟨bI_t (by omega), ?_⟩
    rw [if_pos (by omega)]
    subst c_14
    exact ⟨rfl, by rw [cp_bl, List.append_nil]; exact hR⟩
  have c_8 : ¬ (k ≤ (400000 - L.length)) := fun z => c_8 ((nI_leI (by omega) (by omega)).mpr z)
  refine lv_iconst (v := nI 0) hx hb dd_B_append_11 (by decide) ?_
  refine ct_zret (u := (L.length, w)) hx hb hr hlocks (by decide) hK hP hD hS rfl ?_ dd_B_append_12
  exact ⟨bI_f (by omega), by rw [if_neg (by omega)]⟩

set_option maxHeartbeats 4000000 in
set_option maxRecDepth 100000 in
theorem cc_B_shorten (l : Launch) (D : va_G) (cJ cB : ClassId) (q qw n : Nat) (w : Nat → Int64) (k : Nat) (sz : Nat) : ct_v l my_B_shorten (Cond.code my_B_shorten mb_B_shorten 2 none :: TB) ({ frames := 0, cells := 0, slots := 0, locals := 0 } : Room) D classes cJ cB [.ref q, .int (nI k)] [(q, .inr (0, [.ref qw, .int (nI n)])), (qw, .inl (cJ, 6250, .inr (.inl w)))] sz (fun (u : Unit) => True) (fun u => [(q, .inr (0, [.ref qw, .int (nI k)])), (qw, .inl (cJ, 6250, .inr (.inl w)))]) 0 0 := by
  refine ct_ofW (cc := mb_B_shorten) (maxL := 2) (ret := none) (by decide) rfl (Nat.le_of_ble_eq_true rfl) ?_
  intro p e s m below meth c hx hb hr hml hts hown hlocks hin hsz hK hP hD hA hS hZ ls hl
  have hw : ∀ w ∈ TB, w.before _ s = true := fun w h => hts w (List.mem_cons_of_mem _ h)
  have hown : s.vm.findClass cn_B = some m.cls := hown
  have hin : meth.name = "shorten" := hin
  generalize hAe : va_A [(q, .inr (0, [.ref qw, .int (nI n)])), (qw, .inl (cJ, 6250, .inr (.inl w)))] sz = A at hD hA hS hZ ⊢
  clear hAe
  have hl : lv_has ls 2 [(0, .ref q), (1, .int (nI k))] := hl
  have hP : va_P D classes [(q, .inr (0, [.ref qw, .int (nI n)])), (qw, .inl (cJ, 6250, .inr (.inl w)))] s.heap := hP
  refine lv_aload_n hx hb dd_B_shorten_0 rfl (lv_at hl 0 rfl) ?_
  refine lv_iload_n hx hb dd_B_shorten_1 rfl (lv_at hl 1 rfl) ?_
  refine va_put (D := D) (ci := 0) (v := .int (nI k)) (ty := .int) (C := cn_B) (T := cf_B) (N := 2) hx hb hw in_B ty_B to_B nn_B hown hK hP hD hS 0 rfl rfl 1 (by decide) (hw _ wi_70) (fun _ h9 => h9) rfl (by decide +kernel) (rfl) (rfl) (Nat.le_of_ble_eq_true rfl) dd_B_shorten_2 (fun H locs hP hD hS => ?_)
  have hP : va_P D classes [(q, .inr (0, [.ref qw, .int (nI k)])), (qw, .inl (cJ, 6250, .inr (.inl w)))] _ := hP
  have hD : va_D A [(q, .inr (0, [.ref qw, .int (nI k)])), (qw, .inl (cJ, 6250, .inr (.inl w)))] := hD
  refine ct_vret (u := ()) hx hb hr hlocks hK hP hD hS rfl ?_ dd_B_shorten_5
  trivial

set_option maxHeartbeats 4000000 in
set_option maxRecDepth 100000 in
theorem cx_B_isOne (l : Launch) (hlt : l.stackTraces = false) (D : va_G) (cJ cB : ClassId) (q qw : Nat) (w : Nat → Int64) (L : List Bool) (k : Int32) (sz : Nat) (hL : L.length ≤ 400000) (hR : cp_Rw w L) : cx_i l my_B_isOne (Cond.code my_B_isOne mb_B_isOne 2 (some .boolean) :: TB) ({ frames := 6, cells := 1, slots := 6, locals := 90 } : Room) D classes cJ cB [.ref q, .int k] [(q, .inr (0, [.ref qw, .int (nI L.length)])), (qw, .inl (cJ, 6250, .inr (.inl w)))] sz (fun (r : Int32) (u : Unit) => ∃ j : Nat, j < L.length ∧ k = nI j ∧ r = bI (cp_g L j = true)) (fun u => [(q, .inr (0, [.ref qw, .int (nI L.length)])), (qw, .inl (cJ, 6250, .inr (.inl w)))]) (fun E => E = ex_I ∧ ¬ cp_ix k L.length) 1 6 := by
  refine cx_ofW (cc := mb_B_isOne) (maxL := 2) (ret := some .boolean) (by decide) rfl (Nat.le_of_ble_eq_true rfl) ?_
  intro p e s m below meth c hx hb hr hml hts hown hlocks hin hsz hK hP hD hA hS hZ hex ls hl
  have hw : ∀ w ∈ TB, w.before _ s = true := fun w h => hts w (List.mem_cons_of_mem _ h)
  have hown : s.vm.findClass cn_B = some m.cls := hown
  have hin : meth.name = "isOne" := hin
  generalize hAe : va_A [(q, .inr (0, [.ref qw, .int (nI L.length)])), (qw, .inl (cJ, 6250, .inr (.inl w)))] sz = A at hD hA hS hZ ⊢
  clear hAe
  have hl : lv_has ls 2 [(0, .ref q), (1, .int k)] := hl
  have hP : va_P D classes [(q, .inr (0, [.ref qw, .int (nI L.length)])), (qw, .inl (cJ, 6250, .inr (.inl w)))] s.heap := hP
  refine lv_iload_n hx hb dd_B_isOne_0 rfl (lv_at hl 1 rfl) ?_
  refine lv_if_lt (tgt := 12) hx hb dd_B_isOne_1 (by decide) (fun c_1 => ?_) (fun c_1 => ?_)
  · skip
    refine cx_throw (own := cn_B) (cls := ex_I) (text := "no such bit") (ik := 19) (is := 21) (ic := 23) hx hb hlt hw hZ hown (by decide +kernel) wi_497 wi_33 (by decide +kernel) ht_B_23_1 ht_B_23_2 ht_B_19_23_3 hK hP hD hS (hl.1.trans hml.symm) hex dd_B_isOne_12 dd_B_isOne_15 dd_B_isOne_16 dd_B_isOne_18 dd_B_isOne_21 (Nat.le_of_ble_eq_true rfl) (Nat.le_of_ble_eq_true rfl) (Nat.le_of_ble_eq_true rfl) (Nat.le_of_ble_eq_true rfl) hlocks ?_ (Nat.le_of_ble_eq_true rfl) (Nat.le_of_ble_eq_true rfl)
    exact ⟨rfl, cp_ix_n (by omega) (Or.inl c_1)⟩
  refine lv_iload_n hx hb dd_B_isOne_4 rfl (lv_at hl 1 rfl) ?_
  refine lv_aload_n hx hb dd_B_isOne_5 rfl (lv_at hl 0 rfl) ?_
  refine va_get (D := D) (ci := 0) (C := cn_B) (T := cf_B) (N := 2) hx hb hw in_B hown hK hP 0 rfl rfl 1 (by decide) (hw _ wi_70) (fun _ h9 => h9) rfl dd_B_isOne_6 ?_
  refine lv_icmp_lt (tgt := 22) hx hb dd_B_isOne_9 (by decide) (fun c_9 => ?_) (fun c_9 => ?_)
  · skip
    obtain ⟨j, hj, hkj⟩ := cp_ix_of (by omega) c_1 c_9
    subst hkj
    refine lv_aload_n hx hb dd_B_isOne_22 rfl (lv_at hl 0 rfl) ?_
    refine lv_iload_n hx hb dd_B_isOne_23 rfl (lv_at hl 1 rfl) ?_
    refine lv_iconst (v := nI 1) hx hb dd_B_isOne_24 (by decide) ?_
    refine ct_behind_l (wc := [(q, .inr (0, [.ref qw, .int (nI L.length)])), (qw, .inl (cJ, 6250, .inr (.inl w)))]) (wr := []) (av := [.ref q, .int (nI j), .int (nI 1)]) (va_runV (As := [.int (nI j), .int (nI 1)]) (rest := []) ⟨hx, hb, hml, hown, hw⟩ (cc_B_numberAt l D cJ cB q qw w L j 1 _ hL hR (by omega) (by omega) (by omega)) (cwV 2 hw (tb_V wi_500 wi_424 wi_425 wi_24 wi_426) rfl rfl rfl (by decide +kernel) ⟨Nat.le_of_ble_eq_true rfl, Nat.le_of_ble_eq_true rfl⟩) ⟨ct_blind, ct_recv hK hP (q0 := 0) (ci := 0) rfl rfl, ct_pc hZ hK hP hD hS hA [0, 1] rfl (by decide)⟩ rfl rfl hl.1 rfl (lv_room (Nat.le_of_ble_eq_true rfl)) dd_B_isOne_25 ⟨Nat.le_of_ble_eq_true rfl, Nat.le_of_ble_eq_true rfl⟩) hK hP hD hS hA [0, 1] [] rfl rfl (by decide) (by decide) (fun r_25 u_25 H locs hw_25 hP hD hS => ?_)
    subst hw_25
    have hP : va_P D classes [(q, .inr (0, [.ref qw, .int (nI L.length)])), (qw, .inl (cJ, 6250, .inr (.inl w)))] _ := hP
    have hD : va_D A [(q, .inr (0, [.ref qw, .int (nI L.length)])), (qw, .inl (cJ, 6250, .inr (.inl w)))] := hD
    refine lv_lconst (v := 1) hx hb dd_B_isOne_28 (by decide) ?_
    refine W.lcmp hx hb dd_B_isOne_29 ?_
    refine lv_if_ne (tgt := 37) hx hb dd_B_isOne_30 (by decide) (fun c_30 => ?_) (fun c_30 => ?_)
    · skip
      have c_30 : ¬ ((lN (cp_n L j 1)) = 1) := fun z => c_30 ((lg_cmp_eq _ _).mpr z)
      refine lv_iconst (v := nI 0) hx hb dd_B_isOne_37 (by decide) ?_
      refine vx_ret ?_
      refine W.widen (k := 1) (n := 6) (Nat.le_of_ble_eq_true rfl) (Nat.le_of_ble_eq_true rfl) ?_
      refine ct_zret (u := ()) hx hb hr hlocks (by decide) hK hP hD hS rfl ?_ dd_B_isOne_38
      exact ⟨j, hj, rfl, bI_f (fun z => c_30 ((cp_n1 L j).mpr z))⟩
    have c_30 : (lN (cp_n L j 1)) = 1 := (lg_cmp_eq _ _).mp c_30
    refine lv_iconst (v := nI 1) hx hb dd_B_isOne_33 (by decide) ?_
    refine lv_goto (tgt := 38) hx hb dd_B_isOne_34 (by decide) ?_
    refine vx_ret ?_
    refine W.widen (k := 1) (n := 6) (Nat.le_of_ble_eq_true rfl) (Nat.le_of_ble_eq_true rfl) ?_
    refine ct_zret (u := ()) hx hb hr hlocks (by decide) hK hP hD hS rfl ?_ dd_B_isOne_38
    exact ⟨j, hj, rfl, bI_t ((cp_n1 L j).mp c_30)⟩
  refine cx_throw (own := cn_B) (cls := ex_I) (text := "no such bit") (ik := 19) (is := 21) (ic := 23) hx hb hlt hw hZ hown (by decide +kernel) wi_497 wi_33 (by decide +kernel) ht_B_23_1 ht_B_23_2 ht_B_19_23_3 hK hP hD hS (hl.1.trans hml.symm) hex dd_B_isOne_12 dd_B_isOne_15 dd_B_isOne_16 dd_B_isOne_18 dd_B_isOne_21 (Nat.le_of_ble_eq_true rfl) (Nat.le_of_ble_eq_true rfl) (Nat.le_of_ble_eq_true rfl) (Nat.le_of_ble_eq_true rfl) hlocks ?_ (Nat.le_of_ble_eq_true rfl) (Nat.le_of_ble_eq_true rfl)
  exact ⟨rfl, cp_ix_n (by omega) (Or.inr c_9)⟩

set_option maxHeartbeats 4000000 in
set_option maxRecDepth 100000 in
theorem cx_B_invert (l : Launch) (hlt : l.stackTraces = false) (D : va_G) (cJ cB : ClassId) (q qw : Nat) (w : Nat → Int64) (L : List Bool) (k : Int32) (sz : Nat) (hL : L.length ≤ 400000) (hR : cp_Rw w L) : cx_v l my_B_invert (Cond.code my_B_invert mb_B_invert 2 none :: TB) ({ frames := 6, cells := 1, slots := 6, locals := 90 } : Room) D classes cJ cB [.ref q, .int k] [(q, .inr (0, [.ref qw, .int (nI L.length)])), (qw, .inl (cJ, 6250, .inr (.inl w)))] sz (fun (u : Nat → Int64) => ∃ j : Nat, j < L.length ∧ k = nI j ∧ cp_Rw u (L.set j (!cp_g L j))) (fun u => [(q, .inr (0, [.ref qw, .int (nI L.length)])), (qw, .inl (cJ, 6250, .inr (.inl u)))]) (fun E => E = ex_I ∧ ¬ cp_ix k L.length) 1 6 := by
  refine cx_ofW (cc := mb_B_invert) (maxL := 2) (ret := none) (by decide) rfl (Nat.le_of_ble_eq_true rfl) ?_
  intro p e s m below meth c hx hb hr hml hts hown hlocks hin hsz hK hP hD hA hS hZ hex ls hl
  have hw : ∀ w ∈ TB, w.before _ s = true := fun w h => hts w (List.mem_cons_of_mem _ h)
  have hown : s.vm.findClass cn_B = some m.cls := hown
  have hin : meth.name = "invert" := hin
  generalize hAe : va_A [(q, .inr (0, [.ref qw, .int (nI L.length)])), (qw, .inl (cJ, 6250, .inr (.inl w)))] sz = A at hD hA hS hZ ⊢
  clear hAe
  have hl : lv_has ls 2 [(0, .ref q), (1, .int k)] := hl
  have hP : va_P D classes [(q, .inr (0, [.ref qw, .int (nI L.length)])), (qw, .inl (cJ, 6250, .inr (.inl w)))] s.heap := hP
  refine lv_iload_n hx hb dd_B_invert_0 rfl (lv_at hl 1 rfl) ?_
  refine lv_if_lt (tgt := 12) hx hb dd_B_invert_1 (by decide) (fun c_1 => ?_) (fun c_1 => ?_)
  · skip
    refine cx_throw (own := cn_B) (cls := ex_I) (text := "no such bit") (ik := 19) (is := 21) (ic := 23) hx hb hlt hw hZ hown (by decide +kernel) wi_497 wi_33 (by decide +kernel) ht_B_23_1 ht_B_23_2 ht_B_19_23_3 hK hP hD hS (hl.1.trans hml.symm) hex dd_B_invert_12 dd_B_invert_15 dd_B_invert_16 dd_B_invert_18 dd_B_invert_21 (Nat.le_of_ble_eq_true rfl) (Nat.le_of_ble_eq_true rfl) (Nat.le_of_ble_eq_true rfl) (Nat.le_of_ble_eq_true rfl) hlocks ?_ (Nat.le_of_ble_eq_true rfl) (Nat.le_of_ble_eq_true rfl)
    exact ⟨rfl, cp_ix_n (by omega) (Or.inl c_1)⟩
  refine lv_iload_n hx hb dd_B_invert_4 rfl (lv_at hl 1 rfl) ?_
  refine lv_aload_n hx hb dd_B_invert_5 rfl (lv_at hl 0 rfl) ?_
  refine va_get (D := D) (ci := 0) (C := cn_B) (T := cf_B) (N := 2) hx hb hw in_B hown hK hP 0 rfl rfl 1 (by decide) (hw _ wi_70) (fun _ h9 => h9) rfl dd_B_invert_6 ?_
  refine lv_icmp_lt (tgt := 22) hx hb dd_B_invert_9 (by decide) (fun c_9 => ?_) (fun c_9 => ?_)
  · skip
    obtain ⟨j, hj, hkj⟩ := cp_ix_of (by omega) c_1 c_9
    subst hkj
    refine lv_aload_n hx hb dd_B_invert_22 rfl (lv_at hl 0 rfl) ?_
    refine va_get (D := D) (ci := 0) (C := cn_B) (T := cf_B) (N := 2) hx hb hw in_B hown hK hP 0 rfl rfl 0 (by decide) (hw _ wi_69) (fun _ h9 => h9) rfl dd_B_invert_23 ?_
    refine lv_iload_n hx hb dd_B_invert_26 rfl (lv_at hl 1 rfl) ?_
    refine lv_bipush (v := nI 64) hx hb dd_B_invert_27 (by decide) ?_
    refine lv_idiv hx hb dd_B_invert_29 (by decide) ?_
    refine ct_topi (y := nI (j / 64)) (pk_div (by omega) (by decide) (by decide)) ?_
    refine lv_dup2_11 hx hb dd_B_invert_30 rfl rfl ?_
    refine va_lald hx hb hK hP 1 0 rfl rfl (vp_in_nI (by omega) (by omega)) dd_B_invert_31 ?_
    refine ct_topl (y := w (j / 64)) (by rw [nI_clamp (by omega)]) ?_
    refine lv_lconst (v := 1) hx hb dd_B_invert_32 (by decide) ?_
    refine lv_bipush (v := nI 63) hx hb dd_B_invert_33 (by decide) ?_
    refine lv_iload_n hx hb dd_B_invert_35 rfl (lv_at hl 1 rfl) ?_
    refine lv_bipush (v := nI 64) hx hb dd_B_invert_36 (by decide) ?_
    refine lv_irem hx hb dd_B_invert_38 (by decide) ?_
    refine ct_topi (y := nI (j % 64)) (pk_rem (by omega) (by decide) (by decide)) ?_
    refine lv_isub hx hb dd_B_invert_39 ?_
    refine ct_topi (y := nI (63 - (j % 64))) (pk_sub (by omega)) ?_
    refine lv_lshl (v := 1 <<< ((nI (63 - (j % 64))).toInt64 &&& 63)) hx hb dd_B_invert_40 rfl ?_
    refine lv_lxor hx hb dd_B_invert_41 ?_
    refine va_last hx hb hK hP hD hS 1 0 rfl rfl (vp_in_nI (by omega) (by omega)) dd_B_invert_42 (fun H locs hP hD hS => ?_)
    rw [show (nI (j / 64)).toNatClampNeg = j / 64 from nI_clamp (by omega)] at hP hD
    have hP : va_P D classes [(q, .inr (0, [.ref qw, .int (nI L.length)])), (qw, .inl (cJ, 6250, .inr (.inl (vp_updL w (j / 64) ((w (j / 64)) ^^^ (1 <<< ((nI (63 - (j % 64))).toInt64 &&& 63)))))))] _ := hP
    have hD : va_D A [(q, .inr (0, [.ref qw, .int (nI L.length)])), (qw, .inl (cJ, 6250, .inr (.inl (vp_updL w (j / 64) ((w (j / 64)) ^^^ (1 <<< ((nI (63 - (j % 64))).toInt64 &&& 63)))))))] := hD
    refine vx_ret ?_
    refine W.widen (k := 1) (n := 6) (Nat.le_of_ble_eq_true rfl) (Nat.le_of_ble_eq_true rfl) ?_
    refine ct_vret (u := vp_updL w (j / 64) ((w (j / 64)) ^^^ (1 <<< ((nI (63 - (j % 64))).toInt64 &&& 63)))) hx hb hr hlocks hK hP hD hS rfl ?_ dd_B_invert_43
    exact ⟨j, hj, rfl, cp_inv hR hj⟩
  refine cx_throw (own := cn_B) (cls := ex_I) (text := "no such bit") (ik := 19) (is := 21) (ic := 23) hx hb hlt hw hZ hown (by decide +kernel) wi_497 wi_33 (by decide +kernel) ht_B_23_1 ht_B_23_2 ht_B_19_23_3 hK hP hD hS (hl.1.trans hml.symm) hex dd_B_invert_12 dd_B_invert_15 dd_B_invert_16 dd_B_invert_18 dd_B_invert_21 (Nat.le_of_ble_eq_true rfl) (Nat.le_of_ble_eq_true rfl) (Nat.le_of_ble_eq_true rfl) (Nat.le_of_ble_eq_true rfl) hlocks ?_ (Nat.le_of_ble_eq_true rfl) (Nat.le_of_ble_eq_true rfl)
  exact ⟨rfl, cp_ix_n (by omega) (Or.inr c_9)⟩
