/-! writing values and points -/
theorem cz_min {a b : Nat} (ha : a < 2 ^ 31) (hb : b < 2 ^ 31) : (if nI b < nI a then nI b else nI a) = nI (min a b) := by
  by_cases c : b < a
  · rw [if_pos ((nI_ltI hb ha).mpr c), Nat.min_eq_right (by omega)]
  · rw [if_neg (fun z => c ((nI_ltI hb ha).mp z)), Nat.min_eq_left (by omega)]
theorem cp_fit_3 : cp_fit 3 2 := cp_fit_N (a := 3) (n := 2) (by decide)
theorem cp_fit_2 : cp_fit 2 2 := cp_fit_N (a := 2) (n := 2) (by decide)
theorem cp_tn_1 {f : Nat → Int64} {i : Nat} {a d : Int64} (hi : i ≠ 0) (ha : a = f (i - 1)) (hd : d = if i ≤ 1 then 0 else f (i - 1) - f (i - 2)) : f i - a - d = cp_tn f i := by
  unfold cp_tn
  subst ha hd
  by_cases c : i = 1
  · subst c; rw [if_pos rfl, if_pos (Nat.le_refl 1), Int64.sub_zero]
  · rw [if_neg c, if_neg (by omega)]

set_option maxHeartbeats 4000000 in
set_option maxRecDepth 100000 in
theorem cc_W_writeFrame (l : Launch) (D : va_G) (cJ cB : ClassId) (q qb qw qf : Nat) (lt ls0 lv0 : Int64) (w : Nat → Int64) (L : List Bool) (z n : Nat) (a nn : Nat) (sz : Nat) (hL : L.length + 13 ≤ 400000) (hR : cp_Rw w L) (h1 : a ≤ 31) (h2 : 1 ≤ nn) (h3 : a + nn ≤ 64) : ct_i l my_W_writeFrame (Cond.code my_W_writeFrame mb_W_writeFrame 3 (some .boolean) :: TB) ({ frames := 1, cells := 0, slots := 0, locals := 29 } : Room) D classes cJ cB [.ref q, .int (nI a), .int (nI nn)] [(q, .inr (4, [.ref qb, .ref qf, .long lt, .long ls0, .long lv0])), (qb, .inr (0, [.ref qw, .int (nI L.length)])), (qw, .inl (cJ, 6250, .inr (.inl w))), (qf, .inr (1, [.int (nI z), .int (nI n)]))] sz (fun (r : Int32) (u : Nat → Int64) => r = nI 1 ∧ cp_Rw u (((L ++ cp_bl 3 2) ++ cp_bl (lN a) 5) ++ cp_bl (lN (nn - 1)) 6)) (fun u => [(q, .inr (4, [.ref qb, .ref qf, .long lt, .long ls0, .long lv0])), (qb, .inr (0, [.ref qw, .int (nI ((((L ++ cp_bl 3 2) ++ cp_bl (lN a) 5) ++ cp_bl (lN (nn - 1)) 6).length))])), (qw, .inl (cJ, 6250, .inr (.inl u))), (qf, .inr (1, [.int (nI a), .int (nI nn)]))]) 0 0 := by
  refine ct_ofW (cc := mb_W_writeFrame) (maxL := 3) (ret := some .boolean) (by decide) rfl (Nat.le_of_ble_eq_true rfl) ?_
  intro p e s m below meth c hx hb hr hml hts hown hlocks hin hsz hK hP hD hA hS hZ ls hl
  have hw : ∀ w ∈ TB, w.before _ s = true := fun w h => hts w (List.mem_cons_of_mem _ h)
  have hown : s.vm.findClass cn_W = some m.cls := hown
  have hin : meth.name = "writeFrame" := hin
  generalize hAe : va_A [(q, .inr (4, [.ref qb, .ref qf, .long lt, .long ls0, .long lv0])), (qb, .inr (0, [.ref qw, .int (nI L.length)])), (qw, .inl (cJ, 6250, .inr (.inl w))), (qf, .inr (1, [.int (nI z), .int (nI n)]))] sz = A at hD hA hS hZ ⊢
  clear hAe
  have hl : lv_has ls 3 [(0, .ref q), (1, .int (nI a)), (2, .int (nI nn))] := hl
  have hP : va_P D classes [(q, .inr (4, [.ref qb, .ref qf, .long lt, .long ls0, .long lv0])), (qb, .inr (0, [.ref qw, .int (nI L.length)])), (qw, .inl (cJ, 6250, .inr (.inl w))), (qf, .inr (1, [.int (nI z), .int (nI n)]))] s.heap := hP
  refine lv_aload_n hx hb dd_W_writeFrame_0 rfl (lv_at hl 0 rfl) ?_
  refine va_get (D := D) (ci := 4) (C := cn_W) (T := cf_W) (N := 5) hx hb hw in_W hown hK hP 0 rfl rfl 1 (by decide) (hw _ wi_247) (fun _ h9 => h9) rfl dd_W_writeFrame_1 ?_
  refine lv_iload_n hx hb dd_W_writeFrame_4 rfl (lv_at hl 1 rfl) ?_
  refine lv_iload_n hx hb dd_W_writeFrame_5 rfl (lv_at hl 2 rfl) ?_
  refine ct_behind_v (wc := [(qf, .inr (1, [.int (nI z), .int (nI n)]))]) (wr := [(q, .inr (4, [.ref qb, .ref qf, .long lt, .long ls0, .long lv0])), (qb, .inr (0, [.ref qw, .int (nI L.length)])), (qw, .inl (cJ, 6250, .inr (.inl w)))]) (av := [.ref qf, .int (nI a), .int (nI nn)]) (va_runV (As := [.int (nI a), .int (nI nn)]) (rest := []) ⟨hx, hb, hml, hown, hw⟩ (cc_F_become l D cJ cB qf z n a nn _) (cwV 2 hw (tb_V wi_354 wi_355 wi_356 wi_32 wi_357) rfl rfl rfl (by decide +kernel) ⟨Nat.le_of_ble_eq_true rfl, Nat.le_of_ble_eq_true rfl⟩) ⟨ct_blind, ct_recv hK hP (q0 := 3) (ci := 1) rfl rfl, ct_pc hZ hK hP hD hS hA [3] rfl (by decide)⟩ rfl rfl hl.1 rfl (lv_room (Nat.le_of_ble_eq_true rfl)) dd_W_writeFrame_6 ⟨Nat.le_of_ble_eq_true rfl, Nat.le_of_ble_eq_true rfl⟩) hK hP hD hS hA [3] [0, 1, 2] rfl rfl (by decide) (by decide) (fun u_6 H locs hw_6 hP hD hS => ?_)
  have hP : va_P D classes [(q, .inr (4, [.ref qb, .ref qf, .long lt, .long ls0, .long lv0])), (qb, .inr (0, [.ref qw, .int (nI L.length)])), (qw, .inl (cJ, 6250, .inr (.inl w))), (qf, .inr (1, [.int (nI a), .int (nI nn)]))] _ := hP
  have hD : va_D A [(q, .inr (4, [.ref qb, .ref qf, .long lt, .long ls0, .long lv0])), (qb, .inr (0, [.ref qw, .int (nI L.length)])), (qw, .inl (cJ, 6250, .inr (.inl w))), (qf, .inr (1, [.int (nI a), .int (nI nn)]))] := hD
  refine lv_aload_n hx hb dd_W_writeFrame_9 rfl (lv_at hl 0 rfl) ?_
  refine va_get (D := D) (ci := 4) (C := cn_W) (T := cf_W) (N := 5) hx hb hw in_W hown hK hP 0 rfl rfl 0 (by decide) (hw _ wi_246) (fun _ h9 => h9) rfl dd_W_writeFrame_10 ?_
  refine lv_ldc2 (v := 3) hx hb hown (hw _ wi_358) dd_W_writeFrame_13 ?_
  refine lv_iconst (v := nI 2) hx hb dd_W_writeFrame_16 (by decide) ?_
  refine ct_behind_i (wc := [(qb, .inr (0, [.ref qw, .int (nI L.length)])), (qw, .inl (cJ, 6250, .inr (.inl w)))]) (wr := [(q, .inr (4, [.ref qb, .ref qf, .long lt, .long ls0, .long lv0])), (qf, .inr (1, [.int (nI a), .int (nI nn)]))]) (av := [.ref qb, .long 3, .int (nI 2)]) (va_runV (As := [.long 3, .int (nI 2)]) (rest := []) ⟨hx, hb, hml, hown, hw⟩ (cs_B_append l D cJ cB qb qw w L 3 2 _ (by omega) hR (by omega) (cp_fit_3)) (cwV 2 hw (tb_V wi_295 wi_296 wi_297 wi_24 wi_298) rfl rfl rfl (by decide +kernel) ⟨Nat.le_of_ble_eq_true rfl, Nat.le_of_ble_eq_true rfl⟩) ⟨ct_blind, ct_recv hK hP (q0 := 1) (ci := 0) rfl rfl, ct_pc hZ hK hP hD hS hA [1, 2] rfl (by decide)⟩ rfl rfl hl.1 rfl (lv_room (Nat.le_of_ble_eq_true rfl)) dd_W_writeFrame_17 ⟨Nat.le_of_ble_eq_true rfl, Nat.le_of_ble_eq_true rfl⟩) hK hP hD hS hA [1, 2] [0, 3] rfl rfl (by decide) (by decide) (fun r_17 u_17 H locs hw_17 hP hD hS => ?_)
  obtain ⟨hr_17, hR_w1⟩ := hw_17
  subst hr_17
  obtain ⟨w1, h9_17⟩ : ∃ z, z = u_17 := ⟨_, rfl⟩
  rw [← h9_17] at hP hD hR_w1
  clear h9_17
  have hP : va_P D classes [(q, .inr (4, [.ref qb, .ref qf, .long lt, .long ls0, .long lv0])), (qf, .inr (1, [.int (nI a), .int (nI nn)])), (qb, .inr (0, [.ref qw, .int (nI ((L ++ cp_bl 3 2).length))])), (qw, .inl (cJ, 6250, .inr (.inl w1)))] _ := hP
  have hD : va_D A [(q, .inr (4, [.ref qb, .ref qf, .long lt, .long ls0, .long lv0])), (qf, .inr (1, [.int (nI a), .int (nI nn)])), (qb, .inr (0, [.ref qw, .int (nI ((L ++ cp_bl 3 2).length))])), (qw, .inl (cJ, 6250, .inr (.inl w1)))] := hD
  refine lv_if_eq (tgt := 56) hx hb dd_W_writeFrame_20 (by decide) (fun c_20 => ?_) (fun c_20 => ?_)
  · skip
    have c_20 : 1 = 0 := (ct_zeq (by omega)).mp c_20
    exfalso
    omega
  have c_20 : ¬ (1 = 0) := fun z => c_20 ((ct_zeq (by omega)).mpr z)
  refine lv_aload_n hx hb dd_W_writeFrame_23 rfl (lv_at hl 0 rfl) ?_
  refine va_get (D := D) (ci := 4) (C := cn_W) (T := cf_W) (N := 5) hx hb hw in_W hown hK hP 0 rfl rfl 0 (by decide) (hw _ wi_246) (fun _ h9 => h9) rfl dd_W_writeFrame_24 ?_
  refine lv_iload_n hx hb dd_W_writeFrame_27 rfl (lv_at hl 1 rfl) ?_
  refine lv_i2l (v := (nI a).toInt64) hx hb dd_W_writeFrame_28 rfl ?_
  refine ct_topl (y := lN a) (nI_l (by omega)) ?_
  refine lv_iconst (v := nI 5) hx hb dd_W_writeFrame_29 (by decide) ?_
  refine ct_behind_i (wc := [(qb, .inr (0, [.ref qw, .int (nI ((L ++ cp_bl 3 2).length))])), (qw, .inl (cJ, 6250, .inr (.inl w1)))]) (wr := [(q, .inr (4, [.ref qb, .ref qf, .long lt, .long ls0, .long lv0])), (qf, .inr (1, [.int (nI a), .int (nI nn)]))]) (av := [.ref qb, .long (lN a), .int (nI 5)]) (va_runV (As := [.long (lN a), .int (nI 5)]) (rest := []) ⟨hx, hb, hml, hown, hw⟩ (cs_B_append l D cJ cB qb qw w1 (L ++ cp_bl 3 2) (lN a) 5 _ (by simp only [List.length_append, cp_bl_len]; omega) hR_w1 (by omega) (cp_fit_N (by omega))) (cwV 2 hw (tb_V wi_295 wi_296 wi_297 wi_24 wi_298) rfl rfl rfl (by decide +kernel) ⟨Nat.le_of_ble_eq_true rfl, Nat.le_of_ble_eq_true rfl⟩) ⟨ct_blind, ct_recv hK hP (q0 := 2) (ci := 0) rfl rfl, ct_pc hZ hK hP hD hS hA [2, 3] rfl (by decide)⟩ rfl rfl hl.1 rfl (lv_room (Nat.le_of_ble_eq_true rfl)) dd_W_writeFrame_30 ⟨Nat.le_of_ble_eq_true rfl, Nat.le_of_ble_eq_true rfl⟩) hK hP hD hS hA [2, 3] [0, 1] rfl rfl (by decide) (by decide) (fun r_30 u_30 H locs hw_30 hP hD hS => ?_)
  obtain ⟨hr_30, hR_w2⟩ := hw_30
  subst hr_30
  obtain ⟨w2, h9_30⟩ : ∃ z, z = u_30 := ⟨_, rfl⟩
  rw [← h9_30] at hP hD hR_w2
  clear h9_30
  have hP : va_P D classes [(q, .inr (4, [.ref qb, .ref qf, .long lt, .long ls0, .long lv0])), (qf, .inr (1, [.int (nI a), .int (nI nn)])), (qb, .inr (0, [.ref qw, .int (nI (((L ++ cp_bl 3 2) ++ cp_bl (lN a) 5).length))])), (qw, .inl (cJ, 6250, .inr (.inl w2)))] _ := hP
  have hD : va_D A [(q, .inr (4, [.ref qb, .ref qf, .long lt, .long ls0, .long lv0])), (qf, .inr (1, [.int (nI a), .int (nI nn)])), (qb, .inr (0, [.ref qw, .int (nI (((L ++ cp_bl 3 2) ++ cp_bl (lN a) 5).length))])), (qw, .inl (cJ, 6250, .inr (.inl w2)))] := hD
  refine lv_if_eq (tgt := 56) hx hb dd_W_writeFrame_33 (by decide) (fun c_33 => ?_) (fun c_33 => ?_)
  · skip
    have c_33 : 1 = 0 := (ct_zeq (by omega)).mp c_33
    exfalso
    omega
  have c_33 : ¬ (1 = 0) := fun z => c_33 ((ct_zeq (by omega)).mpr z)
  refine lv_aload_n hx hb dd_W_writeFrame_36 rfl (lv_at hl 0 rfl) ?_
  refine va_get (D := D) (ci := 4) (C := cn_W) (T := cf_W) (N := 5) hx hb hw in_W hown hK hP 0 rfl rfl 0 (by decide) (hw _ wi_246) (fun _ h9 => h9) rfl dd_W_writeFrame_37 ?_
  refine lv_iload_n hx hb dd_W_writeFrame_40 rfl (lv_at hl 2 rfl) ?_
  refine lv_iconst (v := nI 1) hx hb dd_W_writeFrame_41 (by decide) ?_
  refine lv_isub hx hb dd_W_writeFrame_42 ?_
  refine ct_topi (y := nI (nn - 1)) (pk_sub (by omega)) ?_
  refine lv_i2l (v := (nI (nn - 1)).toInt64) hx hb dd_W_writeFrame_43 rfl ?_
  refine ct_topl (y := lN (nn - 1)) (nI_l (by omega)) ?_
  refine lv_bipush (v := nI 6) hx hb dd_W_writeFrame_44 (by decide) ?_
  refine ct_behind_i (wc := [(qb, .inr (0, [.ref qw, .int (nI (((L ++ cp_bl 3 2) ++ cp_bl (lN a) 5).length))])), (qw, .inl (cJ, 6250, .inr (.inl w2)))]) (wr := [(q, .inr (4, [.ref qb, .ref qf, .long lt, .long ls0, .long lv0])), (qf, .inr (1, [.int (nI a), .int (nI nn)]))]) (av := [.ref qb, .long (lN (nn - 1)), .int (nI 6)]) (va_runV (As := [.long (lN (nn - 1)), .int (nI 6)]) (rest := []) ⟨hx, hb, hml, hown, hw⟩ (cs_B_append l D cJ cB qb qw w2 ((L ++ cp_bl 3 2) ++ cp_bl (lN a) 5) (lN (nn - 1)) 6 _ (by simp only [List.length_append, cp_bl_len]; omega) hR_w2 (by omega) (cp_fit_N (by omega))) (cwV 2 hw (tb_V wi_295 wi_296 wi_297 wi_24 wi_298) rfl rfl rfl (by decide +kernel) ⟨Nat.le_of_ble_eq_true rfl, Nat.le_of_ble_eq_true rfl⟩) ⟨ct_blind, ct_recv hK hP (q0 := 2) (ci := 0) rfl rfl, ct_pc hZ hK hP hD hS hA [2, 3] rfl (by decide)⟩ rfl rfl hl.1 rfl (lv_room (Nat.le_of_ble_eq_true rfl)) dd_W_writeFrame_46 ⟨Nat.le_of_ble_eq_true rfl, Nat.le_of_ble_eq_true rfl⟩) hK hP hD hS hA [2, 3] [0, 1] rfl rfl (by decide) (by decide) (fun r_46 u_46 H locs hw_46 hP hD hS => ?_)
  obtain ⟨hr_46, hR_w3⟩ := hw_46
  subst hr_46
  obtain ⟨w3, h9_46⟩ : ∃ z, z = u_46 := ⟨_, rfl⟩
  rw [← h9_46] at hP hD hR_w3
  clear h9_46
  have hP : va_P D classes [(q, .inr (4, [.ref qb, .ref qf, .long lt, .long ls0, .long lv0])), (qf, .inr (1, [.int (nI a), .int (nI nn)])), (qb, .inr (0, [.ref qw, .int (nI ((((L ++ cp_bl 3 2) ++ cp_bl (lN a) 5) ++ cp_bl (lN (nn - 1)) 6).length))])), (qw, .inl (cJ, 6250, .inr (.inl w3)))] _ := hP
  have hD : va_D A [(q, .inr (4, [.ref qb, .ref qf, .long lt, .long ls0, .long lv0])), (qf, .inr (1, [.int (nI a), .int (nI nn)])), (qb, .inr (0, [.ref qw, .int (nI ((((L ++ cp_bl 3 2) ++ cp_bl (lN a) 5) ++ cp_bl (lN (nn - 1)) 6).length))])), (qw, .inl (cJ, 6250, .inr (.inl w3)))] := hD
  refine lv_if_eq (tgt := 56) hx hb dd_W_writeFrame_49 (by decide) (fun c_49 => ?_) (fun c_49 => ?_)
  · skip
    have c_49 : 1 = 0 := (ct_zeq (by omega)).mp c_49
    exfalso
    omega
  have c_49 : ¬ (1 = 0) := fun z => c_49 ((ct_zeq (by omega)).mpr z)
  refine lv_iconst (v := nI 1) hx hb dd_W_writeFrame_52 (by decide) ?_
  refine lv_goto (tgt := 57) hx hb dd_W_writeFrame_53 (by decide) ?_
  refine ct_zret (u := w3) hx hb hr hlocks (by decide) hK (hP.sub [0, 2, 3, 1] rfl) (hD.sub [0, 2, 3, 1] (by decide) rfl) hS rfl ?_ dd_W_writeFrame_57
  exact ⟨rfl, hR_w3⟩

set_option maxHeartbeats 4000000 in
set_option maxRecDepth 100000 in
theorem cc_W_writeDifference (l : Launch) (D : va_G) (cJ cB : ClassId) (q qb qw qf : Nat) (lt ls0 lv0 : Int64) (w : Nat → Int64) (L : List Bool) (z n : Nat) (x : Int64) (sz : Nat) (hL : L.length + 77 ≤ 400000) (hR : cp_Rw w L) (hzn : z + n ≤ 64) : ct_i l my_W_writeDifference (Cond.code my_W_writeDifference mb_W_writeDifference 6 (some .boolean) :: TB) ({ frames := 2, cells := 0, slots := 0, locals := 51 } : Room) D classes cJ cB [.ref q, .long x] [(q, .inr (4, [.ref qb, .ref qf, .long lt, .long ls0, .long lv0])), (qb, .inr (0, [.ref qw, .int (nI L.length)])), (qw, .inl (cJ, 6250, .inr (.inl w))), (qf, .inr (1, [.int (nI z), .int (nI n)]))] sz (fun (r : Int32) (u : Nat → Int64) => r = nI 1 ∧ cp_Rw u (L ++ (cp_wv z n x).1)) (fun u => [(q, .inr (4, [.ref qb, .ref qf, .long lt, .long ls0, .long lv0])), (qb, .inr (0, [.ref qw, .int (nI ((L ++ (cp_wv z n x).1).length))])), (qw, .inl (cJ, 6250, .inr (.inl u))), (qf, .inr (1, [.int (nI ((cp_wv z n x).2.1)), .int (nI ((cp_wv z n x).2.2))]))]) 0 0 := by
  refine ct_ofW (cc := mb_W_writeDifference) (maxL := 6) (ret := some .boolean) (by decide) rfl (Nat.le_of_ble_eq_true rfl) ?_
  intro p e s m below meth c hx hb hr hml hts hown hlocks hin hsz hK hP hD hA hS hZ ls hl
  have hw : ∀ w ∈ TB, w.before _ s = true := fun w h => hts w (List.mem_cons_of_mem _ h)
  have hown : s.vm.findClass cn_W = some m.cls := hown
  have hin : meth.name = "writeDifference" := hin
  generalize hAe : va_A [(q, .inr (4, [.ref qb, .ref qf, .long lt, .long ls0, .long lv0])), (qb, .inr (0, [.ref qw, .int (nI L.length)])), (qw, .inl (cJ, 6250, .inr (.inl w))), (qf, .inr (1, [.int (nI z), .int (nI n)]))] sz = A at hD hA hS hZ ⊢
  clear hAe
  have hl : lv_has ls 6 [(0, .ref q), (1, .long x)] := hl
  have hP : va_P D classes [(q, .inr (4, [.ref qb, .ref qf, .long lt, .long ls0, .long lv0])), (qb, .inr (0, [.ref qw, .int (nI L.length)])), (qw, .inl (cJ, 6250, .inr (.inl w))), (qf, .inr (1, [.int (nI z), .int (nI n)]))] s.heap := hP
  refine lv_lload_n hx hb dd_W_writeDifference_0 rfl (lv_at hl 1 rfl) ?_
  refine lv_lconst (v := 0) hx hb dd_W_writeDifference_1 (by decide) ?_
  refine W.lcmp hx hb dd_W_writeDifference_2 ?_
  refine lv_if_ne (tgt := 16) hx hb dd_W_writeDifference_3 (by decide) (fun c_3 => ?_) (fun c_3 => ?_)
  · skip
    have c_3 : ¬ (x = 0) := fun z => c_3 ((lg_cmp_eq _ _).mpr z)
    refine lv_lload_n hx hb dd_W_writeDifference_16 rfl (lv_at hl 1 rfl) ?_
    obtain ⟨ax, mm, tt, bb, hxa, hax, hm1, hm2, hlz, hmm, htt, hdec, htz⟩ := cz_ex c_3
    have hsum := cp_lt_sum c_3
    obtain ⟨a0, ha0⟩ : ∃ z, z = min (cp_lz x) 31 := ⟨_, rfl⟩
    obtain ⟨b0, hb0⟩ : ∃ z, z = cp_tz x := ⟨_, rfl⟩
    refine ct_topl (y := lN ax) hxa ?_
    refine ct_behind_i (wc := []) (wr := [(q, .inr (4, [.ref qb, .ref qf, .long lt, .long ls0, .long lv0])), (qb, .inr (0, [.ref qw, .int (nI L.length)])), (qw, .inl (cJ, 6250, .inr (.inl w))), (qf, .inr (1, [.int (nI z), .int (nI n)]))]) (av := [.long (lN ax)]) (va_runS (As := [.long (lN ax)]) (rest := []) ⟨hx, hb, hml, hown, hw⟩ (cc_J_numberOfLeadingZeros l D cJ cB ax mm _ hax hm1 hm2) (va_cwS 1 hw (tb_S wi_321 wi_322 wi_34 wi_323) rfl rfl rfl (by decide +kernel) ⟨Nat.le_of_ble_eq_true rfl, Nat.le_of_ble_eq_true rfl⟩) ⟨ct_blind, ct_pc hZ hK hP hD hS hA [] rfl (by decide)⟩ rfl rfl hl.1 rfl (lv_room (Nat.le_of_ble_eq_true rfl)) dd_W_writeDifference_17 ⟨Nat.le_of_ble_eq_true rfl, Nat.le_of_ble_eq_true rfl⟩) hK hP hD hS hA [] [0, 1, 2, 3] rfl rfl (by decide) (by decide) (fun r_17 u_17 H locs hw_17 hP hD hS => ?_)
    subst hw_17
    have hP : va_P D classes [(q, .inr (4, [.ref qb, .ref qf, .long lt, .long ls0, .long lv0])), (qb, .inr (0, [.ref qw, .int (nI L.length)])), (qw, .inl (cJ, 6250, .inr (.inl w))), (qf, .inr (1, [.int (nI z), .int (nI n)]))] _ := hP
    have hD : va_D A [(q, .inr (4, [.ref qb, .ref qf, .long lt, .long ls0, .long lv0])), (qb, .inr (0, [.ref qw, .int (nI L.length)])), (qw, .inl (cJ, 6250, .inr (.inl w))), (qf, .inr (1, [.int (nI z), .int (nI n)]))] := hD
    refine lv_bipush (v := nI 31) hx hb dd_W_writeDifference_20 (by decide) ?_
    refine va_mmin hx hb (hml.trans hl.1.symm) hown (hw _ wi_328) (hw _ wi_329) (hw _ wi_36) (hw _ wi_330) (Nat.le_of_ble_eq_true rfl) (Nat.le_of_ble_eq_true rfl) (Nat.le_of_ble_eq_true rfl) (Nat.le_of_ble_eq_true rfl) dd_W_writeDifference_22 ?_
    refine ct_topi (y := nI a0) ((cz_min (by omega) (by decide)).trans (congrArg nI (by omega))) ?_
    refine lv_istore_n (lv' := [(3, .int (nI a0)), (0, .ref q), (1, .long x)]) hx hb dd_W_writeDifference_25 rfl hl (by decide) rfl (fun ls hl => ?_)
    refine lv_lload_n hx hb dd_W_writeDifference_26 rfl (lv_at hl 2 rfl) ?_
    refine ct_topl (y := lN ax) hxa ?_
    refine ct_behind_i (wc := []) (wr := [(q, .inr (4, [.ref qb, .ref qf, .long lt, .long ls0, .long lv0])), (qb, .inr (0, [.ref qw, .int (nI L.length)])), (qw, .inl (cJ, 6250, .inr (.inl w))), (qf, .inr (1, [.int (nI z), .int (nI n)]))]) (av := [.long (lN ax)]) (va_runS (As := [.long (lN ax)]) (rest := []) ⟨hx, hb, hml, hown, hw⟩ (cc_J_numberOfTrailingZeros l D cJ cB ax tt bb _ hax htt hdec) (va_cwS 1 hw (tb_S wi_331 wi_332 wi_34 wi_333) rfl rfl rfl (by decide +kernel) ⟨Nat.le_of_ble_eq_true rfl, Nat.le_of_ble_eq_true rfl⟩) ⟨ct_blind, ct_pc hZ hK hP hD hS hA [] rfl (by decide)⟩ rfl rfl hl.1 rfl (lv_room (Nat.le_of_ble_eq_true rfl)) dd_W_writeDifference_27 ⟨Nat.le_of_ble_eq_true rfl, Nat.le_of_ble_eq_true rfl⟩) hK hP hD hS hA [] [0, 1, 2, 3] rfl rfl (by decide) (by decide) (fun r_27 u_27 H locs hw_27 hP hD hS => ?_)
    subst hw_27
    refine ct_topi (y := nI b0) (congrArg nI (by omega)) ?_
    have hP : va_P D classes [(q, .inr (4, [.ref qb, .ref qf, .long lt, .long ls0, .long lv0])), (qb, .inr (0, [.ref qw, .int (nI L.length)])), (qw, .inl (cJ, 6250, .inr (.inl w))), (qf, .inr (1, [.int (nI z), .int (nI n)]))] _ := hP
    have hD : va_D A [(q, .inr (4, [.ref qb, .ref qf, .long lt, .long ls0, .long lv0])), (qb, .inr (0, [.ref qw, .int (nI L.length)])), (qw, .inl (cJ, 6250, .inr (.inl w))), (qf, .inr (1, [.int (nI z), .int (nI n)]))] := hD
    refine lv_istore (lv' := [(4, .int (nI b0)), (3, .int (nI a0)), (0, .ref q), (1, .long x)]) hx hb dd_W_writeDifference_30 hl (by decide) rfl (fun ls hl => ?_)
    refine lv_aload_n hx hb dd_W_writeDifference_32 rfl (lv_at hl 2 rfl) ?_
    refine va_get (D := D) (ci := 4) (C := cn_W) (T := cf_W) (N := 5) hx hb hw in_W hown hK hP 0 rfl rfl 1 (by decide) (hw _ wi_247) (fun _ h9 => h9) rfl dd_W_writeDifference_33 ?_
    refine lv_iload_n hx hb dd_W_writeDifference_36 rfl (lv_at hl 1 rfl) ?_
    refine lv_iload hx hb dd_W_writeDifference_37 (lv_at hl 0 rfl) ?_
    refine ct_behind_i (wc := [(qf, .inr (1, [.int (nI z), .int (nI n)]))]) (wr := [(q, .inr (4, [.ref qb, .ref qf, .long lt, .long ls0, .long lv0])), (qb, .inr (0, [.ref qw, .int (nI L.length)])), (qw, .inl (cJ, 6250, .inr (.inl w)))]) (av := [.ref qf, .int (nI a0), .int (nI b0)]) (va_runV (As := [.int (nI a0), .int (nI b0)]) (rest := []) ⟨hx, hb, hml, hown, hw⟩ (cc_F_holds l D cJ cB qf z n a0 b0 _ hzn (by omega) (by omega)) (cwV 2 hw (tb_V wi_337 wi_338 wi_339 wi_32 wi_340) rfl rfl rfl (by decide +kernel) ⟨Nat.le_of_ble_eq_true rfl, Nat.le_of_ble_eq_true rfl⟩) ⟨ct_blind, ct_recv hK hP (q0 := 3) (ci := 1) rfl rfl, ct_pc hZ hK hP hD hS hA [3] rfl (by decide)⟩ rfl rfl hl.1 rfl (lv_room (Nat.le_of_ble_eq_true rfl)) dd_W_writeDifference_39 ⟨Nat.le_of_ble_eq_true rfl, Nat.le_of_ble_eq_true rfl⟩) hK hP hD hS hA [3] [0, 1, 2] rfl rfl (by decide) (by decide) (fun r_39 u_39 H locs hw_39 hP hD hS => ?_)
    subst hw_39
    have hP : va_P D classes [(q, .inr (4, [.ref qb, .ref qf, .long lt, .long ls0, .long lv0])), (qb, .inr (0, [.ref qw, .int (nI L.length)])), (qw, .inl (cJ, 6250, .inr (.inl w))), (qf, .inr (1, [.int (nI z), .int (nI n)]))] _ := hP
    have hD : va_D A [(q, .inr (4, [.ref qb, .ref qf, .long lt, .long ls0, .long lv0])), (qb, .inr (0, [.ref qw, .int (nI L.length)])), (qw, .inl (cJ, 6250, .inr (.inl w))), (qf, .inr (1, [.int (nI z), .int (nI n)]))] := hD
    refine lv_if_eq (tgt := 59) hx hb dd_W_writeDifference_42 (by decide) (fun c_42 => ?_) (fun c_42 => ?_)
    · skip
      have c_42 : ¬ (0 < n ∧ z ≤ a0 ∧ 64 - z - n ≤ b0) := bI_z.mp c_42
      refine lv_aload_n hx hb dd_W_writeDifference_59 rfl (lv_at hl 2 rfl) ?_
      refine lv_iload_n hx hb dd_W_writeDifference_60 rfl (lv_at hl 1 rfl) ?_
      refine lv_bipush (v := nI 64) hx hb dd_W_writeDifference_61 (by decide) ?_
      refine lv_iload_n hx hb dd_W_writeDifference_63 rfl (lv_at hl 1 rfl) ?_
      refine lv_isub hx hb dd_W_writeDifference_64 ?_
      refine ct_topi (y := nI (64 - a0)) (pk_sub (by omega)) ?_
      refine lv_iload hx hb dd_W_writeDifference_65 (lv_at hl 0 rfl) ?_
      refine lv_isub hx hb dd_W_writeDifference_67 ?_
      refine ct_topi (y := nI (64 - a0 - b0)) (pk_sub (by omega)) ?_
      refine ct_behind_i (wc := [(q, .inr (4, [.ref qb, .ref qf, .long lt, .long ls0, .long lv0])), (qb, .inr (0, [.ref qw, .int (nI L.length)])), (qw, .inl (cJ, 6250, .inr (.inl w))), (qf, .inr (1, [.int (nI z), .int (nI n)]))]) (wr := []) (av := [.ref q, .int (nI a0), .int (nI (64 - a0 - b0))]) (va_runV (As := [.int (nI a0), .int (nI (64 - a0 - b0))]) (rest := []) ⟨hx, hb, hml, hown, hw⟩ (cc_W_writeFrame l D cJ cB q qb qw qf lt ls0 lv0 w L z n a0 (64 - a0 - b0) _ (by omega) hR (by omega) (by omega) (by omega)) (cwV 2 hw (tb_V wi_350 wi_352 wi_6 wi_31 wi_353) rfl rfl rfl (by decide +kernel) ⟨Nat.le_of_ble_eq_true rfl, Nat.le_of_ble_eq_true rfl⟩) ⟨ct_blind, ct_recv hK hP (q0 := 0) (ci := 4) rfl rfl, ct_pc hZ hK hP hD hS hA [0, 1, 2, 3] rfl (by decide)⟩ rfl rfl hl.1 rfl (lv_room (Nat.le_of_ble_eq_true rfl)) dd_W_writeDifference_68 ⟨Nat.le_of_ble_eq_true rfl, Nat.le_of_ble_eq_true rfl⟩) hK hP hD hS hA [0, 1, 2, 3] [] rfl rfl (by decide) (by decide) (fun r_68 u_68 H locs hw_68 hP hD hS => ?_)
      obtain ⟨hr_68, hR_w1⟩ := hw_68
      subst hr_68
      obtain ⟨w1, h9⟩ : ∃ z, z = u_68 := ⟨_, rfl⟩
      rw [← h9] at hP hD hR_w1
      clear h9
      have hP : va_P D classes [(q, .inr (4, [.ref qb, .ref qf, .long lt, .long ls0, .long lv0])), (qb, .inr (0, [.ref qw, .int (nI ((((L ++ cp_bl 3 2) ++ cp_bl (lN a0) 5) ++ cp_bl (lN (64 - a0 - b0 - 1)) 6).length))])), (qw, .inl (cJ, 6250, .inr (.inl w1))), (qf, .inr (1, [.int (nI a0), .int (nI (64 - a0 - b0))]))] _ := hP
      have hD : va_D A [(q, .inr (4, [.ref qb, .ref qf, .long lt, .long ls0, .long lv0])), (qb, .inr (0, [.ref qw, .int (nI ((((L ++ cp_bl 3 2) ++ cp_bl (lN a0) 5) ++ cp_bl (lN (64 - a0 - b0 - 1)) 6).length))])), (qw, .inl (cJ, 6250, .inr (.inl w1))), (qf, .inr (1, [.int (nI a0), .int (nI (64 - a0 - b0))]))] := hD
      refine lv_istore (lv' := [(5, .int (nI 1)), (4, .int (nI b0)), (3, .int (nI a0)), (0, .ref q), (1, .long x)]) hx hb dd_W_writeDifference_71 hl (by decide) rfl (fun ls hl => ?_)
      refine lv_iload hx hb dd_W_writeDifference_73 (lv_at hl 0 rfl) ?_
      refine lv_if_eq (tgt := 108) hx hb dd_W_writeDifference_75 (by decide) (fun c_75 => ?_) (fun c_75 => ?_)
      · skip
        have c_75 : 1 = 0 := (ct_zeq (by omega)).mp c_75
        exfalso
        omega
      have c_75 : ¬ (1 = 0) := fun z => c_75 ((ct_zeq (by omega)).mpr z)
      refine lv_aload_n hx hb dd_W_writeDifference_78 rfl (lv_at hl 3 rfl) ?_
      refine va_get (D := D) (ci := 4) (C := cn_W) (T := cf_W) (N := 5) hx hb hw in_W hown hK hP 0 rfl rfl 0 (by decide) (hw _ wi_246) (fun _ h9 => h9) rfl dd_W_writeDifference_79 ?_
      refine lv_lload_n hx hb dd_W_writeDifference_82 rfl (lv_at hl 4 rfl) ?_
      refine lv_aload_n hx hb dd_W_writeDifference_83 rfl (lv_at hl 3 rfl) ?_
      refine va_get (D := D) (ci := 4) (C := cn_W) (T := cf_W) (N := 5) hx hb hw in_W hown hK hP 0 rfl rfl 1 (by decide) (hw _ wi_247) (fun _ h9 => h9) rfl dd_W_writeDifference_84 ?_
      refine ct_behind_i (wc := [(qf, .inr (1, [.int (nI a0), .int (nI (64 - a0 - b0))]))]) (wr := [(q, .inr (4, [.ref qb, .ref qf, .long lt, .long ls0, .long lv0])), (qb, .inr (0, [.ref qw, .int (nI ((((L ++ cp_bl 3 2) ++ cp_bl (lN a0) 5) ++ cp_bl (lN (64 - a0 - b0 - 1)) 6).length))])), (qw, .inl (cJ, 6250, .inr (.inl w1)))]) (av := [.ref qf]) (va_runV (As := []) (rest := [.long x, .ref qb]) ⟨hx, hb, hml, hown, hw⟩ (cc_F_below l D cJ cB qf a0 (64 - a0 - b0) _ (by omega)) (cwV 0 hw (tb_V wi_359 wi_346 wi_347 wi_32 wi_348) rfl rfl rfl (by decide +kernel) ⟨Nat.le_of_ble_eq_true rfl, Nat.le_of_ble_eq_true rfl⟩) ⟨ct_blind, ct_recv hK hP (q0 := 3) (ci := 1) rfl rfl, ct_pc hZ hK hP hD hS hA [3] rfl (by decide)⟩ rfl rfl hl.1 rfl (lv_room (Nat.le_of_ble_eq_true rfl)) dd_W_writeDifference_87 ⟨Nat.le_of_ble_eq_true rfl, Nat.le_of_ble_eq_true rfl⟩) hK hP hD hS hA [3] [0, 1, 2] rfl rfl (by decide) (by decide) (fun r_87 u_87 H locs hw_87 hP hD hS => ?_)
      subst hw_87
      refine ct_topi (y := nI b0) (congrArg nI (by omega)) ?_
      have hP : va_P D classes [(q, .inr (4, [.ref qb, .ref qf, .long lt, .long ls0, .long lv0])), (qb, .inr (0, [.ref qw, .int (nI ((((L ++ cp_bl 3 2) ++ cp_bl (lN a0) 5) ++ cp_bl (lN (64 - a0 - b0 - 1)) 6).length))])), (qw, .inl (cJ, 6250, .inr (.inl w1))), (qf, .inr (1, [.int (nI a0), .int (nI (64 - a0 - b0))]))] _ := hP
      have hD : va_D A [(q, .inr (4, [.ref qb, .ref qf, .long lt, .long ls0, .long lv0])), (qb, .inr (0, [.ref qw, .int (nI ((((L ++ cp_bl 3 2) ++ cp_bl (lN a0) 5) ++ cp_bl (lN (64 - a0 - b0 - 1)) 6).length))])), (qw, .inl (cJ, 6250, .inr (.inl w1))), (qf, .inr (1, [.int (nI a0), .int (nI (64 - a0 - b0))]))] := hD
      refine lv_lushr (v := (x.toUInt64 >>> ((nI b0).toInt64.toUInt64 &&& Int64.toUInt64 63)).toInt64) hx hb dd_W_writeDifference_90 rfl ?_
      refine ct_topl (y := cp_sr x b0) (rfl) ?_
      refine lv_aload_n hx hb dd_W_writeDifference_91 rfl (lv_at hl 3 rfl) ?_
      refine va_get (D := D) (ci := 4) (C := cn_W) (T := cf_W) (N := 5) hx hb hw in_W hown hK hP 0 rfl rfl 1 (by decide) (hw _ wi_247) (fun _ h9 => h9) rfl dd_W_writeDifference_92 ?_
      refine ct_behind_i (wc := [(qf, .inr (1, [.int (nI a0), .int (nI (64 - a0 - b0))]))]) (wr := [(q, .inr (4, [.ref qb, .ref qf, .long lt, .long ls0, .long lv0])), (qb, .inr (0, [.ref qw, .int (nI ((((L ++ cp_bl 3 2) ++ cp_bl (lN a0) 5) ++ cp_bl (lN (64 - a0 - b0 - 1)) 6).length))])), (qw, .inl (cJ, 6250, .inr (.inl w1)))]) (av := [.ref qf]) (va_runV (As := []) (rest := [.long (cp_sr x b0), .ref qb]) ⟨hx, hb, hml, hown, hw⟩ (cc_F_width l D cJ cB qf a0 (64 - a0 - b0) _ (by omega)) (cwV 0 hw (tb_V wi_360 wi_361 wi_362 wi_32 wi_363) rfl rfl rfl (by decide +kernel) ⟨Nat.le_of_ble_eq_true rfl, Nat.le_of_ble_eq_true rfl⟩) ⟨ct_blind, ct_recv hK hP (q0 := 3) (ci := 1) rfl rfl, ct_pc hZ hK hP hD hS hA [3] rfl (by decide)⟩ rfl rfl hl.1 rfl (lv_room (Nat.le_of_ble_eq_true rfl)) dd_W_writeDifference_95 ⟨Nat.le_of_ble_eq_true rfl, Nat.le_of_ble_eq_true rfl⟩) hK hP hD hS hA [3] [0, 1, 2] rfl rfl (by decide) (by decide) (fun r_95 u_95 H locs hw_95 hP hD hS => ?_)
      subst hw_95
      have hP : va_P D classes [(q, .inr (4, [.ref qb, .ref qf, .long lt, .long ls0, .long lv0])), (qb, .inr (0, [.ref qw, .int (nI ((((L ++ cp_bl 3 2) ++ cp_bl (lN a0) 5) ++ cp_bl (lN (64 - a0 - b0 - 1)) 6).length))])), (qw, .inl (cJ, 6250, .inr (.inl w1))), (qf, .inr (1, [.int (nI a0), .int (nI (64 - a0 - b0))]))] _ := hP
      have hD : va_D A [(q, .inr (4, [.ref qb, .ref qf, .long lt, .long ls0, .long lv0])), (qb, .inr (0, [.ref qw, .int (nI ((((L ++ cp_bl 3 2) ++ cp_bl (lN a0) 5) ++ cp_bl (lN (64 - a0 - b0 - 1)) 6).length))])), (qw, .inl (cJ, 6250, .inr (.inl w1))), (qf, .inr (1, [.int (nI a0), .int (nI (64 - a0 - b0))]))] := hD
      refine ct_behind_i (wc := [(qb, .inr (0, [.ref qw, .int (nI ((((L ++ cp_bl 3 2) ++ cp_bl (lN a0) 5) ++ cp_bl (lN (64 - a0 - b0 - 1)) 6).length))])), (qw, .inl (cJ, 6250, .inr (.inl w1)))]) (wr := [(q, .inr (4, [.ref qb, .ref qf, .long lt, .long ls0, .long lv0])), (qf, .inr (1, [.int (nI a0), .int (nI (64 - a0 - b0))]))]) (av := [.ref qb, .long (cp_sr x b0), .int (nI (64 - a0 - b0))]) (va_runV (As := [.long (cp_sr x b0), .int (nI (64 - a0 - b0))]) (rest := []) ⟨hx, hb, hml, hown, hw⟩ (cs_B_append l D cJ cB qb qw w1 (((L ++ cp_bl 3 2) ++ cp_bl (lN a0) 5) ++ cp_bl (lN (64 - a0 - b0 - 1)) 6) (cp_sr x b0) (64 - a0 - b0) _ (by simp only [List.length_append, cp_bl_len]; omega) hR_w1 (by omega) (cp_sr_fit (by omega) (by omega))) (cwV 2 hw (tb_V wi_295 wi_296 wi_297 wi_24 wi_298) rfl rfl rfl (by decide +kernel) ⟨Nat.le_of_ble_eq_true rfl, Nat.le_of_ble_eq_true rfl⟩) ⟨ct_blind, ct_recv hK hP (q0 := 1) (ci := 0) rfl rfl, ct_pc hZ hK hP hD hS hA [1, 2] rfl (by decide)⟩ rfl rfl hl.1 rfl (lv_room (Nat.le_of_ble_eq_true rfl)) dd_W_writeDifference_98 ⟨Nat.le_of_ble_eq_true rfl, Nat.le_of_ble_eq_true rfl⟩) hK hP hD hS hA [1, 2] [0, 3] rfl rfl (by decide) (by decide) (fun r_98 u_98 H locs hw_98 hP hD hS => ?_)
      obtain ⟨hr_98, hR_w2⟩ := hw_98
      subst hr_98
      obtain ⟨w2, h9_98⟩ : ∃ z, z = u_98 := ⟨_, rfl⟩
      rw [← h9_98] at hP hD hR_w2
      clear h9_98
      have hP : va_P D classes [(q, .inr (4, [.ref qb, .ref qf, .long lt, .long ls0, .long lv0])), (qf, .inr (1, [.int (nI a0), .int (nI (64 - a0 - b0))])), (qb, .inr (0, [.ref qw, .int (nI (((((L ++ cp_bl 3 2) ++ cp_bl (lN a0) 5) ++ cp_bl (lN (64 - a0 - b0 - 1)) 6) ++ cp_bl (cp_sr x b0) (64 - a0 - b0)).length))])), (qw, .inl (cJ, 6250, .inr (.inl w2)))] _ := hP
      have hD : va_D A [(q, .inr (4, [.ref qb, .ref qf, .long lt, .long ls0, .long lv0])), (qf, .inr (1, [.int (nI a0), .int (nI (64 - a0 - b0))])), (qb, .inr (0, [.ref qw, .int (nI (((((L ++ cp_bl 3 2) ++ cp_bl (lN a0) 5) ++ cp_bl (lN (64 - a0 - b0 - 1)) 6) ++ cp_bl (cp_sr x b0) (64 - a0 - b0)).length))])), (qw, .inl (cJ, 6250, .inr (.inl w2)))] := hD
      refine lv_if_eq (tgt := 108) hx hb dd_W_writeDifference_101 (by decide) (fun c_101 => ?_) (fun c_101 => ?_)
      · skip
        have c_101 : 1 = 0 := (ct_zeq (by omega)).mp c_101
        exfalso
        omega
      have c_101 : ¬ (1 = 0) := fun z => c_101 ((ct_zeq (by omega)).mpr z)
      refine lv_iconst (v := nI 1) hx hb dd_W_writeDifference_104 (by decide) ?_
      refine lv_goto (tgt := 109) hx hb dd_W_writeDifference_105 (by decide) ?_
      have e_wv : cp_wv z n x = (((cp_bl 3 2 ++ cp_bl (lN a0) 5) ++ cp_bl (lN (64 - a0 - b0 - 1)) 6) ++ cp_bl (cp_sr x b0) (64 - a0 - b0), a0, 64 - a0 - b0) := by unfold cp_wv; rw [if_neg c_3, ← ha0, ← hb0, if_neg c_42]
      rw [show ((((L ++ cp_bl 3 2) ++ cp_bl (lN a0) 5) ++ cp_bl (lN (64 - a0 - b0 - 1)) 6) ++ cp_bl (cp_sr x b0) (64 - a0 - b0)) = L ++ (cp_wv z n x).1 by rw [e_wv]; simp only [List.append_assoc]] at hP hD hR_w2
      refine ct_zret (u := w2) (ws := [(q, .inr (4, [.ref qb, .ref qf, .long lt, .long ls0, .long lv0])), (qb, .inr (0, [.ref qw, .int (nI ((L ++ (cp_wv z n x).1).length))])), (qw, .inl (cJ, 6250, .inr (.inl w2))), (qf, .inr (1, [.int (nI a0), .int (nI (64 - a0 - b0))]))]) hx hb hr hlocks (by decide) hK (hP.sub [0, 2, 3, 1] rfl) (hD.sub [0, 2, 3, 1] (by decide) rfl) hS (by simp only [e_wv]) ?_ dd_W_writeDifference_109
      exact ⟨rfl, hR_w2⟩
    have c_42 : 0 < n ∧ z ≤ a0 ∧ 64 - z - n ≤ b0 := bI_n.mp c_42
    refine lv_aload_n hx hb dd_W_writeDifference_45 rfl (lv_at hl 2 rfl) ?_
    refine va_get (D := D) (ci := 4) (C := cn_W) (T := cf_W) (N := 5) hx hb hw in_W hown hK hP 0 rfl rfl 0 (by decide) (hw _ wi_246) (fun _ h9 => h9) rfl dd_W_writeDifference_46 ?_
    refine lv_ldc2 (v := 2) hx hb hown (hw _ wi_349) dd_W_writeDifference_49 ?_
    refine lv_iconst (v := nI 2) hx hb dd_W_writeDifference_52 (by decide) ?_
    refine ct_behind_i (wc := [(qb, .inr (0, [.ref qw, .int (nI L.length)])), (qw, .inl (cJ, 6250, .inr (.inl w)))]) (wr := [(q, .inr (4, [.ref qb, .ref qf, .long lt, .long ls0, .long lv0])), (qf, .inr (1, [.int (nI z), .int (nI n)]))]) (av := [.ref qb, .long 2, .int (nI 2)]) (va_runV (As := [.long 2, .int (nI 2)]) (rest := []) ⟨hx, hb, hml, hown, hw⟩ (cs_B_append l D cJ cB qb qw w L 2 2 _ (by omega) hR (by omega) (cp_fit_2)) (cwV 2 hw (tb_V wi_295 wi_296 wi_297 wi_24 wi_298) rfl rfl rfl (by decide +kernel) ⟨Nat.le_of_ble_eq_true rfl, Nat.le_of_ble_eq_true rfl⟩) ⟨ct_blind, ct_recv hK hP (q0 := 1) (ci := 0) rfl rfl, ct_pc hZ hK hP hD hS hA [1, 2] rfl (by decide)⟩ rfl rfl hl.1 rfl (lv_room (Nat.le_of_ble_eq_true rfl)) dd_W_writeDifference_53 ⟨Nat.le_of_ble_eq_true rfl, Nat.le_of_ble_eq_true rfl⟩) hK hP hD hS hA [1, 2] [0, 3] rfl rfl (by decide) (by decide) (fun r_53 u_53 H locs hw_53 hP hD hS => ?_)
    obtain ⟨hr_53, hR_w1⟩ := hw_53
    subst hr_53
    obtain ⟨w1, h9_53⟩ : ∃ z, z = u_53 := ⟨_, rfl⟩
    rw [← h9_53] at hP hD hR_w1
    clear h9_53
    have hP : va_P D classes [(q, .inr (4, [.ref qb, .ref qf, .long lt, .long ls0, .long lv0])), (qf, .inr (1, [.int (nI z), .int (nI n)])), (qb, .inr (0, [.ref qw, .int (nI ((L ++ cp_bl 2 2).length))])), (qw, .inl (cJ, 6250, .inr (.inl w1)))] _ := hP
    have hD : va_D A [(q, .inr (4, [.ref qb, .ref qf, .long lt, .long ls0, .long lv0])), (qf, .inr (1, [.int (nI z), .int (nI n)])), (qb, .inr (0, [.ref qw, .int (nI ((L ++ cp_bl 2 2).length))])), (qw, .inl (cJ, 6250, .inr (.inl w1)))] := hD
    refine lv_goto (tgt := 71) hx hb dd_W_writeDifference_56 (by decide) ?_
    refine lv_istore (lv' := [(5, .int (nI 1)), (4, .int (nI b0)), (3, .int (nI a0)), (0, .ref q), (1, .long x)]) hx hb dd_W_writeDifference_71 hl (by decide) rfl (fun ls hl => ?_)
    refine lv_iload hx hb dd_W_writeDifference_73 (lv_at hl 0 rfl) ?_
    refine lv_if_eq (tgt := 108) hx hb dd_W_writeDifference_75 (by decide) (fun c_75 => ?_) (fun c_75 => ?_)
    · skip
      have c_75 : 1 = 0 := (ct_zeq (by omega)).mp c_75
      exfalso
      omega
    have c_75 : ¬ (1 = 0) := fun z => c_75 ((ct_zeq (by omega)).mpr z)
    refine lv_aload_n hx hb dd_W_writeDifference_78 rfl (lv_at hl 3 rfl) ?_
    refine va_get (D := D) (ci := 4) (C := cn_W) (T := cf_W) (N := 5) hx hb hw in_W hown hK hP 0 rfl rfl 0 (by decide) (hw _ wi_246) (fun _ h9 => h9) rfl dd_W_writeDifference_79 ?_
    refine lv_lload_n hx hb dd_W_writeDifference_82 rfl (lv_at hl 4 rfl) ?_
    refine lv_aload_n hx hb dd_W_writeDifference_83 rfl (lv_at hl 3 rfl) ?_
    refine va_get (D := D) (ci := 4) (C := cn_W) (T := cf_W) (N := 5) hx hb hw in_W hown hK hP 0 rfl rfl 1 (by decide) (hw _ wi_247) (fun _ h9 => h9) rfl dd_W_writeDifference_84 ?_
    refine ct_behind_i (wc := [(qf, .inr (1, [.int (nI z), .int (nI n)]))]) (wr := [(q, .inr (4, [.ref qb, .ref qf, .long lt, .long ls0, .long lv0])), (qb, .inr (0, [.ref qw, .int (nI ((L ++ cp_bl 2 2).length))])), (qw, .inl (cJ, 6250, .inr (.inl w1)))]) (av := [.ref qf]) (va_runV (As := []) (rest := [.long x, .ref qb]) ⟨hx, hb, hml, hown, hw⟩ (cc_F_below l D cJ cB qf z n _ hzn) (cwV 0 hw (tb_V wi_359 wi_346 wi_347 wi_32 wi_348) rfl rfl rfl (by decide +kernel) ⟨Nat.le_of_ble_eq_true rfl, Nat.le_of_ble_eq_true rfl⟩) ⟨ct_blind, ct_recv hK hP (q0 := 1) (ci := 1) rfl rfl, ct_pc hZ hK hP hD hS hA [1] rfl (by decide)⟩ rfl rfl hl.1 rfl (lv_room (Nat.le_of_ble_eq_true rfl)) dd_W_writeDifference_87 ⟨Nat.le_of_ble_eq_true rfl, Nat.le_of_ble_eq_true rfl⟩) hK hP hD hS hA [1] [0, 2, 3] rfl rfl (by decide) (by decide) (fun r_87 u_87 H locs hw_87 hP hD hS => ?_)
    subst hw_87
    have hP : va_P D classes [(q, .inr (4, [.ref qb, .ref qf, .long lt, .long ls0, .long lv0])), (qb, .inr (0, [.ref qw, .int (nI ((L ++ cp_bl 2 2).length))])), (qw, .inl (cJ, 6250, .inr (.inl w1))), (qf, .inr (1, [.int (nI z), .int (nI n)]))] _ := hP
    have hD : va_D A [(q, .inr (4, [.ref qb, .ref qf, .long lt, .long ls0, .long lv0])), (qb, .inr (0, [.ref qw, .int (nI ((L ++ cp_bl 2 2).length))])), (qw, .inl (cJ, 6250, .inr (.inl w1))), (qf, .inr (1, [.int (nI z), .int (nI n)]))] := hD
    refine lv_lushr (v := (x.toUInt64 >>> ((nI (64 - z - n)).toInt64.toUInt64 &&& Int64.toUInt64 63)).toInt64) hx hb dd_W_writeDifference_90 rfl ?_
    refine ct_topl (y := cp_sr x (64 - z - n)) (rfl) ?_
    refine lv_aload_n hx hb dd_W_writeDifference_91 rfl (lv_at hl 3 rfl) ?_
    refine va_get (D := D) (ci := 4) (C := cn_W) (T := cf_W) (N := 5) hx hb hw in_W hown hK hP 0 rfl rfl 1 (by decide) (hw _ wi_247) (fun _ h9 => h9) rfl dd_W_writeDifference_92 ?_
    refine ct_behind_i (wc := [(qf, .inr (1, [.int (nI z), .int (nI n)]))]) (wr := [(q, .inr (4, [.ref qb, .ref qf, .long lt, .long ls0, .long lv0])), (qb, .inr (0, [.ref qw, .int (nI ((L ++ cp_bl 2 2).length))])), (qw, .inl (cJ, 6250, .inr (.inl w1)))]) (av := [.ref qf]) (va_runV (As := []) (rest := [.long (cp_sr x (64 - z - n)), .ref qb]) ⟨hx, hb, hml, hown, hw⟩ (cc_F_width l D cJ cB qf z n _ hzn) (cwV 0 hw (tb_V wi_360 wi_361 wi_362 wi_32 wi_363) rfl rfl rfl (by decide +kernel) ⟨Nat.le_of_ble_eq_true rfl, Nat.le_of_ble_eq_true rfl⟩) ⟨ct_blind, ct_recv hK hP (q0 := 3) (ci := 1) rfl rfl, ct_pc hZ hK hP hD hS hA [3] rfl (by decide)⟩ rfl rfl hl.1 rfl (lv_room (Nat.le_of_ble_eq_true rfl)) dd_W_writeDifference_95 ⟨Nat.le_of_ble_eq_true rfl, Nat.le_of_ble_eq_true rfl⟩) hK hP hD hS hA [3] [0, 1, 2] rfl rfl (by decide) (by decide) (fun r_95 u_95 H locs hw_95 hP hD hS => ?_)
    subst hw_95
    have hP : va_P D classes [(q, .inr (4, [.ref qb, .ref qf, .long lt, .long ls0, .long lv0])), (qb, .inr (0, [.ref qw, .int (nI ((L ++ cp_bl 2 2).length))])), (qw, .inl (cJ, 6250, .inr (.inl w1))), (qf, .inr (1, [.int (nI z), .int (nI n)]))] _ := hP
    have hD : va_D A [(q, .inr (4, [.ref qb, .ref qf, .long lt, .long ls0, .long lv0])), (qb, .inr (0, [.ref qw, .int (nI ((L ++ cp_bl 2 2).length))])), (qw, .inl (cJ, 6250, .inr (.inl w1))), (qf, .inr (1, [.int (nI z), .int (nI n)]))] := hD
    refine ct_behind_i (wc := [(qb, .inr (0, [.ref qw, .int (nI ((L ++ cp_bl 2 2).length))])), (qw, .inl (cJ, 6250, .inr (.inl w1)))]) (wr := [(q, .inr (4, [.ref qb, .ref qf, .long lt, .long ls0, .long lv0])), (qf, .inr (1, [.int (nI z), .int (nI n)]))]) (av := [.ref qb, .long (cp_sr x (64 - z - n)), .int (nI n)]) (va_runV (As := [.long (cp_sr x (64 - z - n)), .int (nI n)]) (rest := []) ⟨hx, hb, hml, hown, hw⟩ (cs_B_append l D cJ cB qb qw w1 (L ++ cp_bl 2 2) (cp_sr x (64 - z - n)) n _ (by simp only [List.length_append, cp_bl_len]; omega) hR_w1 (by omega) (cp_sr_fit (by omega) (by omega))) (cwV 2 hw (tb_V wi_295 wi_296 wi_297 wi_24 wi_298) rfl rfl rfl (by decide +kernel) ⟨Nat.le_of_ble_eq_true rfl, Nat.le_of_ble_eq_true rfl⟩) ⟨ct_blind, ct_recv hK hP (q0 := 1) (ci := 0) rfl rfl, ct_pc hZ hK hP hD hS hA [1, 2] rfl (by decide)⟩ rfl rfl hl.1 rfl (lv_room (Nat.le_of_ble_eq_true rfl)) dd_W_writeDifference_98 ⟨Nat.le_of_ble_eq_true rfl, Nat.le_of_ble_eq_true rfl⟩) hK hP hD hS hA [1, 2] [0, 3] rfl rfl (by decide) (by decide) (fun r_98 u_98 H locs hw_98 hP hD hS => ?_)
    obtain ⟨hr_98, hR_w2⟩ := hw_98
    subst hr_98
    obtain ⟨w2, h9_98⟩ : ∃ z, z = u_98 := ⟨_, rfl⟩
    rw [← h9_98] at hP hD hR_w2
    clear h9_98
    have hP : va_P D classes [(q, .inr (4, [.ref qb, .ref qf, .long lt, .long ls0, .long lv0])), (qf, .inr (1, [.int (nI z), .int (nI n)])), (qb, .inr (0, [.ref qw, .int (nI (((L ++ cp_bl 2 2) ++ cp_bl (cp_sr x (64 - z - n)) n).length))])), (qw, .inl (cJ, 6250, .inr (.inl w2)))] _ := hP
    have hD : va_D A [(q, .inr (4, [.ref qb, .ref qf, .long lt, .long ls0, .long lv0])), (qf, .inr (1, [.int (nI z), .int (nI n)])), (qb, .inr (0, [.ref qw, .int (nI (((L ++ cp_bl 2 2) ++ cp_bl (cp_sr x (64 - z - n)) n).length))])), (qw, .inl (cJ, 6250, .inr (.inl w2)))] := hD
    refine lv_if_eq (tgt := 108) hx hb dd_W_writeDifference_101 (by decide) (fun c_101 => ?_) (fun c_101 => ?_)
    · skip
      have c_101 : 1 = 0 := (ct_zeq (by omega)).mp c_101
      exfalso
      omega
    have c_101 : ¬ (1 = 0) := fun z => c_101 ((ct_zeq (by omega)).mpr z)
    refine lv_iconst (v := nI 1) hx hb dd_W_writeDifference_104 (by decide) ?_
    refine lv_goto (tgt := 109) hx hb dd_W_writeDifference_105 (by decide) ?_
    have e_wv : cp_wv z n x = (cp_bl 2 2 ++ cp_bl (cp_sr x (64 - z - n)) n, z, n) := by unfold cp_wv; rw [if_neg c_3, ← ha0, ← hb0, if_pos c_42]
    rw [show ((L ++ cp_bl 2 2) ++ cp_bl (cp_sr x (64 - z - n)) n) = L ++ (cp_wv z n x).1 by rw [e_wv]; simp only [List.append_assoc]] at hP hD hR_w2
    refine ct_zret (u := w2) (ws := [(q, .inr (4, [.ref qb, .ref qf, .long lt, .long ls0, .long lv0])), (qb, .inr (0, [.ref qw, .int (nI ((L ++ (cp_wv z n x).1).length))])), (qw, .inl (cJ, 6250, .inr (.inl w2))), (qf, .inr (1, [.int (nI z), .int (nI n)]))]) hx hb hr hlocks (by decide) hK (hP.sub [0, 2, 3, 1] rfl) (hD.sub [0, 2, 3, 1] (by decide) rfl) hS (by simp only [e_wv]) ?_ dd_W_writeDifference_109
    exact ⟨rfl, hR_w2⟩
  have c_3 : x = 0 := (lg_cmp_eq _ _).mp c_3
  refine lv_aload_n hx hb dd_W_writeDifference_6 rfl (lv_at hl 0 rfl) ?_
  refine va_get (D := D) (ci := 4) (C := cn_W) (T := cf_W) (N := 5) hx hb hw in_W hown hK hP 0 rfl rfl 0 (by decide) (hw _ wi_246) (fun _ h9 => h9) rfl dd_W_writeDifference_7 ?_
  refine lv_lconst (v := 0) hx hb dd_W_writeDifference_10 (by decide) ?_
  refine lv_iconst (v := nI 1) hx hb dd_W_writeDifference_11 (by decide) ?_
  refine ct_behind_i (wc := [(qb, .inr (0, [.ref qw, .int (nI L.length)])), (qw, .inl (cJ, 6250, .inr (.inl w)))]) (wr := [(q, .inr (4, [.ref qb, .ref qf, .long lt, .long ls0, .long lv0])), (qf, .inr (1, [.int (nI z), .int (nI n)]))]) (av := [.ref qb, .long 0, .int (nI 1)]) (va_runV (As := [.long 0, .int (nI 1)]) (rest := []) ⟨hx, hb, hml, hown, hw⟩ (cs_B_append l D cJ cB qb qw w L 0 1 _ (by omega) hR (by omega) (cp_fit_0 1)) (cwV 2 hw (tb_V wi_295 wi_296 wi_297 wi_24 wi_298) rfl rfl rfl (by decide +kernel) ⟨Nat.le_of_ble_eq_true rfl, Nat.le_of_ble_eq_true rfl⟩) ⟨ct_blind, ct_recv hK hP (q0 := 1) (ci := 0) rfl rfl, ct_pc hZ hK hP hD hS hA [1, 2] rfl (by decide)⟩ rfl rfl hl.1 rfl (lv_room (Nat.le_of_ble_eq_true rfl)) dd_W_writeDifference_12 ⟨Nat.le_of_ble_eq_true rfl, Nat.le_of_ble_eq_true rfl⟩) hK hP hD hS hA [1, 2] [0, 3] rfl rfl (by decide) (by decide) (fun r_12 u_12 H locs hw_12 hP hD hS => ?_)
  obtain ⟨hr_12, hR_w1⟩ := hw_12
  subst hr_12
  obtain ⟨w1, h9_12⟩ : ∃ z, z = u_12 := ⟨_, rfl⟩
  rw [← h9_12] at hP hD hR_w1
  clear h9_12
  have hP : va_P D classes [(q, .inr (4, [.ref qb, .ref qf, .long lt, .long ls0, .long lv0])), (qf, .inr (1, [.int (nI z), .int (nI n)])), (qb, .inr (0, [.ref qw, .int (nI ((L ++ cp_bl 0 1).length))])), (qw, .inl (cJ, 6250, .inr (.inl w1)))] _ := hP
  have hD : va_D A [(q, .inr (4, [.ref qb, .ref qf, .long lt, .long ls0, .long lv0])), (qf, .inr (1, [.int (nI z), .int (nI n)])), (qb, .inr (0, [.ref qw, .int (nI ((L ++ cp_bl 0 1).length))])), (qw, .inl (cJ, 6250, .inr (.inl w1)))] := hD
  have e_wv : cp_wv z n x = (cp_bl 0 1, z, n) := by unfold cp_wv; rw [if_pos c_3]
  rw [show (L ++ cp_bl 0 1) = L ++ (cp_wv z n x).1 by rw [e_wv]] at hP hD hR_w1
  refine ct_zret (u := w1) (ws := [(q, .inr (4, [.ref qb, .ref qf, .long lt, .long ls0, .long lv0])), (qb, .inr (0, [.ref qw, .int (nI ((L ++ (cp_wv z n x).1).length))])), (qw, .inl (cJ, 6250, .inr (.inl w1))), (qf, .inr (1, [.int (nI z), .int (nI n)]))]) hx hb hr hlocks (by decide) hK (hP.sub [0, 2, 3, 1] rfl) (hD.sub [0, 2, 3, 1] (by decide) rfl) hS (by simp only [e_wv]) ?_ dd_W_writeDifference_15
  exact ⟨rfl, hR_w1⟩

set_option maxHeartbeats 4000000 in
set_option maxRecDepth 100000 in
theorem cc_W_writeNext (l : Launch) (D : va_G) (cJ cB : ClassId) (q qb qw qf : Nat) (lt ls0 lv0 : Int64) (w : Nat → Int64) (L : List Bool) (z n : Nat) (t v : Int64) (sz : Nat) (hL : L.length + 122 ≤ 400000) (hR : cp_Rw w L) (hzn : z + n ≤ 64) : ct_i l my_W_writeNext (Cond.code my_W_writeNext mb_W_writeNext 9 (some .boolean) :: TB) ({ frames := 3, cells := 0, slots := 0, locals := 76 } : Room) D classes cJ cB [.ref q, .long t, .long v] [(q, .inr (4, [.ref qb, .ref qf, .long lt, .long ls0, .long lv0])), (qb, .inr (0, [.ref qw, .int (nI L.length)])), (qw, .inl (cJ, 6250, .inr (.inl w))), (qf, .inr (1, [.int (nI z), .int (nI n)]))] sz (fun (r : Int32) (u : Nat → Int64) => r = nI 1 ∧ cp_Rw u ((L ++ cp_wt (t - lt - ls0)) ++ (cp_wv z n (v ^^^ lv0)).1)) (fun u => [(q, .inr (4, [.ref qb, .ref qf, .long lt, .long (t - lt), .long lv0])), (qb, .inr (0, [.ref qw, .int (nI (((L ++ cp_wt (t - lt - ls0)) ++ (cp_wv z n (v ^^^ lv0)).1).length))])), (qw, .inl (cJ, 6250, .inr (.inl u))), (qf, .inr (1, [.int (nI ((cp_wv z n (v ^^^ lv0)).2.1)), .int (nI ((cp_wv z n (v ^^^ lv0)).2.2))]))]) 0 0 := by
  refine ct_ofW (cc := mb_W_writeNext) (maxL := 9) (ret := some .boolean) (by decide) rfl (Nat.le_of_ble_eq_true rfl) ?_
  intro p e s m below meth c hx hb hr hml hts hown hlocks hin hsz hK hP hD hA hS hZ ls hl
  have hw : ∀ w ∈ TB, w.before _ s = true := fun w h => hts w (List.mem_cons_of_mem _ h)
  have hown : s.vm.findClass cn_W = some m.cls := hown
  have hin : meth.name = "writeNext" := hin
  generalize hAe : va_A [(q, .inr (4, [.ref qb, .ref qf, .long lt, .long ls0, .long lv0])), (qb, .inr (0, [.ref qw, .int (nI L.length)])), (qw, .inl (cJ, 6250, .inr (.inl w))), (qf, .inr (1, [.int (nI z), .int (nI n)]))] sz = A at hD hA hS hZ ⊢
  clear hAe
  have hl : lv_has ls 9 [(0, .ref q), (1, .long t), (3, .long v)] := hl
  have hP : va_P D classes [(q, .inr (4, [.ref qb, .ref qf, .long lt, .long ls0, .long lv0])), (qb, .inr (0, [.ref qw, .int (nI L.length)])), (qw, .inl (cJ, 6250, .inr (.inl w))), (qf, .inr (1, [.int (nI z), .int (nI n)]))] s.heap := hP
  refine lv_lload_n hx hb dd_W_writeNext_0 rfl (lv_at hl 1 rfl) ?_
  refine lv_aload_n hx hb dd_W_writeNext_1 rfl (lv_at hl 0 rfl) ?_
  refine va_get (D := D) (ci := 4) (C := cn_W) (T := cf_W) (N := 5) hx hb hw in_W hown hK hP 0 rfl rfl 2 (by decide) (hw _ wi_248) (fun _ h9 => h9) rfl dd_W_writeNext_2 ?_
  refine lv_lsub hx hb dd_W_writeNext_5 ?_
  refine lv_lstore (lv' := [(5, .long (t - lt)), (0, .ref q), (1, .long t), (3, .long v)]) hx hb dd_W_writeNext_6 hl (by decide) rfl (fun ls hl => ?_)
  refine lv_lload hx hb dd_W_writeNext_8 (lv_at hl 0 rfl) ?_
  refine lv_aload_n hx hb dd_W_writeNext_10 rfl (lv_at hl 1 rfl) ?_
  refine va_get (D := D) (ci := 4) (C := cn_W) (T := cf_W) (N := 5) hx hb hw in_W hown hK hP 0 rfl rfl 3 (by decide) (hw _ wi_249) (fun _ h9 => h9) rfl dd_W_writeNext_11 ?_
  refine lv_lsub hx hb dd_W_writeNext_14 ?_
  refine lv_lstore (lv' := [(7, .long ((t - lt) - ls0)), (5, .long (t - lt)), (0, .ref q), (1, .long t), (3, .long v)]) hx hb dd_W_writeNext_15 hl (by decide) rfl (fun ls hl => ?_)
  refine lv_aload_n hx hb dd_W_writeNext_17 rfl (lv_at hl 2 rfl) ?_
  refine lv_lload hx hb dd_W_writeNext_18 (lv_at hl 1 rfl) ?_
  refine va_put (D := D) (ci := 4) (v := .long (t - lt)) (ty := .long) (C := cn_W) (T := cf_W) (N := 5) hx hb hw in_W ty_W to_W nn_W hown hK hP hD hS 0 rfl rfl 3 (by decide) (hw _ wi_249) (fun _ h9 => h9) rfl (by decide +kernel) (rfl) (rfl) (Nat.le_of_ble_eq_true rfl) dd_W_writeNext_20 (fun H locs hP hD hS => ?_)
  have hP : va_P D classes [(q, .inr (4, [.ref qb, .ref qf, .long lt, .long (t - lt), .long lv0])), (qb, .inr (0, [.ref qw, .int (nI L.length)])), (qw, .inl (cJ, 6250, .inr (.inl w))), (qf, .inr (1, [.int (nI z), .int (nI n)]))] _ := hP
  have hD : va_D A [(q, .inr (4, [.ref qb, .ref qf, .long lt, .long (t - lt), .long lv0])), (qb, .inr (0, [.ref qw, .int (nI L.length)])), (qw, .inl (cJ, 6250, .inr (.inl w))), (qf, .inr (1, [.int (nI z), .int (nI n)]))] := hD
  refine lv_aload_n hx hb dd_W_writeNext_23 rfl (lv_at hl 2 rfl) ?_
  refine lv_lload hx hb dd_W_writeNext_24 (lv_at hl 0 rfl) ?_
  refine ct_behind_i (wc := [(q, .inr (4, [.ref qb, .ref qf, .long lt, .long (t - lt), .long lv0])), (qb, .inr (0, [.ref qw, .int (nI L.length)])), (qw, .inl (cJ, 6250, .inr (.inl w)))]) (wr := [(qf, .inr (1, [.int (nI z), .int (nI n)]))]) (av := [.ref q, .long ((t - lt) - ls0)]) (va_runV (As := [.long ((t - lt) - ls0)]) (rest := []) ⟨hx, hb, hml, hown, hw⟩ (cc_W_writeTurn l D cJ cB q qb qw qf lt (t - lt) lv0 w L (t - lt - ls0) _ (by omega) hR) (cwV 1 hw (tb_V wi_304 wi_306 wi_3 wi_31 wi_307) rfl rfl rfl (by decide +kernel) ⟨Nat.le_of_ble_eq_true rfl, Nat.le_of_ble_eq_true rfl⟩) ⟨ct_blind, ct_recv hK hP (q0 := 0) (ci := 4) rfl rfl, ct_pc hZ hK hP hD hS hA [0, 1, 2] rfl (by decide)⟩ rfl rfl hl.1 rfl (lv_room (Nat.le_of_ble_eq_true rfl)) dd_W_writeNext_26 ⟨Nat.le_of_ble_eq_true rfl, Nat.le_of_ble_eq_true rfl⟩) hK hP hD hS hA [0, 1, 2] [3] rfl rfl (by decide) (by decide) (fun r_26 u_26 H locs hw_26 hP hD hS => ?_)
  obtain ⟨hr_26, hR_w1⟩ := hw_26
  subst hr_26
  obtain ⟨w1, h9⟩ : ∃ z, z = u_26 := ⟨_, rfl⟩
  rw [← h9] at hP hD hR_w1
  clear h9
  have hP : va_P D classes [(qf, .inr (1, [.int (nI z), .int (nI n)])), (q, .inr (4, [.ref qb, .ref qf, .long lt, .long (t - lt), .long lv0])), (qb, .inr (0, [.ref qw, .int (nI ((L ++ cp_wt (t - lt - ls0)).length))])), (qw, .inl (cJ, 6250, .inr (.inl w1)))] _ := hP
  have hD : va_D A [(qf, .inr (1, [.int (nI z), .int (nI n)])), (q, .inr (4, [.ref qb, .ref qf, .long lt, .long (t - lt), .long lv0])), (qb, .inr (0, [.ref qw, .int (nI ((L ++ cp_wt (t - lt - ls0)).length))])), (qw, .inl (cJ, 6250, .inr (.inl w1)))] := hD
  refine lv_if_eq (tgt := 49) hx hb dd_W_writeNext_29 (by decide) (fun c_29 => ?_) (fun c_29 => ?_)
  · skip
    have c_29 : 1 = 0 := (ct_zeq (by omega)).mp c_29
    exfalso
    omega
  have c_29 : ¬ (1 = 0) := fun z => c_29 ((ct_zeq (by omega)).mpr z)
  refine lv_aload_n hx hb dd_W_writeNext_32 rfl (lv_at hl 2 rfl) ?_
  refine lv_lload_n hx hb dd_W_writeNext_33 rfl (lv_at hl 4 rfl) ?_
  refine lv_aload_n hx hb dd_W_writeNext_34 rfl (lv_at hl 2 rfl) ?_
  refine va_get (D := D) (ci := 4) (C := cn_W) (T := cf_W) (N := 5) hx hb hw in_W hown hK hP 1 rfl rfl 4 (by decide) (hw _ wi_250) (fun _ h9 => h9) rfl dd_W_writeNext_35 ?_
  refine lv_lxor hx hb dd_W_writeNext_38 ?_
  have hwt := cp_wt_len (t - lt - ls0)
  refine ct_behind_i (wc := [(q, .inr (4, [.ref qb, .ref qf, .long lt, .long (t - lt), .long lv0])), (qb, .inr (0, [.ref qw, .int (nI ((L ++ cp_wt (t - lt - ls0)).length))])), (qw, .inl (cJ, 6250, .inr (.inl w1))), (qf, .inr (1, [.int (nI z), .int (nI n)]))]) (wr := []) (av := [.ref q, .long (v ^^^ lv0)]) (va_runV (As := [.long (v ^^^ lv0)]) (rest := []) ⟨hx, hb, hml, hown, hw⟩ (cc_W_writeDifference l D cJ cB q qb qw qf lt (t - lt) lv0 w1 (L ++ cp_wt (t - lt - ls0)) z n (v ^^^ lv0) _ (by rw [List.length_append]; omega) hR_w1 hzn) (cwV 1 hw (tb_V wi_317 wi_319 wi_5 wi_31 wi_320) rfl rfl rfl (by decide +kernel) ⟨Nat.le_of_ble_eq_true rfl, Nat.le_of_ble_eq_true rfl⟩) ⟨ct_blind, ct_recv hK hP (q0 := 1) (ci := 4) rfl rfl, ct_pc hZ hK hP hD hS hA [1, 2, 3, 0] rfl (by decide)⟩ rfl rfl hl.1 rfl (lv_room (Nat.le_of_ble_eq_true rfl)) dd_W_writeNext_39 ⟨Nat.le_of_ble_eq_true rfl, Nat.le_of_ble_eq_true rfl⟩) hK hP hD hS hA [1, 2, 3, 0] [] rfl rfl (by decide) (by decide) (fun r_39 u_39 H locs hw_39 hP hD hS => ?_)
  obtain ⟨hr_39, hR_w2⟩ := hw_39
  subst hr_39
  obtain ⟨w2, h9⟩ : ∃ z, z = u_39 := ⟨_, rfl⟩
  rw [← h9] at hP hD hR_w2
  clear h9
  have hP : va_P D classes [(q, .inr (4, [.ref qb, .ref qf, .long lt, .long (t - lt), .long lv0])), (qb, .inr (0, [.ref qw, .int (nI (((L ++ cp_wt (t - lt - ls0)) ++ (cp_wv z n (v ^^^ lv0)).1).length))])), (qw, .inl (cJ, 6250, .inr (.inl w2))), (qf, .inr (1, [.int (nI ((cp_wv z n (v ^^^ lv0)).2.1)), .int (nI ((cp_wv z n (v ^^^ lv0)).2.2))]))] _ := hP
  have hD : va_D A [(q, .inr (4, [.ref qb, .ref qf, .long lt, .long (t - lt), .long lv0])), (qb, .inr (0, [.ref qw, .int (nI (((L ++ cp_wt (t - lt - ls0)) ++ (cp_wv z n (v ^^^ lv0)).1).length))])), (qw, .inl (cJ, 6250, .inr (.inl w2))), (qf, .inr (1, [.int (nI ((cp_wv z n (v ^^^ lv0)).2.1)), .int (nI ((cp_wv z n (v ^^^ lv0)).2.2))]))] := hD
  refine lv_if_eq (tgt := 49) hx hb dd_W_writeNext_42 (by decide) (fun c_42 => ?_) (fun c_42 => ?_)
  · skip
    have c_42 : 1 = 0 := (ct_zeq (by omega)).mp c_42
    exfalso
    omega
  have c_42 : ¬ (1 = 0) := fun z => c_42 ((ct_zeq (by omega)).mpr z)
  refine lv_iconst (v := nI 1) hx hb dd_W_writeNext_45 (by decide) ?_
  refine lv_goto (tgt := 50) hx hb dd_W_writeNext_46 (by decide) ?_
  refine ct_zret (u := w2) hx hb hr hlocks (by decide) hK hP hD hS rfl ?_ dd_W_writeNext_50
  exact ⟨rfl, hR_w2⟩

set_option maxHeartbeats 4000000 in
set_option maxRecDepth 100000 in
theorem cc_W_writeAll (l : Launch) (D : va_G) (cJ cB : ClassId) (q qb qw qf qp qt qv : Nat) (w : Nat → Int64) (n : Nat) (f g : Nat → Int64) (sz : Nat) (h1 : n ≤ 3000) (hf0 : n ≠ 0 → cp_fit (f 0) 40) : ct_i l my_W_writeAll (Cond.code my_W_writeAll mb_W_writeAll 9 (some .boolean) :: TB) ({ frames := 4, cells := 0, slots := 0, locals := 104 } : Room) D classes cJ cB [.ref q, .ref qp] [(q, .inr (4, [.ref qb, .ref qf, .long 0, .long 0, .long 0])), (qb, .inr (0, [.ref qw, .int (nI 0)])), (qw, .inl (cJ, 6250, .inr (.inl w))), (qf, .inr (1, [.int (nI 0), .int (nI 0)])), (qp, .inr (2, [.ref qt, .ref qv, .int (nI n)])), (qt, .inl (cJ, 3000, .inr (.inl f))), (qv, .inl (cJ, 3000, .inr (.inl g)))] sz (fun (r : Int32) (u : Int64 × Int64 × Int64 × (Nat → Int64)) => r = nI 1 ∧ cp_Rw u.2.2.2 (cp_pk f g n).1) (fun u => [(q, .inr (4, [.ref qb, .ref qf, .long u.1, .long u.2.1, .long u.2.2.1])), (qb, .inr (0, [.ref qw, .int (nI ((cp_pk f g n).1.length))])), (qw, .inl (cJ, 6250, .inr (.inl u.2.2.2))), (qf, .inr (1, [.int (nI ((cp_pk f g n).2.1)), .int (nI ((cp_pk f g n).2.2))])), (qp, .inr (2, [.ref qt, .ref qv, .int (nI n)])), (qt, .inl (cJ, 3000, .inr (.inl f))), (qv, .inl (cJ, 3000, .inr (.inl g)))]) 0 0 := by
  refine ct_ofW (cc := mb_W_writeAll) (maxL := 9) (ret := some .boolean) (by decide) rfl (Nat.le_of_ble_eq_true rfl) ?_
  intro p e s m below meth c hx hb hr hml hts hown hlocks hin hsz hK hP hD hA hS hZ ls hl
  have hw : ∀ w ∈ TB, w.before _ s = true := fun w h => hts w (List.mem_cons_of_mem _ h)
  have hown : s.vm.findClass cn_W = some m.cls := hown
  have hin : meth.name = "writeAll" := hin
  generalize hAe : va_A [(q, .inr (4, [.ref qb, .ref qf, .long 0, .long 0, .long 0])), (qb, .inr (0, [.ref qw, .int (nI 0)])), (qw, .inl (cJ, 6250, .inr (.inl w))), (qf, .inr (1, [.int (nI 0), .int (nI 0)])), (qp, .inr (2, [.ref qt, .ref qv, .int (nI n)])), (qt, .inl (cJ, 3000, .inr (.inl f))), (qv, .inl (cJ, 3000, .inr (.inl g)))] sz = A at hD hA hS hZ ⊢
  clear hAe
  have hl : lv_has ls 9 [(0, .ref q), (1, .ref qp)] := hl
  have hP : va_P D classes [(q, .inr (4, [.ref qb, .ref qf, .long 0, .long 0, .long 0])), (qb, .inr (0, [.ref qw, .int (nI 0)])), (qw, .inl (cJ, 6250, .inr (.inl w))), (qf, .inr (1, [.int (nI 0), .int (nI 0)])), (qp, .inr (2, [.ref qt, .ref qv, .int (nI n)])), (qt, .inl (cJ, 3000, .inr (.inl f))), (qv, .inl (cJ, 3000, .inr (.inl g)))] s.heap := hP
  refine lv_aload_n hx hb dd_W_writeAll_0 rfl (lv_at hl 1 rfl) ?_
  refine ct_behind_i (wc := [(qp, .inr (2, [.ref qt, .ref qv, .int (nI n)])), (qt, .inl (cJ, 3000, .inr (.inl f))), (qv, .inl (cJ, 3000, .inr (.inl g)))]) (wr := [(q, .inr (4, [.ref qb, .ref qf, .long 0, .long 0, .long 0])), (qb, .inr (0, [.ref qw, .int (nI 0)])), (qw, .inl (cJ, 6250, .inr (.inl w))), (qf, .inr (1, [.int (nI 0), .int (nI 0)]))]) (av := [.ref qp]) (va_runV (As := []) (rest := []) ⟨hx, hb, hml, hown, hw⟩ (cc_P_size l D cJ cB qp qt qv n f g _ h1) (cwV 0 hw (tb_V wi_266 wi_201 wi_202 wi_23 wi_203) rfl rfl rfl (by decide +kernel) ⟨Nat.le_of_ble_eq_true rfl, Nat.le_of_ble_eq_true rfl⟩) ⟨ct_blind, ct_recv hK hP (q0 := 4) (ci := 2) rfl rfl, ct_pc hZ hK hP hD hS hA [4, 5, 6] rfl (by decide)⟩ rfl rfl hl.1 rfl (lv_room (Nat.le_of_ble_eq_true rfl)) dd_W_writeAll_1 ⟨Nat.le_of_ble_eq_true rfl, Nat.le_of_ble_eq_true rfl⟩) hK hP hD hS hA [4, 5, 6] [0, 1, 2, 3] rfl rfl (by decide) (by decide) (fun r_1 u_1 H locs hw_1 hP hD hS => ?_)
  subst hw_1
  have hP : va_P D classes [(q, .inr (4, [.ref qb, .ref qf, .long 0, .long 0, .long 0])), (qb, .inr (0, [.ref qw, .int (nI 0)])), (qw, .inl (cJ, 6250, .inr (.inl w))), (qf, .inr (1, [.int (nI 0), .int (nI 0)])), (qp, .inr (2, [.ref qt, .ref qv, .int (nI n)])), (qt, .inl (cJ, 3000, .inr (.inl f))), (qv, .inl (cJ, 3000, .inr (.inl g)))] _ := hP
  have hD : va_D A [(q, .inr (4, [.ref qb, .ref qf, .long 0, .long 0, .long 0])), (qb, .inr (0, [.ref qw, .int (nI 0)])), (qw, .inl (cJ, 6250, .inr (.inl w))), (qf, .inr (1, [.int (nI 0), .int (nI 0)])), (qp, .inr (2, [.ref qt, .ref qv, .int (nI n)])), (qt, .inl (cJ, 3000, .inr (.inl f))), (qv, .inl (cJ, 3000, .inr (.inl g)))] := hD
  refine lv_istore_n (lv' := [(2, .int (nI n)), (0, .ref q), (1, .ref qp)]) hx hb dd_W_writeAll_4 rfl hl (by decide) rfl (fun ls hl => ?_)
  refine lv_iconst (v := nI 0) hx hb dd_W_writeAll_5 (by decide) ?_
  refine lv_istore_n (lv' := [(3, .int (nI 0)), (2, .int (nI n)), (0, .ref q), (1, .ref qp)]) hx hb dd_W_writeAll_6 rfl hl (by decide) rfl (fun ls hl => ?_)
  refine ct_loop (σ := Nat × Int64 × Int64 × Int64 × (Nat → Int64)) (fun a H locs ls => va_P D classes [(q, .inr (4, [.ref qb, .ref qf, .long a.2.1, .long a.2.2.1, .long a.2.2.2.1])), (qb, .inr (0, [.ref qw, .int (nI ((cp_pk f g a.1).1.length))])), (qw, .inl (cJ, 6250, .inr (.inl a.2.2.2.2))), (qf, .inr (1, [.int (nI ((cp_pk f g a.1).2.1)), .int (nI ((cp_pk f g a.1).2.2))])), (qp, .inr (2, [.ref qt, .ref qv, .int (nI n)])), (qt, .inl (cJ, 3000, .inr (.inl f))), (qv, .inl (cJ, 3000, .inr (.inl g)))] H ∧ va_D A [(q, .inr (4, [.ref qb, .ref qf, .long a.2.1, .long a.2.2.1, .long a.2.2.2.1])), (qb, .inr (0, [.ref qw, .int (nI ((cp_pk f g a.1).1.length))])), (qw, .inl (cJ, 6250, .inr (.inl a.2.2.2.2))), (qf, .inr (1, [.int (nI ((cp_pk f g a.1).2.1)), .int (nI ((cp_pk f g a.1).2.2))])), (qp, .inr (2, [.ref qt, .ref qv, .int (nI n)])), (qt, .inl (cJ, 3000, .inr (.inl f))), (qv, .inl (cJ, 3000, .inr (.inl g)))] ∧ va_S A s.heap H locs ∧ lv_has ls 9 [(0, .ref q), (1, .ref qp), (2, .int (nI n)), (3, .int (nI a.1))] ∧ (a.1 ≤ n) ∧ (cp_Rw a.2.2.2.2 (cp_pk f g a.1).1) ∧ (a.1 ≠ 0 → a.2.1 = f (a.1 - 1) ∧ a.2.2.2.1 = g (a.1 - 1)) ∧ (a.2.2.1 = if a.1 ≤ 1 then 0 else f (a.1 - 1) - f (a.1 - 2))) (fun a => n - a.1) ?_ (0, 0, 0, 0, w) ⟨hP, hD, hS, lv_sub hl [2, 3, 1, 0] rfl, Nat.zero_le n, fun i h => absurd h (Nat.not_lt_zero i), fun h => absurd rfl h, rfl⟩
  rintro ⟨i, lt, ls0, lv0, w⟩ H locs ls ⟨hP, hD, hS, hl, hi, hR, hlt, hls⟩ ih
  have hP : va_P D classes [(q, .inr (4, [.ref qb, .ref qf, .long lt, .long ls0, .long lv0])), (qb, .inr (0, [.ref qw, .int (nI ((cp_pk f g i).1.length))])), (qw, .inl (cJ, 6250, .inr (.inl w))), (qf, .inr (1, [.int (nI ((cp_pk f g i).2.1)), .int (nI ((cp_pk f g i).2.2))])), (qp, .inr (2, [.ref qt, .ref qv, .int (nI n)])), (qt, .inl (cJ, 3000, .inr (.inl f))), (qv, .inl (cJ, 3000, .inr (.inl g)))] _ := hP
  have hD : va_D A [(q, .inr (4, [.ref qb, .ref qf, .long lt, .long ls0, .long lv0])), (qb, .inr (0, [.ref qw, .int (nI ((cp_pk f g i).1.length))])), (qw, .inl (cJ, 6250, .inr (.inl w))), (qf, .inr (1, [.int (nI ((cp_pk f g i).2.1)), .int (nI ((cp_pk f g i).2.2))])), (qp, .inr (2, [.ref qt, .ref qv, .int (nI n)])), (qt, .inl (cJ, 3000, .inr (.inl f))), (qv, .inl (cJ, 3000, .inr (.inl g)))] := hD
  have hl : lv_has ls 9 [(0, .ref q), (1, .ref qp), (2, .int (nI n)), (3, .int (nI i))] := hl
  have hi : i ≤ n := hi
  have hR : cp_Rw w (cp_pk f g i).1 := hR
  have hlt : i ≠ 0 → lt = f (i - 1) ∧ lv0 = g (i - 1) := hlt
  have hls : ls0 = if i ≤ 1 then 0 else f (i - 1) - f (i - 2) := hls
  refine lv_iload_n hx hb dd_W_writeAll_7 rfl (lv_at hl 3 rfl) ?_
  refine lv_iload_n hx hb dd_W_writeAll_8 rfl (lv_at hl 2 rfl) ?_
  refine lv_icmp_ge (tgt := 76) hx hb dd_W_writeAll_9 (by decide) (fun c_9 => ?_) (fun c_9 => ?_)
  · skip
    have c_9 : n ≤ i := (nI_leI (by omega) (by omega)).mp c_9
    have hin : i = n := by omega
    subst hin
    refine lv_iconst (v := nI 1) hx hb dd_W_writeAll_76 (by decide) ?_
    refine ct_zret (u := (lt, ls0, lv0, w)) hx hb hr hlocks (by decide) hK hP hD hS rfl ?_ dd_W_writeAll_77
    exact ⟨rfl, hR⟩
  have c_9 : ¬ (n ≤ i) := fun z => c_9 ((nI_leI (by omega) (by omega)).mpr z)
  refine lv_aload_n hx hb dd_W_writeAll_12 rfl (lv_at hl 1 rfl) ?_
  refine lv_iload_n hx hb dd_W_writeAll_13 rfl (lv_at hl 3 rfl) ?_
  have hpk := cp_pk_inv f g i
  refine ct_behind_l (wc := [(qp, .inr (2, [.ref qt, .ref qv, .int (nI n)])), (qt, .inl (cJ, 3000, .inr (.inl f))), (qv, .inl (cJ, 3000, .inr (.inl g)))]) (wr := [(q, .inr (4, [.ref qb, .ref qf, .long lt, .long ls0, .long lv0])), (qb, .inr (0, [.ref qw, .int (nI ((cp_pk f g i).1.length))])), (qw, .inl (cJ, 6250, .inr (.inl w))), (qf, .inr (1, [.int (nI ((cp_pk f g i).2.1)), .int (nI ((cp_pk f g i).2.2))]))]) (av := [.ref qp, .int (nI i)]) (va_runV (As := [.int (nI i)]) (rest := []) ⟨hx, hb, hml, hown, hw⟩ (cc_P_timeAt l D cJ cB qp qt qv n f g i _ h1 (by omega)) (cwV 1 hw (tb_V wi_267 wi_268 wi_269 wi_23 wi_270) rfl rfl rfl (by decide +kernel) ⟨Nat.le_of_ble_eq_true rfl, Nat.le_of_ble_eq_true rfl⟩) ⟨ct_blind, ct_recv hK hP (q0 := 4) (ci := 2) rfl rfl, ct_pc hZ hK hP hD hS hA [4, 5, 6] rfl (by decide)⟩ rfl rfl hl.1 rfl (lv_room (Nat.le_of_ble_eq_true rfl)) dd_W_writeAll_14 ⟨Nat.le_of_ble_eq_true rfl, Nat.le_of_ble_eq_true rfl⟩) hK hP hD hS hA [4, 5, 6] [0, 1, 2, 3] rfl rfl (by decide) (by decide) (fun r_14 u_14 H locs hw_14 hP hD hS => ?_)
  subst hw_14
  have hP : va_P D classes [(q, .inr (4, [.ref qb, .ref qf, .long lt, .long ls0, .long lv0])), (qb, .inr (0, [.ref qw, .int (nI ((cp_pk f g i).1.length))])), (qw, .inl (cJ, 6250, .inr (.inl w))), (qf, .inr (1, [.int (nI ((cp_pk f g i).2.1)), .int (nI ((cp_pk f g i).2.2))])), (qp, .inr (2, [.ref qt, .ref qv, .int (nI n)])), (qt, .inl (cJ, 3000, .inr (.inl f))), (qv, .inl (cJ, 3000, .inr (.inl g)))] _ := hP
  have hD : va_D A [(q, .inr (4, [.ref qb, .ref qf, .long lt, .long ls0, .long lv0])), (qb, .inr (0, [.ref qw, .int (nI ((cp_pk f g i).1.length))])), (qw, .inl (cJ, 6250, .inr (.inl w))), (qf, .inr (1, [.int (nI ((cp_pk f g i).2.1)), .int (nI ((cp_pk f g i).2.2))])), (qp, .inr (2, [.ref qt, .ref qv, .int (nI n)])), (qt, .inl (cJ, 3000, .inr (.inl f))), (qv, .inl (cJ, 3000, .inr (.inl g)))] := hD
  refine lv_lstore (lv' := [(4, .long (f i)), (0, .ref q), (1, .ref qp), (2, .int (nI n)), (3, .int (nI i))]) hx hb dd_W_writeAll_17 hl (by decide) rfl (fun ls hl => ?_)
  refine lv_aload_n hx hb dd_W_writeAll_19 rfl (lv_at hl 2 rfl) ?_
  refine lv_iload_n hx hb dd_W_writeAll_20 rfl (lv_at hl 4 rfl) ?_
  refine ct_behind_l (wc := [(qp, .inr (2, [.ref qt, .ref qv, .int (nI n)])), (qt, .inl (cJ, 3000, .inr (.inl f))), (qv, .inl (cJ, 3000, .inr (.inl g)))]) (wr := [(q, .inr (4, [.ref qb, .ref qf, .long lt, .long ls0, .long lv0])), (qb, .inr (0, [.ref qw, .int (nI ((cp_pk f g i).1.length))])), (qw, .inl (cJ, 6250, .inr (.inl w))), (qf, .inr (1, [.int (nI ((cp_pk f g i).2.1)), .int (nI ((cp_pk f g i).2.2))]))]) (av := [.ref qp, .int (nI i)]) (va_runV (As := [.int (nI i)]) (rest := []) ⟨hx, hb, hml, hown, hw⟩ (cc_P_valueAt l D cJ cB qp qt qv n f g i _ h1 (by omega)) (cwV 1 hw (tb_V wi_287 wi_288 wi_289 wi_23 wi_290) rfl rfl rfl (by decide +kernel) ⟨Nat.le_of_ble_eq_true rfl, Nat.le_of_ble_eq_true rfl⟩) ⟨ct_blind, ct_recv hK hP (q0 := 4) (ci := 2) rfl rfl, ct_pc hZ hK hP hD hS hA [4, 5, 6] rfl (by decide)⟩ rfl rfl hl.1 rfl (lv_room (Nat.le_of_ble_eq_true rfl)) dd_W_writeAll_21 ⟨Nat.le_of_ble_eq_true rfl, Nat.le_of_ble_eq_true rfl⟩) hK hP hD hS hA [4, 5, 6] [0, 1, 2, 3] rfl rfl (by decide) (by decide) (fun r_21 u_21 H locs hw_21 hP hD hS => ?_)
  subst hw_21
  have hP : va_P D classes [(q, .inr (4, [.ref qb, .ref qf, .long lt, .long ls0, .long lv0])), (qb, .inr (0, [.ref qw, .int (nI ((cp_pk f g i).1.length))])), (qw, .inl (cJ, 6250, .inr (.inl w))), (qf, .inr (1, [.int (nI ((cp_pk f g i).2.1)), .int (nI ((cp_pk f g i).2.2))])), (qp, .inr (2, [.ref qt, .ref qv, .int (nI n)])), (qt, .inl (cJ, 3000, .inr (.inl f))), (qv, .inl (cJ, 3000, .inr (.inl g)))] _ := hP
  have hD : va_D A [(q, .inr (4, [.ref qb, .ref qf, .long lt, .long ls0, .long lv0])), (qb, .inr (0, [.ref qw, .int (nI ((cp_pk f g i).1.length))])), (qw, .inl (cJ, 6250, .inr (.inl w))), (qf, .inr (1, [.int (nI ((cp_pk f g i).2.1)), .int (nI ((cp_pk f g i).2.2))])), (qp, .inr (2, [.ref qt, .ref qv, .int (nI n)])), (qt, .inl (cJ, 3000, .inr (.inl f))), (qv, .inl (cJ, 3000, .inr (.inl g)))] := hD
  refine lv_lstore (lv' := [(6, .long (g i)), (4, .long (f i)), (0, .ref q), (1, .ref qp), (2, .int (nI n)), (3, .int (nI i))]) hx hb dd_W_writeAll_24 hl (by decide) rfl (fun ls hl => ?_)
  refine lv_iload_n hx hb dd_W_writeAll_26 rfl (lv_at hl 5 rfl) ?_
  refine lv_if_ne (tgt := 41) hx hb dd_W_writeAll_27 (by decide) (fun c_27 => ?_) (fun c_27 => ?_)
  · skip
    have c_27 : ¬ (i = 0) := fun z => c_27 ((ct_zeq (by omega)).mpr z)
    refine lv_aload_n hx hb dd_W_writeAll_41 rfl (lv_at hl 2 rfl) ?_
    refine lv_lload hx hb dd_W_writeAll_42 (lv_at hl 1 rfl) ?_
    refine lv_lload hx hb dd_W_writeAll_44 (lv_at hl 0 rfl) ?_
    refine ct_behind_i (wc := [(q, .inr (4, [.ref qb, .ref qf, .long lt, .long ls0, .long lv0])), (qb, .inr (0, [.ref qw, .int (nI ((cp_pk f g i).1.length))])), (qw, .inl (cJ, 6250, .inr (.inl w))), (qf, .inr (1, [.int (nI ((cp_pk f g i).2.1)), .int (nI ((cp_pk f g i).2.2))]))]) (wr := [(qp, .inr (2, [.ref qt, .ref qv, .int (nI n)])), (qt, .inl (cJ, 3000, .inr (.inl f))), (qv, .inl (cJ, 3000, .inr (.inl g)))]) (av := [.ref q, .long (f i), .long (g i)]) (va_runV (As := [.long (f i), .long (g i)]) (rest := []) ⟨hx, hb, hml, hown, hw⟩ (cc_W_writeNext l D cJ cB q qb qw qf lt ls0 lv0 w (cp_pk f g i).1 (cp_pk f g i).2.1 (cp_pk f g i).2.2 (f i) (g i) _ (by omega) hR hpk.2) (cwV 2 hw (tb_V wi_300 wi_302 wi_2 wi_31 wi_303) rfl rfl rfl (by decide +kernel) ⟨Nat.le_of_ble_eq_true rfl, Nat.le_of_ble_eq_true rfl⟩) ⟨ct_blind, ct_recv hK hP (q0 := 0) (ci := 4) rfl rfl, ct_pc hZ hK hP hD hS hA [0, 1, 2, 3] rfl (by decide)⟩ rfl rfl hl.1 rfl (lv_room (Nat.le_of_ble_eq_true rfl)) dd_W_writeAll_46 ⟨Nat.le_of_ble_eq_true rfl, Nat.le_of_ble_eq_true rfl⟩) hK hP hD hS hA [0, 1, 2, 3] [4, 5, 6] rfl rfl (by decide) (by decide) (fun r_46 u_46 H locs hw_46 hP hD hS => ?_)
    obtain ⟨hr_46, hR_w1⟩ := hw_46
    subst hr_46
    obtain ⟨w1, h9⟩ : ∃ z, z = u_46 := ⟨_, rfl⟩
    rw [← h9] at hP hD hR_w1
    clear h9
    have eV : (cp_wv (cp_pk f g i).2.1 (cp_pk f g i).2.2 (g i ^^^ lv0)) = (cp_wv (cp_pk f g i).2.1 (cp_pk f g i).2.2 (g i ^^^ g (i - 1))) := by rw [(hlt c_27).2]
    have eL : ((cp_pk f g i).1 ++ cp_wt (f i - lt - ls0)) ++ (cp_wv (cp_pk f g i).2.1 (cp_pk f g i).2.2 (g i ^^^ lv0)).1 = (cp_pk f g (i + 1)).1 := by rw [cp_pk_s f g c_27, cp_tn_1 c_27 (hlt c_27).1 hls, eV]
    have eF : (cp_wv (cp_pk f g i).2.1 (cp_pk f g i).2.2 (g i ^^^ lv0)).2 = (cp_pk f g (i + 1)).2 := by rw [cp_pk_s f g c_27, eV]
    rw [eL, eF] at hP hD
    rw [eL] at hR_w1
    have hP : va_P D classes [(qp, .inr (2, [.ref qt, .ref qv, .int (nI n)])), (qt, .inl (cJ, 3000, .inr (.inl f))), (qv, .inl (cJ, 3000, .inr (.inl g))), (q, .inr (4, [.ref qb, .ref qf, .long lt, .long (f i - lt), .long lv0])), (qb, .inr (0, [.ref qw, .int (nI ((cp_pk f g (i + 1)).1.length))])), (qw, .inl (cJ, 6250, .inr (.inl w1))), (qf, .inr (1, [.int (nI ((cp_pk f g (i + 1)).2.1)), .int (nI ((cp_pk f g (i + 1)).2.2))]))] _ := hP
    have hD : va_D A [(qp, .inr (2, [.ref qt, .ref qv, .int (nI n)])), (qt, .inl (cJ, 3000, .inr (.inl f))), (qv, .inl (cJ, 3000, .inr (.inl g))), (q, .inr (4, [.ref qb, .ref qf, .long lt, .long (f i - lt), .long lv0])), (qb, .inr (0, [.ref qw, .int (nI ((cp_pk f g (i + 1)).1.length))])), (qw, .inl (cJ, 6250, .inr (.inl w1))), (qf, .inr (1, [.int (nI ((cp_pk f g (i + 1)).2.1)), .int (nI ((cp_pk f g (i + 1)).2.2))]))] := hD
    refine lv_istore (lv' := [(8, .int (nI 1)), (6, .long (g i)), (4, .long (f i)), (0, .ref q), (1, .ref qp), (2, .int (nI n)), (3, .int (nI i))]) hx hb dd_W_writeAll_49 hl (by decide) rfl (fun ls hl => ?_)
    refine lv_iload hx hb dd_W_writeAll_51 (lv_at hl 0 rfl) ?_
    refine lv_if_ne (tgt := 58) hx hb dd_W_writeAll_53 (by decide) (fun c_53 => ?_) (fun c_53 => ?_)
    · skip
      have c_53 : ¬ (1 = 0) := fun z => c_53 ((ct_zeq (by omega)).mpr z)
      refine lv_aload_n hx hb dd_W_writeAll_58 rfl (lv_at hl 3 rfl) ?_
      refine lv_lload hx hb dd_W_writeAll_59 (lv_at hl 2 rfl) ?_
      refine va_put (D := D) (ci := 4) (v := .long (f i)) (ty := .long) (C := cn_W) (T := cf_W) (N := 5) hx hb hw in_W ty_W to_W nn_W hown hK hP hD hS 3 rfl rfl 2 (by decide) (hw _ wi_248) (fun _ h9 => h9) rfl (by decide +kernel) (rfl) (rfl) (Nat.le_of_ble_eq_true rfl) dd_W_writeAll_61 (fun H locs hP hD hS => ?_)
      have hP : va_P D classes [(qp, .inr (2, [.ref qt, .ref qv, .int (nI n)])), (qt, .inl (cJ, 3000, .inr (.inl f))), (qv, .inl (cJ, 3000, .inr (.inl g))), (q, .inr (4, [.ref qb, .ref qf, .long (f i), .long (f i - lt), .long lv0])), (qb, .inr (0, [.ref qw, .int (nI ((cp_pk f g (i + 1)).1.length))])), (qw, .inl (cJ, 6250, .inr (.inl w1))), (qf, .inr (1, [.int (nI ((cp_pk f g (i + 1)).2.1)), .int (nI ((cp_pk f g (i + 1)).2.2))]))] _ := hP
      have hD : va_D A [(qp, .inr (2, [.ref qt, .ref qv, .int (nI n)])), (qt, .inl (cJ, 3000, .inr (.inl f))), (qv, .inl (cJ, 3000, .inr (.inl g))), (q, .inr (4, [.ref qb, .ref qf, .long (f i), .long (f i - lt), .long lv0])), (qb, .inr (0, [.ref qw, .int (nI ((cp_pk f g (i + 1)).1.length))])), (qw, .inl (cJ, 6250, .inr (.inl w1))), (qf, .inr (1, [.int (nI ((cp_pk f g (i + 1)).2.1)), .int (nI ((cp_pk f g (i + 1)).2.2))]))] := hD
      refine lv_aload_n hx hb dd_W_writeAll_64 rfl (lv_at hl 3 rfl) ?_
      refine lv_lload hx hb dd_W_writeAll_65 (lv_at hl 1 rfl) ?_
      refine va_put (D := D) (ci := 4) (v := .long (g i)) (ty := .long) (C := cn_W) (T := cf_W) (N := 5) hx hb hw in_W ty_W to_W nn_W hown hK hP hD hS 3 rfl rfl 4 (by decide) (hw _ wi_250) (fun _ h9 => h9) rfl (by decide +kernel) (rfl) (rfl) (Nat.le_of_ble_eq_true rfl) dd_W_writeAll_67 (fun H locs hP hD hS => ?_)
      have hP : va_P D classes [(qp, .inr (2, [.ref qt, .ref qv, .int (nI n)])), (qt, .inl (cJ, 3000, .inr (.inl f))), (qv, .inl (cJ, 3000, .inr (.inl g))), (q, .inr (4, [.ref qb, .ref qf, .long (f i), .long (f i - lt), .long (g i)])), (qb, .inr (0, [.ref qw, .int (nI ((cp_pk f g (i + 1)).1.length))])), (qw, .inl (cJ, 6250, .inr (.inl w1))), (qf, .inr (1, [.int (nI ((cp_pk f g (i + 1)).2.1)), .int (nI ((cp_pk f g (i + 1)).2.2))]))] _ := hP
      have hD : va_D A [(qp, .inr (2, [.ref qt, .ref qv, .int (nI n)])), (qt, .inl (cJ, 3000, .inr (.inl f))), (qv, .inl (cJ, 3000, .inr (.inl g))), (q, .inr (4, [.ref qb, .ref qf, .long (f i), .long (f i - lt), .long (g i)])), (qb, .inr (0, [.ref qw, .int (nI ((cp_pk f g (i + 1)).1.length))])), (qw, .inl (cJ, 6250, .inr (.inl w1))), (qf, .inr (1, [.int (nI ((cp_pk f g (i + 1)).2.1)), .int (nI ((cp_pk f g (i + 1)).2.2))]))] := hD
      refine lv_iinc (v := nI (i + 1)) (lv' := [(3, .int (nI (i + 1))), (8, .int (nI 1)), (6, .long (g i)), (4, .long (f i)), (0, .ref q), (1, .ref qp), (2, .int (nI n))]) hx hb dd_W_writeAll_70 hl (k := 6) rfl (nI_1 i) (by decide) rfl (fun ls hl => ?_)
      refine lv_goto (tgt := 7) hx hb dd_W_writeAll_73 (by decide) ?_
      refine ih (i + 1, f i, f i - lt, g i, w1) _ _ _ (by show n - (i + 1) < n - i; omega) ⟨hP.sub [3, 4, 5, 6, 0, 1, 2] rfl, hD.sub [3, 4, 5, 6, 0, 1, 2] (by decide) rfl, hS, lv_sub hl [4, 5, 6, 0] rfl, by omega, hR_w1, fun _ => ⟨rfl, rfl⟩, by rw [if_neg (by omega), (hlt c_27).1]; rfl⟩
    have c_53 : 1 = 0 := (ct_zeq (by omega)).mp c_53
    exfalso
    omega
  have c_27 : i = 0 := (ct_zeq (by omega)).mp c_27
  refine lv_aload_n hx hb dd_W_writeAll_30 rfl (lv_at hl 2 rfl) ?_
  refine lv_lload hx hb dd_W_writeAll_31 (lv_at hl 1 rfl) ?_
  refine lv_lload hx hb dd_W_writeAll_33 (lv_at hl 0 rfl) ?_
  refine ct_behind_i (wc := [(q, .inr (4, [.ref qb, .ref qf, .long lt, .long ls0, .long lv0])), (qb, .inr (0, [.ref qw, .int (nI ((cp_pk f g i).1.length))])), (qw, .inl (cJ, 6250, .inr (.inl w)))]) (wr := [(qf, .inr (1, [.int (nI ((cp_pk f g i).2.1)), .int (nI ((cp_pk f g i).2.2))])), (qp, .inr (2, [.ref qt, .ref qv, .int (nI n)])), (qt, .inl (cJ, 3000, .inr (.inl f))), (qv, .inl (cJ, 3000, .inr (.inl g)))]) (av := [.ref q, .long (f i), .long (g i)]) (va_runV (As := [.long (f i), .long (g i)]) (rest := []) ⟨hx, hb, hml, hown, hw⟩ (cc_W_writeFirst l D cJ cB q qb qw qf lt ls0 lv0 w (cp_pk f g i).1 (f i) (g i) _ (by omega) hR (by subst c_27; exact hf0 (by omega))) (cwV 2 hw (tb_V wi_291 wi_293 wi_1 wi_31 wi_294) rfl rfl rfl (by decide +kernel) ⟨Nat.le_of_ble_eq_true rfl, Nat.le_of_ble_eq_true rfl⟩) ⟨ct_blind, ct_recv hK hP (q0 := 0) (ci := 4) rfl rfl, ct_pc hZ hK hP hD hS hA [0, 1, 2] rfl (by decide)⟩ rfl rfl hl.1 rfl (lv_room (Nat.le_of_ble_eq_true rfl)) dd_W_writeAll_35 ⟨Nat.le_of_ble_eq_true rfl, Nat.le_of_ble_eq_true rfl⟩) hK hP hD hS hA [0, 1, 2] [3, 4, 5, 6] rfl rfl (by decide) (by decide) (fun r_35 u_35 H locs hw_35 hP hD hS => ?_)
  obtain ⟨hr_35, hR_w1⟩ := hw_35
  subst hr_35
  obtain ⟨w1, h9⟩ : ∃ z, z = u_35 := ⟨_, rfl⟩
  rw [← h9] at hP hD hR_w1
  clear h9
  have eL : ((cp_pk f g i).1 ++ cp_bl (f i) 40) ++ cp_bl (g i) 64 = (cp_pk f g (i + 1)).1 := by subst c_27; rfl
  rw [eL] at hP hD hR_w1
  have eF : (cp_pk f g i).2 = (cp_pk f g (i + 1)).2 := by subst c_27; rfl
  rw [eF] at hP hD
  have hP : va_P D classes [(qf, .inr (1, [.int (nI ((cp_pk f g (i + 1)).2.1)), .int (nI ((cp_pk f g (i + 1)).2.2))])), (qp, .inr (2, [.ref qt, .ref qv, .int (nI n)])), (qt, .inl (cJ, 3000, .inr (.inl f))), (qv, .inl (cJ, 3000, .inr (.inl g))), (q, .inr (4, [.ref qb, .ref qf, .long lt, .long ls0, .long lv0])), (qb, .inr (0, [.ref qw, .int (nI ((cp_pk f g (i + 1)).1.length))])), (qw, .inl (cJ, 6250, .inr (.inl w1)))] _ := hP
  have hD : va_D A [(qf, .inr (1, [.int (nI ((cp_pk f g (i + 1)).2.1)), .int (nI ((cp_pk f g (i + 1)).2.2))])), (qp, .inr (2, [.ref qt, .ref qv, .int (nI n)])), (qt, .inl (cJ, 3000, .inr (.inl f))), (qv, .inl (cJ, 3000, .inr (.inl g))), (q, .inr (4, [.ref qb, .ref qf, .long lt, .long ls0, .long lv0])), (qb, .inr (0, [.ref qw, .int (nI ((cp_pk f g (i + 1)).1.length))])), (qw, .inl (cJ, 6250, .inr (.inl w1)))] := hD
  refine lv_goto (tgt := 49) hx hb dd_W_writeAll_38 (by decide) ?_
  refine lv_istore (lv' := [(8, .int (nI 1)), (6, .long (g i)), (4, .long (f i)), (0, .ref q), (1, .ref qp), (2, .int (nI n)), (3, .int (nI i))]) hx hb dd_W_writeAll_49 hl (by decide) rfl (fun ls hl => ?_)
  refine lv_iload hx hb dd_W_writeAll_51 (lv_at hl 0 rfl) ?_
  refine lv_if_ne (tgt := 58) hx hb dd_W_writeAll_53 (by decide) (fun c_53 => ?_) (fun c_53 => ?_)
  · skip
    have c_53 : ¬ (1 = 0) := fun z => c_53 ((ct_zeq (by omega)).mpr z)
    refine lv_aload_n hx hb dd_W_writeAll_58 rfl (lv_at hl 3 rfl) ?_
    refine lv_lload hx hb dd_W_writeAll_59 (lv_at hl 2 rfl) ?_
    refine va_put (D := D) (ci := 4) (v := .long (f i)) (ty := .long) (C := cn_W) (T := cf_W) (N := 5) hx hb hw in_W ty_W to_W nn_W hown hK hP hD hS 4 rfl rfl 2 (by decide) (hw _ wi_248) (fun _ h9 => h9) rfl (by decide +kernel) (rfl) (rfl) (Nat.le_of_ble_eq_true rfl) dd_W_writeAll_61 (fun H locs hP hD hS => ?_)
    have hP : va_P D classes [(qf, .inr (1, [.int (nI ((cp_pk f g (i + 1)).2.1)), .int (nI ((cp_pk f g (i + 1)).2.2))])), (qp, .inr (2, [.ref qt, .ref qv, .int (nI n)])), (qt, .inl (cJ, 3000, .inr (.inl f))), (qv, .inl (cJ, 3000, .inr (.inl g))), (q, .inr (4, [.ref qb, .ref qf, .long (f i), .long ls0, .long lv0])), (qb, .inr (0, [.ref qw, .int (nI ((cp_pk f g (i + 1)).1.length))])), (qw, .inl (cJ, 6250, .inr (.inl w1)))] _ := hP
    have hD : va_D A [(qf, .inr (1, [.int (nI ((cp_pk f g (i + 1)).2.1)), .int (nI ((cp_pk f g (i + 1)).2.2))])), (qp, .inr (2, [.ref qt, .ref qv, .int (nI n)])), (qt, .inl (cJ, 3000, .inr (.inl f))), (qv, .inl (cJ, 3000, .inr (.inl g))), (q, .inr (4, [.ref qb, .ref qf, .long (f i), .long ls0, .long lv0])), (qb, .inr (0, [.ref qw, .int (nI ((cp_pk f g (i + 1)).1.length))])), (qw, .inl (cJ, 6250, .inr (.inl w1)))] := hD
    refine lv_aload_n hx hb dd_W_writeAll_64 rfl (lv_at hl 3 rfl) ?_
    refine lv_lload hx hb dd_W_writeAll_65 (lv_at hl 1 rfl) ?_
    refine va_put (D := D) (ci := 4) (v := .long (g i)) (ty := .long) (C := cn_W) (T := cf_W) (N := 5) hx hb hw in_W ty_W to_W nn_W hown hK hP hD hS 4 rfl rfl 4 (by decide) (hw _ wi_250) (fun _ h9 => h9) rfl (by decide +kernel) (rfl) (rfl) (Nat.le_of_ble_eq_true rfl) dd_W_writeAll_67 (fun H locs hP hD hS => ?_)
    have hP : va_P D classes [(qf, .inr (1, [.int (nI ((cp_pk f g (i + 1)).2.1)), .int (nI ((cp_pk f g (i + 1)).2.2))])), (qp, .inr (2, [.ref qt, .ref qv, .int (nI n)])), (qt, .inl (cJ, 3000, .inr (.inl f))), (qv, .inl (cJ, 3000, .inr (.inl g))), (q, .inr (4, [.ref qb, .ref qf, .long (f i), .long ls0, .long (g i)])), (qb, .inr (0, [.ref qw, .int (nI ((cp_pk f g (i + 1)).1.length))])), (qw, .inl (cJ, 6250, .inr (.inl w1)))] _ := hP
    have hD : va_D A [(qf, .inr (1, [.int (nI ((cp_pk f g (i + 1)).2.1)), .int (nI ((cp_pk f g (i + 1)).2.2))])), (qp, .inr (2, [.ref qt, .ref qv, .int (nI n)])), (qt, .inl (cJ, 3000, .inr (.inl f))), (qv, .inl (cJ, 3000, .inr (.inl g))), (q, .inr (4, [.ref qb, .ref qf, .long (f i), .long ls0, .long (g i)])), (qb, .inr (0, [.ref qw, .int (nI ((cp_pk f g (i + 1)).1.length))])), (qw, .inl (cJ, 6250, .inr (.inl w1)))] := hD
    refine lv_iinc (v := nI (i + 1)) (lv' := [(3, .int (nI (i + 1))), (8, .int (nI 1)), (6, .long (g i)), (4, .long (f i)), (0, .ref q), (1, .ref qp), (2, .int (nI n))]) hx hb dd_W_writeAll_70 hl (k := 6) rfl (nI_1 i) (by decide) rfl (fun ls hl => ?_)
    refine lv_goto (tgt := 7) hx hb dd_W_writeAll_73 (by decide) ?_
    refine ih (i + 1, f i, ls0, g i, w1) _ _ _ (by show n - (i + 1) < n - i; omega) ⟨hP.sub [4, 5, 6, 0, 1, 2, 3] rfl, hD.sub [4, 5, 6, 0, 1, 2, 3] (by decide) rfl, hS, lv_sub hl [4, 5, 6, 0] rfl, by omega, hR_w1, fun _ => ⟨rfl, rfl⟩, by subst c_27; exact hls⟩
  have c_53 : 1 = 0 := (ct_zeq (by omega)).mp c_53
  exfalso
  omega
