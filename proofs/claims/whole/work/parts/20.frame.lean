set_option maxHeartbeats 4000000 in
set_option maxRecDepth 100000 in
theorem cc_F_init (l : Launch) (D : va_G) (cJ cB : ClassId) (q : Nat) (sz : Nat) : ct_v l my_F_init (Cond.code my_F_init mb_F_init 1 none :: TB) ({ frames := 1, cells := 0, slots := 0, locals := 12 } : Room) D classes cJ cB [.ref q] [(q, .inr (1, [.int 0, .int 0]))] sz (fun (u : Unit) => True) (fun u => [(q, .inr (1, [.int (nI 0), .int (nI 0)]))]) 0 0 := by
  refine ct_ofW (cc := mb_F_init) (maxL := 1) (ret := none) (by decide) rfl (Nat.le_of_ble_eq_true rfl) ?_
  intro p e s m below meth c hx hb hr hml hts hown hlocks hin hsz hK hP hD hA hS hZ ls hl
  have hw : ∀ w ∈ TB, w.before _ s = true := fun w h => hts w (List.mem_cons_of_mem _ h)
  have hown : s.vm.findClass cn_F = some m.cls := hown
  have hin : meth.name = "<init>" := hin
  generalize hAe : va_A [(q, .inr (1, [.int 0, .int 0]))] sz = A at hD hA hS hZ ⊢
  clear hAe
  have hl : lv_has ls 1 [(0, .ref q)] := hl
  have hP : va_P D classes [(q, .inr (1, [.int 0, .int 0]))] s.heap := hP
  refine lv_aload_n hx hb dd_F_init_0 rfl (lv_at hl 0 rfl) ?_
  refine W.objInit hx hb hown (hw _ wi_238) (hw _ wi_44) (hw _ wi_obj) rfl (by rw [hml]; exact hl.1) rfl dd_F_init_1 (Nat.le_of_ble_eq_true rfl) (Nat.le_of_ble_eq_true rfl) ?_
  refine W.eq (g2 := F0 m 4 ls []) rfl ?_
  refine lv_aload_n hx hb dd_F_init_4 rfl (lv_at hl 0 rfl) ?_
  refine lv_iconst (v := nI 0) hx hb dd_F_init_5 (by decide) ?_
  refine va_put (D := D) (ci := 1) (v := .int (nI 0)) (ty := .int) (C := cn_F) (T := cf_F) (N := 2) hx hb hw in_F ty_F to_F nn_F hown hK hP hD hS 0 rfl rfl 0 (by decide) (hw _ wi_239) (fun _ h9 => h9) rfl (by decide +kernel) (rfl) (rfl) (Nat.le_of_ble_eq_true rfl) dd_F_init_6 (fun H locs hP hD hS => ?_)
  have hP : va_P D classes [(q, .inr (1, [.int (nI 0), .int 0]))] _ := hP
  have hD : va_D A [(q, .inr (1, [.int (nI 0), .int 0]))] := hD
  refine lv_aload_n hx hb dd_F_init_9 rfl (lv_at hl 0 rfl) ?_
  refine lv_iconst (v := nI 0) hx hb dd_F_init_10 (by decide) ?_
  refine va_put (D := D) (ci := 1) (v := .int (nI 0)) (ty := .int) (C := cn_F) (T := cf_F) (N := 2) hx hb hw in_F ty_F to_F nn_F hown hK hP hD hS 0 rfl rfl 1 (by decide) (hw _ wi_240) (fun _ h9 => h9) rfl (by decide +kernel) (rfl) (rfl) (Nat.le_of_ble_eq_true rfl) dd_F_init_11 (fun H locs hP hD hS => ?_)
  have hP : va_P D classes [(q, .inr (1, [.int (nI 0), .int (nI 0)]))] _ := hP
  have hD : va_D A [(q, .inr (1, [.int (nI 0), .int (nI 0)]))] := hD
  refine ct_vret (u := ()) hx hb hr hlocks hK hP hD hS rfl ?_ dd_F_init_14
  trivial

set_option maxHeartbeats 4000000 in
set_option maxRecDepth 100000 in
theorem cc_F_isThere (l : Launch) (D : va_G) (cJ cB : ClassId) (q : Nat) (ld wd : Nat) (sz : Nat) (h1 : ld + wd ≤ 64) : ct_i l my_F_isThere (Cond.code my_F_isThere mb_F_isThere 1 (some .boolean) :: TB) ({ frames := 0, cells := 0, slots := 0, locals := 0 } : Room) D classes cJ cB [.ref q] [(q, .inr (1, [.int (nI ld), .int (nI wd)]))] sz (fun (r : Int32) (u : Unit) => r = bI (0 < wd)) (fun u => [(q, .inr (1, [.int (nI ld), .int (nI wd)]))]) 0 0 := by
  refine ct_ofW (cc := mb_F_isThere) (maxL := 1) (ret := some .boolean) (by decide) rfl (Nat.le_of_ble_eq_true rfl) ?_
  intro p e s m below meth c hx hb hr hml hts hown hlocks hin hsz hK hP hD hA hS hZ ls hl
  have hw : ∀ w ∈ TB, w.before _ s = true := fun w h => hts w (List.mem_cons_of_mem _ h)
  have hown : s.vm.findClass cn_F = some m.cls := hown
  have hin : meth.name = "isThere" := hin
  generalize hAe : va_A [(q, .inr (1, [.int (nI ld), .int (nI wd)]))] sz = A at hD hA hS hZ ⊢
  clear hAe
  have hl : lv_has ls 1 [(0, .ref q)] := hl
  have hP : va_P D classes [(q, .inr (1, [.int (nI ld), .int (nI wd)]))] s.heap := hP
  refine lv_aload_n hx hb dd_F_isThere_0 rfl (lv_at hl 0 rfl) ?_
  refine va_get (D := D) (ci := 1) (C := cn_F) (T := cf_F) (N := 2) hx hb hw in_F hown hK hP 0 rfl rfl 1 (by decide) (hw _ wi_240) (fun _ h9 => h9) rfl dd_F_isThere_1 ?_
  refine lv_if_le (tgt := 11) hx hb dd_F_isThere_4 (by decide) (fun c_4 => ?_) (fun c_4 => ?_)
  · skip
    have c_4 : wd ≤ 0 := (ct_zle (by omega)).mp c_4
    refine lv_iconst (v := nI 0) hx hb dd_F_isThere_11 (by decide) ?_
    refine ct_zret (u := ()) hx hb hr hlocks (by decide) hK hP hD hS rfl ?_ dd_F_isThere_12
    exact bI_f (by omega)
  have c_4 : ¬ (wd ≤ 0) := fun z => c_4 ((ct_zle (by omega)).mpr z)
  refine lv_iconst (v := nI 1) hx hb dd_F_isThere_7 (by decide) ?_
  refine lv_goto (tgt := 12) hx hb dd_F_isThere_8 (by decide) ?_
  refine ct_zret (u := ()) hx hb hr hlocks (by decide) hK hP hD hS rfl ?_ dd_F_isThere_12
  exact bI_t (by omega)

set_option maxHeartbeats 4000000 in
set_option maxRecDepth 100000 in
theorem cc_F_width (l : Launch) (D : va_G) (cJ cB : ClassId) (q : Nat) (ld wd : Nat) (sz : Nat) (h1 : ld + wd ≤ 64) : ct_i l my_F_width (Cond.code my_F_width mb_F_width 1 (some .int) :: TB) ({ frames := 0, cells := 0, slots := 0, locals := 0 } : Room) D classes cJ cB [.ref q] [(q, .inr (1, [.int (nI ld), .int (nI wd)]))] sz (fun (r : Int32) (u : Unit) => r = nI wd) (fun u => [(q, .inr (1, [.int (nI ld), .int (nI wd)]))]) 0 0 := by
  refine ct_ofW (cc := mb_F_width) (maxL := 1) (ret := some .int) (by decide) rfl (Nat.le_of_ble_eq_true rfl) ?_
  intro p e s m below meth c hx hb hr hml hts hown hlocks hin hsz hK hP hD hA hS hZ ls hl
  have hw : ∀ w ∈ TB, w.before _ s = true := fun w h => hts w (List.mem_cons_of_mem _ h)
  have hown : s.vm.findClass cn_F = some m.cls := hown
  have hin : meth.name = "width" := hin
  generalize hAe : va_A [(q, .inr (1, [.int (nI ld), .int (nI wd)]))] sz = A at hD hA hS hZ ⊢
  clear hAe
  have hl : lv_has ls 1 [(0, .ref q)] := hl
  have hP : va_P D classes [(q, .inr (1, [.int (nI ld), .int (nI wd)]))] s.heap := hP
  refine lv_aload_n hx hb dd_F_width_0 rfl (lv_at hl 0 rfl) ?_
  refine va_get (D := D) (ci := 1) (C := cn_F) (T := cf_F) (N := 2) hx hb hw in_F hown hK hP 0 rfl rfl 1 (by decide) (hw _ wi_240) (fun _ h9 => h9) rfl dd_F_width_1 ?_
  refine ct_iret (u := ()) hx hb hr hlocks hK hP hD hS rfl ?_ dd_F_width_4
  rfl

set_option maxHeartbeats 4000000 in
set_option maxRecDepth 100000 in
theorem cc_F_below (l : Launch) (D : va_G) (cJ cB : ClassId) (q : Nat) (ld wd : Nat) (sz : Nat) (h1 : ld + wd ≤ 64) : ct_i l my_F_below (Cond.code my_F_below mb_F_below 1 (some .int) :: TB) ({ frames := 0, cells := 0, slots := 0, locals := 0 } : Room) D classes cJ cB [.ref q] [(q, .inr (1, [.int (nI ld), .int (nI wd)]))] sz (fun (r : Int32) (u : Unit) => r = nI (64 - ld - wd)) (fun u => [(q, .inr (1, [.int (nI ld), .int (nI wd)]))]) 0 0 := by
  refine ct_ofW (cc := mb_F_below) (maxL := 1) (ret := some .int) (by decide) rfl (Nat.le_of_ble_eq_true rfl) ?_
  intro p e s m below meth c hx hb hr hml hts hown hlocks hin hsz hK hP hD hA hS hZ ls hl
  have hw : ∀ w ∈ TB, w.before _ s = true := fun w h => hts w (List.mem_cons_of_mem _ h)
  have hown : s.vm.findClass cn_F = some m.cls := hown
  have hin : meth.name = "below" := hin
  generalize hAe : va_A [(q, .inr (1, [.int (nI ld), .int (nI wd)]))] sz = A at hD hA hS hZ ⊢
  clear hAe
  have hl : lv_has ls 1 [(0, .ref q)] := hl
  have hP : va_P D classes [(q, .inr (1, [.int (nI ld), .int (nI wd)]))] s.heap := hP
  refine lv_bipush (v := nI 64) hx hb dd_F_below_0 (by decide) ?_
  refine lv_aload_n hx hb dd_F_below_2 rfl (lv_at hl 0 rfl) ?_
  refine va_get (D := D) (ci := 1) (C := cn_F) (T := cf_F) (N := 2) hx hb hw in_F hown hK hP 0 rfl rfl 0 (by decide) (hw _ wi_239) (fun _ h9 => h9) rfl dd_F_below_3 ?_
  refine lv_isub hx hb dd_F_below_6 ?_
  refine ct_topi (y := nI (64 - ld)) (pk_sub (by omega)) ?_
  refine lv_aload_n hx hb dd_F_below_7 rfl (lv_at hl 0 rfl) ?_
  refine va_get (D := D) (ci := 1) (C := cn_F) (T := cf_F) (N := 2) hx hb hw in_F hown hK hP 0 rfl rfl 1 (by decide) (hw _ wi_240) (fun _ h9 => h9) rfl dd_F_below_8 ?_
  refine lv_isub hx hb dd_F_below_11 ?_
  refine ct_topi (y := nI (64 - ld - wd)) (pk_sub (by omega)) ?_
  refine ct_iret (u := ()) hx hb hr hlocks hK hP hD hS rfl ?_ dd_F_below_12
  rfl

set_option maxHeartbeats 4000000 in
set_option maxRecDepth 100000 in
theorem cc_F_holds (l : Launch) (D : va_G) (cJ cB : ClassId) (q : Nat) (ld wd : Nat) (a b : Nat) (sz : Nat) (h1 : ld + wd ≤ 64) (h2 : a ≤ 64) (h3 : b ≤ 64) : ct_i l my_F_holds (Cond.code my_F_holds mb_F_holds 3 (some .boolean) :: TB) ({ frames := 1, cells := 0, slots := 0, locals := 20 } : Room) D classes cJ cB [.ref q, .int (nI a), .int (nI b)] [(q, .inr (1, [.int (nI ld), .int (nI wd)]))] sz (fun (r : Int32) (u : Unit) => r = bI (0 < wd ∧ ld ≤ a ∧ 64 - ld - wd ≤ b)) (fun u => [(q, .inr (1, [.int (nI ld), .int (nI wd)]))]) 0 0 := by
  refine ct_ofW (cc := mb_F_holds) (maxL := 3) (ret := some .boolean) (by decide) rfl (Nat.le_of_ble_eq_true rfl) ?_
  intro p e s m below meth c hx hb hr hml hts hown hlocks hin hsz hK hP hD hA hS hZ ls hl
  have hw : ∀ w ∈ TB, w.before _ s = true := fun w h => hts w (List.mem_cons_of_mem _ h)
  have hown : s.vm.findClass cn_F = some m.cls := hown
  have hin : meth.name = "holds" := hin
  generalize hAe : va_A [(q, .inr (1, [.int (nI ld), .int (nI wd)]))] sz = A at hD hA hS hZ ⊢
  clear hAe
  have hl : lv_has ls 3 [(0, .ref q), (1, .int (nI a)), (2, .int (nI b))] := hl
  have hP : va_P D classes [(q, .inr (1, [.int (nI ld), .int (nI wd)]))] s.heap := hP
  refine lv_aload_n hx hb dd_F_holds_0 rfl (lv_at hl 0 rfl) ?_
  refine ct_behind_i (wc := [(q, .inr (1, [.int (nI ld), .int (nI wd)]))]) (wr := []) (av := [.ref q]) (va_runV (As := []) (rest := []) ⟨hx, hb, hml, hown, hw⟩ (cc_F_isThere l D cJ cB q ld wd _ h1) (cwV 0 hw (tb_V wi_341 wi_342 wi_343 wi_32 wi_344) rfl rfl rfl (by decide +kernel) ⟨Nat.le_of_ble_eq_true rfl, Nat.le_of_ble_eq_true rfl⟩) ⟨ct_blind, ct_recv hK hP (q0 := 0) (ci := 1) rfl rfl, ct_pc hZ hK hP hD hS hA [0] rfl (by decide)⟩ rfl rfl hl.1 rfl (lv_room (Nat.le_of_ble_eq_true rfl)) dd_F_holds_1 ⟨Nat.le_of_ble_eq_true rfl, Nat.le_of_ble_eq_true rfl⟩) hK hP hD hS hA [0] [] rfl rfl (by decide) (by decide) (fun r_1 u_1 H locs hw_1 hP hD hS => ?_)
  subst hw_1
  have hP : va_P D classes [(q, .inr (1, [.int (nI ld), .int (nI wd)]))] _ := hP
  have hD : va_D A [(q, .inr (1, [.int (nI ld), .int (nI wd)]))] := hD
  refine lv_if_eq (tgt := 27) hx hb dd_F_holds_4 (by decide) (fun c_4 => ?_) (fun c_4 => ?_)
  · skip
    have c_4 : ¬ (0 < wd) := bI_z.mp c_4
    refine lv_iconst (v := nI 0) hx hb dd_F_holds_27 (by decide) ?_
    refine ct_zret (u := ()) hx hb hr hlocks (by decide) hK hP hD hS rfl ?_ dd_F_holds_28
    exact bI_f (by omega)
  have c_4 : 0 < wd := bI_n.mp c_4
  refine lv_iload_n hx hb dd_F_holds_7 rfl (lv_at hl 1 rfl) ?_
  refine lv_aload_n hx hb dd_F_holds_8 rfl (lv_at hl 0 rfl) ?_
  refine va_get (D := D) (ci := 1) (C := cn_F) (T := cf_F) (N := 2) hx hb hw in_F hown hK hP 0 rfl rfl 0 (by decide) (hw _ wi_239) (fun _ h9 => h9) rfl dd_F_holds_9 ?_
  refine lv_icmp_lt (tgt := 27) hx hb dd_F_holds_12 (by decide) (fun c_12 => ?_) (fun c_12 => ?_)
  · skip
    have c_12 : a < ld := (nI_ltI (by omega) (by omega)).mp c_12
    refine lv_iconst (v := nI 0) hx hb dd_F_holds_27 (by decide) ?_
    refine ct_zret (u := ()) hx hb hr hlocks (by decide) hK hP hD hS rfl ?_ dd_F_holds_28
    exact bI_f (by omega)
  have c_12 : ¬ (a < ld) := fun z => c_12 ((nI_ltI (by omega) (by omega)).mpr z)
  refine lv_iload_n hx hb dd_F_holds_15 rfl (lv_at hl 2 rfl) ?_
  refine lv_aload_n hx hb dd_F_holds_16 rfl (lv_at hl 0 rfl) ?_
  refine ct_behind_i (wc := [(q, .inr (1, [.int (nI ld), .int (nI wd)]))]) (wr := []) (av := [.ref q]) (va_runV (As := []) (rest := [.int (nI b)]) ⟨hx, hb, hml, hown, hw⟩ (cc_F_below l D cJ cB q ld wd _ h1) (cwV 0 hw (tb_V wi_345 wi_346 wi_347 wi_32 wi_348) rfl rfl rfl (by decide +kernel) ⟨Nat.le_of_ble_eq_true rfl, Nat.le_of_ble_eq_true rfl⟩) ⟨ct_blind, ct_recv hK hP (q0 := 0) (ci := 1) rfl rfl, ct_pc hZ hK hP hD hS hA [0] rfl (by decide)⟩ rfl rfl hl.1 rfl (lv_room (Nat.le_of_ble_eq_true rfl)) dd_F_holds_17 ⟨Nat.le_of_ble_eq_true rfl, Nat.le_of_ble_eq_true rfl⟩) hK hP hD hS hA [0] [] rfl rfl (by decide) (by decide) (fun r_17 u_17 H locs hw_17 hP hD hS => ?_)
  subst hw_17
  have hP : va_P D classes [(q, .inr (1, [.int (nI ld), .int (nI wd)]))] _ := hP
  have hD : va_D A [(q, .inr (1, [.int (nI ld), .int (nI wd)]))] := hD
  refine lv_icmp_lt (tgt := 27) hx hb dd_F_holds_20 (by decide) (fun c_20 => ?_) (fun c_20 => ?_)
  · skip
    have c_20 : b < (64 - ld - wd) := (nI_ltI (by omega) (by omega)).mp c_20
    refine lv_iconst (v := nI 0) hx hb dd_F_holds_27 (by decide) ?_
    refine ct_zret (u := ()) hx hb hr hlocks (by decide) hK hP hD hS rfl ?_ dd_F_holds_28
    exact bI_f (by omega)
  have c_20 : ¬ (b < (64 - ld - wd)) := fun z => c_20 ((nI_ltI (by omega) (by omega)).mpr z)
  refine lv_iconst (v := nI 1) hx hb dd_F_holds_23 (by decide) ?_
  refine lv_goto (tgt := 28) hx hb dd_F_holds_24 (by decide) ?_
  refine ct_zret (u := ()) hx hb hr hlocks (by decide) hK hP hD hS rfl ?_ dd_F_holds_28
  exact bI_t (by omega)

set_option maxHeartbeats 4000000 in
set_option maxRecDepth 100000 in
theorem cc_F_become (l : Launch) (D : va_G) (cJ cB : ClassId) (q : Nat) (ld wd : Nat) (a b : Nat) (sz : Nat) : ct_v l my_F_become (Cond.code my_F_become mb_F_become 3 none :: TB) ({ frames := 0, cells := 0, slots := 0, locals := 0 } : Room) D classes cJ cB [.ref q, .int (nI a), .int (nI b)] [(q, .inr (1, [.int (nI ld), .int (nI wd)]))] sz (fun (u : Unit) => True) (fun u => [(q, .inr (1, [.int (nI a), .int (nI b)]))]) 0 0 := by
  refine ct_ofW (cc := mb_F_become) (maxL := 3) (ret := none) (by decide) rfl (Nat.le_of_ble_eq_true rfl) ?_
  intro p e s m below meth c hx hb hr hml hts hown hlocks hin hsz hK hP hD hA hS hZ ls hl
  have hw : ∀ w ∈ TB, w.before _ s = true := fun w h => hts w (List.mem_cons_of_mem _ h)
  have hown : s.vm.findClass cn_F = some m.cls := hown
  have hin : meth.name = "become" := hin
  generalize hAe : va_A [(q, .inr (1, [.int (nI ld), .int (nI wd)]))] sz = A at hD hA hS hZ ⊢
  clear hAe
  have hl : lv_has ls 3 [(0, .ref q), (1, .int (nI a)), (2, .int (nI b))] := hl
  have hP : va_P D classes [(q, .inr (1, [.int (nI ld), .int (nI wd)]))] s.heap := hP
  refine lv_aload_n hx hb dd_F_become_0 rfl (lv_at hl 0 rfl) ?_
  refine lv_iload_n hx hb dd_F_become_1 rfl (lv_at hl 1 rfl) ?_
  refine va_put (D := D) (ci := 1) (v := .int (nI a)) (ty := .int) (C := cn_F) (T := cf_F) (N := 2) hx hb hw in_F ty_F to_F nn_F hown hK hP hD hS 0 rfl rfl 0 (by decide) (hw _ wi_239) (fun _ h9 => h9) rfl (by decide +kernel) (rfl) (rfl) (Nat.le_of_ble_eq_true rfl) dd_F_become_2 (fun H locs hP hD hS => ?_)
  have hP : va_P D classes [(q, .inr (1, [.int (nI a), .int (nI wd)]))] _ := hP
  have hD : va_D A [(q, .inr (1, [.int (nI a), .int (nI wd)]))] := hD
  refine lv_aload_n hx hb dd_F_become_5 rfl (lv_at hl 0 rfl) ?_
  refine lv_iload_n hx hb dd_F_become_6 rfl (lv_at hl 2 rfl) ?_
  refine va_put (D := D) (ci := 1) (v := .int (nI b)) (ty := .int) (C := cn_F) (T := cf_F) (N := 2) hx hb hw in_F ty_F to_F nn_F hown hK hP hD hS 0 rfl rfl 1 (by decide) (hw _ wi_240) (fun _ h9 => h9) rfl (by decide +kernel) (rfl) (rfl) (Nat.le_of_ble_eq_true rfl) dd_F_become_7 (fun H locs hP hD hS => ?_)
  have hP : va_P D classes [(q, .inr (1, [.int (nI a), .int (nI b)]))] _ := hP
  have hD : va_D A [(q, .inr (1, [.int (nI a), .int (nI b)]))] := hD
  refine ct_vret (u := ()) hx hb hr hlocks hK hP hD hS rfl ?_ dd_F_become_10
  trivial
