/-! the reference reads: helps -/
theorem mu_10 {L : List Bool} {j : Nat} (h : ¬ lN (cp_n L j 1) = 1) : lN (cp_n L j 1) = 0 := by
  cases hb : cp_g L j with
  | true => exact absurd ((cp_n1 L j).mpr hb) h
  | false => exact (cp_n0 L j).mpr hb
theorem mu_11 {L : List Bool} {j : Nat} (h : lN (cp_n L j 1) = 1) : ¬ lN (cp_n L j 1) = 0 := by rw [h]; decide
theorem mu_x0 (v : Int64) : v ^^^ 0 = v := cp_ext (fun j _ => by rw [cp_xor, cp_0, Bool.xor_false])
theorem mu_last {L : List Bool} {i : Nat} {f g : Nat → Int64} (h : ∀ j, j < i → f j = (cp_ru L (j + 1)).2.2.1 ∧ g j = (cp_ru L (j + 1)).2.2.2.2.1) (hi : ¬ i = 0) : f (i - 1) = (cp_ru L i).2.2.1 ∧ g (i - 1) = (cp_ru L i).2.2.2.2.1 := by
  have e := h (i - 1) (by omega)
  rwa [show i - 1 + 1 = i by omega] at e
theorem mu_rn {L : List Bool} {i : Nat} (h : (cp_ru L i).1 = true) (hi : ¬ i = 0) : cp_ru L (i + 1) = cp_rn L (true, (cp_ru L i).2.1, (cp_ru L i).2.2.1, (cp_ru L i).2.2.2.1, (cp_ru L i).2.2.2.2.1, (cp_ru L i).2.2.2.2.2.1, (cp_ru L i).2.2.2.2.2.2) := by
  rw [ru_eta h, ru_s h, if_neg hi]
theorem mu_ext {L : List Bool} {i : Nat} {f g : Nat → Int64} {a b : Int64} (h : ∀ j, j < i → f j = (cp_ru L (j + 1)).2.2.1 ∧ g j = (cp_ru L (j + 1)).2.2.2.2.1) (ha : a = (cp_ru L (i + 1)).2.2.1) (hb : b = (cp_ru L (i + 1)).2.2.2.2.1) : ∀ j, j < i + 1 → vp_updL f i a j = (cp_ru L (j + 1)).2.2.1 ∧ vp_updL g i b j = (cp_ru L (j + 1)).2.2.2.2.1 := by
  subst ha hb
  exact ru_ext h
theorem mu_cp {i : Nat} {f g f2 g2 : Nat → Int64} (h : ∀ j, j < i → f j = f2 j ∧ g j = g2 j) : ∀ j, j < i + 1 → vp_updL f i (f2 i) j = f2 j ∧ vp_updL g i (g2 i) j = g2 j := by
  intro j hj
  by_cases c : j = i
  · subst c; exact ⟨pk_uLs, pk_uLs⟩
  · rw [pk_uLn c, pk_uLn c]; exact h j (by omega)

set_option maxHeartbeats 4000000 in
set_option maxRecDepth 100000 in
theorem cc_M_readTurn (l : Launch) (D : va_G) (cJ cB : ClassId) (q ta vb ba na nb : Nat) (cd tk fz fb : Int32) (n : Nat) (L : List Bool) (by0 : Nat → Int32) (po : Nat) (d : Int64) (sz : Nat) (hL : L.length ≤ 400000) (hB : cp_Rb by0 L) (hpo : po ≤ L.length) : ct_l l my_M_readTurn (Cond.code my_M_readTurn mb_M_readTurn 1 (some .long) :: TB) ({ frames := 2, cells := 0, slots := 0, locals := 47 } : Room) D classes cJ cB [.ref q] [(q, .inr (6, [.int cd, .ref ta, .ref vb, .int (nI n), .ref ba, .int (nI L.length), .int tk, .ref na, .ref nb, .int (nI po), .int (nI 0), .int fz, .int fb])), (ba, .inl (cB, 400000, .inl by0))] sz (fun (r : Int64) (u : Nat × Nat) => (∀ q9, cp_rt L po d = (none, q9) → r = 0 ∧ u = (q9, 1)) ∧ (∀ d9 q9, cp_rt L po d = (some d9, q9) → d + r = d9 ∧ u = (q9, 0))) (fun u => [(q, .inr (6, [.int cd, .ref ta, .ref vb, .int (nI n), .ref ba, .int (nI L.length), .int tk, .ref na, .ref nb, .int (nI u.1), .int (nI u.2), .int fz, .int fb])), (ba, .inl (cB, 400000, .inl by0))]) 0 0 := by
  refine ct_ofW (cc := mb_M_readTurn) (maxL := 1) (ret := some .long) (by decide) rfl (Nat.le_of_ble_eq_true rfl) ?_
  intro p e s m below meth c hx hb hr hml hts hown hlocks hin hsz hK hP hD hA hS hZ ls hl
  have hw : ∀ w ∈ TB, w.before _ s = true := fun w h => hts w (List.mem_cons_of_mem _ h)
  have hown : s.vm.findClass cn_M = some m.cls := hown
  have hin : meth.name = "readTurn" := hin
  generalize hAe : va_A [(q, .inr (6, [.int cd, .ref ta, .ref vb, .int (nI n), .ref ba, .int (nI L.length), .int tk, .ref na, .ref nb, .int (nI po), .int (nI 0), .int fz, .int fb])), (ba, .inl (cB, 400000, .inl by0))] sz = A at hD hA hS hZ ⊢
  clear hAe
  have hl : lv_has ls 1 [(0, .ref q)] := hl
  have hP : va_P D classes [(q, .inr (6, [.int cd, .ref ta, .ref vb, .int (nI n), .ref ba, .int (nI L.length), .int tk, .ref na, .ref nb, .int (nI po), .int (nI 0), .int fz, .int fb])), (ba, .inl (cB, 400000, .inl by0))] s.heap := hP
  refine lv_aload_n hx hb dd_M_readTurn_0 rfl (lv_at hl 0 rfl) ?_
  refine lv_iconst (v := nI 1) hx hb dd_M_readTurn_1 (by decide) ?_
  refine ct_behind_l (wc := [(q, .inr (6, [.int cd, .ref ta, .ref vb, .int (nI n), .ref ba, .int (nI L.length), .int tk, .ref na, .ref nb, .int (nI po), .int (nI 0), .int fz, .int fb])), (ba, .inl (cB, 400000, .inl by0))]) (wr := []) (av := [.ref q, .int (nI 1)]) (va_runV (As := [.int (nI 1)]) (rest := []) ⟨hx, hb, hml, hown, hw⟩ (cc_M_read l D cJ cB q ta vb ba na nb cd tk fz fb n L by0 po 0 1 _ hL hB (by decide) (by omega) (by omega)) (cwV 1 hw (tb_V wi_621 wi_623 wi_17 wi_25 wi_624) rfl rfl rfl (by decide +kernel) ⟨Nat.le_of_ble_eq_true rfl, Nat.le_of_ble_eq_true rfl⟩) ⟨ct_blind, ct_recv hK hP (q0 := 0) (ci := 6) rfl rfl, ct_pc hZ hK hP hD hS hA [0, 1] rfl (by decide)⟩ rfl rfl hl.1 rfl (lv_room (Nat.le_of_ble_eq_true rfl)) dd_M_readTurn_2 ⟨Nat.le_of_ble_eq_true rfl, Nat.le_of_ble_eq_true rfl⟩) hK hP hD hS hA [0, 1] [] rfl rfl (by decide) (by decide) (fun r_2 u_2 H locs hw_2 hP hD hS => ?_)
  obtain ⟨p_2, w_2⟩ := u_2
  have hP : va_P D classes [(q, .inr (6, [.int cd, .ref ta, .ref vb, .int (nI n), .ref ba, .int (nI L.length), .int tk, .ref na, .ref nb, .int (nI p_2), .int (nI w_2), .int fz, .int fb])), (ba, .inl (cB, 400000, .inl by0))] _ := hP
  have hD : va_D A [(q, .inr (6, [.int cd, .ref ta, .ref vb, .int (nI n), .ref ba, .int (nI L.length), .int tk, .ref na, .ref nb, .int (nI p_2), .int (nI w_2), .int fz, .int fb])), (ba, .inl (cB, 400000, .inl by0))] := hD
  by_cases hc_2 : po + 1 ≤ L.length
  · skip
    obtain ⟨hr_2, hu_2⟩ := hw_2.1 ⟨rfl, hc_2⟩
    cases hu_2
    subst hr_2
    have hP : va_P D classes [(q, .inr (6, [.int cd, .ref ta, .ref vb, .int (nI n), .ref ba, .int (nI L.length), .int tk, .ref na, .ref nb, .int (nI (po + 1)), .int (nI 0), .int fz, .int fb])), (ba, .inl (cB, 400000, .inl by0))] _ := hP
    have hD : va_D A [(q, .inr (6, [.int cd, .ref ta, .ref vb, .int (nI n), .ref ba, .int (nI L.length), .int tk, .ref na, .ref nb, .int (nI (po + 1)), .int (nI 0), .int fz, .int fb])), (ba, .inl (cB, 400000, .inl by0))] := hD
    refine lv_lconst (v := 0) hx hb dd_M_readTurn_5 (by decide) ?_
    refine W.lcmp hx hb dd_M_readTurn_6 ?_
    refine lv_if_ne (tgt := 12) hx hb dd_M_readTurn_7 (by decide) (fun c_7 => ?_) (fun c_7 => ?_)
    · skip
      have c_7 : ¬ ((lN (cp_n L po 1)) = 0) := fun z => c_7 ((lg_cmp_eq _ _).mpr z)
      refine lv_aload_n hx hb dd_M_readTurn_12 rfl (lv_at hl 0 rfl) ?_
      refine lv_iconst (v := nI 1) hx hb dd_M_readTurn_13 (by decide) ?_
      refine ct_behind_l (wc := [(q, .inr (6, [.int cd, .ref ta, .ref vb, .int (nI n), .ref ba, .int (nI L.length), .int tk, .ref na, .ref nb, .int (nI (po + 1)), .int (nI 0), .int fz, .int fb])), (ba, .inl (cB, 400000, .inl by0))]) (wr := []) (av := [.ref q, .int (nI 1)]) (va_runV (As := [.int (nI 1)]) (rest := []) ⟨hx, hb, hml, hown, hw⟩ (cc_M_read l D cJ cB q ta vb ba na nb cd tk fz fb n L by0 (po + 1) 0 1 _ hL hB (by decide) (by omega) (by omega)) (cwV 1 hw (tb_V wi_621 wi_623 wi_17 wi_25 wi_624) rfl rfl rfl (by decide +kernel) ⟨Nat.le_of_ble_eq_true rfl, Nat.le_of_ble_eq_true rfl⟩) ⟨ct_blind, ct_recv hK hP (q0 := 0) (ci := 6) rfl rfl, ct_pc hZ hK hP hD hS hA [0, 1] rfl (by decide)⟩ rfl rfl hl.1 rfl (lv_room (Nat.le_of_ble_eq_true rfl)) dd_M_readTurn_14 ⟨Nat.le_of_ble_eq_true rfl, Nat.le_of_ble_eq_true rfl⟩) hK hP hD hS hA [0, 1] [] rfl rfl (by decide) (by decide) (fun r_14 u_14 H locs hw_14 hP hD hS => ?_)
      obtain ⟨p_14, w_14⟩ := u_14
      have hP : va_P D classes [(q, .inr (6, [.int cd, .ref ta, .ref vb, .int (nI n), .ref ba, .int (nI L.length), .int tk, .ref na, .ref nb, .int (nI p_14), .int (nI w_14), .int fz, .int fb])), (ba, .inl (cB, 400000, .inl by0))] _ := hP
      have hD : va_D A [(q, .inr (6, [.int cd, .ref ta, .ref vb, .int (nI n), .ref ba, .int (nI L.length), .int tk, .ref na, .ref nb, .int (nI p_14), .int (nI w_14), .int fz, .int fb])), (ba, .inl (cB, 400000, .inl by0))] := hD
      by_cases hc_14 : po + 1 + 1 ≤ L.length
      · skip
        obtain ⟨hr_14, hu_14⟩ := hw_14.1 ⟨rfl, hc_14⟩
        cases hu_14
        subst hr_14
        have hP : va_P D classes [(q, .inr (6, [.int cd, .ref ta, .ref vb, .int (nI n), .ref ba, .int (nI L.length), .int tk, .ref na, .ref nb, .int (nI (po + 1 + 1)), .int (nI 0), .int fz, .int fb])), (ba, .inl (cB, 400000, .inl by0))] _ := hP
        have hD : va_D A [(q, .inr (6, [.int cd, .ref ta, .ref vb, .int (nI n), .ref ba, .int (nI L.length), .int tk, .ref na, .ref nb, .int (nI (po + 1 + 1)), .int (nI 0), .int fz, .int fb])), (ba, .inl (cB, 400000, .inl by0))] := hD
        refine lv_lconst (v := 0) hx hb dd_M_readTurn_17 (by decide) ?_
        refine W.lcmp hx hb dd_M_readTurn_18 ?_
        refine lv_if_ne (tgt := 29) hx hb dd_M_readTurn_19 (by decide) (fun c_19 => ?_) (fun c_19 => ?_)
        · skip
          have c_19 : ¬ ((lN (cp_n L (po + 1) 1)) = 0) := fun z => c_19 ((lg_cmp_eq _ _).mpr z)
          refine lv_aload_n hx hb dd_M_readTurn_29 rfl (lv_at hl 0 rfl) ?_
          refine lv_iconst (v := nI 1) hx hb dd_M_readTurn_30 (by decide) ?_
          refine ct_behind_l (wc := [(q, .inr (6, [.int cd, .ref ta, .ref vb, .int (nI n), .ref ba, .int (nI L.length), .int tk, .ref na, .ref nb, .int (nI (po + 1 + 1)), .int (nI 0), .int fz, .int fb])), (ba, .inl (cB, 400000, .inl by0))]) (wr := []) (av := [.ref q, .int (nI 1)]) (va_runV (As := [.int (nI 1)]) (rest := []) ⟨hx, hb, hml, hown, hw⟩ (cc_M_read l D cJ cB q ta vb ba na nb cd tk fz fb n L by0 (po + 1 + 1) 0 1 _ hL hB (by decide) (by omega) (by omega)) (cwV 1 hw (tb_V wi_621 wi_623 wi_17 wi_25 wi_624) rfl rfl rfl (by decide +kernel) ⟨Nat.le_of_ble_eq_true rfl, Nat.le_of_ble_eq_true rfl⟩) ⟨ct_blind, ct_recv hK hP (q0 := 0) (ci := 6) rfl rfl, ct_pc hZ hK hP hD hS hA [0, 1] rfl (by decide)⟩ rfl rfl hl.1 rfl (lv_room (Nat.le_of_ble_eq_true rfl)) dd_M_readTurn_31 ⟨Nat.le_of_ble_eq_true rfl, Nat.le_of_ble_eq_true rfl⟩) hK hP hD hS hA [0, 1] [] rfl rfl (by decide) (by decide) (fun r_31 u_31 H locs hw_31 hP hD hS => ?_)
          obtain ⟨p_31, w_31⟩ := u_31
          have hP : va_P D classes [(q, .inr (6, [.int cd, .ref ta, .ref vb, .int (nI n), .ref ba, .int (nI L.length), .int tk, .ref na, .ref nb, .int (nI p_31), .int (nI w_31), .int fz, .int fb])), (ba, .inl (cB, 400000, .inl by0))] _ := hP
          have hD : va_D A [(q, .inr (6, [.int cd, .ref ta, .ref vb, .int (nI n), .ref ba, .int (nI L.length), .int tk, .ref na, .ref nb, .int (nI p_31), .int (nI w_31), .int fz, .int fb])), (ba, .inl (cB, 400000, .inl by0))] := hD
          by_cases hc_31 : po + 1 + 1 + 1 ≤ L.length
          · skip
            obtain ⟨hr_31, hu_31⟩ := hw_31.1 ⟨rfl, hc_31⟩
            cases hu_31
            subst hr_31
            have hP : va_P D classes [(q, .inr (6, [.int cd, .ref ta, .ref vb, .int (nI n), .ref ba, .int (nI L.length), .int tk, .ref na, .ref nb, .int (nI (po + 1 + 1 + 1)), .int (nI 0), .int fz, .int fb])), (ba, .inl (cB, 400000, .inl by0))] _ := hP
            have hD : va_D A [(q, .inr (6, [.int cd, .ref ta, .ref vb, .int (nI n), .ref ba, .int (nI L.length), .int tk, .ref na, .ref nb, .int (nI (po + 1 + 1 + 1)), .int (nI 0), .int fz, .int fb])), (ba, .inl (cB, 400000, .inl by0))] := hD
            refine lv_lconst (v := 0) hx hb dd_M_readTurn_34 (by decide) ?_
            refine W.lcmp hx hb dd_M_readTurn_35 ?_
            refine lv_if_ne (tgt := 46) hx hb dd_M_readTurn_36 (by decide) (fun c_36 => ?_) (fun c_36 => ?_)
            · skip
              have c_36 : ¬ ((lN (cp_n L (po + 1 + 1) 1)) = 0) := fun z => c_36 ((lg_cmp_eq _ _).mpr z)
              refine lv_aload_n hx hb dd_M_readTurn_46 rfl (lv_at hl 0 rfl) ?_
              refine lv_iconst (v := nI 1) hx hb dd_M_readTurn_47 (by decide) ?_
              refine ct_behind_l (wc := [(q, .inr (6, [.int cd, .ref ta, .ref vb, .int (nI n), .ref ba, .int (nI L.length), .int tk, .ref na, .ref nb, .int (nI (po + 1 + 1 + 1)), .int (nI 0), .int fz, .int fb])), (ba, .inl (cB, 400000, .inl by0))]) (wr := []) (av := [.ref q, .int (nI 1)]) (va_runV (As := [.int (nI 1)]) (rest := []) ⟨hx, hb, hml, hown, hw⟩ (cc_M_read l D cJ cB q ta vb ba na nb cd tk fz fb n L by0 (po + 1 + 1 + 1) 0 1 _ hL hB (by decide) (by omega) (by omega)) (cwV 1 hw (tb_V wi_621 wi_623 wi_17 wi_25 wi_624) rfl rfl rfl (by decide +kernel) ⟨Nat.le_of_ble_eq_true rfl, Nat.le_of_ble_eq_true rfl⟩) ⟨ct_blind, ct_recv hK hP (q0 := 0) (ci := 6) rfl rfl, ct_pc hZ hK hP hD hS hA [0, 1] rfl (by decide)⟩ rfl rfl hl.1 rfl (lv_room (Nat.le_of_ble_eq_true rfl)) dd_M_readTurn_48 ⟨Nat.le_of_ble_eq_true rfl, Nat.le_of_ble_eq_true rfl⟩) hK hP hD hS hA [0, 1] [] rfl rfl (by decide) (by decide) (fun r_48 u_48 H locs hw_48 hP hD hS => ?_)
              obtain ⟨p_48, w_48⟩ := u_48
              have hP : va_P D classes [(q, .inr (6, [.int cd, .ref ta, .ref vb, .int (nI n), .ref ba, .int (nI L.length), .int tk, .ref na, .ref nb, .int (nI p_48), .int (nI w_48), .int fz, .int fb])), (ba, .inl (cB, 400000, .inl by0))] _ := hP
              have hD : va_D A [(q, .inr (6, [.int cd, .ref ta, .ref vb, .int (nI n), .ref ba, .int (nI L.length), .int tk, .ref na, .ref nb, .int (nI p_48), .int (nI w_48), .int fz, .int fb])), (ba, .inl (cB, 400000, .inl by0))] := hD
              by_cases hc_48 : po + 1 + 1 + 1 + 1 ≤ L.length
              · skip
                obtain ⟨hr_48, hu_48⟩ := hw_48.1 ⟨rfl, hc_48⟩
                cases hu_48
                subst hr_48
                have hP : va_P D classes [(q, .inr (6, [.int cd, .ref ta, .ref vb, .int (nI n), .ref ba, .int (nI L.length), .int tk, .ref na, .ref nb, .int (nI (po + 1 + 1 + 1 + 1)), .int (nI 0), .int fz, .int fb])), (ba, .inl (cB, 400000, .inl by0))] _ := hP
                have hD : va_D A [(q, .inr (6, [.int cd, .ref ta, .ref vb, .int (nI n), .ref ba, .int (nI L.length), .int tk, .ref na, .ref nb, .int (nI (po + 1 + 1 + 1 + 1)), .int (nI 0), .int fz, .int fb])), (ba, .inl (cB, 400000, .inl by0))] := hD
                refine lv_lconst (v := 0) hx hb dd_M_readTurn_51 (by decide) ?_
                refine W.lcmp hx hb dd_M_readTurn_52 ?_
                refine lv_if_ne (tgt := 65) hx hb dd_M_readTurn_53 (by decide) (fun c_53 => ?_) (fun c_53 => ?_)
                · skip
                  have c_53 : ¬ ((lN (cp_n L (po + 1 + 1 + 1) 1)) = 0) := fun z => c_53 ((lg_cmp_eq _ _).mpr z)
                  refine lv_aload_n hx hb dd_M_readTurn_65 rfl (lv_at hl 0 rfl) ?_
                  refine lv_bipush (v := nI 41) hx hb dd_M_readTurn_66 (by decide) ?_
                  refine ct_behind_l (wc := [(q, .inr (6, [.int cd, .ref ta, .ref vb, .int (nI n), .ref ba, .int (nI L.length), .int tk, .ref na, .ref nb, .int (nI (po + 1 + 1 + 1 + 1)), .int (nI 0), .int fz, .int fb])), (ba, .inl (cB, 400000, .inl by0))]) (wr := []) (av := [.ref q, .int (nI 41)]) (va_runV (As := [.int (nI 41)]) (rest := []) ⟨hx, hb, hml, hown, hw⟩ (cc_M_readSigned l D cJ cB q ta vb ba na nb cd tk fz fb n L by0 (po + 1 + 1 + 1 + 1) 0 41 _ hL hB (by decide) (by omega) (by decide) (by omega)) (cwV 1 hw (tb_V wi_629 wi_631 wi_19 wi_25 wi_632) rfl rfl rfl (by decide +kernel) ⟨Nat.le_of_ble_eq_true rfl, Nat.le_of_ble_eq_true rfl⟩) ⟨ct_blind, ct_recv hK hP (q0 := 0) (ci := 6) rfl rfl, ct_pc hZ hK hP hD hS hA [0, 1] rfl (by decide)⟩ rfl rfl hl.1 rfl (lv_room (Nat.le_of_ble_eq_true rfl)) dd_M_readTurn_68 ⟨Nat.le_of_ble_eq_true rfl, Nat.le_of_ble_eq_true rfl⟩) hK hP hD hS hA [0, 1] [] rfl rfl (by decide) (by decide) (fun r_68 u_68 H locs hw_68 hP hD hS => ?_)
                  obtain ⟨p_68, w_68⟩ := u_68
                  have hP : va_P D classes [(q, .inr (6, [.int cd, .ref ta, .ref vb, .int (nI n), .ref ba, .int (nI L.length), .int tk, .ref na, .ref nb, .int (nI p_68), .int (nI w_68), .int fz, .int fb])), (ba, .inl (cB, 400000, .inl by0))] _ := hP
                  have hD : va_D A [(q, .inr (6, [.int cd, .ref ta, .ref vb, .int (nI n), .ref ba, .int (nI L.length), .int tk, .ref na, .ref nb, .int (nI p_68), .int (nI w_68), .int fz, .int fb])), (ba, .inl (cB, 400000, .inl by0))] := hD
                  by_cases hc_68 : po + 1 + 1 + 1 + 1 + 41 ≤ L.length
                  · skip
                    obtain ⟨hr_68, hu_68⟩ := hw_68.1 ⟨rfl, hc_68⟩
                    cases hu_68
                    subst hr_68
                    have hP : va_P D classes [(q, .inr (6, [.int cd, .ref ta, .ref vb, .int (nI n), .ref ba, .int (nI L.length), .int tk, .ref na, .ref nb, .int (nI (po + 1 + 1 + 1 + 1 + 41)), .int (nI 0), .int fz, .int fb])), (ba, .inl (cB, 400000, .inl by0))] _ := hP
                    have hD : va_D A [(q, .inr (6, [.int cd, .ref ta, .ref vb, .int (nI n), .ref ba, .int (nI L.length), .int tk, .ref na, .ref nb, .int (nI (po + 1 + 1 + 1 + 1 + 41)), .int (nI 0), .int fz, .int fb])), (ba, .inl (cB, 400000, .inl by0))] := hD
                    refine ct_lret (u := (po + 1 + 1 + 1 + 1 + 41, 0)) hx hb hr hlocks hK hP hD hS rfl ?_ dd_M_readTurn_71
                    have e9 : cp_rt L po d = (some (d + cp_sg 41 (cp_n L (po + 1 + 1 + 1 + 1) 41)), po + 1 + 1 + 1 + 1 + 41) := rt_s (k := 4) (ck_s hc_2 c_7 (ck_s hc_14 c_19 (ck_s hc_31 c_36 (ck_s hc_48 c_53 (ck_e))))) (by decide) hc_68
                    refine ⟨fun q9 h => ?_, fun d9 q9 h => ?_⟩
                    · rw [e9] at h
                      cases h
                    · rw [e9] at h
                      cases h
                      exact ⟨rfl, rfl⟩
                  obtain ⟨hr_68, hu_68⟩ := hw_68.2 (fun k9 => hc_68 k9.2)
                  cases hu_68
                  subst hr_68
                  have hP : va_P D classes [(q, .inr (6, [.int cd, .ref ta, .ref vb, .int (nI n), .ref ba, .int (nI L.length), .int tk, .ref na, .ref nb, .int (nI (po + 1 + 1 + 1 + 1)), .int (nI 1), .int fz, .int fb])), (ba, .inl (cB, 400000, .inl by0))] _ := hP
                  have hD : va_D A [(q, .inr (6, [.int cd, .ref ta, .ref vb, .int (nI n), .ref ba, .int (nI L.length), .int tk, .ref na, .ref nb, .int (nI (po + 1 + 1 + 1 + 1)), .int (nI 1), .int fz, .int fb])), (ba, .inl (cB, 400000, .inl by0))] := hD
                  refine ct_lret (u := (po + 1 + 1 + 1 + 1, 1)) hx hb hr hlocks hK hP hD hS rfl ?_ dd_M_readTurn_71
                  have e9 : cp_rt L po d = (none, po + 1 + 1 + 1 + 1) := rt_f (k := 4) (ck_s hc_2 c_7 (ck_s hc_14 c_19 (ck_s hc_31 c_36 (ck_s hc_48 c_53 (ck_e))))) (by decide) hc_68
                  refine ⟨fun q9 h => ?_, fun d9 q9 h => ?_⟩
                  · rw [e9] at h
                    cases h
                    exact ⟨rfl, rfl⟩
                  · rw [e9] at h
                    cases h
                have c_53 : (lN (cp_n L (po + 1 + 1 + 1) 1)) = 0 := (lg_cmp_eq _ _).mp c_53
                refine lv_aload_n hx hb dd_M_readTurn_56 rfl (lv_at hl 0 rfl) ?_
                refine lv_bipush (v := nI 13) hx hb dd_M_readTurn_57 (by decide) ?_
                refine ct_behind_l (wc := [(q, .inr (6, [.int cd, .ref ta, .ref vb, .int (nI n), .ref ba, .int (nI L.length), .int tk, .ref na, .ref nb, .int (nI (po + 1 + 1 + 1 + 1)), .int (nI 0), .int fz, .int fb])), (ba, .inl (cB, 400000, .inl by0))]) (wr := []) (av := [.ref q, .int (nI 13)]) (va_runV (As := [.int (nI 13)]) (rest := []) ⟨hx, hb, hml, hown, hw⟩ (cc_M_readSigned l D cJ cB q ta vb ba na nb cd tk fz fb n L by0 (po + 1 + 1 + 1 + 1) 0 13 _ hL hB (by decide) (by omega) (by decide) (by omega)) (cwV 1 hw (tb_V wi_629 wi_631 wi_19 wi_25 wi_632) rfl rfl rfl (by decide +kernel) ⟨Nat.le_of_ble_eq_true rfl, Nat.le_of_ble_eq_true rfl⟩) ⟨ct_blind, ct_recv hK hP (q0 := 0) (ci := 6) rfl rfl, ct_pc hZ hK hP hD hS hA [0, 1] rfl (by decide)⟩ rfl rfl hl.1 rfl (lv_room (Nat.le_of_ble_eq_true rfl)) dd_M_readTurn_59 ⟨Nat.le_of_ble_eq_true rfl, Nat.le_of_ble_eq_true rfl⟩) hK hP hD hS hA [0, 1] [] rfl rfl (by decide) (by decide) (fun r_59 u_59 H locs hw_59 hP hD hS => ?_)
                obtain ⟨p_59, w_59⟩ := u_59
                have hP : va_P D classes [(q, .inr (6, [.int cd, .ref ta, .ref vb, .int (nI n), .ref ba, .int (nI L.length), .int tk, .ref na, .ref nb, .int (nI p_59), .int (nI w_59), .int fz, .int fb])), (ba, .inl (cB, 400000, .inl by0))] _ := hP
                have hD : va_D A [(q, .inr (6, [.int cd, .ref ta, .ref vb, .int (nI n), .ref ba, .int (nI L.length), .int tk, .ref na, .ref nb, .int (nI p_59), .int (nI w_59), .int fz, .int fb])), (ba, .inl (cB, 400000, .inl by0))] := hD
                by_cases hc_59 : po + 1 + 1 + 1 + 1 + 13 ≤ L.length
                · skip
                  obtain ⟨hr_59, hu_59⟩ := hw_59.1 ⟨rfl, hc_59⟩
                  cases hu_59
                  subst hr_59
                  have hP : va_P D classes [(q, .inr (6, [.int cd, .ref ta, .ref vb, .int (nI n), .ref ba, .int (nI L.length), .int tk, .ref na, .ref nb, .int (nI (po + 1 + 1 + 1 + 1 + 13)), .int (nI 0), .int fz, .int fb])), (ba, .inl (cB, 400000, .inl by0))] _ := hP
                  have hD : va_D A [(q, .inr (6, [.int cd, .ref ta, .ref vb, .int (nI n), .ref ba, .int (nI L.length), .int tk, .ref na, .ref nb, .int (nI (po + 1 + 1 + 1 + 1 + 13)), .int (nI 0), .int fz, .int fb])), (ba, .inl (cB, 400000, .inl by0))] := hD
                  refine lv_goto (tgt := 71) hx hb dd_M_readTurn_62 (by decide) ?_
                  refine ct_lret (u := (po + 1 + 1 + 1 + 1 + 13, 0)) hx hb hr hlocks hK hP hD hS rfl ?_ dd_M_readTurn_71
                  have e9 : cp_rt L po d = (some (d + cp_sg 13 (cp_n L (po + 1 + 1 + 1 + 1) 13)), po + 1 + 1 + 1 + 1 + 13) := rt_s (k := 3) (ck_s hc_2 c_7 (ck_s hc_14 c_19 (ck_s hc_31 c_36 (ck_0 hc_48 c_53)))) (by decide) hc_59
                  refine ⟨fun q9 h => ?_, fun d9 q9 h => ?_⟩
                  · rw [e9] at h
                    cases h
                  · rw [e9] at h
                    cases h
                    exact ⟨rfl, rfl⟩
                obtain ⟨hr_59, hu_59⟩ := hw_59.2 (fun k9 => hc_59 k9.2)
                cases hu_59
                subst hr_59
                have hP : va_P D classes [(q, .inr (6, [.int cd, .ref ta, .ref vb, .int (nI n), .ref ba, .int (nI L.length), .int tk, .ref na, .ref nb, .int (nI (po + 1 + 1 + 1 + 1)), .int (nI 1), .int fz, .int fb])), (ba, .inl (cB, 400000, .inl by0))] _ := hP
                have hD : va_D A [(q, .inr (6, [.int cd, .ref ta, .ref vb, .int (nI n), .ref ba, .int (nI L.length), .int tk, .ref na, .ref nb, .int (nI (po + 1 + 1 + 1 + 1)), .int (nI 1), .int fz, .int fb])), (ba, .inl (cB, 400000, .inl by0))] := hD
                refine lv_goto (tgt := 71) hx hb dd_M_readTurn_62 (by decide) ?_
                refine ct_lret (u := (po + 1 + 1 + 1 + 1, 1)) hx hb hr hlocks hK hP hD hS rfl ?_ dd_M_readTurn_71
                have e9 : cp_rt L po d = (none, po + 1 + 1 + 1 + 1) := rt_f (k := 3) (ck_s hc_2 c_7 (ck_s hc_14 c_19 (ck_s hc_31 c_36 (ck_0 hc_48 c_53)))) (by decide) hc_59
                refine ⟨fun q9 h => ?_, fun d9 q9 h => ?_⟩
                · rw [e9] at h
                  cases h
                  exact ⟨rfl, rfl⟩
                · rw [e9] at h
                  cases h
              obtain ⟨hr_48, hu_48⟩ := hw_48.2 (fun k9 => hc_48 k9.2)
              cases hu_48
              subst hr_48
              have hP : va_P D classes [(q, .inr (6, [.int cd, .ref ta, .ref vb, .int (nI n), .ref ba, .int (nI L.length), .int tk, .ref na, .ref nb, .int (nI (po + 1 + 1 + 1)), .int (nI 1), .int fz, .int fb])), (ba, .inl (cB, 400000, .inl by0))] _ := hP
              have hD : va_D A [(q, .inr (6, [.int cd, .ref ta, .ref vb, .int (nI n), .ref ba, .int (nI L.length), .int tk, .ref na, .ref nb, .int (nI (po + 1 + 1 + 1)), .int (nI 1), .int fz, .int fb])), (ba, .inl (cB, 400000, .inl by0))] := hD
              refine lv_lconst (v := 0) hx hb dd_M_readTurn_51 (by decide) ?_
              refine W.lcmp hx hb dd_M_readTurn_52 ?_
              refine lv_if_ne (tgt := 65) hx hb dd_M_readTurn_53 (by decide) (fun c_53 => ?_) (fun c_53 => ?_)
              · skip
                have c_53 : ¬ ((0 : Int64) = 0) := fun z => c_53 ((lg_cmp_eq _ _).mpr z)
                exfalso
                exact c_53 rfl
              have c_53 : (0 : Int64) = 0 := (lg_cmp_eq _ _).mp c_53
              refine lv_aload_n hx hb dd_M_readTurn_56 rfl (lv_at hl 0 rfl) ?_
              refine lv_bipush (v := nI 13) hx hb dd_M_readTurn_57 (by decide) ?_
              refine ct_behind_l (wc := [(q, .inr (6, [.int cd, .ref ta, .ref vb, .int (nI n), .ref ba, .int (nI L.length), .int tk, .ref na, .ref nb, .int (nI (po + 1 + 1 + 1)), .int (nI 1), .int fz, .int fb])), (ba, .inl (cB, 400000, .inl by0))]) (wr := []) (av := [.ref q, .int (nI 13)]) (va_runV (As := [.int (nI 13)]) (rest := []) ⟨hx, hb, hml, hown, hw⟩ (cc_M_readSigned l D cJ cB q ta vb ba na nb cd tk fz fb n L by0 (po + 1 + 1 + 1) 1 13 _ hL hB (by decide) (by omega) (by decide) (by omega)) (cwV 1 hw (tb_V wi_629 wi_631 wi_19 wi_25 wi_632) rfl rfl rfl (by decide +kernel) ⟨Nat.le_of_ble_eq_true rfl, Nat.le_of_ble_eq_true rfl⟩) ⟨ct_blind, ct_recv hK hP (q0 := 0) (ci := 6) rfl rfl, ct_pc hZ hK hP hD hS hA [0, 1] rfl (by decide)⟩ rfl rfl hl.1 rfl (lv_room (Nat.le_of_ble_eq_true rfl)) dd_M_readTurn_59 ⟨Nat.le_of_ble_eq_true rfl, Nat.le_of_ble_eq_true rfl⟩) hK hP hD hS hA [0, 1] [] rfl rfl (by decide) (by decide) (fun r_59 u_59 H locs hw_59 hP hD hS => ?_)
              obtain ⟨p_59, w_59⟩ := u_59
              have hP : va_P D classes [(q, .inr (6, [.int cd, .ref ta, .ref vb, .int (nI n), .ref ba, .int (nI L.length), .int tk, .ref na, .ref nb, .int (nI p_59), .int (nI w_59), .int fz, .int fb])), (ba, .inl (cB, 400000, .inl by0))] _ := hP
              have hD : va_D A [(q, .inr (6, [.int cd, .ref ta, .ref vb, .int (nI n), .ref ba, .int (nI L.length), .int tk, .ref na, .ref nb, .int (nI p_59), .int (nI w_59), .int fz, .int fb])), (ba, .inl (cB, 400000, .inl by0))] := hD
              obtain ⟨hr_59, hu_59⟩ := hw_59.2 (fun k9 => absurd k9.1 (by decide))
              cases hu_59
              subst hr_59
              have hP : va_P D classes [(q, .inr (6, [.int cd, .ref ta, .ref vb, .int (nI n), .ref ba, .int (nI L.length), .int tk, .ref na, .ref nb, .int (nI (po + 1 + 1 + 1)), .int (nI 1), .int fz, .int fb])), (ba, .inl (cB, 400000, .inl by0))] _ := hP
              have hD : va_D A [(q, .inr (6, [.int cd, .ref ta, .ref vb, .int (nI n), .ref ba, .int (nI L.length), .int tk, .ref na, .ref nb, .int (nI (po + 1 + 1 + 1)), .int (nI 1), .int fz, .int fb])), (ba, .inl (cB, 400000, .inl by0))] := hD
              refine lv_goto (tgt := 71) hx hb dd_M_readTurn_62 (by decide) ?_
              refine ct_lret (u := (po + 1 + 1 + 1, 1)) hx hb hr hlocks hK hP hD hS rfl ?_ dd_M_readTurn_71
              have e9 : cp_rt L po d = (none, po + 1 + 1 + 1) := rt_n (ck_s hc_2 c_7 (ck_s hc_14 c_19 (ck_s hc_31 c_36 (ck_n hc_48))))
              refine ⟨fun q9 h => ?_, fun d9 q9 h => ?_⟩
              · rw [e9] at h
                cases h
                exact ⟨rfl, rfl⟩
              · rw [e9] at h
                cases h
            have c_36 : (lN (cp_n L (po + 1 + 1) 1)) = 0 := (lg_cmp_eq _ _).mp c_36
            refine lv_aload_n hx hb dd_M_readTurn_39 rfl (lv_at hl 0 rfl) ?_
            refine lv_bipush (v := nI 10) hx hb dd_M_readTurn_40 (by decide) ?_
            refine ct_behind_l (wc := [(q, .inr (6, [.int cd, .ref ta, .ref vb, .int (nI n), .ref ba, .int (nI L.length), .int tk, .ref na, .ref nb, .int (nI (po + 1 + 1 + 1)), .int (nI 0), .int fz, .int fb])), (ba, .inl (cB, 400000, .inl by0))]) (wr := []) (av := [.ref q, .int (nI 10)]) (va_runV (As := [.int (nI 10)]) (rest := []) ⟨hx, hb, hml, hown, hw⟩ (cc_M_readSigned l D cJ cB q ta vb ba na nb cd tk fz fb n L by0 (po + 1 + 1 + 1) 0 10 _ hL hB (by decide) (by omega) (by decide) (by omega)) (cwV 1 hw (tb_V wi_629 wi_631 wi_19 wi_25 wi_632) rfl rfl rfl (by decide +kernel) ⟨Nat.le_of_ble_eq_true rfl, Nat.le_of_ble_eq_true rfl⟩) ⟨ct_blind, ct_recv hK hP (q0 := 0) (ci := 6) rfl rfl, ct_pc hZ hK hP hD hS hA [0, 1] rfl (by decide)⟩ rfl rfl hl.1 rfl (lv_room (Nat.le_of_ble_eq_true rfl)) dd_M_readTurn_42 ⟨Nat.le_of_ble_eq_true rfl, Nat.le_of_ble_eq_true rfl⟩) hK hP hD hS hA [0, 1] [] rfl rfl (by decide) (by decide) (fun r_42 u_42 H locs hw_42 hP hD hS => ?_)
            obtain ⟨p_42, w_42⟩ := u_42
            have hP : va_P D classes [(q, .inr (6, [.int cd, .ref ta, .ref vb, .int (nI n), .ref ba, .int (nI L.length), .int tk, .ref na, .ref nb, .int (nI p_42), .int (nI w_42), .int fz, .int fb])), (ba, .inl (cB, 400000, .inl by0))] _ := hP
            have hD : va_D A [(q, .inr (6, [.int cd, .ref ta, .ref vb, .int (nI n), .ref ba, .int (nI L.length), .int tk, .ref na, .ref nb, .int (nI p_42), .int (nI w_42), .int fz, .int fb])), (ba, .inl (cB, 400000, .inl by0))] := hD
            by_cases hc_42 : po + 1 + 1 + 1 + 10 ≤ L.length
            · skip
              obtain ⟨hr_42, hu_42⟩ := hw_42.1 ⟨rfl, hc_42⟩
              cases hu_42
              subst hr_42
              have hP : va_P D classes [(q, .inr (6, [.int cd, .ref ta, .ref vb, .int (nI n), .ref ba, .int (nI L.length), .int tk, .ref na, .ref nb, .int (nI (po + 1 + 1 + 1 + 10)), .int (nI 0), .int fz, .int fb])), (ba, .inl (cB, 400000, .inl by0))] _ := hP
              have hD : va_D A [(q, .inr (6, [.int cd, .ref ta, .ref vb, .int (nI n), .ref ba, .int (nI L.length), .int tk, .ref na, .ref nb, .int (nI (po + 1 + 1 + 1 + 10)), .int (nI 0), .int fz, .int fb])), (ba, .inl (cB, 400000, .inl by0))] := hD
              refine ct_lret (u := (po + 1 + 1 + 1 + 10, 0)) hx hb hr hlocks hK hP hD hS rfl ?_ dd_M_readTurn_45
              have e9 : cp_rt L po d = (some (d + cp_sg 10 (cp_n L (po + 1 + 1 + 1) 10)), po + 1 + 1 + 1 + 10) := rt_s (k := 2) (ck_s hc_2 c_7 (ck_s hc_14 c_19 (ck_0 hc_31 c_36))) (by decide) hc_42
              refine ⟨fun q9 h => ?_, fun d9 q9 h => ?_⟩
              · rw [e9] at h
                cases h
              · rw [e9] at h
                cases h
                exact ⟨rfl, rfl⟩
            obtain ⟨hr_42, hu_42⟩ := hw_42.2 (fun k9 => hc_42 k9.2)
            cases hu_42
            subst hr_42
            have hP : va_P D classes [(q, .inr (6, [.int cd, .ref ta, .ref vb, .int (nI n), .ref ba, .int (nI L.length), .int tk, .ref na, .ref nb, .int (nI (po + 1 + 1 + 1)), .int (nI 1), .int fz, .int fb])), (ba, .inl (cB, 400000, .inl by0))] _ := hP
            have hD : va_D A [(q, .inr (6, [.int cd, .ref ta, .ref vb, .int (nI n), .ref ba, .int (nI L.length), .int tk, .ref na, .ref nb, .int (nI (po + 1 + 1 + 1)), .int (nI 1), .int fz, .int fb])), (ba, .inl (cB, 400000, .inl by0))] := hD
            refine ct_lret (u := (po + 1 + 1 + 1, 1)) hx hb hr hlocks hK hP hD hS rfl ?_ dd_M_readTurn_45
            have e9 : cp_rt L po d = (none, po + 1 + 1 + 1) := rt_f (k := 2) (ck_s hc_2 c_7 (ck_s hc_14 c_19 (ck_0 hc_31 c_36))) (by decide) hc_42
            refine ⟨fun q9 h => ?_, fun d9 q9 h => ?_⟩
            · rw [e9] at h
              cases h
              exact ⟨rfl, rfl⟩
            · rw [e9] at h
              cases h
          obtain ⟨hr_31, hu_31⟩ := hw_31.2 (fun k9 => hc_31 k9.2)
          cases hu_31
          subst hr_31
          have hP : va_P D classes [(q, .inr (6, [.int cd, .ref ta, .ref vb, .int (nI n), .ref ba, .int (nI L.length), .int tk, .ref na, .ref nb, .int (nI (po + 1 + 1)), .int (nI 1), .int fz, .int fb])), (ba, .inl (cB, 400000, .inl by0))] _ := hP
          have hD : va_D A [(q, .inr (6, [.int cd, .ref ta, .ref vb, .int (nI n), .ref ba, .int (nI L.length), .int tk, .ref na, .ref nb, .int (nI (po + 1 + 1)), .int (nI 1), .int fz, .int fb])), (ba, .inl (cB, 400000, .inl by0))] := hD
          refine lv_lconst (v := 0) hx hb dd_M_readTurn_34 (by decide) ?_
          refine W.lcmp hx hb dd_M_readTurn_35 ?_
          refine lv_if_ne (tgt := 46) hx hb dd_M_readTurn_36 (by decide) (fun c_36 => ?_) (fun c_36 => ?_)
          · skip
            have c_36 : ¬ ((0 : Int64) = 0) := fun z => c_36 ((lg_cmp_eq _ _).mpr z)
            exfalso
            exact c_36 rfl
          have c_36 : (0 : Int64) = 0 := (lg_cmp_eq _ _).mp c_36
          refine lv_aload_n hx hb dd_M_readTurn_39 rfl (lv_at hl 0 rfl) ?_
          refine lv_bipush (v := nI 10) hx hb dd_M_readTurn_40 (by decide) ?_
          refine ct_behind_l (wc := [(q, .inr (6, [.int cd, .ref ta, .ref vb, .int (nI n), .ref ba, .int (nI L.length), .int tk, .ref na, .ref nb, .int (nI (po + 1 + 1)), .int (nI 1), .int fz, .int fb])), (ba, .inl (cB, 400000, .inl by0))]) (wr := []) (av := [.ref q, .int (nI 10)]) (va_runV (As := [.int (nI 10)]) (rest := []) ⟨hx, hb, hml, hown, hw⟩ (cc_M_readSigned l D cJ cB q ta vb ba na nb cd tk fz fb n L by0 (po + 1 + 1) 1 10 _ hL hB (by decide) (by omega) (by decide) (by omega)) (cwV 1 hw (tb_V wi_629 wi_631 wi_19 wi_25 wi_632) rfl rfl rfl (by decide +kernel) ⟨Nat.le_of_ble_eq_true rfl, Nat.le_of_ble_eq_true rfl⟩) ⟨ct_blind, ct_recv hK hP (q0 := 0) (ci := 6) rfl rfl, ct_pc hZ hK hP hD hS hA [0, 1] rfl (by decide)⟩ rfl rfl hl.1 rfl (lv_room (Nat.le_of_ble_eq_true rfl)) dd_M_readTurn_42 ⟨Nat.le_of_ble_eq_true rfl, Nat.le_of_ble_eq_true rfl⟩) hK hP hD hS hA [0, 1] [] rfl rfl (by decide) (by decide) (fun r_42 u_42 H locs hw_42 hP hD hS => ?_)
          obtain ⟨p_42, w_42⟩ := u_42
          have hP : va_P D classes [(q, .inr (6, [.int cd, .ref ta, .ref vb, .int (nI n), .ref ba, .int (nI L.length), .int tk, .ref na, .ref nb, .int (nI p_42), .int (nI w_42), .int fz, .int fb])), (ba, .inl (cB, 400000, .inl by0))] _ := hP
          have hD : va_D A [(q, .inr (6, [.int cd, .ref ta, .ref vb, .int (nI n), .ref ba, .int (nI L.length), .int tk, .ref na, .ref nb, .int (nI p_42), .int (nI w_42), .int fz, .int fb])), (ba, .inl (cB, 400000, .inl by0))] := hD
          obtain ⟨hr_42, hu_42⟩ := hw_42.2 (fun k9 => absurd k9.1 (by decide))
          cases hu_42
          subst hr_42
          have hP : va_P D classes [(q, .inr (6, [.int cd, .ref ta, .ref vb, .int (nI n), .ref ba, .int (nI L.length), .int tk, .ref na, .ref nb, .int (nI (po + 1 + 1)), .int (nI 1), .int fz, .int fb])), (ba, .inl (cB, 400000, .inl by0))] _ := hP
          have hD : va_D A [(q, .inr (6, [.int cd, .ref ta, .ref vb, .int (nI n), .ref ba, .int (nI L.length), .int tk, .ref na, .ref nb, .int (nI (po + 1 + 1)), .int (nI 1), .int fz, .int fb])), (ba, .inl (cB, 400000, .inl by0))] := hD
          refine ct_lret (u := (po + 1 + 1, 1)) hx hb hr hlocks hK hP hD hS rfl ?_ dd_M_readTurn_45
          have e9 : cp_rt L po d = (none, po + 1 + 1) := rt_n (ck_s hc_2 c_7 (ck_s hc_14 c_19 (ck_n hc_31)))
          refine ⟨fun q9 h => ?_, fun d9 q9 h => ?_⟩
          · rw [e9] at h
            cases h
            exact ⟨rfl, rfl⟩
          · rw [e9] at h
            cases h
        have c_19 : (lN (cp_n L (po + 1) 1)) = 0 := (lg_cmp_eq _ _).mp c_19
        refine lv_aload_n hx hb dd_M_readTurn_22 rfl (lv_at hl 0 rfl) ?_
        refine lv_bipush (v := nI 7) hx hb dd_M_readTurn_23 (by decide) ?_
        refine ct_behind_l (wc := [(q, .inr (6, [.int cd, .ref ta, .ref vb, .int (nI n), .ref ba, .int (nI L.length), .int tk, .ref na, .ref nb, .int (nI (po + 1 + 1)), .int (nI 0), .int fz, .int fb])), (ba, .inl (cB, 400000, .inl by0))]) (wr := []) (av := [.ref q, .int (nI 7)]) (va_runV (As := [.int (nI 7)]) (rest := []) ⟨hx, hb, hml, hown, hw⟩ (cc_M_readSigned l D cJ cB q ta vb ba na nb cd tk fz fb n L by0 (po + 1 + 1) 0 7 _ hL hB (by decide) (by omega) (by decide) (by omega)) (cwV 1 hw (tb_V wi_629 wi_631 wi_19 wi_25 wi_632) rfl rfl rfl (by decide +kernel) ⟨Nat.le_of_ble_eq_true rfl, Nat.le_of_ble_eq_true rfl⟩) ⟨ct_blind, ct_recv hK hP (q0 := 0) (ci := 6) rfl rfl, ct_pc hZ hK hP hD hS hA [0, 1] rfl (by decide)⟩ rfl rfl hl.1 rfl (lv_room (Nat.le_of_ble_eq_true rfl)) dd_M_readTurn_25 ⟨Nat.le_of_ble_eq_true rfl, Nat.le_of_ble_eq_true rfl⟩) hK hP hD hS hA [0, 1] [] rfl rfl (by decide) (by decide) (fun r_25 u_25 H locs hw_25 hP hD hS => ?_)
        obtain ⟨p_25, w_25⟩ := u_25
        have hP : va_P D classes [(q, .inr (6, [.int cd, .ref ta, .ref vb, .int (nI n), .ref ba, .int (nI L.length), .int tk, .ref na, .ref nb, .int (nI p_25), .int (nI w_25), .int fz, .int fb])), (ba, .inl (cB, 400000, .inl by0))] _ := hP
        have hD : va_D A [(q, .inr (6, [.int cd, .ref ta, .ref vb, .int (nI n), .ref ba, .int (nI L.length), .int tk, .ref na, .ref nb, .int (nI p_25), .int (nI w_25), .int fz, .int fb])), (ba, .inl (cB, 400000, .inl by0))] := hD
        by_cases hc_25 : po + 1 + 1 + 7 ≤ L.length
        · skip
          obtain ⟨hr_25, hu_25⟩ := hw_25.1 ⟨rfl, hc_25⟩
          cases hu_25
          subst hr_25
          have hP : va_P D classes [(q, .inr (6, [.int cd, .ref ta, .ref vb, .int (nI n), .ref ba, .int (nI L.length), .int tk, .ref na, .ref nb, .int (nI (po + 1 + 1 + 7)), .int (nI 0), .int fz, .int fb])), (ba, .inl (cB, 400000, .inl by0))] _ := hP
          have hD : va_D A [(q, .inr (6, [.int cd, .ref ta, .ref vb, .int (nI n), .ref ba, .int (nI L.length), .int tk, .ref na, .ref nb, .int (nI (po + 1 + 1 + 7)), .int (nI 0), .int fz, .int fb])), (ba, .inl (cB, 400000, .inl by0))] := hD
          refine ct_lret (u := (po + 1 + 1 + 7, 0)) hx hb hr hlocks hK hP hD hS rfl ?_ dd_M_readTurn_28
          have e9 : cp_rt L po d = (some (d + cp_sg 7 (cp_n L (po + 1 + 1) 7)), po + 1 + 1 + 7) := rt_s (k := 1) (ck_s hc_2 c_7 (ck_0 hc_14 c_19)) (by decide) hc_25
          refine ⟨fun q9 h => ?_, fun d9 q9 h => ?_⟩
          · rw [e9] at h
            cases h
          · rw [e9] at h
            cases h
            exact ⟨rfl, rfl⟩
        obtain ⟨hr_25, hu_25⟩ := hw_25.2 (fun k9 => hc_25 k9.2)
        cases hu_25
        subst hr_25
        have hP : va_P D classes [(q, .inr (6, [.int cd, .ref ta, .ref vb, .int (nI n), .ref ba, .int (nI L.length), .int tk, .ref na, .ref nb, .int (nI (po + 1 + 1)), .int (nI 1), .int fz, .int fb])), (ba, .inl (cB, 400000, .inl by0))] _ := hP
        have hD : va_D A [(q, .inr (6, [.int cd, .ref ta, .ref vb, .int (nI n), .ref ba, .int (nI L.length), .int tk, .ref na, .ref nb, .int (nI (po + 1 + 1)), .int (nI 1), .int fz, .int fb])), (ba, .inl (cB, 400000, .inl by0))] := hD
        refine ct_lret (u := (po + 1 + 1, 1)) hx hb hr hlocks hK hP hD hS rfl ?_ dd_M_readTurn_28
        have e9 : cp_rt L po d = (none, po + 1 + 1) := rt_f (k := 1) (ck_s hc_2 c_7 (ck_0 hc_14 c_19)) (by decide) hc_25
        refine ⟨fun q9 h => ?_, fun d9 q9 h => ?_⟩
        · rw [e9] at h
          cases h
          exact ⟨rfl, rfl⟩
        · rw [e9] at h
          cases h
      obtain ⟨hr_14, hu_14⟩ := hw_14.2 (fun k9 => hc_14 k9.2)
      cases hu_14
      subst hr_14
      have hP : va_P D classes [(q, .inr (6, [.int cd, .ref ta, .ref vb, .int (nI n), .ref ba, .int (nI L.length), .int tk, .ref na, .ref nb, .int (nI (po + 1)), .int (nI 1), .int fz, .int fb])), (ba, .inl (cB, 400000, .inl by0))] _ := hP
      have hD : va_D A [(q, .inr (6, [.int cd, .ref ta, .ref vb, .int (nI n), .ref ba, .int (nI L.length), .int tk, .ref na, .ref nb, .int (nI (po + 1)), .int (nI 1), .int fz, .int fb])), (ba, .inl (cB, 400000, .inl by0))] := hD
      refine lv_lconst (v := 0) hx hb dd_M_readTurn_17 (by decide) ?_
      refine W.lcmp hx hb dd_M_readTurn_18 ?_
      refine lv_if_ne (tgt := 29) hx hb dd_M_readTurn_19 (by decide) (fun c_19 => ?_) (fun c_19 => ?_)
      · skip
        have c_19 : ¬ ((0 : Int64) = 0) := fun z => c_19 ((lg_cmp_eq _ _).mpr z)
        exfalso
        exact c_19 rfl
      have c_19 : (0 : Int64) = 0 := (lg_cmp_eq _ _).mp c_19
      refine lv_aload_n hx hb dd_M_readTurn_22 rfl (lv_at hl 0 rfl) ?_
      refine lv_bipush (v := nI 7) hx hb dd_M_readTurn_23 (by decide) ?_
      refine ct_behind_l (wc := [(q, .inr (6, [.int cd, .ref ta, .ref vb, .int (nI n), .ref ba, .int (nI L.length), .int tk, .ref na, .ref nb, .int (nI (po + 1)), .int (nI 1), .int fz, .int fb])), (ba, .inl (cB, 400000, .inl by0))]) (wr := []) (av := [.ref q, .int (nI 7)]) (va_runV (As := [.int (nI 7)]) (rest := []) ⟨hx, hb, hml, hown, hw⟩ (cc_M_readSigned l D cJ cB q ta vb ba na nb cd tk fz fb n L by0 (po + 1) 1 7 _ hL hB (by decide) (by omega) (by decide) (by omega)) (cwV 1 hw (tb_V wi_629 wi_631 wi_19 wi_25 wi_632) rfl rfl rfl (by decide +kernel) ⟨Nat.le_of_ble_eq_true rfl, Nat.le_of_ble_eq_true rfl⟩) ⟨ct_blind, ct_recv hK hP (q0 := 0) (ci := 6) rfl rfl, ct_pc hZ hK hP hD hS hA [0, 1] rfl (by decide)⟩ rfl rfl hl.1 rfl (lv_room (Nat.le_of_ble_eq_true rfl)) dd_M_readTurn_25 ⟨Nat.le_of_ble_eq_true rfl, Nat.le_of_ble_eq_true rfl⟩) hK hP hD hS hA [0, 1] [] rfl rfl (by decide) (by decide) (fun r_25 u_25 H locs hw_25 hP hD hS => ?_)
      obtain ⟨p_25, w_25⟩ := u_25
      have hP : va_P D classes [(q, .inr (6, [.int cd, .ref ta, .ref vb, .int (nI n), .ref ba, .int (nI L.length), .int tk, .ref na, .ref nb, .int (nI p_25), .int (nI w_25), .int fz, .int fb])), (ba, .inl (cB, 400000, .inl by0))] _ := hP
      have hD : va_D A [(q, .inr (6, [.int cd, .ref ta, .ref vb, .int (nI n), .ref ba, .int (nI L.length), .int tk, .ref na, .ref nb, .int (nI p_25), .int (nI w_25), .int fz, .int fb])), (ba, .inl (cB, 400000, .inl by0))] := hD
      obtain ⟨hr_25, hu_25⟩ := hw_25.2 (fun k9 => absurd k9.1 (by decide))
      cases hu_25
      subst hr_25
      have hP : va_P D classes [(q, .inr (6, [.int cd, .ref ta, .ref vb, .int (nI n), .ref ba, .int (nI L.length), .int tk, .ref na, .ref nb, .int (nI (po + 1)), .int (nI 1), .int fz, .int fb])), (ba, .inl (cB, 400000, .inl by0))] _ := hP
      have hD : va_D A [(q, .inr (6, [.int cd, .ref ta, .ref vb, .int (nI n), .ref ba, .int (nI L.length), .int tk, .ref na, .ref nb, .int (nI (po + 1)), .int (nI 1), .int fz, .int fb])), (ba, .inl (cB, 400000, .inl by0))] := hD
      refine ct_lret (u := (po + 1, 1)) hx hb hr hlocks hK hP hD hS rfl ?_ dd_M_readTurn_28
      have e9 : cp_rt L po d = (none, po + 1) := rt_n (ck_s hc_2 c_7 (ck_n hc_14))
      refine ⟨fun q9 h => ?_, fun d9 q9 h => ?_⟩
      · rw [e9] at h
        cases h
        exact ⟨rfl, rfl⟩
      · rw [e9] at h
        cases h
    have c_7 : (lN (cp_n L po 1)) = 0 := (lg_cmp_eq _ _).mp c_7
    refine lv_lconst (v := 0) hx hb dd_M_readTurn_10 (by decide) ?_
    refine ct_lret (u := (po + 1, 0)) hx hb hr hlocks hK hP hD hS rfl ?_ dd_M_readTurn_11
    have e9 : cp_rt L po d = (some d, po + 1) := rt_0 (k := 0) (ck_0 hc_2 c_7) (Nat.le_refl 0)
    refine ⟨fun q9 h => ?_, fun d9 q9 h => ?_⟩
    · rw [e9] at h
      cases h
    · rw [e9] at h
      cases h
      exact ⟨Int64.add_zero d, rfl⟩
  obtain ⟨hr_2, hu_2⟩ := hw_2.2 (fun k9 => hc_2 k9.2)
  cases hu_2
  subst hr_2
  have hP : va_P D classes [(q, .inr (6, [.int cd, .ref ta, .ref vb, .int (nI n), .ref ba, .int (nI L.length), .int tk, .ref na, .ref nb, .int (nI po), .int (nI 1), .int fz, .int fb])), (ba, .inl (cB, 400000, .inl by0))] _ := hP
  have hD : va_D A [(q, .inr (6, [.int cd, .ref ta, .ref vb, .int (nI n), .ref ba, .int (nI L.length), .int tk, .ref na, .ref nb, .int (nI po), .int (nI 1), .int fz, .int fb])), (ba, .inl (cB, 400000, .inl by0))] := hD
  refine lv_lconst (v := 0) hx hb dd_M_readTurn_5 (by decide) ?_
  refine W.lcmp hx hb dd_M_readTurn_6 ?_
  refine lv_if_ne (tgt := 12) hx hb dd_M_readTurn_7 (by decide) (fun c_7 => ?_) (fun c_7 => ?_)
  · skip
    have c_7 : ¬ ((0 : Int64) = 0) := fun z => c_7 ((lg_cmp_eq _ _).mpr z)
    exfalso
    exact c_7 rfl
  have c_7 : (0 : Int64) = 0 := (lg_cmp_eq _ _).mp c_7
  refine lv_lconst (v := 0) hx hb dd_M_readTurn_10 (by decide) ?_
  refine ct_lret (u := (po, 1)) hx hb hr hlocks hK hP hD hS rfl ?_ dd_M_readTurn_11
  have e9 : cp_rt L po d = (none, po) := rt_n (ck_n hc_2)
  refine ⟨fun q9 h => ?_, fun d9 q9 h => ?_⟩
  · rw [e9] at h
    cases h
    exact ⟨rfl, rfl⟩
  · rw [e9] at h
    cases h

set_option maxHeartbeats 4000000 in
set_option maxRecDepth 100000 in
theorem cc_M_readValue (l : Launch) (D : va_G) (cJ cB : ClassId) (q ta vb ba na nb : Nat) (cd tk fz : Int32) (n : Nat) (L : List Bool) (by0 : Nat → Int32) (po : Nat) (t d v : Int64) (z y : Nat) (sz : Nat) (hL : L.length ≤ 400000) (hB : cp_Rb by0 L) (hpo : po ≤ L.length) (hzn : z + y ≤ 64) (hz : y ≠ 0 → fz = nI z) : ct_l l my_M_readValue (Cond.code my_M_readValue mb_M_readValue 3 (some .long) :: TB) ({ frames := 1, cells := 0, slots := 0, locals := 24 } : Room) D classes cJ cB [.ref q] [(q, .inr (6, [.int cd, .ref ta, .ref vb, .int (nI n), .ref ba, .int (nI L.length), .int tk, .ref na, .ref nb, .int (nI po), .int (nI 0), .int fz, .int (nI y)])), (ba, .inl (cB, 400000, .inl by0))] sz (fun (r : Int64) (u : Nat × Nat × Int32 × Int32) => u.1 = (cp_rv L po t d v z y).2.1 ∧ ((cp_rv L po t d v z y).1 = true → u.2.1 = 0 ∧ v ^^^ r = (cp_rv L po t d v z y).2.2.2.2.1 ∧ u.2.2.2 = nI (cp_rv L po t d v z y).2.2.2.2.2.2 ∧ ((cp_rv L po t d v z y).2.2.2.2.2.2 ≠ 0 → u.2.2.1 = nI (cp_rv L po t d v z y).2.2.2.2.2.1)) ∧ ((cp_rv L po t d v z y).1 = false → u.2.1 = 1)) (fun u => [(q, .inr (6, [.int cd, .ref ta, .ref vb, .int (nI n), .ref ba, .int (nI L.length), .int tk, .ref na, .ref nb, .int (nI u.1), .int (nI u.2.1), .int u.2.2.1, .int u.2.2.2])), (ba, .inl (cB, 400000, .inl by0))]) 0 0 := by
  refine ct_ofW (cc := mb_M_readValue) (maxL := 3) (ret := some .long) (by decide) rfl (Nat.le_of_ble_eq_true rfl) ?_
  intro p e s m below meth c hx hb hr hml hts hown hlocks hin hsz hK hP hD hA hS hZ ls hl
  have hw : ∀ w ∈ TB, w.before _ s = true := fun w h => hts w (List.mem_cons_of_mem _ h)
  have hown : s.vm.findClass cn_M = some m.cls := hown
  have hin : meth.name = "readValue" := hin
  generalize hAe : va_A [(q, .inr (6, [.int cd, .ref ta, .ref vb, .int (nI n), .ref ba, .int (nI L.length), .int tk, .ref na, .ref nb, .int (nI po), .int (nI 0), .int fz, .int (nI y)])), (ba, .inl (cB, 400000, .inl by0))] sz = A at hD hA hS hZ ⊢
  clear hAe
  have b5 : cp_n L (po + 1 + 1) 5 < 32 := cp_n_lt L _ 5
  have b6 : cp_n L (po + 1 + 1 + 5) 6 < 64 := cp_n_lt L _ 6
  have hl : lv_has ls 3 [(0, .ref q)] := hl
  have hP : va_P D classes [(q, .inr (6, [.int cd, .ref ta, .ref vb, .int (nI n), .ref ba, .int (nI L.length), .int tk, .ref na, .ref nb, .int (nI po), .int (nI 0), .int fz, .int (nI y)])), (ba, .inl (cB, 400000, .inl by0))] s.heap := hP
  refine lv_aload_n hx hb dd_M_readValue_0 rfl (lv_at hl 0 rfl) ?_
  refine lv_iconst (v := nI 1) hx hb dd_M_readValue_1 (by decide) ?_
  refine ct_behind_l (wc := [(q, .inr (6, [.int cd, .ref ta, .ref vb, .int (nI n), .ref ba, .int (nI L.length), .int tk, .ref na, .ref nb, .int (nI po), .int (nI 0), .int fz, .int (nI y)])), (ba, .inl (cB, 400000, .inl by0))]) (wr := []) (av := [.ref q, .int (nI 1)]) (va_runV (As := [.int (nI 1)]) (rest := []) ⟨hx, hb, hml, hown, hw⟩ (cc_M_read l D cJ cB q ta vb ba na nb cd tk fz (nI y) n L by0 po 0 1 _ hL hB (by decide) (by omega) (by omega)) (cwV 1 hw (tb_V wi_621 wi_623 wi_17 wi_25 wi_624) rfl rfl rfl (by decide +kernel) ⟨Nat.le_of_ble_eq_true rfl, Nat.le_of_ble_eq_true rfl⟩) ⟨ct_blind, ct_recv hK hP (q0 := 0) (ci := 6) rfl rfl, ct_pc hZ hK hP hD hS hA [0, 1] rfl (by decide)⟩ rfl rfl hl.1 rfl (lv_room (Nat.le_of_ble_eq_true rfl)) dd_M_readValue_2 ⟨Nat.le_of_ble_eq_true rfl, Nat.le_of_ble_eq_true rfl⟩) hK hP hD hS hA [0, 1] [] rfl rfl (by decide) (by decide) (fun r_2 u_2 H locs hw_2 hP hD hS => ?_)
  obtain ⟨p_2, w_2⟩ := u_2
  have hP : va_P D classes [(q, .inr (6, [.int cd, .ref ta, .ref vb, .int (nI n), .ref ba, .int (nI L.length), .int tk, .ref na, .ref nb, .int (nI p_2), .int (nI w_2), .int fz, .int (nI y)])), (ba, .inl (cB, 400000, .inl by0))] _ := hP
  have hD : va_D A [(q, .inr (6, [.int cd, .ref ta, .ref vb, .int (nI n), .ref ba, .int (nI L.length), .int tk, .ref na, .ref nb, .int (nI p_2), .int (nI w_2), .int fz, .int (nI y)])), (ba, .inl (cB, 400000, .inl by0))] := hD
  by_cases hc_2 : po + 1 ≤ L.length
  · skip
    obtain ⟨hr_2, hu_2⟩ := hw_2.1 ⟨rfl, hc_2⟩
    cases hu_2
    subst hr_2
    have hP : va_P D classes [(q, .inr (6, [.int cd, .ref ta, .ref vb, .int (nI n), .ref ba, .int (nI L.length), .int tk, .ref na, .ref nb, .int (nI (po + 1)), .int (nI 0), .int fz, .int (nI y)])), (ba, .inl (cB, 400000, .inl by0))] _ := hP
    have hD : va_D A [(q, .inr (6, [.int cd, .ref ta, .ref vb, .int (nI n), .ref ba, .int (nI L.length), .int tk, .ref na, .ref nb, .int (nI (po + 1)), .int (nI 0), .int fz, .int (nI y)])), (ba, .inl (cB, 400000, .inl by0))] := hD
    refine lv_lconst (v := 0) hx hb dd_M_readValue_5 (by decide) ?_
    refine W.lcmp hx hb dd_M_readValue_6 ?_
    refine lv_if_ne (tgt := 12) hx hb dd_M_readValue_7 (by decide) (fun c_7 => ?_) (fun c_7 => ?_)
    · skip
      have c_7 : ¬ ((lN (cp_n L po 1)) = 0) := fun z => c_7 ((lg_cmp_eq _ _).mpr z)
      refine lv_aload_n hx hb dd_M_readValue_12 rfl (lv_at hl 0 rfl) ?_
      refine lv_iconst (v := nI 1) hx hb dd_M_readValue_13 (by decide) ?_
      refine ct_behind_l (wc := [(q, .inr (6, [.int cd, .ref ta, .ref vb, .int (nI n), .ref ba, .int (nI L.length), .int tk, .ref na, .ref nb, .int (nI (po + 1)), .int (nI 0), .int fz, .int (nI y)])), (ba, .inl (cB, 400000, .inl by0))]) (wr := []) (av := [.ref q, .int (nI 1)]) (va_runV (As := [.int (nI 1)]) (rest := []) ⟨hx, hb, hml, hown, hw⟩ (cc_M_read l D cJ cB q ta vb ba na nb cd tk fz (nI y) n L by0 (po + 1) 0 1 _ hL hB (by decide) (by omega) (by omega)) (cwV 1 hw (tb_V wi_621 wi_623 wi_17 wi_25 wi_624) rfl rfl rfl (by decide +kernel) ⟨Nat.le_of_ble_eq_true rfl, Nat.le_of_ble_eq_true rfl⟩) ⟨ct_blind, ct_recv hK hP (q0 := 0) (ci := 6) rfl rfl, ct_pc hZ hK hP hD hS hA [0, 1] rfl (by decide)⟩ rfl rfl hl.1 rfl (lv_room (Nat.le_of_ble_eq_true rfl)) dd_M_readValue_14 ⟨Nat.le_of_ble_eq_true rfl, Nat.le_of_ble_eq_true rfl⟩) hK hP hD hS hA [0, 1] [] rfl rfl (by decide) (by decide) (fun r_14 u_14 H locs hw_14 hP hD hS => ?_)
      obtain ⟨p_14, w_14⟩ := u_14
      have hP : va_P D classes [(q, .inr (6, [.int cd, .ref ta, .ref vb, .int (nI n), .ref ba, .int (nI L.length), .int tk, .ref na, .ref nb, .int (nI p_14), .int (nI w_14), .int fz, .int (nI y)])), (ba, .inl (cB, 400000, .inl by0))] _ := hP
      have hD : va_D A [(q, .inr (6, [.int cd, .ref ta, .ref vb, .int (nI n), .ref ba, .int (nI L.length), .int tk, .ref na, .ref nb, .int (nI p_14), .int (nI w_14), .int fz, .int (nI y)])), (ba, .inl (cB, 400000, .inl by0))] := hD
      by_cases hc_14 : po + 1 + 1 ≤ L.length
      · skip
        obtain ⟨hr_14, hu_14⟩ := hw_14.1 ⟨rfl, hc_14⟩
        cases hu_14
        subst hr_14
        have hP : va_P D classes [(q, .inr (6, [.int cd, .ref ta, .ref vb, .int (nI n), .ref ba, .int (nI L.length), .int tk, .ref na, .ref nb, .int (nI (po + 1 + 1)), .int (nI 0), .int fz, .int (nI y)])), (ba, .inl (cB, 400000, .inl by0))] _ := hP
        have hD : va_D A [(q, .inr (6, [.int cd, .ref ta, .ref vb, .int (nI n), .ref ba, .int (nI L.length), .int tk, .ref na, .ref nb, .int (nI (po + 1 + 1)), .int (nI 0), .int fz, .int (nI y)])), (ba, .inl (cB, 400000, .inl by0))] := hD
        refine lv_lconst (v := 1) hx hb dd_M_readValue_17 (by decide) ?_
        refine W.lcmp hx hb dd_M_readValue_18 ?_
        refine lv_if_ne (tgt := 73) hx hb dd_M_readValue_19 (by decide) (fun c_19 => ?_) (fun c_19 => ?_)
        · skip
          have c_19 : ¬ ((lN (cp_n L (po + 1) 1)) = 1) := fun z => c_19 ((lg_cmp_eq _ _).mpr z)
          refine lv_aload_n hx hb dd_M_readValue_73 rfl (lv_at hl 0 rfl) ?_
          refine lv_aload_n hx hb dd_M_readValue_74 rfl (lv_at hl 0 rfl) ?_
          refine va_get (D := D) (ci := 6) (C := cn_M) (T := cf_M) (N := 13) hx hb hw in_M hown hK hP 0 rfl rfl 10 (by decide) (hw _ wi_547) (fun _ h9 => h9) rfl dd_M_readValue_75 ?_
          refine lv_if_ne (tgt := 88) hx hb dd_M_readValue_78 (by decide) (fun c_78 => ?_) (fun c_78 => ?_)
          · skip
            have c_78 : ¬ (0 = 0) := fun z => c_78 ((ct_zeq (by omega)).mpr z)
            exfalso
            omega
          have c_78 : 0 = 0 := (ct_zeq (by omega)).mp c_78
          refine lv_aload_n hx hb dd_M_readValue_81 rfl (lv_at hl 0 rfl) ?_
          refine va_get (D := D) (ci := 6) (C := cn_M) (T := cf_M) (N := 13) hx hb hw in_M hown hK hP 0 rfl rfl 12 (by decide) (hw _ wi_549) (fun _ h9 => h9) rfl dd_M_readValue_82 ?_
          refine lv_if_ne (tgt := 92) hx hb dd_M_readValue_85 (by decide) (fun c_85 => ?_) (fun c_85 => ?_)
          · skip
            have c_85 : ¬ (y = 0) := fun z => c_85 ((ct_zeq (by omega)).mpr z)
            refine lv_iconst (v := nI 0) hx hb dd_M_readValue_92 (by decide) ?_
            refine va_put (D := D) (ci := 6) (v := .int (nI 0)) (ty := .boolean) (C := cn_M) (T := cf_M) (N := 13) hx hb hw in_M ty_M to_M nn_M hown hK hP hD hS 0 rfl rfl 10 (by decide) (hw _ wi_547) (fun _ h9 => h9) rfl (by decide +kernel) (by decide) (by decide) (Nat.le_of_ble_eq_true rfl) dd_M_readValue_93 (fun H locs hP hD hS => ?_)
            have hP : va_P D classes [(q, .inr (6, [.int cd, .ref ta, .ref vb, .int (nI n), .ref ba, .int (nI L.length), .int tk, .ref na, .ref nb, .int (nI (po + 1 + 1)), .int (nI 0), .int fz, .int (nI y)])), (ba, .inl (cB, 400000, .inl by0))] _ := hP
            have hD : va_D A [(q, .inr (6, [.int cd, .ref ta, .ref vb, .int (nI n), .ref ba, .int (nI L.length), .int tk, .ref na, .ref nb, .int (nI (po + 1 + 1)), .int (nI 0), .int fz, .int (nI y)])), (ba, .inl (cB, 400000, .inl by0))] := hD
            refine lv_aload_n hx hb dd_M_readValue_96 rfl (lv_at hl 0 rfl) ?_
            refine va_get (D := D) (ci := 6) (C := cn_M) (T := cf_M) (N := 13) hx hb hw in_M hown hK hP 0 rfl rfl 10 (by decide) (hw _ wi_547) (fun _ h9 => h9) rfl dd_M_readValue_97 ?_
            refine lv_if_eq (tgt := 107) hx hb dd_M_readValue_100 (by decide) (fun c_100 => ?_) (fun c_100 => ?_)
            · skip
              have c_100 : 0 = 0 := (ct_zeq (by omega)).mp c_100
              refine lv_aload_n hx hb dd_M_readValue_107 rfl (lv_at hl 0 rfl) ?_
              refine lv_aload_n hx hb dd_M_readValue_108 rfl (lv_at hl 0 rfl) ?_
              refine va_get (D := D) (ci := 6) (C := cn_M) (T := cf_M) (N := 13) hx hb hw in_M hown hK hP 0 rfl rfl 12 (by decide) (hw _ wi_549) (fun _ h9 => h9) rfl dd_M_readValue_109 ?_
              refine ct_behind_l (wc := [(q, .inr (6, [.int cd, .ref ta, .ref vb, .int (nI n), .ref ba, .int (nI L.length), .int tk, .ref na, .ref nb, .int (nI (po + 1 + 1)), .int (nI 0), .int fz, .int (nI y)])), (ba, .inl (cB, 400000, .inl by0))]) (wr := []) (av := [.ref q, .int (nI y)]) (va_runV (As := [.int (nI y)]) (rest := []) ⟨hx, hb, hml, hown, hw⟩ (cc_M_read l D cJ cB q ta vb ba na nb cd tk fz (nI y) n L by0 (po + 1 + 1) 0 y _ hL hB (by decide) (by omega) (by omega)) (cwV 1 hw (tb_V wi_621 wi_623 wi_17 wi_25 wi_624) rfl rfl rfl (by decide +kernel) ⟨Nat.le_of_ble_eq_true rfl, Nat.le_of_ble_eq_true rfl⟩) ⟨ct_blind, ct_recv hK hP (q0 := 0) (ci := 6) rfl rfl, ct_pc hZ hK hP hD hS hA [0, 1] rfl (by decide)⟩ rfl rfl hl.1 rfl (lv_room (Nat.le_of_ble_eq_true rfl)) dd_M_readValue_112 ⟨Nat.le_of_ble_eq_true rfl, Nat.le_of_ble_eq_true rfl⟩) hK hP hD hS hA [0, 1] [] rfl rfl (by decide) (by decide) (fun r_112 u_112 H locs hw_112 hP hD hS => ?_)
              obtain ⟨p_112, w_112⟩ := u_112
              have hP : va_P D classes [(q, .inr (6, [.int cd, .ref ta, .ref vb, .int (nI n), .ref ba, .int (nI L.length), .int tk, .ref na, .ref nb, .int (nI p_112), .int (nI w_112), .int fz, .int (nI y)])), (ba, .inl (cB, 400000, .inl by0))] _ := hP
              have hD : va_D A [(q, .inr (6, [.int cd, .ref ta, .ref vb, .int (nI n), .ref ba, .int (nI L.length), .int tk, .ref na, .ref nb, .int (nI p_112), .int (nI w_112), .int fz, .int (nI y)])), (ba, .inl (cB, 400000, .inl by0))] := hD
              by_cases hc_112 : po + 1 + 1 + y ≤ L.length
              · skip
                obtain ⟨hr_112, hu_112⟩ := hw_112.1 ⟨rfl, hc_112⟩
                cases hu_112
                subst hr_112
                have hP : va_P D classes [(q, .inr (6, [.int cd, .ref ta, .ref vb, .int (nI n), .ref ba, .int (nI L.length), .int tk, .ref na, .ref nb, .int (nI (po + 1 + 1 + y)), .int (nI 0), .int fz, .int (nI y)])), (ba, .inl (cB, 400000, .inl by0))] _ := hP
                have hD : va_D A [(q, .inr (6, [.int cd, .ref ta, .ref vb, .int (nI n), .ref ba, .int (nI L.length), .int tk, .ref na, .ref nb, .int (nI (po + 1 + 1 + y)), .int (nI 0), .int fz, .int (nI y)])), (ba, .inl (cB, 400000, .inl by0))] := hD
                refine lv_bipush (v := nI 64) hx hb dd_M_readValue_115 (by decide) ?_
                refine lv_aload_n hx hb dd_M_readValue_117 rfl (lv_at hl 0 rfl) ?_
                refine va_get (D := D) (ci := 6) (C := cn_M) (T := cf_M) (N := 13) hx hb hw in_M hown hK hP 0 rfl rfl 11 (by decide) (hw _ wi_548) (fun _ h9 => h9) rfl dd_M_readValue_118 ?_
                refine ct_topi (y := nI z) (hz (by omega)) ?_
                refine lv_isub hx hb dd_M_readValue_121 ?_
                refine ct_topi (y := nI (64 - z)) (pk_sub (by omega)) ?_
                refine lv_aload_n hx hb dd_M_readValue_122 rfl (lv_at hl 0 rfl) ?_
                refine va_get (D := D) (ci := 6) (C := cn_M) (T := cf_M) (N := 13) hx hb hw in_M hown hK hP 0 rfl rfl 12 (by decide) (hw _ wi_549) (fun _ h9 => h9) rfl dd_M_readValue_123 ?_
                refine lv_isub hx hb dd_M_readValue_126 ?_
                refine ct_topi (y := nI (64 - z - y)) (pk_sub (by omega)) ?_
                refine lv_lshl (v := (lN (cp_n L (po + 1 + 1) y)) <<< ((nI (64 - z - y)).toInt64 &&& 63)) hx hb dd_M_readValue_127 rfl ?_
                refine ct_lret (u := (po + 1 + 1 + y, 0, fz, nI y)) hx hb hr hlocks hK hP hD hS rfl ?_ dd_M_readValue_128
                have e9 : cp_rv L po t d v z y = _ := (rv_4 hc_2 c_7 hc_14 (mu_10 c_19) (by omega)).trans (rd_ok hc_112)
                rw [e9]
                exact ⟨rfl, fun _ => ⟨rfl, rfl, rfl, hz⟩, fun k => absurd k.symm Bool.false_ne_true⟩
              obtain ⟨hr_112, hu_112⟩ := hw_112.2 (fun k9 => hc_112 k9.2)
              cases hu_112
              subst hr_112
              have hP : va_P D classes [(q, .inr (6, [.int cd, .ref ta, .ref vb, .int (nI n), .ref ba, .int (nI L.length), .int tk, .ref na, .ref nb, .int (nI (po + 1 + 1)), .int (nI 1), .int fz, .int (nI y)])), (ba, .inl (cB, 400000, .inl by0))] _ := hP
              have hD : va_D A [(q, .inr (6, [.int cd, .ref ta, .ref vb, .int (nI n), .ref ba, .int (nI L.length), .int tk, .ref na, .ref nb, .int (nI (po + 1 + 1)), .int (nI 1), .int fz, .int (nI y)])), (ba, .inl (cB, 400000, .inl by0))] := hD
              refine lv_bipush (v := nI 64) hx hb dd_M_readValue_115 (by decide) ?_
              refine lv_aload_n hx hb dd_M_readValue_117 rfl (lv_at hl 0 rfl) ?_
              refine va_get (D := D) (ci := 6) (C := cn_M) (T := cf_M) (N := 13) hx hb hw in_M hown hK hP 0 rfl rfl 11 (by decide) (hw _ wi_548) (fun _ h9 => h9) rfl dd_M_readValue_118 ?_
              refine ct_topi (y := nI z) (hz (by omega)) ?_
              refine lv_isub hx hb dd_M_readValue_121 ?_
              refine ct_topi (y := nI (64 - z)) (pk_sub (by omega)) ?_
              refine lv_aload_n hx hb dd_M_readValue_122 rfl (lv_at hl 0 rfl) ?_
              refine va_get (D := D) (ci := 6) (C := cn_M) (T := cf_M) (N := 13) hx hb hw in_M hown hK hP 0 rfl rfl 12 (by decide) (hw _ wi_549) (fun _ h9 => h9) rfl dd_M_readValue_123 ?_
              refine lv_isub hx hb dd_M_readValue_126 ?_
              refine ct_topi (y := nI (64 - z - y)) (pk_sub (by omega)) ?_
              refine lv_lshl (v := (0 : Int64) <<< ((nI (64 - z - y)).toInt64 &&& 63)) hx hb dd_M_readValue_127 rfl ?_
              refine ct_lret (u := (po + 1 + 1, 1, fz, nI y)) hx hb hr hlocks hK hP hD hS rfl ?_ dd_M_readValue_128
              have e9 : cp_rv L po t d v z y = _ := (rv_4 hc_2 c_7 hc_14 (mu_10 c_19) (by omega)).trans (rd_no hc_112)
              rw [e9]
              exact ⟨rfl, fun k => absurd k Bool.false_ne_true, fun _ => rfl⟩
            have c_100 : ¬ (0 = 0) := fun z => c_100 ((ct_zeq (by omega)).mpr z)
            exfalso
            omega
          have c_85 : y = 0 := (ct_zeq (by omega)).mp c_85
          refine lv_iconst (v := nI 1) hx hb dd_M_readValue_88 (by decide) ?_
          refine lv_goto (tgt := 93) hx hb dd_M_readValue_89 (by decide) ?_
          refine va_put (D := D) (ci := 6) (v := .int (nI 1)) (ty := .boolean) (C := cn_M) (T := cf_M) (N := 13) hx hb hw in_M ty_M to_M nn_M hown hK hP hD hS 0 rfl rfl 10 (by decide) (hw _ wi_547) (fun _ h9 => h9) rfl (by decide +kernel) (by decide) (by decide) (Nat.le_of_ble_eq_true rfl) dd_M_readValue_93 (fun H locs hP hD hS => ?_)
          have hP : va_P D classes [(q, .inr (6, [.int cd, .ref ta, .ref vb, .int (nI n), .ref ba, .int (nI L.length), .int tk, .ref na, .ref nb, .int (nI (po + 1 + 1)), .int (nI 1), .int fz, .int (nI y)])), (ba, .inl (cB, 400000, .inl by0))] _ := hP
          have hD : va_D A [(q, .inr (6, [.int cd, .ref ta, .ref vb, .int (nI n), .ref ba, .int (nI L.length), .int tk, .ref na, .ref nb, .int (nI (po + 1 + 1)), .int (nI 1), .int fz, .int (nI y)])), (ba, .inl (cB, 400000, .inl by0))] := hD
          refine lv_aload_n hx hb dd_M_readValue_96 rfl (lv_at hl 0 rfl) ?_
          refine va_get (D := D) (ci := 6) (C := cn_M) (T := cf_M) (N := 13) hx hb hw in_M hown hK hP 0 rfl rfl 10 (by decide) (hw _ wi_547) (fun _ h9 => h9) rfl dd_M_readValue_97 ?_
          refine lv_if_eq (tgt := 107) hx hb dd_M_readValue_100 (by decide) (fun c_100 => ?_) (fun c_100 => ?_)
          · skip
            have c_100 : 1 = 0 := (ct_zeq (by omega)).mp c_100
            exfalso
            omega
          have c_100 : ¬ (1 = 0) := fun z => c_100 ((ct_zeq (by omega)).mpr z)
          refine lv_lconst (v := 0) hx hb dd_M_readValue_103 (by decide) ?_
          refine lv_goto (tgt := 128) hx hb dd_M_readValue_104 (by decide) ?_
          refine ct_lret (u := (po + 1 + 1, 1, fz, nI y)) hx hb hr hlocks hK hP hD hS rfl ?_ dd_M_readValue_128
          have e9 : cp_rv L po t d v z y = _ := rv_3 hc_2 c_7 hc_14 (mu_10 c_19) (by omega)
          rw [e9]
          exact ⟨rfl, fun k => absurd k Bool.false_ne_true, fun _ => rfl⟩
        have c_19 : (lN (cp_n L (po + 1) 1)) = 1 := (lg_cmp_eq _ _).mp c_19
        refine lv_aload_n hx hb dd_M_readValue_22 rfl (lv_at hl 0 rfl) ?_
        refine lv_iconst (v := nI 5) hx hb dd_M_readValue_23 (by decide) ?_
        refine ct_behind_l (wc := [(q, .inr (6, [.int cd, .ref ta, .ref vb, .int (nI n), .ref ba, .int (nI L.length), .int tk, .ref na, .ref nb, .int (nI (po + 1 + 1)), .int (nI 0), .int fz, .int (nI y)])), (ba, .inl (cB, 400000, .inl by0))]) (wr := []) (av := [.ref q, .int (nI 5)]) (va_runV (As := [.int (nI 5)]) (rest := []) ⟨hx, hb, hml, hown, hw⟩ (cc_M_read l D cJ cB q ta vb ba na nb cd tk fz (nI y) n L by0 (po + 1 + 1) 0 5 _ hL hB (by decide) (by omega) (by omega)) (cwV 1 hw (tb_V wi_621 wi_623 wi_17 wi_25 wi_624) rfl rfl rfl (by decide +kernel) ⟨Nat.le_of_ble_eq_true rfl, Nat.le_of_ble_eq_true rfl⟩) ⟨ct_blind, ct_recv hK hP (q0 := 0) (ci := 6) rfl rfl, ct_pc hZ hK hP hD hS hA [0, 1] rfl (by decide)⟩ rfl rfl hl.1 rfl (lv_room (Nat.le_of_ble_eq_true rfl)) dd_M_readValue_24 ⟨Nat.le_of_ble_eq_true rfl, Nat.le_of_ble_eq_true rfl⟩) hK hP hD hS hA [0, 1] [] rfl rfl (by decide) (by decide) (fun r_24 u_24 H locs hw_24 hP hD hS => ?_)
        obtain ⟨p_24, w_24⟩ := u_24
        have hP : va_P D classes [(q, .inr (6, [.int cd, .ref ta, .ref vb, .int (nI n), .ref ba, .int (nI L.length), .int tk, .ref na, .ref nb, .int (nI p_24), .int (nI w_24), .int fz, .int (nI y)])), (ba, .inl (cB, 400000, .inl by0))] _ := hP
        have hD : va_D A [(q, .inr (6, [.int cd, .ref ta, .ref vb, .int (nI n), .ref ba, .int (nI L.length), .int tk, .ref na, .ref nb, .int (nI p_24), .int (nI w_24), .int fz, .int (nI y)])), (ba, .inl (cB, 400000, .inl by0))] := hD
        by_cases hc_24 : po + 1 + 1 + 5 ≤ L.length
        · skip
          obtain ⟨hr_24, hu_24⟩ := hw_24.1 ⟨rfl, hc_24⟩
          cases hu_24
          subst hr_24
          have hP : va_P D classes [(q, .inr (6, [.int cd, .ref ta, .ref vb, .int (nI n), .ref ba, .int (nI L.length), .int tk, .ref na, .ref nb, .int (nI (po + 1 + 1 + 5)), .int (nI 0), .int fz, .int (nI y)])), (ba, .inl (cB, 400000, .inl by0))] _ := hP
          have hD : va_D A [(q, .inr (6, [.int cd, .ref ta, .ref vb, .int (nI n), .ref ba, .int (nI L.length), .int tk, .ref na, .ref nb, .int (nI (po + 1 + 1 + 5)), .int (nI 0), .int fz, .int (nI y)])), (ba, .inl (cB, 400000, .inl by0))] := hD
          refine lv_l2i (v := (lN (cp_n L (po + 1 + 1) 5)).toInt32) hx hb dd_M_readValue_27 rfl ?_
          refine ct_topi (y := nI (cp_n L (po + 1 + 1) 5)) (lN_i _) ?_
          refine lv_istore_n (lv' := [(1, .int (nI (cp_n L (po + 1 + 1) 5))), (0, .ref q)]) hx hb dd_M_readValue_28 rfl hl (by decide) rfl (fun ls hl => ?_)
          refine lv_aload_n hx hb dd_M_readValue_29 rfl (lv_at hl 1 rfl) ?_
          refine lv_bipush (v := nI 6) hx hb dd_M_readValue_30 (by decide) ?_
          refine ct_behind_l (wc := [(q, .inr (6, [.int cd, .ref ta, .ref vb, .int (nI n), .ref ba, .int (nI L.length), .int tk, .ref na, .ref nb, .int (nI (po + 1 + 1 + 5)), .int (nI 0), .int fz, .int (nI y)])), (ba, .inl (cB, 400000, .inl by0))]) (wr := []) (av := [.ref q, .int (nI 6)]) (va_runV (As := [.int (nI 6)]) (rest := []) ⟨hx, hb, hml, hown, hw⟩ (cc_M_read l D cJ cB q ta vb ba na nb cd tk fz (nI y) n L by0 (po + 1 + 1 + 5) 0 6 _ hL hB (by decide) (by omega) (by omega)) (cwV 1 hw (tb_V wi_621 wi_623 wi_17 wi_25 wi_624) rfl rfl rfl (by decide +kernel) ⟨Nat.le_of_ble_eq_true rfl, Nat.le_of_ble_eq_true rfl⟩) ⟨ct_blind, ct_recv hK hP (q0 := 0) (ci := 6) rfl rfl, ct_pc hZ hK hP hD hS hA [0, 1] rfl (by decide)⟩ rfl rfl hl.1 rfl (lv_room (Nat.le_of_ble_eq_true rfl)) dd_M_readValue_32 ⟨Nat.le_of_ble_eq_true rfl, Nat.le_of_ble_eq_true rfl⟩) hK hP hD hS hA [0, 1] [] rfl rfl (by decide) (by decide) (fun r_32 u_32 H locs hw_32 hP hD hS => ?_)
          obtain ⟨p_32, w_32⟩ := u_32
          have hP : va_P D classes [(q, .inr (6, [.int cd, .ref ta, .ref vb, .int (nI n), .ref ba, .int (nI L.length), .int tk, .ref na, .ref nb, .int (nI p_32), .int (nI w_32), .int fz, .int (nI y)])), (ba, .inl (cB, 400000, .inl by0))] _ := hP
          have hD : va_D A [(q, .inr (6, [.int cd, .ref ta, .ref vb, .int (nI n), .ref ba, .int (nI L.length), .int tk, .ref na, .ref nb, .int (nI p_32), .int (nI w_32), .int fz, .int (nI y)])), (ba, .inl (cB, 400000, .inl by0))] := hD
          by_cases hc_32 : po + 1 + 1 + 5 + 6 ≤ L.length
          · skip
            obtain ⟨hr_32, hu_32⟩ := hw_32.1 ⟨rfl, hc_32⟩
            cases hu_32
            subst hr_32
            have hP : va_P D classes [(q, .inr (6, [.int cd, .ref ta, .ref vb, .int (nI n), .ref ba, .int (nI L.length), .int tk, .ref na, .ref nb, .int (nI (po + 1 + 1 + 5 + 6)), .int (nI 0), .int fz, .int (nI y)])), (ba, .inl (cB, 400000, .inl by0))] _ := hP
            have hD : va_D A [(q, .inr (6, [.int cd, .ref ta, .ref vb, .int (nI n), .ref ba, .int (nI L.length), .int tk, .ref na, .ref nb, .int (nI (po + 1 + 1 + 5 + 6)), .int (nI 0), .int fz, .int (nI y)])), (ba, .inl (cB, 400000, .inl by0))] := hD
            refine lv_l2i (v := (lN (cp_n L (po + 1 + 1 + 5) 6)).toInt32) hx hb dd_M_readValue_35 rfl ?_
            refine ct_topi (y := nI (cp_n L (po + 1 + 1 + 5) 6)) (lN_i _) ?_
            refine lv_iconst (v := nI 1) hx hb dd_M_readValue_36 (by decide) ?_
            refine lv_iadd hx hb dd_M_readValue_37 ?_
            refine ct_topi (y := nI (cp_n L (po + 1 + 1 + 5) 6 + 1)) (nI_add _ _) ?_
            refine lv_istore_n (lv' := [(2, .int (nI (cp_n L (po + 1 + 1 + 5) 6 + 1))), (1, .int (nI (cp_n L (po + 1 + 1) 5))), (0, .ref q)]) hx hb dd_M_readValue_38 rfl hl (by decide) rfl (fun ls hl => ?_)
            refine lv_aload_n hx hb dd_M_readValue_39 rfl (lv_at hl 2 rfl) ?_
            refine lv_aload_n hx hb dd_M_readValue_40 rfl (lv_at hl 2 rfl) ?_
            refine va_get (D := D) (ci := 6) (C := cn_M) (T := cf_M) (N := 13) hx hb hw in_M hown hK hP 0 rfl rfl 10 (by decide) (hw _ wi_547) (fun _ h9 => h9) rfl dd_M_readValue_41 ?_
            refine lv_if_ne (tgt := 55) hx hb dd_M_readValue_44 (by decide) (fun c_44 => ?_) (fun c_44 => ?_)
            · skip
              have c_44 : ¬ (0 = 0) := fun z => c_44 ((ct_zeq (by omega)).mpr z)
              exfalso
              omega
            have c_44 : 0 = 0 := (ct_zeq (by omega)).mp c_44
            refine lv_iload_n hx hb dd_M_readValue_47 rfl (lv_at hl 1 rfl) ?_
            refine lv_iload_n hx hb dd_M_readValue_48 rfl (lv_at hl 0 rfl) ?_
            refine lv_iadd hx hb dd_M_readValue_49 ?_
            refine ct_topi (y := nI (cp_n L (po + 1 + 1) 5 + (cp_n L (po + 1 + 1 + 5) 6 + 1))) (nI_add _ _) ?_
            refine lv_bipush (v := nI 64) hx hb dd_M_readValue_50 (by decide) ?_
            refine lv_icmp_le (tgt := 59) hx hb dd_M_readValue_52 (by decide) (fun c_52 => ?_) (fun c_52 => ?_)
            · skip
              have c_52 : (cp_n L (po + 1 + 1) 5 + (cp_n L (po + 1 + 1 + 5) 6 + 1)) ≤ 64 := (nI_leI (by omega) (by omega)).mp c_52
              refine lv_iconst (v := nI 0) hx hb dd_M_readValue_59 (by decide) ?_
              refine va_put (D := D) (ci := 6) (v := .int (nI 0)) (ty := .boolean) (C := cn_M) (T := cf_M) (N := 13) hx hb hw in_M ty_M to_M nn_M hown hK hP hD hS 0 rfl rfl 10 (by decide) (hw _ wi_547) (fun _ h9 => h9) rfl (by decide +kernel) (by decide) (by decide) (Nat.le_of_ble_eq_true rfl) dd_M_readValue_60 (fun H locs hP hD hS => ?_)
              have hP : va_P D classes [(q, .inr (6, [.int cd, .ref ta, .ref vb, .int (nI n), .ref ba, .int (nI L.length), .int tk, .ref na, .ref nb, .int (nI (po + 1 + 1 + 5 + 6)), .int (nI 0), .int fz, .int (nI y)])), (ba, .inl (cB, 400000, .inl by0))] _ := hP
              have hD : va_D A [(q, .inr (6, [.int cd, .ref ta, .ref vb, .int (nI n), .ref ba, .int (nI L.length), .int tk, .ref na, .ref nb, .int (nI (po + 1 + 1 + 5 + 6)), .int (nI 0), .int fz, .int (nI y)])), (ba, .inl (cB, 400000, .inl by0))] := hD
              refine lv_aload_n hx hb dd_M_readValue_63 rfl (lv_at hl 2 rfl) ?_
              refine lv_iload_n hx hb dd_M_readValue_64 rfl (lv_at hl 1 rfl) ?_
              refine va_put (D := D) (ci := 6) (v := .int (nI (cp_n L (po + 1 + 1) 5))) (ty := .int) (C := cn_M) (T := cf_M) (N := 13) hx hb hw in_M ty_M to_M nn_M hown hK hP hD hS 0 rfl rfl 11 (by decide) (hw _ wi_548) (fun _ h9 => h9) rfl (by decide +kernel) (rfl) (rfl) (Nat.le_of_ble_eq_true rfl) dd_M_readValue_65 (fun H locs hP hD hS => ?_)
              have hP : va_P D classes [(q, .inr (6, [.int cd, .ref ta, .ref vb, .int (nI n), .ref ba, .int (nI L.length), .int tk, .ref na, .ref nb, .int (nI (po + 1 + 1 + 5 + 6)), .int (nI 0), .int (nI (cp_n L (po + 1 + 1) 5)), .int (nI y)])), (ba, .inl (cB, 400000, .inl by0))] _ := hP
              have hD : va_D A [(q, .inr (6, [.int cd, .ref ta, .ref vb, .int (nI n), .ref ba, .int (nI L.length), .int tk, .ref na, .ref nb, .int (nI (po + 1 + 1 + 5 + 6)), .int (nI 0), .int (nI (cp_n L (po + 1 + 1) 5)), .int (nI y)])), (ba, .inl (cB, 400000, .inl by0))] := hD
              refine lv_aload_n hx hb dd_M_readValue_68 rfl (lv_at hl 2 rfl) ?_
              refine lv_iload_n hx hb dd_M_readValue_69 rfl (lv_at hl 0 rfl) ?_
              refine va_put (D := D) (ci := 6) (v := .int (nI (cp_n L (po + 1 + 1 + 5) 6 + 1))) (ty := .int) (C := cn_M) (T := cf_M) (N := 13) hx hb hw in_M ty_M to_M nn_M hown hK hP hD hS 0 rfl rfl 12 (by decide) (hw _ wi_549) (fun _ h9 => h9) rfl (by decide +kernel) (rfl) (rfl) (Nat.le_of_ble_eq_true rfl) dd_M_readValue_70 (fun H locs hP hD hS => ?_)
              have hP : va_P D classes [(q, .inr (6, [.int cd, .ref ta, .ref vb, .int (nI n), .ref ba, .int (nI L.length), .int tk, .ref na, .ref nb, .int (nI (po + 1 + 1 + 5 + 6)), .int (nI 0), .int (nI (cp_n L (po + 1 + 1) 5)), .int (nI (cp_n L (po + 1 + 1 + 5) 6 + 1))])), (ba, .inl (cB, 400000, .inl by0))] _ := hP
              have hD : va_D A [(q, .inr (6, [.int cd, .ref ta, .ref vb, .int (nI n), .ref ba, .int (nI L.length), .int tk, .ref na, .ref nb, .int (nI (po + 1 + 1 + 5 + 6)), .int (nI 0), .int (nI (cp_n L (po + 1 + 1) 5)), .int (nI (cp_n L (po + 1 + 1 + 5) 6 + 1))])), (ba, .inl (cB, 400000, .inl by0))] := hD
              refine lv_aload_n hx hb dd_M_readValue_73 rfl (lv_at hl 2 rfl) ?_
              refine lv_aload_n hx hb dd_M_readValue_74 rfl (lv_at hl 2 rfl) ?_
              refine va_get (D := D) (ci := 6) (C := cn_M) (T := cf_M) (N := 13) hx hb hw in_M hown hK hP 0 rfl rfl 10 (by decide) (hw _ wi_547) (fun _ h9 => h9) rfl dd_M_readValue_75 ?_
              refine lv_if_ne (tgt := 88) hx hb dd_M_readValue_78 (by decide) (fun c_78 => ?_) (fun c_78 => ?_)
              · skip
                have c_78 : ¬ (0 = 0) := fun z => c_78 ((ct_zeq (by omega)).mpr z)
                exfalso
                omega
              have c_78 : 0 = 0 := (ct_zeq (by omega)).mp c_78
              refine lv_aload_n hx hb dd_M_readValue_81 rfl (lv_at hl 2 rfl) ?_
              refine va_get (D := D) (ci := 6) (C := cn_M) (T := cf_M) (N := 13) hx hb hw in_M hown hK hP 0 rfl rfl 12 (by decide) (hw _ wi_549) (fun _ h9 => h9) rfl dd_M_readValue_82 ?_
              refine lv_if_ne (tgt := 92) hx hb dd_M_readValue_85 (by decide) (fun c_85 => ?_) (fun c_85 => ?_)
              · skip
                have c_85 : ¬ ((cp_n L (po + 1 + 1 + 5) 6 + 1) = 0) := fun z => c_85 ((ct_zeq (by omega)).mpr z)
                refine lv_iconst (v := nI 0) hx hb dd_M_readValue_92 (by decide) ?_
                refine va_put (D := D) (ci := 6) (v := .int (nI 0)) (ty := .boolean) (C := cn_M) (T := cf_M) (N := 13) hx hb hw in_M ty_M to_M nn_M hown hK hP hD hS 0 rfl rfl 10 (by decide) (hw _ wi_547) (fun _ h9 => h9) rfl (by decide +kernel) (by decide) (by decide) (Nat.le_of_ble_eq_true rfl) dd_M_readValue_93 (fun H locs hP hD hS => ?_)
                have hP : va_P D classes [(q, .inr (6, [.int cd, .ref ta, .ref vb, .int (nI n), .ref ba, .int (nI L.length), .int tk, .ref na, .ref nb, .int (nI (po + 1 + 1 + 5 + 6)), .int (nI 0), .int (nI (cp_n L (po + 1 + 1) 5)), .int (nI (cp_n L (po + 1 + 1 + 5) 6 + 1))])), (ba, .inl (cB, 400000, .inl by0))] _ := hP
                have hD : va_D A [(q, .inr (6, [.int cd, .ref ta, .ref vb, .int (nI n), .ref ba, .int (nI L.length), .int tk, .ref na, .ref nb, .int (nI (po + 1 + 1 + 5 + 6)), .int (nI 0), .int (nI (cp_n L (po + 1 + 1) 5)), .int (nI (cp_n L (po + 1 + 1 + 5) 6 + 1))])), (ba, .inl (cB, 400000, .inl by0))] := hD
                refine lv_aload_n hx hb dd_M_readValue_96 rfl (lv_at hl 2 rfl) ?_
                refine va_get (D := D) (ci := 6) (C := cn_M) (T := cf_M) (N := 13) hx hb hw in_M hown hK hP 0 rfl rfl 10 (by decide) (hw _ wi_547) (fun _ h9 => h9) rfl dd_M_readValue_97 ?_
                refine lv_if_eq (tgt := 107) hx hb dd_M_readValue_100 (by decide) (fun c_100 => ?_) (fun c_100 => ?_)
                · skip
                  have c_100 : 0 = 0 := (ct_zeq (by omega)).mp c_100
                  refine lv_aload_n hx hb dd_M_readValue_107 rfl (lv_at hl 2 rfl) ?_
                  refine lv_aload_n hx hb dd_M_readValue_108 rfl (lv_at hl 2 rfl) ?_
                  refine va_get (D := D) (ci := 6) (C := cn_M) (T := cf_M) (N := 13) hx hb hw in_M hown hK hP 0 rfl rfl 12 (by decide) (hw _ wi_549) (fun _ h9 => h9) rfl dd_M_readValue_109 ?_
                  refine ct_behind_l (wc := [(q, .inr (6, [.int cd, .ref ta, .ref vb, .int (nI n), .ref ba, .int (nI L.length), .int tk, .ref na, .ref nb, .int (nI (po + 1 + 1 + 5 + 6)), .int (nI 0), .int (nI (cp_n L (po + 1 + 1) 5)), .int (nI (cp_n L (po + 1 + 1 + 5) 6 + 1))])), (ba, .inl (cB, 400000, .inl by0))]) (wr := []) (av := [.ref q, .int (nI (cp_n L (po + 1 + 1 + 5) 6 + 1))]) (va_runV (As := [.int (nI (cp_n L (po + 1 + 1 + 5) 6 + 1))]) (rest := []) ⟨hx, hb, hml, hown, hw⟩ (cc_M_read l D cJ cB q ta vb ba na nb cd tk (nI (cp_n L (po + 1 + 1) 5)) (nI (cp_n L (po + 1 + 1 + 5) 6 + 1)) n L by0 (po + 1 + 1 + 5 + 6) 0 (cp_n L (po + 1 + 1 + 5) 6 + 1) _ hL hB (by decide) (by omega) (by omega)) (cwV 1 hw (tb_V wi_621 wi_623 wi_17 wi_25 wi_624) rfl rfl rfl (by decide +kernel) ⟨Nat.le_of_ble_eq_true rfl, Nat.le_of_ble_eq_true rfl⟩) ⟨ct_blind, ct_recv hK hP (q0 := 0) (ci := 6) rfl rfl, ct_pc hZ hK hP hD hS hA [0, 1] rfl (by decide)⟩ rfl rfl hl.1 rfl (lv_room (Nat.le_of_ble_eq_true rfl)) dd_M_readValue_112 ⟨Nat.le_of_ble_eq_true rfl, Nat.le_of_ble_eq_true rfl⟩) hK hP hD hS hA [0, 1] [] rfl rfl (by decide) (by decide) (fun r_112 u_112 H locs hw_112 hP hD hS => ?_)
                  obtain ⟨p_112, w_112⟩ := u_112
                  have hP : va_P D classes [(q, .inr (6, [.int cd, .ref ta, .ref vb, .int (nI n), .ref ba, .int (nI L.length), .int tk, .ref na, .ref nb, .int (nI p_112), .int (nI w_112), .int (nI (cp_n L (po + 1 + 1) 5)), .int (nI (cp_n L (po + 1 + 1 + 5) 6 + 1))])), (ba, .inl (cB, 400000, .inl by0))] _ := hP
                  have hD : va_D A [(q, .inr (6, [.int cd, .ref ta, .ref vb, .int (nI n), .ref ba, .int (nI L.length), .int tk, .ref na, .ref nb, .int (nI p_112), .int (nI w_112), .int (nI (cp_n L (po + 1 + 1) 5)), .int (nI (cp_n L (po + 1 + 1 + 5) 6 + 1))])), (ba, .inl (cB, 400000, .inl by0))] := hD
                  by_cases hc_112 : po + 1 + 1 + 5 + 6 + (cp_n L (po + 1 + 1 + 5) 6 + 1) ≤ L.length
                  · skip
                    obtain ⟨hr_112, hu_112⟩ := hw_112.1 ⟨rfl, hc_112⟩
                    cases hu_112
                    subst hr_112
                    have hP : va_P D classes [(q, .inr (6, [.int cd, .ref ta, .ref vb, .int (nI n), .ref ba, .int (nI L.length), .int tk, .ref na, .ref nb, .int (nI (po + 1 + 1 + 5 + 6 + (cp_n L (po + 1 + 1 + 5) 6 + 1))), .int (nI 0), .int (nI (cp_n L (po + 1 + 1) 5)), .int (nI (cp_n L (po + 1 + 1 + 5) 6 + 1))])), (ba, .inl (cB, 400000, .inl by0))] _ := hP
                    have hD : va_D A [(q, .inr (6, [.int cd, .ref ta, .ref vb, .int (nI n), .ref ba, .int (nI L.length), .int tk, .ref na, .ref nb, .int (nI (po + 1 + 1 + 5 + 6 + (cp_n L (po + 1 + 1 + 5) 6 + 1))), .int (nI 0), .int (nI (cp_n L (po + 1 + 1) 5)), .int (nI (cp_n L (po + 1 + 1 + 5) 6 + 1))])), (ba, .inl (cB, 400000, .inl by0))] := hD
                    refine lv_bipush (v := nI 64) hx hb dd_M_readValue_115 (by decide) ?_
                    refine lv_aload_n hx hb dd_M_readValue_117 rfl (lv_at hl 2 rfl) ?_
                    refine va_get (D := D) (ci := 6) (C := cn_M) (T := cf_M) (N := 13) hx hb hw in_M hown hK hP 0 rfl rfl 11 (by decide) (hw _ wi_548) (fun _ h9 => h9) rfl dd_M_readValue_118 ?_
                    refine lv_isub hx hb dd_M_readValue_121 ?_
                    refine ct_topi (y := nI (64 - (cp_n L (po + 1 + 1) 5))) (pk_sub (by omega)) ?_
                    refine lv_aload_n hx hb dd_M_readValue_122 rfl (lv_at hl 2 rfl) ?_
                    refine va_get (D := D) (ci := 6) (C := cn_M) (T := cf_M) (N := 13) hx hb hw in_M hown hK hP 0 rfl rfl 12 (by decide) (hw _ wi_549) (fun _ h9 => h9) rfl dd_M_readValue_123 ?_
                    refine lv_isub hx hb dd_M_readValue_126 ?_
                    refine ct_topi (y := nI (64 - (cp_n L (po + 1 + 1) 5) - (cp_n L (po + 1 + 1 + 5) 6 + 1))) (pk_sub (by omega)) ?_
                    refine lv_lshl (v := (lN (cp_n L (po + 1 + 1 + 5 + 6) (cp_n L (po + 1 + 1 + 5) 6 + 1))) <<< ((nI (64 - (cp_n L (po + 1 + 1) 5) - (cp_n L (po + 1 + 1 + 5) 6 + 1))).toInt64 &&& 63)) hx hb dd_M_readValue_127 rfl ?_
                    refine ct_lret (u := (po + 1 + 1 + 5 + 6 + (cp_n L (po + 1 + 1 + 5) 6 + 1), 0, nI (cp_n L (po + 1 + 1) 5), nI (cp_n L (po + 1 + 1 + 5) 6 + 1))) hx hb hr hlocks hK hP hD hS rfl ?_ dd_M_readValue_128
                    have ef : cp_rf L (po + 1 + 1) = (true, po + 1 + 1 + 5 + 6) := by unfold cp_rf; rw [if_pos hc_24, if_pos hc_32, decide_eq_true c_52]
                    have e9 : cp_rv L po t d v z y = _ := (rv_5 hc_2 c_7 hc_14 (mu_11 c_19) (by rw [ef])).trans (rd_ok hc_112)
                    rw [e9]
                    exact ⟨rfl, fun _ => ⟨rfl, rfl, rfl, fun _ => rfl⟩, fun k => absurd k.symm Bool.false_ne_true⟩
                  obtain ⟨hr_112, hu_112⟩ := hw_112.2 (fun k9 => hc_112 k9.2)
                  cases hu_112
                  subst hr_112
                  have hP : va_P D classes [(q, .inr (6, [.int cd, .ref ta, .ref vb, .int (nI n), .ref ba, .int (nI L.length), .int tk, .ref na, .ref nb, .int (nI (po + 1 + 1 + 5 + 6)), .int (nI 1), .int (nI (cp_n L (po + 1 + 1) 5)), .int (nI (cp_n L (po + 1 + 1 + 5) 6 + 1))])), (ba, .inl (cB, 400000, .inl by0))] _ := hP
                  have hD : va_D A [(q, .inr (6, [.int cd, .ref ta, .ref vb, .int (nI n), .ref ba, .int (nI L.length), .int tk, .ref na, .ref nb, .int (nI (po + 1 + 1 + 5 + 6)), .int (nI 1), .int (nI (cp_n L (po + 1 + 1) 5)), .int (nI (cp_n L (po + 1 + 1 + 5) 6 + 1))])), (ba, .inl (cB, 400000, .inl by0))] := hD
                  refine lv_bipush (v := nI 64) hx hb dd_M_readValue_115 (by decide) ?_
                  refine lv_aload_n hx hb dd_M_readValue_117 rfl (lv_at hl 2 rfl) ?_
                  refine va_get (D := D) (ci := 6) (C := cn_M) (T := cf_M) (N := 13) hx hb hw in_M hown hK hP 0 rfl rfl 11 (by decide) (hw _ wi_548) (fun _ h9 => h9) rfl dd_M_readValue_118 ?_
                  refine lv_isub hx hb dd_M_readValue_121 ?_
                  refine ct_topi (y := nI (64 - (cp_n L (po + 1 + 1) 5))) (pk_sub (by omega)) ?_
                  refine lv_aload_n hx hb dd_M_readValue_122 rfl (lv_at hl 2 rfl) ?_
                  refine va_get (D := D) (ci := 6) (C := cn_M) (T := cf_M) (N := 13) hx hb hw in_M hown hK hP 0 rfl rfl 12 (by decide) (hw _ wi_549) (fun _ h9 => h9) rfl dd_M_readValue_123 ?_
                  refine lv_isub hx hb dd_M_readValue_126 ?_
                  refine ct_topi (y := nI (64 - (cp_n L (po + 1 + 1) 5) - (cp_n L (po + 1 + 1 + 5) 6 + 1))) (pk_sub (by omega)) ?_
                  refine lv_lshl (v := (0 : Int64) <<< ((nI (64 - (cp_n L (po + 1 + 1) 5) - (cp_n L (po + 1 + 1 + 5) 6 + 1))).toInt64 &&& 63)) hx hb dd_M_readValue_127 rfl ?_
                  refine ct_lret (u := (po + 1 + 1 + 5 + 6, 1, nI (cp_n L (po + 1 + 1) 5), nI (cp_n L (po + 1 + 1 + 5) 6 + 1))) hx hb hr hlocks hK hP hD hS rfl ?_ dd_M_readValue_128
                  have ef : cp_rf L (po + 1 + 1) = (true, po + 1 + 1 + 5 + 6) := by unfold cp_rf; rw [if_pos hc_24, if_pos hc_32, decide_eq_true c_52]
                  have e9 : cp_rv L po t d v z y = _ := (rv_5 hc_2 c_7 hc_14 (mu_11 c_19) (by rw [ef])).trans (rd_no hc_112)
                  rw [e9]
                  exact ⟨rfl, fun k => absurd k Bool.false_ne_true, fun _ => rfl⟩
                have c_100 : ¬ (0 = 0) := fun z => c_100 ((ct_zeq (by omega)).mpr z)
                exfalso
                omega
              have c_85 : (cp_n L (po + 1 + 1 + 5) 6 + 1) = 0 := (ct_zeq (by omega)).mp c_85
              exfalso
              omega
            have c_52 : ¬ ((cp_n L (po + 1 + 1) 5 + (cp_n L (po + 1 + 1 + 5) 6 + 1)) ≤ 64) := fun z => c_52 ((nI_leI (by omega) (by omega)).mpr z)
            refine lv_iconst (v := nI 1) hx hb dd_M_readValue_55 (by decide) ?_
            refine lv_goto (tgt := 60) hx hb dd_M_readValue_56 (by decide) ?_
            refine va_put (D := D) (ci := 6) (v := .int (nI 1)) (ty := .boolean) (C := cn_M) (T := cf_M) (N := 13) hx hb hw in_M ty_M to_M nn_M hown hK hP hD hS 0 rfl rfl 10 (by decide) (hw _ wi_547) (fun _ h9 => h9) rfl (by decide +kernel) (by decide) (by decide) (Nat.le_of_ble_eq_true rfl) dd_M_readValue_60 (fun H locs hP hD hS => ?_)
            have hP : va_P D classes [(q, .inr (6, [.int cd, .ref ta, .ref vb, .int (nI n), .ref ba, .int (nI L.length), .int tk, .ref na, .ref nb, .int (nI (po + 1 + 1 + 5 + 6)), .int (nI 1), .int fz, .int (nI y)])), (ba, .inl (cB, 400000, .inl by0))] _ := hP
            have hD : va_D A [(q, .inr (6, [.int cd, .ref ta, .ref vb, .int (nI n), .ref ba, .int (nI L.length), .int tk, .ref na, .ref nb, .int (nI (po + 1 + 1 + 5 + 6)), .int (nI 1), .int fz, .int (nI y)])), (ba, .inl (cB, 400000, .inl by0))] := hD
            refine lv_aload_n hx hb dd_M_readValue_63 rfl (lv_at hl 2 rfl) ?_
            refine lv_iload_n hx hb dd_M_readValue_64 rfl (lv_at hl 1 rfl) ?_
            refine va_put (D := D) (ci := 6) (v := .int (nI (cp_n L (po + 1 + 1) 5))) (ty := .int) (C := cn_M) (T := cf_M) (N := 13) hx hb hw in_M ty_M to_M nn_M hown hK hP hD hS 0 rfl rfl 11 (by decide) (hw _ wi_548) (fun _ h9 => h9) rfl (by decide +kernel) (rfl) (rfl) (Nat.le_of_ble_eq_true rfl) dd_M_readValue_65 (fun H locs hP hD hS => ?_)
            have hP : va_P D classes [(q, .inr (6, [.int cd, .ref ta, .ref vb, .int (nI n), .ref ba, .int (nI L.length), .int tk, .ref na, .ref nb, .int (nI (po + 1 + 1 + 5 + 6)), .int (nI 1), .int (nI (cp_n L (po + 1 + 1) 5)), .int (nI y)])), (ba, .inl (cB, 400000, .inl by0))] _ := hP
            have hD : va_D A [(q, .inr (6, [.int cd, .ref ta, .ref vb, .int (nI n), .ref ba, .int (nI L.length), .int tk, .ref na, .ref nb, .int (nI (po + 1 + 1 + 5 + 6)), .int (nI 1), .int (nI (cp_n L (po + 1 + 1) 5)), .int (nI y)])), (ba, .inl (cB, 400000, .inl by0))] := hD
            refine lv_aload_n hx hb dd_M_readValue_68 rfl (lv_at hl 2 rfl) ?_
            refine lv_iload_n hx hb dd_M_readValue_69 rfl (lv_at hl 0 rfl) ?_
            refine va_put (D := D) (ci := 6) (v := .int (nI (cp_n L (po + 1 + 1 + 5) 6 + 1))) (ty := .int) (C := cn_M) (T := cf_M) (N := 13) hx hb hw in_M ty_M to_M nn_M hown hK hP hD hS 0 rfl rfl 12 (by decide) (hw _ wi_549) (fun _ h9 => h9) rfl (by decide +kernel) (rfl) (rfl) (Nat.le_of_ble_eq_true rfl) dd_M_readValue_70 (fun H locs hP hD hS => ?_)
            have hP : va_P D classes [(q, .inr (6, [.int cd, .ref ta, .ref vb, .int (nI n), .ref ba, .int (nI L.length), .int tk, .ref na, .ref nb, .int (nI (po + 1 + 1 + 5 + 6)), .int (nI 1), .int (nI (cp_n L (po + 1 + 1) 5)), .int (nI (cp_n L (po + 1 + 1 + 5) 6 + 1))])), (ba, .inl (cB, 400000, .inl by0))] _ := hP
            have hD : va_D A [(q, .inr (6, [.int cd, .ref ta, .ref vb, .int (nI n), .ref ba, .int (nI L.length), .int tk, .ref na, .ref nb, .int (nI (po + 1 + 1 + 5 + 6)), .int (nI 1), .int (nI (cp_n L (po + 1 + 1) 5)), .int (nI (cp_n L (po + 1 + 1 + 5) 6 + 1))])), (ba, .inl (cB, 400000, .inl by0))] := hD
            refine lv_aload_n hx hb dd_M_readValue_73 rfl (lv_at hl 2 rfl) ?_
            refine lv_aload_n hx hb dd_M_readValue_74 rfl (lv_at hl 2 rfl) ?_
            refine va_get (D := D) (ci := 6) (C := cn_M) (T := cf_M) (N := 13) hx hb hw in_M hown hK hP 0 rfl rfl 10 (by decide) (hw _ wi_547) (fun _ h9 => h9) rfl dd_M_readValue_75 ?_
            refine lv_if_ne (tgt := 88) hx hb dd_M_readValue_78 (by decide) (fun c_78 => ?_) (fun c_78 => ?_)
            · skip
              have c_78 : ¬ (1 = 0) := fun z => c_78 ((ct_zeq (by omega)).mpr z)
              refine lv_iconst (v := nI 1) hx hb dd_M_readValue_88 (by decide) ?_
              refine lv_goto (tgt := 93) hx hb dd_M_readValue_89 (by decide) ?_
              refine va_put (D := D) (ci := 6) (v := .int (nI 1)) (ty := .boolean) (C := cn_M) (T := cf_M) (N := 13) hx hb hw in_M ty_M to_M nn_M hown hK hP hD hS 0 rfl rfl 10 (by decide) (hw _ wi_547) (fun _ h9 => h9) rfl (by decide +kernel) (by decide) (by decide) (Nat.le_of_ble_eq_true rfl) dd_M_readValue_93 (fun H locs hP hD hS => ?_)
              have hP : va_P D classes [(q, .inr (6, [.int cd, .ref ta, .ref vb, .int (nI n), .ref ba, .int (nI L.length), .int tk, .ref na, .ref nb, .int (nI (po + 1 + 1 + 5 + 6)), .int (nI 1), .int (nI (cp_n L (po + 1 + 1) 5)), .int (nI (cp_n L (po + 1 + 1 + 5) 6 + 1))])), (ba, .inl (cB, 400000, .inl by0))] _ := hP
              have hD : va_D A [(q, .inr (6, [.int cd, .ref ta, .ref vb, .int (nI n), .ref ba, .int (nI L.length), .int tk, .ref na, .ref nb, .int (nI (po + 1 + 1 + 5 + 6)), .int (nI 1), .int (nI (cp_n L (po + 1 + 1) 5)), .int (nI (cp_n L (po + 1 + 1 + 5) 6 + 1))])), (ba, .inl (cB, 400000, .inl by0))] := hD
              refine lv_aload_n hx hb dd_M_readValue_96 rfl (lv_at hl 2 rfl) ?_
              refine va_get (D := D) (ci := 6) (C := cn_M) (T := cf_M) (N := 13) hx hb hw in_M hown hK hP 0 rfl rfl 10 (by decide) (hw _ wi_547) (fun _ h9 => h9) rfl dd_M_readValue_97 ?_
              refine lv_if_eq (tgt := 107) hx hb dd_M_readValue_100 (by decide) (fun c_100 => ?_) (fun c_100 => ?_)
              · skip
                have c_100 : 1 = 0 := (ct_zeq (by omega)).mp c_100
                exfalso
                omega
              have c_100 : ¬ (1 = 0) := fun z => c_100 ((ct_zeq (by omega)).mpr z)
              refine lv_lconst (v := 0) hx hb dd_M_readValue_103 (by decide) ?_
              refine lv_goto (tgt := 128) hx hb dd_M_readValue_104 (by decide) ?_
              refine ct_lret (u := (po + 1 + 1 + 5 + 6, 1, nI (cp_n L (po + 1 + 1) 5), nI (cp_n L (po + 1 + 1 + 5) 6 + 1))) hx hb hr hlocks hK hP hD hS rfl ?_ dd_M_readValue_128
              have ef : cp_rf L (po + 1 + 1) = (false, po + 1 + 1 + 5 + 6) := by unfold cp_rf; rw [if_pos hc_24, if_pos hc_32, decide_eq_false c_52]
              have e9 : cp_rv L po t d v z y = (false, po + 1 + 1 + 5 + 6, t, d, v, z, y) := (rv_6 hc_2 c_7 hc_14 (mu_11 c_19) (by rw [ef]; exact Bool.false_ne_true)).trans (by rw [ef])
              rw [e9]
              exact ⟨rfl, fun k => absurd k Bool.false_ne_true, fun _ => rfl⟩
            have c_78 : 1 = 0 := (ct_zeq (by omega)).mp c_78
            exfalso
            omega
          obtain ⟨hr_32, hu_32⟩ := hw_32.2 (fun k9 => hc_32 k9.2)
          cases hu_32
          subst hr_32
          have hP : va_P D classes [(q, .inr (6, [.int cd, .ref ta, .ref vb, .int (nI n), .ref ba, .int (nI L.length), .int tk, .ref na, .ref nb, .int (nI (po + 1 + 1 + 5)), .int (nI 1), .int fz, .int (nI y)])), (ba, .inl (cB, 400000, .inl by0))] _ := hP
          have hD : va_D A [(q, .inr (6, [.int cd, .ref ta, .ref vb, .int (nI n), .ref ba, .int (nI L.length), .int tk, .ref na, .ref nb, .int (nI (po + 1 + 1 + 5)), .int (nI 1), .int fz, .int (nI y)])), (ba, .inl (cB, 400000, .inl by0))] := hD
          refine lv_l2i (v := (0 : Int64).toInt32) hx hb dd_M_readValue_35 rfl ?_
          refine ct_topi (y := nI 0) (rfl) ?_
          refine lv_iconst (v := nI 1) hx hb dd_M_readValue_36 (by decide) ?_
          refine lv_iadd hx hb dd_M_readValue_37 ?_
          refine ct_topi (y := nI (1)) (nI_add _ _) ?_
          refine lv_istore_n (lv' := [(2, .int (nI 1)), (1, .int (nI (cp_n L (po + 1 + 1) 5))), (0, .ref q)]) hx hb dd_M_readValue_38 rfl hl (by decide) rfl (fun ls hl => ?_)
          refine lv_aload_n hx hb dd_M_readValue_39 rfl (lv_at hl 2 rfl) ?_
          refine lv_aload_n hx hb dd_M_readValue_40 rfl (lv_at hl 2 rfl) ?_
          refine va_get (D := D) (ci := 6) (C := cn_M) (T := cf_M) (N := 13) hx hb hw in_M hown hK hP 0 rfl rfl 10 (by decide) (hw _ wi_547) (fun _ h9 => h9) rfl dd_M_readValue_41 ?_
          refine lv_if_ne (tgt := 55) hx hb dd_M_readValue_44 (by decide) (fun c_44 => ?_) (fun c_44 => ?_)
          · skip
            have c_44 : ¬ (1 = 0) := fun z => c_44 ((ct_zeq (by omega)).mpr z)
            refine lv_iconst (v := nI 1) hx hb dd_M_readValue_55 (by decide) ?_
            refine lv_goto (tgt := 60) hx hb dd_M_readValue_56 (by decide) ?_
            refine va_put (D := D) (ci := 6) (v := .int (nI 1)) (ty := .boolean) (C := cn_M) (T := cf_M) (N := 13) hx hb hw in_M ty_M to_M nn_M hown hK hP hD hS 0 rfl rfl 10 (by decide) (hw _ wi_547) (fun _ h9 => h9) rfl (by decide +kernel) (by decide) (by decide) (Nat.le_of_ble_eq_true rfl) dd_M_readValue_60 (fun H locs hP hD hS => ?_)
            have hP : va_P D classes [(q, .inr (6, [.int cd, .ref ta, .ref vb, .int (nI n), .ref ba, .int (nI L.length), .int tk, .ref na, .ref nb, .int (nI (po + 1 + 1 + 5)), .int (nI 1), .int fz, .int (nI y)])), (ba, .inl (cB, 400000, .inl by0))] _ := hP
            have hD : va_D A [(q, .inr (6, [.int cd, .ref ta, .ref vb, .int (nI n), .ref ba, .int (nI L.length), .int tk, .ref na, .ref nb, .int (nI (po + 1 + 1 + 5)), .int (nI 1), .int fz, .int (nI y)])), (ba, .inl (cB, 400000, .inl by0))] := hD
            refine lv_aload_n hx hb dd_M_readValue_63 rfl (lv_at hl 2 rfl) ?_
            refine lv_iload_n hx hb dd_M_readValue_64 rfl (lv_at hl 1 rfl) ?_
            refine va_put (D := D) (ci := 6) (v := .int (nI (cp_n L (po + 1 + 1) 5))) (ty := .int) (C := cn_M) (T := cf_M) (N := 13) hx hb hw in_M ty_M to_M nn_M hown hK hP hD hS 0 rfl rfl 11 (by decide) (hw _ wi_548) (fun _ h9 => h9) rfl (by decide +kernel) (rfl) (rfl) (Nat.le_of_ble_eq_true rfl) dd_M_readValue_65 (fun H locs hP hD hS => ?_)
            have hP : va_P D classes [(q, .inr (6, [.int cd, .ref ta, .ref vb, .int (nI n), .ref ba, .int (nI L.length), .int tk, .ref na, .ref nb, .int (nI (po + 1 + 1 + 5)), .int (nI 1), .int (nI (cp_n L (po + 1 + 1) 5)), .int (nI y)])), (ba, .inl (cB, 400000, .inl by0))] _ := hP
            have hD : va_D A [(q, .inr (6, [.int cd, .ref ta, .ref vb, .int (nI n), .ref ba, .int (nI L.length), .int tk, .ref na, .ref nb, .int (nI (po + 1 + 1 + 5)), .int (nI 1), .int (nI (cp_n L (po + 1 + 1) 5)), .int (nI y)])), (ba, .inl (cB, 400000, .inl by0))] := hD
            refine lv_aload_n hx hb dd_M_readValue_68 rfl (lv_at hl 2 rfl) ?_
            refine lv_iload_n hx hb dd_M_readValue_69 rfl (lv_at hl 0 rfl) ?_
            refine va_put (D := D) (ci := 6) (v := .int (nI 1)) (ty := .int) (C := cn_M) (T := cf_M) (N := 13) hx hb hw in_M ty_M to_M nn_M hown hK hP hD hS 0 rfl rfl 12 (by decide) (hw _ wi_549) (fun _ h9 => h9) rfl (by decide +kernel) (rfl) (rfl) (Nat.le_of_ble_eq_true rfl) dd_M_readValue_70 (fun H locs hP hD hS => ?_)
            have hP : va_P D classes [(q, .inr (6, [.int cd, .ref ta, .ref vb, .int (nI n), .ref ba, .int (nI L.length), .int tk, .ref na, .ref nb, .int (nI (po + 1 + 1 + 5)), .int (nI 1), .int (nI (cp_n L (po + 1 + 1) 5)), .int (nI 1)])), (ba, .inl (cB, 400000, .inl by0))] _ := hP
            have hD : va_D A [(q, .inr (6, [.int cd, .ref ta, .ref vb, .int (nI n), .ref ba, .int (nI L.length), .int tk, .ref na, .ref nb, .int (nI (po + 1 + 1 + 5)), .int (nI 1), .int (nI (cp_n L (po + 1 + 1) 5)), .int (nI 1)])), (ba, .inl (cB, 400000, .inl by0))] := hD
            refine lv_aload_n hx hb dd_M_readValue_73 rfl (lv_at hl 2 rfl) ?_
            refine lv_aload_n hx hb dd_M_readValue_74 rfl (lv_at hl 2 rfl) ?_
            refine va_get (D := D) (ci := 6) (C := cn_M) (T := cf_M) (N := 13) hx hb hw in_M hown hK hP 0 rfl rfl 10 (by decide) (hw _ wi_547) (fun _ h9 => h9) rfl dd_M_readValue_75 ?_
            refine lv_if_ne (tgt := 88) hx hb dd_M_readValue_78 (by decide) (fun c_78 => ?_) (fun c_78 => ?_)
            · skip
              have c_78 : ¬ (1 = 0) := fun z => c_78 ((ct_zeq (by omega)).mpr z)
              refine lv_iconst (v := nI 1) hx hb dd_M_readValue_88 (by decide) ?_
              refine lv_goto (tgt := 93) hx hb dd_M_readValue_89 (by decide) ?_
              refine va_put (D := D) (ci := 6) (v := .int (nI 1)) (ty := .boolean) (C := cn_M) (T := cf_M) (N := 13) hx hb hw in_M ty_M to_M nn_M hown hK hP hD hS 0 rfl rfl 10 (by decide) (hw _ wi_547) (fun _ h9 => h9) rfl (by decide +kernel) (by decide) (by decide) (Nat.le_of_ble_eq_true rfl) dd_M_readValue_93 (fun H locs hP hD hS => ?_)
              have hP : va_P D classes [(q, .inr (6, [.int cd, .ref ta, .ref vb, .int (nI n), .ref ba, .int (nI L.length), .int tk, .ref na, .ref nb, .int (nI (po + 1 + 1 + 5)), .int (nI 1), .int (nI (cp_n L (po + 1 + 1) 5)), .int (nI 1)])), (ba, .inl (cB, 400000, .inl by0))] _ := hP
              have hD : va_D A [(q, .inr (6, [.int cd, .ref ta, .ref vb, .int (nI n), .ref ba, .int (nI L.length), .int tk, .ref na, .ref nb, .int (nI (po + 1 + 1 + 5)), .int (nI 1), .int (nI (cp_n L (po + 1 + 1) 5)), .int (nI 1)])), (ba, .inl (cB, 400000, .inl by0))] := hD
              refine lv_aload_n hx hb dd_M_readValue_96 rfl (lv_at hl 2 rfl) ?_
              refine va_get (D := D) (ci := 6) (C := cn_M) (T := cf_M) (N := 13) hx hb hw in_M hown hK hP 0 rfl rfl 10 (by decide) (hw _ wi_547) (fun _ h9 => h9) rfl dd_M_readValue_97 ?_
              refine lv_if_eq (tgt := 107) hx hb dd_M_readValue_100 (by decide) (fun c_100 => ?_) (fun c_100 => ?_)
              · skip
                have c_100 : 1 = 0 := (ct_zeq (by omega)).mp c_100
                exfalso
                omega
              have c_100 : ¬ (1 = 0) := fun z => c_100 ((ct_zeq (by omega)).mpr z)
              refine lv_lconst (v := 0) hx hb dd_M_readValue_103 (by decide) ?_
              refine lv_goto (tgt := 128) hx hb dd_M_readValue_104 (by decide) ?_
              refine ct_lret (u := (po + 1 + 1 + 5, 1, nI (cp_n L (po + 1 + 1) 5), nI 1)) hx hb hr hlocks hK hP hD hS rfl ?_ dd_M_readValue_128
              have ef : cp_rf L (po + 1 + 1) = (false, po + 1 + 1 + 5) := by unfold cp_rf; rw [if_pos hc_24, if_neg hc_32]
              have e9 : cp_rv L po t d v z y = (false, po + 1 + 1 + 5, t, d, v, z, y) := (rv_6 hc_2 c_7 hc_14 (mu_11 c_19) (by rw [ef]; exact Bool.false_ne_true)).trans (by rw [ef])
              rw [e9]
              exact ⟨rfl, fun k => absurd k Bool.false_ne_true, fun _ => rfl⟩
            have c_78 : 1 = 0 := (ct_zeq (by omega)).mp c_78
            exfalso
            omega
          have c_44 : 1 = 0 := (ct_zeq (by omega)).mp c_44
          exfalso
          omega
        obtain ⟨hr_24, hu_24⟩ := hw_24.2 (fun k9 => hc_24 k9.2)
        cases hu_24
        subst hr_24
        have hP : va_P D classes [(q, .inr (6, [.int cd, .ref ta, .ref vb, .int (nI n), .ref ba, .int (nI L.length), .int tk, .ref na, .ref nb, .int (nI (po + 1 + 1)), .int (nI 1), .int fz, .int (nI y)])), (ba, .inl (cB, 400000, .inl by0))] _ := hP
        have hD : va_D A [(q, .inr (6, [.int cd, .ref ta, .ref vb, .int (nI n), .ref ba, .int (nI L.length), .int tk, .ref na, .ref nb, .int (nI (po + 1 + 1)), .int (nI 1), .int fz, .int (nI y)])), (ba, .inl (cB, 400000, .inl by0))] := hD
        refine lv_l2i (v := (0 : Int64).toInt32) hx hb dd_M_readValue_27 rfl ?_
        refine ct_topi (y := nI 0) (rfl) ?_
        refine lv_istore_n (lv' := [(1, .int (nI 0)), (0, .ref q)]) hx hb dd_M_readValue_28 rfl hl (by decide) rfl (fun ls hl => ?_)
        refine lv_aload_n hx hb dd_M_readValue_29 rfl (lv_at hl 1 rfl) ?_
        refine lv_bipush (v := nI 6) hx hb dd_M_readValue_30 (by decide) ?_
        refine ct_behind_l (wc := [(q, .inr (6, [.int cd, .ref ta, .ref vb, .int (nI n), .ref ba, .int (nI L.length), .int tk, .ref na, .ref nb, .int (nI (po + 1 + 1)), .int (nI 1), .int fz, .int (nI y)])), (ba, .inl (cB, 400000, .inl by0))]) (wr := []) (av := [.ref q, .int (nI 6)]) (va_runV (As := [.int (nI 6)]) (rest := []) ⟨hx, hb, hml, hown, hw⟩ (cc_M_read l D cJ cB q ta vb ba na nb cd tk fz (nI y) n L by0 (po + 1 + 1) 1 6 _ hL hB (by decide) (by omega) (by omega)) (cwV 1 hw (tb_V wi_621 wi_623 wi_17 wi_25 wi_624) rfl rfl rfl (by decide +kernel) ⟨Nat.le_of_ble_eq_true rfl, Nat.le_of_ble_eq_true rfl⟩) ⟨ct_blind, ct_recv hK hP (q0 := 0) (ci := 6) rfl rfl, ct_pc hZ hK hP hD hS hA [0, 1] rfl (by decide)⟩ rfl rfl hl.1 rfl (lv_room (Nat.le_of_ble_eq_true rfl)) dd_M_readValue_32 ⟨Nat.le_of_ble_eq_true rfl, Nat.le_of_ble_eq_true rfl⟩) hK hP hD hS hA [0, 1] [] rfl rfl (by decide) (by decide) (fun r_32 u_32 H locs hw_32 hP hD hS => ?_)
        obtain ⟨p_32, w_32⟩ := u_32
        have hP : va_P D classes [(q, .inr (6, [.int cd, .ref ta, .ref vb, .int (nI n), .ref ba, .int (nI L.length), .int tk, .ref na, .ref nb, .int (nI p_32), .int (nI w_32), .int fz, .int (nI y)])), (ba, .inl (cB, 400000, .inl by0))] _ := hP
        have hD : va_D A [(q, .inr (6, [.int cd, .ref ta, .ref vb, .int (nI n), .ref ba, .int (nI L.length), .int tk, .ref na, .ref nb, .int (nI p_32), .int (nI w_32), .int fz, .int (nI y)])), (ba, .inl (cB, 400000, .inl by0))] := hD
        obtain ⟨hr_32, hu_32⟩ := hw_32.2 (fun k9 => absurd k9.1 (by decide))
        cases hu_32
        subst hr_32
        have hP : va_P D classes [(q, .inr (6, [.int cd, .ref ta, .ref vb, .int (nI n), .ref ba, .int (nI L.length), .int tk, .ref na, .ref nb, .int (nI (po + 1 + 1)), .int (nI 1), .int fz, .int (nI y)])), (ba, .inl (cB, 400000, .inl by0))] _ := hP
        have hD : va_D A [(q, .inr (6, [.int cd, .ref ta, .ref vb, .int (nI n), .ref ba, .int (nI L.length), .int tk, .ref na, .ref nb, .int (nI (po + 1 + 1)), .int (nI 1), .int fz, .int (nI y)])), (ba, .inl (cB, 400000, .inl by0))] := hD
        refine lv_l2i (v := (0 : Int64).toInt32) hx hb dd_M_readValue_35 rfl ?_
        refine ct_topi (y := nI 0) (rfl) ?_
        refine lv_iconst (v := nI 1) hx hb dd_M_readValue_36 (by decide) ?_
        refine lv_iadd hx hb dd_M_readValue_37 ?_
        refine ct_topi (y := nI (1)) (nI_add _ _) ?_
        refine lv_istore_n (lv' := [(2, .int (nI 1)), (1, .int (nI 0)), (0, .ref q)]) hx hb dd_M_readValue_38 rfl hl (by decide) rfl (fun ls hl => ?_)
        refine lv_aload_n hx hb dd_M_readValue_39 rfl (lv_at hl 2 rfl) ?_
        refine lv_aload_n hx hb dd_M_readValue_40 rfl (lv_at hl 2 rfl) ?_
        refine va_get (D := D) (ci := 6) (C := cn_M) (T := cf_M) (N := 13) hx hb hw in_M hown hK hP 0 rfl rfl 10 (by decide) (hw _ wi_547) (fun _ h9 => h9) rfl dd_M_readValue_41 ?_
        refine lv_if_ne (tgt := 55) hx hb dd_M_readValue_44 (by decide) (fun c_44 => ?_) (fun c_44 => ?_)
        · skip
          have c_44 : ¬ (1 = 0) := fun z => c_44 ((ct_zeq (by omega)).mpr z)
          refine lv_iconst (v := nI 1) hx hb dd_M_readValue_55 (by decide) ?_
          refine lv_goto (tgt := 60) hx hb dd_M_readValue_56 (by decide) ?_
          refine va_put (D := D) (ci := 6) (v := .int (nI 1)) (ty := .boolean) (C := cn_M) (T := cf_M) (N := 13) hx hb hw in_M ty_M to_M nn_M hown hK hP hD hS 0 rfl rfl 10 (by decide) (hw _ wi_547) (fun _ h9 => h9) rfl (by decide +kernel) (by decide) (by decide) (Nat.le_of_ble_eq_true rfl) dd_M_readValue_60 (fun H locs hP hD hS => ?_)
          have hP : va_P D classes [(q, .inr (6, [.int cd, .ref ta, .ref vb, .int (nI n), .ref ba, .int (nI L.length), .int tk, .ref na, .ref nb, .int (nI (po + 1 + 1)), .int (nI 1), .int fz, .int (nI y)])), (ba, .inl (cB, 400000, .inl by0))] _ := hP
          have hD : va_D A [(q, .inr (6, [.int cd, .ref ta, .ref vb, .int (nI n), .ref ba, .int (nI L.length), .int tk, .ref na, .ref nb, .int (nI (po + 1 + 1)), .int (nI 1), .int fz, .int (nI y)])), (ba, .inl (cB, 400000, .inl by0))] := hD
          refine lv_aload_n hx hb dd_M_readValue_63 rfl (lv_at hl 2 rfl) ?_
          refine lv_iload_n hx hb dd_M_readValue_64 rfl (lv_at hl 1 rfl) ?_
          refine va_put (D := D) (ci := 6) (v := .int (nI 0)) (ty := .int) (C := cn_M) (T := cf_M) (N := 13) hx hb hw in_M ty_M to_M nn_M hown hK hP hD hS 0 rfl rfl 11 (by decide) (hw _ wi_548) (fun _ h9 => h9) rfl (by decide +kernel) (rfl) (rfl) (Nat.le_of_ble_eq_true rfl) dd_M_readValue_65 (fun H locs hP hD hS => ?_)
          have hP : va_P D classes [(q, .inr (6, [.int cd, .ref ta, .ref vb, .int (nI n), .ref ba, .int (nI L.length), .int tk, .ref na, .ref nb, .int (nI (po + 1 + 1)), .int (nI 1), .int (nI 0), .int (nI y)])), (ba, .inl (cB, 400000, .inl by0))] _ := hP
          have hD : va_D A [(q, .inr (6, [.int cd, .ref ta, .ref vb, .int (nI n), .ref ba, .int (nI L.length), .int tk, .ref na, .ref nb, .int (nI (po + 1 + 1)), .int (nI 1), .int (nI 0), .int (nI y)])), (ba, .inl (cB, 400000, .inl by0))] := hD
          refine lv_aload_n hx hb dd_M_readValue_68 rfl (lv_at hl 2 rfl) ?_
          refine lv_iload_n hx hb dd_M_readValue_69 rfl (lv_at hl 0 rfl) ?_
          refine va_put (D := D) (ci := 6) (v := .int (nI 1)) (ty := .int) (C := cn_M) (T := cf_M) (N := 13) hx hb hw in_M ty_M to_M nn_M hown hK hP hD hS 0 rfl rfl 12 (by decide) (hw _ wi_549) (fun _ h9 => h9) rfl (by decide +kernel) (rfl) (rfl) (Nat.le_of_ble_eq_true rfl) dd_M_readValue_70 (fun H locs hP hD hS => ?_)
          have hP : va_P D classes [(q, .inr (6, [.int cd, .ref ta, .ref vb, .int (nI n), .ref ba, .int (nI L.length), .int tk, .ref na, .ref nb, .int (nI (po + 1 + 1)), .int (nI 1), .int (nI 0), .int (nI 1)])), (ba, .inl (cB, 400000, .inl by0))] _ := hP
          have hD : va_D A [(q, .inr (6, [.int cd, .ref ta, .ref vb, .int (nI n), .ref ba, .int (nI L.length), .int tk, .ref na, .ref nb, .int (nI (po + 1 + 1)), .int (nI 1), .int (nI 0), .int (nI 1)])), (ba, .inl (cB, 400000, .inl by0))] := hD
          refine lv_aload_n hx hb dd_M_readValue_73 rfl (lv_at hl 2 rfl) ?_
          refine lv_aload_n hx hb dd_M_readValue_74 rfl (lv_at hl 2 rfl) ?_
          refine va_get (D := D) (ci := 6) (C := cn_M) (T := cf_M) (N := 13) hx hb hw in_M hown hK hP 0 rfl rfl 10 (by decide) (hw _ wi_547) (fun _ h9 => h9) rfl dd_M_readValue_75 ?_
          refine lv_if_ne (tgt := 88) hx hb dd_M_readValue_78 (by decide) (fun c_78 => ?_) (fun c_78 => ?_)
          · skip
            have c_78 : ¬ (1 = 0) := fun z => c_78 ((ct_zeq (by omega)).mpr z)
            refine lv_iconst (v := nI 1) hx hb dd_M_readValue_88 (by decide) ?_
            refine lv_goto (tgt := 93) hx hb dd_M_readValue_89 (by decide) ?_
            refine va_put (D := D) (ci := 6) (v := .int (nI 1)) (ty := .boolean) (C := cn_M) (T := cf_M) (N := 13) hx hb hw in_M ty_M to_M nn_M hown hK hP hD hS 0 rfl rfl 10 (by decide) (hw _ wi_547) (fun _ h9 => h9) rfl (by decide +kernel) (by decide) (by decide) (Nat.le_of_ble_eq_true rfl) dd_M_readValue_93 (fun H locs hP hD hS => ?_)
            have hP : va_P D classes [(q, .inr (6, [.int cd, .ref ta, .ref vb, .int (nI n), .ref ba, .int (nI L.length), .int tk, .ref na, .ref nb, .int (nI (po + 1 + 1)), .int (nI 1), .int (nI 0), .int (nI 1)])), (ba, .inl (cB, 400000, .inl by0))] _ := hP
            have hD : va_D A [(q, .inr (6, [.int cd, .ref ta, .ref vb, .int (nI n), .ref ba, .int (nI L.length), .int tk, .ref na, .ref nb, .int (nI (po + 1 + 1)), .int (nI 1), .int (nI 0), .int (nI 1)])), (ba, .inl (cB, 400000, .inl by0))] := hD
            refine lv_aload_n hx hb dd_M_readValue_96 rfl (lv_at hl 2 rfl) ?_
            refine va_get (D := D) (ci := 6) (C := cn_M) (T := cf_M) (N := 13) hx hb hw in_M hown hK hP 0 rfl rfl 10 (by decide) (hw _ wi_547) (fun _ h9 => h9) rfl dd_M_readValue_97 ?_
            refine lv_if_eq (tgt := 107) hx hb dd_M_readValue_100 (by decide) (fun c_100 => ?_) (fun c_100 => ?_)
            · skip
              have c_100 : 1 = 0 := (ct_zeq (by omega)).mp c_100
              exfalso
              omega
            have c_100 : ¬ (1 = 0) := fun z => c_100 ((ct_zeq (by omega)).mpr z)
            refine lv_lconst (v := 0) hx hb dd_M_readValue_103 (by decide) ?_
            refine lv_goto (tgt := 128) hx hb dd_M_readValue_104 (by decide) ?_
            refine ct_lret (u := (po + 1 + 1, 1, nI 0, nI 1)) hx hb hr hlocks hK hP hD hS rfl ?_ dd_M_readValue_128
            have ef : cp_rf L (po + 1 + 1) = (false, po + 1 + 1) := by unfold cp_rf; rw [if_neg hc_24]
            have e9 : cp_rv L po t d v z y = (false, po + 1 + 1, t, d, v, z, y) := (rv_6 hc_2 c_7 hc_14 (mu_11 c_19) (by rw [ef]; exact Bool.false_ne_true)).trans (by rw [ef])
            rw [e9]
            exact ⟨rfl, fun k => absurd k Bool.false_ne_true, fun _ => rfl⟩
          have c_78 : 1 = 0 := (ct_zeq (by omega)).mp c_78
          exfalso
          omega
        have c_44 : 1 = 0 := (ct_zeq (by omega)).mp c_44
        exfalso
        omega
      obtain ⟨hr_14, hu_14⟩ := hw_14.2 (fun k9 => hc_14 k9.2)
      cases hu_14
      subst hr_14
      have hP : va_P D classes [(q, .inr (6, [.int cd, .ref ta, .ref vb, .int (nI n), .ref ba, .int (nI L.length), .int tk, .ref na, .ref nb, .int (nI (po + 1)), .int (nI 1), .int fz, .int (nI y)])), (ba, .inl (cB, 400000, .inl by0))] _ := hP
      have hD : va_D A [(q, .inr (6, [.int cd, .ref ta, .ref vb, .int (nI n), .ref ba, .int (nI L.length), .int tk, .ref na, .ref nb, .int (nI (po + 1)), .int (nI 1), .int fz, .int (nI y)])), (ba, .inl (cB, 400000, .inl by0))] := hD
      refine lv_lconst (v := 1) hx hb dd_M_readValue_17 (by decide) ?_
      refine W.lcmp hx hb dd_M_readValue_18 ?_
      refine lv_if_ne (tgt := 73) hx hb dd_M_readValue_19 (by decide) (fun c_19 => ?_) (fun c_19 => ?_)
      · skip
        have c_19 : ¬ ((0 : Int64) = 1) := fun z => c_19 ((lg_cmp_eq _ _).mpr z)
        refine lv_aload_n hx hb dd_M_readValue_73 rfl (lv_at hl 0 rfl) ?_
        refine lv_aload_n hx hb dd_M_readValue_74 rfl (lv_at hl 0 rfl) ?_
        refine va_get (D := D) (ci := 6) (C := cn_M) (T := cf_M) (N := 13) hx hb hw in_M hown hK hP 0 rfl rfl 10 (by decide) (hw _ wi_547) (fun _ h9 => h9) rfl dd_M_readValue_75 ?_
        refine lv_if_ne (tgt := 88) hx hb dd_M_readValue_78 (by decide) (fun c_78 => ?_) (fun c_78 => ?_)
        · skip
          have c_78 : ¬ (1 = 0) := fun z => c_78 ((ct_zeq (by omega)).mpr z)
          refine lv_iconst (v := nI 1) hx hb dd_M_readValue_88 (by decide) ?_
          refine lv_goto (tgt := 93) hx hb dd_M_readValue_89 (by decide) ?_
          refine va_put (D := D) (ci := 6) (v := .int (nI 1)) (ty := .boolean) (C := cn_M) (T := cf_M) (N := 13) hx hb hw in_M ty_M to_M nn_M hown hK hP hD hS 0 rfl rfl 10 (by decide) (hw _ wi_547) (fun _ h9 => h9) rfl (by decide +kernel) (by decide) (by decide) (Nat.le_of_ble_eq_true rfl) dd_M_readValue_93 (fun H locs hP hD hS => ?_)
          have hP : va_P D classes [(q, .inr (6, [.int cd, .ref ta, .ref vb, .int (nI n), .ref ba, .int (nI L.length), .int tk, .ref na, .ref nb, .int (nI (po + 1)), .int (nI 1), .int fz, .int (nI y)])), (ba, .inl (cB, 400000, .inl by0))] _ := hP
          have hD : va_D A [(q, .inr (6, [.int cd, .ref ta, .ref vb, .int (nI n), .ref ba, .int (nI L.length), .int tk, .ref na, .ref nb, .int (nI (po + 1)), .int (nI 1), .int fz, .int (nI y)])), (ba, .inl (cB, 400000, .inl by0))] := hD
          refine lv_aload_n hx hb dd_M_readValue_96 rfl (lv_at hl 0 rfl) ?_
          refine va_get (D := D) (ci := 6) (C := cn_M) (T := cf_M) (N := 13) hx hb hw in_M hown hK hP 0 rfl rfl 10 (by decide) (hw _ wi_547) (fun _ h9 => h9) rfl dd_M_readValue_97 ?_
          refine lv_if_eq (tgt := 107) hx hb dd_M_readValue_100 (by decide) (fun c_100 => ?_) (fun c_100 => ?_)
          · skip
            have c_100 : 1 = 0 := (ct_zeq (by omega)).mp c_100
            exfalso
            omega
          have c_100 : ¬ (1 = 0) := fun z => c_100 ((ct_zeq (by omega)).mpr z)
          refine lv_lconst (v := 0) hx hb dd_M_readValue_103 (by decide) ?_
          refine lv_goto (tgt := 128) hx hb dd_M_readValue_104 (by decide) ?_
          refine ct_lret (u := (po + 1, 1, fz, nI y)) hx hb hr hlocks hK hP hD hS rfl ?_ dd_M_readValue_128
          have e9 : cp_rv L po t d v z y = _ := rv_2 hc_2 c_7 hc_14
          rw [e9]
          exact ⟨rfl, fun k => absurd k Bool.false_ne_true, fun _ => rfl⟩
        have c_78 : 1 = 0 := (ct_zeq (by omega)).mp c_78
        exfalso
        omega
      have c_19 : (0 : Int64) = 1 := (lg_cmp_eq _ _).mp c_19
      exfalso
      exact absurd c_19 (by decide)
    have c_7 : (lN (cp_n L po 1)) = 0 := (lg_cmp_eq _ _).mp c_7
    refine lv_lconst (v := 0) hx hb dd_M_readValue_10 (by decide) ?_
    refine ct_lret (u := (po + 1, 0, fz, nI y)) hx hb hr hlocks hK hP hD hS rfl ?_ dd_M_readValue_11
    have e9 : cp_rv L po t d v z y = _ := rv_1 hc_2 c_7
    rw [e9]
    exact ⟨rfl, fun _ => ⟨rfl, mu_x0 v, rfl, hz⟩, fun k => absurd k.symm Bool.false_ne_true⟩
  obtain ⟨hr_2, hu_2⟩ := hw_2.2 (fun k9 => hc_2 k9.2)
  cases hu_2
  subst hr_2
  have hP : va_P D classes [(q, .inr (6, [.int cd, .ref ta, .ref vb, .int (nI n), .ref ba, .int (nI L.length), .int tk, .ref na, .ref nb, .int (nI po), .int (nI 1), .int fz, .int (nI y)])), (ba, .inl (cB, 400000, .inl by0))] _ := hP
  have hD : va_D A [(q, .inr (6, [.int cd, .ref ta, .ref vb, .int (nI n), .ref ba, .int (nI L.length), .int tk, .ref na, .ref nb, .int (nI po), .int (nI 1), .int fz, .int (nI y)])), (ba, .inl (cB, 400000, .inl by0))] := hD
  refine lv_lconst (v := 0) hx hb dd_M_readValue_5 (by decide) ?_
  refine W.lcmp hx hb dd_M_readValue_6 ?_
  refine lv_if_ne (tgt := 12) hx hb dd_M_readValue_7 (by decide) (fun c_7 => ?_) (fun c_7 => ?_)
  · skip
    have c_7 : ¬ ((0 : Int64) = 0) := fun z => c_7 ((lg_cmp_eq _ _).mpr z)
    exfalso
    exact c_7 rfl
  have c_7 : (0 : Int64) = 0 := (lg_cmp_eq _ _).mp c_7
  refine lv_lconst (v := 0) hx hb dd_M_readValue_10 (by decide) ?_
  refine ct_lret (u := (po, 1, fz, nI y)) hx hb hr hlocks hK hP hD hS rfl ?_ dd_M_readValue_11
  have e9 : cp_rv L po t d v z y = _ := rv_0 hc_2
  rw [e9]
  exact ⟨rfl, fun k => absurd k Bool.false_ne_true, fun _ => rfl⟩

set_option maxHeartbeats 4000000 in
set_option maxRecDepth 100000 in
theorem cc_M_unpack (l : Launch) (D : va_G) (cJ cB : ClassId) (q ta vb ba na nb : Nat) (cd tk pl wr fz fb : Int32) (n : Nat) (L : List Bool) (f g f2 g2 : Nat → Int64) (by0 : Nat → Int32) (k : Int32) (sz : Nat) (hL : L.length ≤ 400000) (hB : cp_Rb by0 L) : ct_i l my_M_unpack (Cond.code my_M_unpack mb_M_unpack 5 (some .int) :: TB) ({ frames := 3, cells := 0, slots := 0, locals := 67 } : Room) D classes cJ cB [.ref q, .int k] [(q, .inr (6, [.int cd, .ref ta, .ref vb, .int (nI n), .ref ba, .int (nI L.length), .int tk, .ref na, .ref nb, .int pl, .int wr, .int fz, .int fb])), (ta, .inl (cJ, 3000, .inr (.inl f))), (vb, .inl (cJ, 3000, .inr (.inl g))), (na, .inl (cJ, 3000, .inr (.inl f2))), (nb, .inl (cJ, 3000, .inr (.inl g2))), (ba, .inl (cB, 400000, .inl by0))] sz (fun (r : Int32) (u : Int32 × Nat × (Nat → Int64) × (Nat → Int64) × Int32 × (Nat → Int64) × (Nat → Int64) × Int32 × Int32 × Int32 × Int32) => (¬ cp_ix k 3001 ∧ u.1 = nI 1 ∧ u.2.1 = n ∧ u.2.2.1 = f ∧ u.2.2.2.1 = g ∧ u.2.2.2.2.1 = tk) ∨ (∃ kn : Nat, kn ≤ 3000 ∧ k = nI kn ∧ u.1 = nI 0 ∧ u.2.2.2.2.1 = nI (cp_ru L kn).2.1 ∧ ((cp_ru L kn).1 = true → r = nI (cp_ru L kn).2.1 ∧ u.2.1 = kn ∧ ∀ j, j < kn → u.2.2.1 j = (cp_ru L (j + 1)).2.2.1 ∧ u.2.2.2.1 j = (cp_ru L (j + 1)).2.2.2.2.1) ∧ ((cp_ru L kn).1 = false → r = -1 ∧ u.2.1 = n ∧ u.2.2.1 = f ∧ u.2.2.2.1 = g))) (fun u => [(q, .inr (6, [.int u.1, .ref ta, .ref vb, .int (nI u.2.1), .ref ba, .int (nI L.length), .int u.2.2.2.2.1, .ref na, .ref nb, .int u.2.2.2.2.2.2.2.1, .int u.2.2.2.2.2.2.2.2.1, .int u.2.2.2.2.2.2.2.2.2.1, .int u.2.2.2.2.2.2.2.2.2.2])), (ta, .inl (cJ, 3000, .inr (.inl u.2.2.1))), (vb, .inl (cJ, 3000, .inr (.inl u.2.2.2.1))), (na, .inl (cJ, 3000, .inr (.inl u.2.2.2.2.2.1))), (nb, .inl (cJ, 3000, .inr (.inl u.2.2.2.2.2.2.1))), (ba, .inl (cB, 400000, .inl by0))]) 0 0 := by
  refine ct_ofW (cc := mb_M_unpack) (maxL := 5) (ret := some .int) (by decide) rfl (Nat.le_of_ble_eq_true rfl) ?_
  intro p e s m below meth c hx hb hr hml hts hown hlocks hin hsz hK hP hD hA hS hZ ls hl
  have hw : ∀ w ∈ TB, w.before _ s = true := fun w h => hts w (List.mem_cons_of_mem _ h)
  have hown : s.vm.findClass cn_M = some m.cls := hown
  have hin : meth.name = "unpack" := hin
  generalize hAe : va_A [(q, .inr (6, [.int cd, .ref ta, .ref vb, .int (nI n), .ref ba, .int (nI L.length), .int tk, .ref na, .ref nb, .int pl, .int wr, .int fz, .int fb])), (ta, .inl (cJ, 3000, .inr (.inl f))), (vb, .inl (cJ, 3000, .inr (.inl g))), (na, .inl (cJ, 3000, .inr (.inl f2))), (nb, .inl (cJ, 3000, .inr (.inl g2))), (ba, .inl (cB, 400000, .inl by0))] sz = A at hD hA hS hZ ⊢
  clear hAe
  have hl : lv_has ls 5 [(0, .ref q), (1, .int k)] := hl
  have hP : va_P D classes [(q, .inr (6, [.int cd, .ref ta, .ref vb, .int (nI n), .ref ba, .int (nI L.length), .int tk, .ref na, .ref nb, .int pl, .int wr, .int fz, .int fb])), (ta, .inl (cJ, 3000, .inr (.inl f))), (vb, .inl (cJ, 3000, .inr (.inl g))), (na, .inl (cJ, 3000, .inr (.inl f2))), (nb, .inl (cJ, 3000, .inr (.inl g2))), (ba, .inl (cB, 400000, .inl by0))] s.heap := hP
  refine lv_aload_n hx hb dd_M_unpack_0 rfl (lv_at hl 0 rfl) ?_
  refine lv_iload_n hx hb dd_M_unpack_1 rfl (lv_at hl 1 rfl) ?_
  refine lv_if_lt (tgt := 12) hx hb dd_M_unpack_2 (by decide) (fun c_2 => ?_) (fun c_2 => ?_)
  · skip
    refine lv_iconst (v := nI 1) hx hb dd_M_unpack_12 (by decide) ?_
    refine lv_goto (tgt := 17) hx hb dd_M_unpack_13 (by decide) ?_
    refine va_put (D := D) (ci := 6) (v := .int (nI 1)) (ty := .int) (C := cn_M) (T := cf_M) (N := 13) hx hb hw in_M ty_M to_M nn_M hown hK hP hD hS 0 rfl rfl 0 (by decide) (hw _ wi_537) (fun _ h9 => h9) rfl (by decide +kernel) (rfl) (rfl) (Nat.le_of_ble_eq_true rfl) dd_M_unpack_17 (fun H locs hP hD hS => ?_)
    have hP : va_P D classes [(q, .inr (6, [.int (nI 1), .ref ta, .ref vb, .int (nI n), .ref ba, .int (nI L.length), .int tk, .ref na, .ref nb, .int pl, .int wr, .int fz, .int fb])), (ta, .inl (cJ, 3000, .inr (.inl f))), (vb, .inl (cJ, 3000, .inr (.inl g))), (na, .inl (cJ, 3000, .inr (.inl f2))), (nb, .inl (cJ, 3000, .inr (.inl g2))), (ba, .inl (cB, 400000, .inl by0))] _ := hP
    have hD : va_D A [(q, .inr (6, [.int (nI 1), .ref ta, .ref vb, .int (nI n), .ref ba, .int (nI L.length), .int tk, .ref na, .ref nb, .int pl, .int wr, .int fz, .int fb])), (ta, .inl (cJ, 3000, .inr (.inl f))), (vb, .inl (cJ, 3000, .inr (.inl g))), (na, .inl (cJ, 3000, .inr (.inl f2))), (nb, .inl (cJ, 3000, .inr (.inl g2))), (ba, .inl (cB, 400000, .inl by0))] := hD
    refine lv_aload_n hx hb dd_M_unpack_20 rfl (lv_at hl 0 rfl) ?_
    refine va_get (D := D) (ci := 6) (C := cn_M) (T := cf_M) (N := 13) hx hb hw in_M hown hK hP 0 rfl rfl 0 (by decide) (hw _ wi_537) (fun _ h9 => h9) rfl dd_M_unpack_21 ?_
    refine lv_if_le (tgt := 29) hx hb dd_M_unpack_24 (by decide) (fun c_24 => ?_) (fun c_24 => ?_)
    · skip
      have c_24 : 1 ≤ 0 := (ct_zle (by omega)).mp c_24
      exfalso
      omega
    have c_24 : ¬ (1 ≤ 0) := fun z => c_24 ((ct_zle (by omega)).mpr z)
    refine lv_iconst (v := nI 0) hx hb dd_M_unpack_27 (by decide) ?_
    refine ct_iret (u := (nI 1, n, f, g, tk, f2, g2, pl, wr, fz, fb)) hx hb hr hlocks hK hP hD hS rfl ?_ dd_M_unpack_28
    exact Or.inl ⟨cp_ix_nle (n := 3000) (by omega) (Or.inl c_2), rfl, rfl, rfl, rfl, rfl⟩
  refine lv_iload_n hx hb dd_M_unpack_5 rfl (lv_at hl 1 rfl) ?_
  refine lv_sipush (v := nI 3000) hx hb dd_M_unpack_6 (by decide) ?_
  refine lv_icmp_le (tgt := 16) hx hb dd_M_unpack_9 (by decide) (fun c_9 => ?_) (fun c_9 => ?_)
  · skip
    obtain ⟨kn, hkn, hkj⟩ := cp_ix_le (n := 3000) (by omega) c_2 c_9
    subst hkj
    refine lv_iconst (v := nI 0) hx hb dd_M_unpack_16 (by decide) ?_
    refine va_put (D := D) (ci := 6) (v := .int (nI 0)) (ty := .int) (C := cn_M) (T := cf_M) (N := 13) hx hb hw in_M ty_M to_M nn_M hown hK hP hD hS 0 rfl rfl 0 (by decide) (hw _ wi_537) (fun _ h9 => h9) rfl (by decide +kernel) (rfl) (rfl) (Nat.le_of_ble_eq_true rfl) dd_M_unpack_17 (fun H locs hP hD hS => ?_)
    have hP : va_P D classes [(q, .inr (6, [.int (nI 0), .ref ta, .ref vb, .int (nI n), .ref ba, .int (nI L.length), .int tk, .ref na, .ref nb, .int pl, .int wr, .int fz, .int fb])), (ta, .inl (cJ, 3000, .inr (.inl f))), (vb, .inl (cJ, 3000, .inr (.inl g))), (na, .inl (cJ, 3000, .inr (.inl f2))), (nb, .inl (cJ, 3000, .inr (.inl g2))), (ba, .inl (cB, 400000, .inl by0))] _ := hP
    have hD : va_D A [(q, .inr (6, [.int (nI 0), .ref ta, .ref vb, .int (nI n), .ref ba, .int (nI L.length), .int tk, .ref na, .ref nb, .int pl, .int wr, .int fz, .int fb])), (ta, .inl (cJ, 3000, .inr (.inl f))), (vb, .inl (cJ, 3000, .inr (.inl g))), (na, .inl (cJ, 3000, .inr (.inl f2))), (nb, .inl (cJ, 3000, .inr (.inl g2))), (ba, .inl (cB, 400000, .inl by0))] := hD
    refine lv_aload_n hx hb dd_M_unpack_20 rfl (lv_at hl 0 rfl) ?_
    refine va_get (D := D) (ci := 6) (C := cn_M) (T := cf_M) (N := 13) hx hb hw in_M hown hK hP 0 rfl rfl 0 (by decide) (hw _ wi_537) (fun _ h9 => h9) rfl dd_M_unpack_21 ?_
    refine lv_if_le (tgt := 29) hx hb dd_M_unpack_24 (by decide) (fun c_24 => ?_) (fun c_24 => ?_)
    · skip
      have c_24 : 0 ≤ 0 := (ct_zle (by omega)).mp c_24
      refine lv_aload_n hx hb dd_M_unpack_29 rfl (lv_at hl 0 rfl) ?_
      refine lv_iconst (v := nI 0) hx hb dd_M_unpack_30 (by decide) ?_
      refine va_put (D := D) (ci := 6) (v := .int (nI 0)) (ty := .int) (C := cn_M) (T := cf_M) (N := 13) hx hb hw in_M ty_M to_M nn_M hown hK hP hD hS 0 rfl rfl 9 (by decide) (hw _ wi_546) (fun _ h9 => h9) rfl (by decide +kernel) (rfl) (rfl) (Nat.le_of_ble_eq_true rfl) dd_M_unpack_31 (fun H locs hP hD hS => ?_)
      have hP : va_P D classes [(q, .inr (6, [.int (nI 0), .ref ta, .ref vb, .int (nI n), .ref ba, .int (nI L.length), .int tk, .ref na, .ref nb, .int (nI 0), .int wr, .int fz, .int fb])), (ta, .inl (cJ, 3000, .inr (.inl f))), (vb, .inl (cJ, 3000, .inr (.inl g))), (na, .inl (cJ, 3000, .inr (.inl f2))), (nb, .inl (cJ, 3000, .inr (.inl g2))), (ba, .inl (cB, 400000, .inl by0))] _ := hP
      have hD : va_D A [(q, .inr (6, [.int (nI 0), .ref ta, .ref vb, .int (nI n), .ref ba, .int (nI L.length), .int tk, .ref na, .ref nb, .int (nI 0), .int wr, .int fz, .int fb])), (ta, .inl (cJ, 3000, .inr (.inl f))), (vb, .inl (cJ, 3000, .inr (.inl g))), (na, .inl (cJ, 3000, .inr (.inl f2))), (nb, .inl (cJ, 3000, .inr (.inl g2))), (ba, .inl (cB, 400000, .inl by0))] := hD
      refine lv_aload_n hx hb dd_M_unpack_34 rfl (lv_at hl 0 rfl) ?_
      refine lv_iconst (v := nI 0) hx hb dd_M_unpack_35 (by decide) ?_
      refine va_put (D := D) (ci := 6) (v := .int (nI 0)) (ty := .boolean) (C := cn_M) (T := cf_M) (N := 13) hx hb hw in_M ty_M to_M nn_M hown hK hP hD hS 0 rfl rfl 10 (by decide) (hw _ wi_547) (fun _ h9 => h9) rfl (by decide +kernel) (by decide) (by decide) (Nat.le_of_ble_eq_true rfl) dd_M_unpack_36 (fun H locs hP hD hS => ?_)
      have hP : va_P D classes [(q, .inr (6, [.int (nI 0), .ref ta, .ref vb, .int (nI n), .ref ba, .int (nI L.length), .int tk, .ref na, .ref nb, .int (nI 0), .int (nI 0), .int fz, .int fb])), (ta, .inl (cJ, 3000, .inr (.inl f))), (vb, .inl (cJ, 3000, .inr (.inl g))), (na, .inl (cJ, 3000, .inr (.inl f2))), (nb, .inl (cJ, 3000, .inr (.inl g2))), (ba, .inl (cB, 400000, .inl by0))] _ := hP
      have hD : va_D A [(q, .inr (6, [.int (nI 0), .ref ta, .ref vb, .int (nI n), .ref ba, .int (nI L.length), .int tk, .ref na, .ref nb, .int (nI 0), .int (nI 0), .int fz, .int fb])), (ta, .inl (cJ, 3000, .inr (.inl f))), (vb, .inl (cJ, 3000, .inr (.inl g))), (na, .inl (cJ, 3000, .inr (.inl f2))), (nb, .inl (cJ, 3000, .inr (.inl g2))), (ba, .inl (cB, 400000, .inl by0))] := hD
      refine lv_aload_n hx hb dd_M_unpack_39 rfl (lv_at hl 0 rfl) ?_
      refine lv_iconst (v := nI 0) hx hb dd_M_unpack_40 (by decide) ?_
      refine va_put (D := D) (ci := 6) (v := .int (nI 0)) (ty := .int) (C := cn_M) (T := cf_M) (N := 13) hx hb hw in_M ty_M to_M nn_M hown hK hP hD hS 0 rfl rfl 12 (by decide) (hw _ wi_549) (fun _ h9 => h9) rfl (by decide +kernel) (rfl) (rfl) (Nat.le_of_ble_eq_true rfl) dd_M_unpack_41 (fun H locs hP hD hS => ?_)
      have hP : va_P D classes [(q, .inr (6, [.int (nI 0), .ref ta, .ref vb, .int (nI n), .ref ba, .int (nI L.length), .int tk, .ref na, .ref nb, .int (nI 0), .int (nI 0), .int fz, .int (nI 0)])), (ta, .inl (cJ, 3000, .inr (.inl f))), (vb, .inl (cJ, 3000, .inr (.inl g))), (na, .inl (cJ, 3000, .inr (.inl f2))), (nb, .inl (cJ, 3000, .inr (.inl g2))), (ba, .inl (cB, 400000, .inl by0))] _ := hP
      have hD : va_D A [(q, .inr (6, [.int (nI 0), .ref ta, .ref vb, .int (nI n), .ref ba, .int (nI L.length), .int tk, .ref na, .ref nb, .int (nI 0), .int (nI 0), .int fz, .int (nI 0)])), (ta, .inl (cJ, 3000, .inr (.inl f))), (vb, .inl (cJ, 3000, .inr (.inl g))), (na, .inl (cJ, 3000, .inr (.inl f2))), (nb, .inl (cJ, 3000, .inr (.inl g2))), (ba, .inl (cB, 400000, .inl by0))] := hD
      refine lv_lconst (v := 0) hx hb dd_M_unpack_44 (by decide) ?_
      refine lv_lstore_n (lv' := [(2, .long 0), (0, .ref q), (1, .int (nI kn))]) hx hb dd_M_unpack_45 rfl hl (by decide) rfl (fun ls hl => ?_)
      refine lv_iconst (v := nI 0) hx hb dd_M_unpack_46 (by decide) ?_
      refine lv_istore (lv' := [(4, .int (nI 0)), (2, .long 0), (0, .ref q), (1, .int (nI kn))]) hx hb dd_M_unpack_47 hl (by decide) rfl (fun ls hl => ?_)
      refine ct_loop (σ := Nat × Int64 × Int32 × Int32 × (Nat → Int64) × (Nat → Int64) × Nat × Nat) (fun a H locs ls => va_P D classes [(q, .inr (6, [.int (nI 0), .ref ta, .ref vb, .int (nI n), .ref ba, .int (nI L.length), .int tk, .ref na, .ref nb, .int (nI a.2.2.2.2.2.2.1), .int (nI a.2.2.2.2.2.2.2), .int a.2.2.1, .int a.2.2.2.1])), (ta, .inl (cJ, 3000, .inr (.inl f))), (vb, .inl (cJ, 3000, .inr (.inl g))), (na, .inl (cJ, 3000, .inr (.inl a.2.2.2.2.1))), (nb, .inl (cJ, 3000, .inr (.inl a.2.2.2.2.2.1))), (ba, .inl (cB, 400000, .inl by0))] H ∧ va_D A [(q, .inr (6, [.int (nI 0), .ref ta, .ref vb, .int (nI n), .ref ba, .int (nI L.length), .int tk, .ref na, .ref nb, .int (nI a.2.2.2.2.2.2.1), .int (nI a.2.2.2.2.2.2.2), .int a.2.2.1, .int a.2.2.2.1])), (ta, .inl (cJ, 3000, .inr (.inl f))), (vb, .inl (cJ, 3000, .inr (.inl g))), (na, .inl (cJ, 3000, .inr (.inl a.2.2.2.2.1))), (nb, .inl (cJ, 3000, .inr (.inl a.2.2.2.2.2.1))), (ba, .inl (cB, 400000, .inl by0))] ∧ va_S A s.heap H locs ∧ lv_has ls 5 [(0, .ref q), (1, .int (nI kn)), (2, .long a.2.1), (4, .int (nI a.1))] ∧ (a.1 ≤ kn) ∧ (a.2.2.2.2.2.2.1 = (cp_ru L a.1).2.1) ∧ ((a.2.2.2.2.2.2.2 = 0 ∧ (cp_ru L a.1).1 = true ∧ a.2.1 = (cp_ru L a.1).2.2.2.1 ∧ a.2.2.2.1 = nI (cp_ru L a.1).2.2.2.2.2.2 ∧ ((cp_ru L a.1).2.2.2.2.2.2 ≠ 0 → a.2.2.1 = nI (cp_ru L a.1).2.2.2.2.2.1) ∧ ∀ j, j < a.1 → a.2.2.2.2.1 j = (cp_ru L (j + 1)).2.2.1 ∧ a.2.2.2.2.2.1 j = (cp_ru L (j + 1)).2.2.2.2.1) ∨ (a.2.2.2.2.2.2.2 = 1 ∧ (cp_ru L a.1).1 = false))) (fun a => kn - a.1) ?_ (0, 0, fz, nI 0, f2, g2, 0, 0) ⟨hP, hD, hS, lv_sub hl [2, 3, 1, 0] rfl, Nat.zero_le kn, rfl, Or.inl ⟨rfl, rfl, rfl, rfl, fun h => absurd rfl h, fun j h => absurd h (Nat.not_lt_zero j)⟩⟩
      rintro ⟨i, d, fz, fb, f2, g2, pq, w0⟩ H locs ls ⟨hP, hD, hS, hl, hi, hpl, hst⟩ ih
      have hP : va_P D classes [(q, .inr (6, [.int (nI 0), .ref ta, .ref vb, .int (nI n), .ref ba, .int (nI L.length), .int tk, .ref na, .ref nb, .int (nI pq), .int (nI w0), .int fz, .int fb])), (ta, .inl (cJ, 3000, .inr (.inl f))), (vb, .inl (cJ, 3000, .inr (.inl g))), (na, .inl (cJ, 3000, .inr (.inl f2))), (nb, .inl (cJ, 3000, .inr (.inl g2))), (ba, .inl (cB, 400000, .inl by0))] _ := hP
      have hD : va_D A [(q, .inr (6, [.int (nI 0), .ref ta, .ref vb, .int (nI n), .ref ba, .int (nI L.length), .int tk, .ref na, .ref nb, .int (nI pq), .int (nI w0), .int fz, .int fb])), (ta, .inl (cJ, 3000, .inr (.inl f))), (vb, .inl (cJ, 3000, .inr (.inl g))), (na, .inl (cJ, 3000, .inr (.inl f2))), (nb, .inl (cJ, 3000, .inr (.inl g2))), (ba, .inl (cB, 400000, .inl by0))] := hD
      have hl : lv_has ls 5 [(0, .ref q), (1, .int (nI kn)), (2, .long d), (4, .int (nI i))] := hl
      have hi : i ≤ kn := hi
      have hpl : pq = (cp_ru L i).2.1 := hpl
      have hst : (w0 = 0 ∧ (cp_ru L i).1 = true ∧ d = (cp_ru L i).2.2.2.1 ∧ fb = nI (cp_ru L i).2.2.2.2.2.2 ∧ ((cp_ru L i).2.2.2.2.2.2 ≠ 0 → fz = nI (cp_ru L i).2.2.2.2.2.1) ∧ ∀ j, j < i → f2 j = (cp_ru L (j + 1)).2.2.1 ∧ g2 j = (cp_ru L (j + 1)).2.2.2.2.1) ∨ (w0 = 1 ∧ (cp_ru L i).1 = false) := hst
      have hru := ru_inv L i
      rcases hst with ⟨hw9, hok, hd9, hfb9, hfz9, hpt⟩ | ⟨hw9, hno⟩
      · skip
        subst hpl hw9 hd9 hfb9
        have hP : va_P D classes [(q, .inr (6, [.int (nI 0), .ref ta, .ref vb, .int (nI n), .ref ba, .int (nI L.length), .int tk, .ref na, .ref nb, .int (nI ((cp_ru L i).2.1)), .int (nI 0), .int fz, .int (nI ((cp_ru L i).2.2.2.2.2.2))])), (ta, .inl (cJ, 3000, .inr (.inl f))), (vb, .inl (cJ, 3000, .inr (.inl g))), (na, .inl (cJ, 3000, .inr (.inl f2))), (nb, .inl (cJ, 3000, .inr (.inl g2))), (ba, .inl (cB, 400000, .inl by0))] _ := hP
        have hD : va_D A [(q, .inr (6, [.int (nI 0), .ref ta, .ref vb, .int (nI n), .ref ba, .int (nI L.length), .int tk, .ref na, .ref nb, .int (nI ((cp_ru L i).2.1)), .int (nI 0), .int fz, .int (nI ((cp_ru L i).2.2.2.2.2.2))])), (ta, .inl (cJ, 3000, .inr (.inl f))), (vb, .inl (cJ, 3000, .inr (.inl g))), (na, .inl (cJ, 3000, .inr (.inl f2))), (nb, .inl (cJ, 3000, .inr (.inl g2))), (ba, .inl (cB, 400000, .inl by0))] := hD
        have hl : lv_has ls 5 [(0, .ref q), (1, .int (nI kn)), (2, .long ((cp_ru L i).2.2.2.1)), (4, .int (nI i))] := hl
        refine lv_iload hx hb dd_M_unpack_49 (lv_at hl 3 rfl) ?_
        refine lv_iload_n hx hb dd_M_unpack_51 rfl (lv_at hl 1 rfl) ?_
        refine lv_icmp_ge (tgt := 193) hx hb dd_M_unpack_52 (by decide) (fun c_52 => ?_) (fun c_52 => ?_)
        · skip
          have c_52 : kn ≤ i := (nI_leI (by omega) (by omega)).mp c_52
          refine lv_aload_n hx hb dd_M_unpack_193 rfl (lv_at hl 0 rfl) ?_
          refine lv_aload_n hx hb dd_M_unpack_194 rfl (lv_at hl 0 rfl) ?_
          refine va_get (D := D) (ci := 6) (C := cn_M) (T := cf_M) (N := 13) hx hb hw in_M hown hK hP 0 rfl rfl 9 (by decide) (hw _ wi_546) (fun _ h9 => h9) rfl dd_M_unpack_195 ?_
          refine va_put (D := D) (ci := 6) (v := .int (nI ((cp_ru L i).2.1))) (ty := .int) (C := cn_M) (T := cf_M) (N := 13) hx hb hw in_M ty_M to_M nn_M hown hK hP hD hS 0 rfl rfl 6 (by decide) (hw _ wi_543) (fun _ h9 => h9) rfl (by decide +kernel) (rfl) (rfl) (Nat.le_of_ble_eq_true rfl) dd_M_unpack_198 (fun H locs hP hD hS => ?_)
          have hP : va_P D classes [(q, .inr (6, [.int (nI 0), .ref ta, .ref vb, .int (nI n), .ref ba, .int (nI L.length), .int (nI ((cp_ru L i).2.1)), .ref na, .ref nb, .int (nI ((cp_ru L i).2.1)), .int (nI 0), .int fz, .int (nI ((cp_ru L i).2.2.2.2.2.2))])), (ta, .inl (cJ, 3000, .inr (.inl f))), (vb, .inl (cJ, 3000, .inr (.inl g))), (na, .inl (cJ, 3000, .inr (.inl f2))), (nb, .inl (cJ, 3000, .inr (.inl g2))), (ba, .inl (cB, 400000, .inl by0))] _ := hP
          have hD : va_D A [(q, .inr (6, [.int (nI 0), .ref ta, .ref vb, .int (nI n), .ref ba, .int (nI L.length), .int (nI ((cp_ru L i).2.1)), .ref na, .ref nb, .int (nI ((cp_ru L i).2.1)), .int (nI 0), .int fz, .int (nI ((cp_ru L i).2.2.2.2.2.2))])), (ta, .inl (cJ, 3000, .inr (.inl f))), (vb, .inl (cJ, 3000, .inr (.inl g))), (na, .inl (cJ, 3000, .inr (.inl f2))), (nb, .inl (cJ, 3000, .inr (.inl g2))), (ba, .inl (cB, 400000, .inl by0))] := hD
          refine lv_aload_n hx hb dd_M_unpack_201 rfl (lv_at hl 0 rfl) ?_
          refine va_get (D := D) (ci := 6) (C := cn_M) (T := cf_M) (N := 13) hx hb hw in_M hown hK hP 0 rfl rfl 10 (by decide) (hw _ wi_547) (fun _ h9 => h9) rfl dd_M_unpack_202 ?_
          refine lv_if_eq (tgt := 210) hx hb dd_M_unpack_205 (by decide) (fun c_205 => ?_) (fun c_205 => ?_)
          · skip
            have c_205 : 0 = 0 := (ct_zeq (by omega)).mp c_205
            refine lv_iconst (v := nI 0) hx hb dd_M_unpack_210 (by decide) ?_
            refine lv_istore (lv' := [(4, .int (nI 0)), (0, .ref q), (1, .int (nI kn)), (2, .long ((cp_ru L i).2.2.2.1))]) hx hb dd_M_unpack_211 hl (by decide) rfl (fun ls hl => ?_)
            refine ct_loop (σ := Nat × (Nat → Int64) × (Nat → Int64)) (fun a H locs ls => va_P D classes [(q, .inr (6, [.int (nI 0), .ref ta, .ref vb, .int (nI n), .ref ba, .int (nI L.length), .int (nI ((cp_ru L i).2.1)), .ref na, .ref nb, .int (nI ((cp_ru L i).2.1)), .int (nI 0), .int fz, .int (nI ((cp_ru L i).2.2.2.2.2.2))])), (ta, .inl (cJ, 3000, .inr (.inl a.2.1))), (vb, .inl (cJ, 3000, .inr (.inl a.2.2))), (na, .inl (cJ, 3000, .inr (.inl f2))), (nb, .inl (cJ, 3000, .inr (.inl g2))), (ba, .inl (cB, 400000, .inl by0))] H ∧ va_D A [(q, .inr (6, [.int (nI 0), .ref ta, .ref vb, .int (nI n), .ref ba, .int (nI L.length), .int (nI ((cp_ru L i).2.1)), .ref na, .ref nb, .int (nI ((cp_ru L i).2.1)), .int (nI 0), .int fz, .int (nI ((cp_ru L i).2.2.2.2.2.2))])), (ta, .inl (cJ, 3000, .inr (.inl a.2.1))), (vb, .inl (cJ, 3000, .inr (.inl a.2.2))), (na, .inl (cJ, 3000, .inr (.inl f2))), (nb, .inl (cJ, 3000, .inr (.inl g2))), (ba, .inl (cB, 400000, .inl by0))] ∧ va_S A s.heap H locs ∧ lv_has ls 5 [(0, .ref q), (1, .int (nI kn)), (4, .int (nI a.1))] ∧ (a.1 ≤ kn) ∧ (∀ j, j < a.1 → a.2.1 j = f2 j ∧ a.2.2 j = g2 j)) (fun a => kn - a.1) ?_ (0, f, g) ⟨hP, hD, hS, lv_sub hl [1, 2, 0] rfl, Nat.zero_le kn, fun j h => absurd h (Nat.not_lt_zero j)⟩
            rintro ⟨i2, f, g⟩ H locs ls ⟨hP, hD, hS, hl, hi2, hcp⟩ ih
            have hP : va_P D classes [(q, .inr (6, [.int (nI 0), .ref ta, .ref vb, .int (nI n), .ref ba, .int (nI L.length), .int (nI ((cp_ru L i).2.1)), .ref na, .ref nb, .int (nI ((cp_ru L i).2.1)), .int (nI 0), .int fz, .int (nI ((cp_ru L i).2.2.2.2.2.2))])), (ta, .inl (cJ, 3000, .inr (.inl f))), (vb, .inl (cJ, 3000, .inr (.inl g))), (na, .inl (cJ, 3000, .inr (.inl f2))), (nb, .inl (cJ, 3000, .inr (.inl g2))), (ba, .inl (cB, 400000, .inl by0))] _ := hP
            have hD : va_D A [(q, .inr (6, [.int (nI 0), .ref ta, .ref vb, .int (nI n), .ref ba, .int (nI L.length), .int (nI ((cp_ru L i).2.1)), .ref na, .ref nb, .int (nI ((cp_ru L i).2.1)), .int (nI 0), .int fz, .int (nI ((cp_ru L i).2.2.2.2.2.2))])), (ta, .inl (cJ, 3000, .inr (.inl f))), (vb, .inl (cJ, 3000, .inr (.inl g))), (na, .inl (cJ, 3000, .inr (.inl f2))), (nb, .inl (cJ, 3000, .inr (.inl g2))), (ba, .inl (cB, 400000, .inl by0))] := hD
            have hl : lv_has ls 5 [(0, .ref q), (1, .int (nI kn)), (4, .int (nI i2))] := hl
            have hi2 : i2 ≤ kn := hi2
            have hcp : ∀ j, j < i2 → f j = f2 j ∧ g j = g2 j := hcp
            refine lv_iload hx hb dd_M_unpack_213 (lv_at hl 2 rfl) ?_
            refine lv_iload_n hx hb dd_M_unpack_215 rfl (lv_at hl 1 rfl) ?_
            refine lv_icmp_ge (tgt := 253) hx hb dd_M_unpack_216 (by decide) (fun c_216 => ?_) (fun c_216 => ?_)
            · skip
              have c_216 : kn ≤ i2 := (nI_leI (by omega) (by omega)).mp c_216
              refine lv_aload_n hx hb dd_M_unpack_253 rfl (lv_at hl 0 rfl) ?_
              refine lv_iload_n hx hb dd_M_unpack_254 rfl (lv_at hl 1 rfl) ?_
              refine va_put (D := D) (ci := 6) (v := .int (nI kn)) (ty := .int) (C := cn_M) (T := cf_M) (N := 13) hx hb hw in_M ty_M to_M nn_M hown hK hP hD hS 0 rfl rfl 3 (by decide) (hw _ wi_540) (fun _ h9 => h9) rfl (by decide +kernel) (rfl) (rfl) (Nat.le_of_ble_eq_true rfl) dd_M_unpack_255 (fun H locs hP hD hS => ?_)
              have hP : va_P D classes [(q, .inr (6, [.int (nI 0), .ref ta, .ref vb, .int (nI kn), .ref ba, .int (nI L.length), .int (nI ((cp_ru L i).2.1)), .ref na, .ref nb, .int (nI ((cp_ru L i).2.1)), .int (nI 0), .int fz, .int (nI ((cp_ru L i).2.2.2.2.2.2))])), (ta, .inl (cJ, 3000, .inr (.inl f))), (vb, .inl (cJ, 3000, .inr (.inl g))), (na, .inl (cJ, 3000, .inr (.inl f2))), (nb, .inl (cJ, 3000, .inr (.inl g2))), (ba, .inl (cB, 400000, .inl by0))] _ := hP
              have hD : va_D A [(q, .inr (6, [.int (nI 0), .ref ta, .ref vb, .int (nI kn), .ref ba, .int (nI L.length), .int (nI ((cp_ru L i).2.1)), .ref na, .ref nb, .int (nI ((cp_ru L i).2.1)), .int (nI 0), .int fz, .int (nI ((cp_ru L i).2.2.2.2.2.2))])), (ta, .inl (cJ, 3000, .inr (.inl f))), (vb, .inl (cJ, 3000, .inr (.inl g))), (na, .inl (cJ, 3000, .inr (.inl f2))), (nb, .inl (cJ, 3000, .inr (.inl g2))), (ba, .inl (cB, 400000, .inl by0))] := hD
              refine lv_aload_n hx hb dd_M_unpack_258 rfl (lv_at hl 0 rfl) ?_
              refine va_get (D := D) (ci := 6) (C := cn_M) (T := cf_M) (N := 13) hx hb hw in_M hown hK hP 0 rfl rfl 9 (by decide) (hw _ wi_546) (fun _ h9 => h9) rfl dd_M_unpack_259 ?_
              refine ct_iret (u := (nI 0, kn, f, g, nI ((cp_ru L i).2.1), f2, g2, nI ((cp_ru L i).2.1), nI 0, fz, nI ((cp_ru L i).2.2.2.2.2.2))) hx hb hr hlocks hK hP hD hS rfl ?_ dd_M_unpack_262
              have hik : kn = i := by omega
              have hik2 : kn = i2 := by omega
              subst hik
              subst hik2
              refine Or.inr ⟨kn, hkn, rfl, rfl, rfl, fun _ => ⟨rfl, rfl, fun j hj => ?_⟩, fun h => ?_⟩
              · show f j = _ ∧ g j = _
                rw [(hcp j hj).1, (hcp j hj).2]
                exact hpt j hj
              · rw [hok] at h
                cases h
            have c_216 : ¬ (kn ≤ i2) := fun z => c_216 ((nI_leI (by omega) (by omega)).mpr z)
            refine lv_aload_n hx hb dd_M_unpack_219 rfl (lv_at hl 0 rfl) ?_
            refine va_get (D := D) (ci := 6) (C := cn_M) (T := cf_M) (N := 13) hx hb hw in_M hown hK hP 0 rfl rfl 1 (by decide) (hw _ wi_538) (fun _ h9 => h9) rfl dd_M_unpack_220 ?_
            refine lv_iload hx hb dd_M_unpack_223 (lv_at hl 2 rfl) ?_
            refine lv_aload_n hx hb dd_M_unpack_225 rfl (lv_at hl 0 rfl) ?_
            refine va_get (D := D) (ci := 6) (C := cn_M) (T := cf_M) (N := 13) hx hb hw in_M hown hK hP 0 rfl rfl 7 (by decide) (hw _ wi_544) (fun _ h9 => h9) rfl dd_M_unpack_226 ?_
            refine lv_iload hx hb dd_M_unpack_229 (lv_at hl 2 rfl) ?_
            refine va_lald hx hb hK hP 3 0 rfl rfl (vp_in_nI (by omega) (by omega)) dd_M_unpack_231 ?_
            refine ct_topl (y := f2 i2) (by rw [nI_clamp (by omega)]) ?_
            refine va_last hx hb hK hP hD hS 1 0 rfl rfl (vp_in_nI (by omega) (by omega)) dd_M_unpack_232 (fun H locs hP hD hS => ?_)
            rw [show (nI i2).toNatClampNeg = i2 from nI_clamp (by omega)] at hP hD
            have hP : va_P D classes [(q, .inr (6, [.int (nI 0), .ref ta, .ref vb, .int (nI n), .ref ba, .int (nI L.length), .int (nI ((cp_ru L i).2.1)), .ref na, .ref nb, .int (nI ((cp_ru L i).2.1)), .int (nI 0), .int fz, .int (nI ((cp_ru L i).2.2.2.2.2.2))])), (ta, .inl (cJ, 3000, .inr (.inl (vp_updL f i2 (f2 i2))))), (vb, .inl (cJ, 3000, .inr (.inl g))), (na, .inl (cJ, 3000, .inr (.inl f2))), (nb, .inl (cJ, 3000, .inr (.inl g2))), (ba, .inl (cB, 400000, .inl by0))] _ := hP
            have hD : va_D A [(q, .inr (6, [.int (nI 0), .ref ta, .ref vb, .int (nI n), .ref ba, .int (nI L.length), .int (nI ((cp_ru L i).2.1)), .ref na, .ref nb, .int (nI ((cp_ru L i).2.1)), .int (nI 0), .int fz, .int (nI ((cp_ru L i).2.2.2.2.2.2))])), (ta, .inl (cJ, 3000, .inr (.inl (vp_updL f i2 (f2 i2))))), (vb, .inl (cJ, 3000, .inr (.inl g))), (na, .inl (cJ, 3000, .inr (.inl f2))), (nb, .inl (cJ, 3000, .inr (.inl g2))), (ba, .inl (cB, 400000, .inl by0))] := hD
            refine lv_aload_n hx hb dd_M_unpack_233 rfl (lv_at hl 0 rfl) ?_
            refine va_get (D := D) (ci := 6) (C := cn_M) (T := cf_M) (N := 13) hx hb hw in_M hown hK hP 0 rfl rfl 2 (by decide) (hw _ wi_539) (fun _ h9 => h9) rfl dd_M_unpack_234 ?_
            refine lv_iload hx hb dd_M_unpack_237 (lv_at hl 2 rfl) ?_
            refine lv_aload_n hx hb dd_M_unpack_239 rfl (lv_at hl 0 rfl) ?_
            refine va_get (D := D) (ci := 6) (C := cn_M) (T := cf_M) (N := 13) hx hb hw in_M hown hK hP 0 rfl rfl 8 (by decide) (hw _ wi_545) (fun _ h9 => h9) rfl dd_M_unpack_240 ?_
            refine lv_iload hx hb dd_M_unpack_243 (lv_at hl 2 rfl) ?_
            refine va_lald hx hb hK hP 4 0 rfl rfl (vp_in_nI (by omega) (by omega)) dd_M_unpack_245 ?_
            refine ct_topl (y := g2 i2) (by rw [nI_clamp (by omega)]) ?_
            refine va_last hx hb hK hP hD hS 2 0 rfl rfl (vp_in_nI (by omega) (by omega)) dd_M_unpack_246 (fun H locs hP hD hS => ?_)
            rw [show (nI i2).toNatClampNeg = i2 from nI_clamp (by omega)] at hP hD
            have hP : va_P D classes [(q, .inr (6, [.int (nI 0), .ref ta, .ref vb, .int (nI n), .ref ba, .int (nI L.length), .int (nI ((cp_ru L i).2.1)), .ref na, .ref nb, .int (nI ((cp_ru L i).2.1)), .int (nI 0), .int fz, .int (nI ((cp_ru L i).2.2.2.2.2.2))])), (ta, .inl (cJ, 3000, .inr (.inl (vp_updL f i2 (f2 i2))))), (vb, .inl (cJ, 3000, .inr (.inl (vp_updL g i2 (g2 i2))))), (na, .inl (cJ, 3000, .inr (.inl f2))), (nb, .inl (cJ, 3000, .inr (.inl g2))), (ba, .inl (cB, 400000, .inl by0))] _ := hP
            have hD : va_D A [(q, .inr (6, [.int (nI 0), .ref ta, .ref vb, .int (nI n), .ref ba, .int (nI L.length), .int (nI ((cp_ru L i).2.1)), .ref na, .ref nb, .int (nI ((cp_ru L i).2.1)), .int (nI 0), .int fz, .int (nI ((cp_ru L i).2.2.2.2.2.2))])), (ta, .inl (cJ, 3000, .inr (.inl (vp_updL f i2 (f2 i2))))), (vb, .inl (cJ, 3000, .inr (.inl (vp_updL g i2 (g2 i2))))), (na, .inl (cJ, 3000, .inr (.inl f2))), (nb, .inl (cJ, 3000, .inr (.inl g2))), (ba, .inl (cB, 400000, .inl by0))] := hD
            refine lv_iinc (v := nI (i2 + 1)) (lv' := [(4, .int (nI (i2 + 1))), (0, .ref q), (1, .int (nI kn))]) hx hb dd_M_unpack_247 hl (k := 2) rfl (nI_1 i2) (by decide) rfl (fun ls hl => ?_)
            refine lv_goto (tgt := 213) hx hb dd_M_unpack_250 (by decide) ?_
            refine ih (i2 + 1, vp_updL f i2 (f2 i2), vp_updL g i2 (g2 i2)) _ _ _ (by show kn - (i2 + 1) < kn - i2; omega) ⟨hP, hD, hS, lv_sub hl [1, 2, 0] rfl, by show i2 + 1 ≤ kn; omega, mu_cp hcp⟩
          have c_205 : ¬ (0 = 0) := fun z => c_205 ((ct_zeq (by omega)).mpr z)
          exfalso
          omega
        have c_52 : ¬ (kn ≤ i) := fun z => c_52 ((nI_leI (by omega) (by omega)).mpr z)
        refine lv_aload_n hx hb dd_M_unpack_55 rfl (lv_at hl 0 rfl) ?_
        refine va_get (D := D) (ci := 6) (C := cn_M) (T := cf_M) (N := 13) hx hb hw in_M hown hK hP 0 rfl rfl 10 (by decide) (hw _ wi_547) (fun _ h9 => h9) rfl dd_M_unpack_56 ?_
        refine lv_if_ne (tgt := 193) hx hb dd_M_unpack_59 (by decide) (fun c_59 => ?_) (fun c_59 => ?_)
        · skip
          have c_59 : ¬ (0 = 0) := fun z => c_59 ((ct_zeq (by omega)).mpr z)
          exfalso
          omega
        have c_59 : 0 = 0 := (ct_zeq (by omega)).mp c_59
        refine lv_iload hx hb dd_M_unpack_62 (lv_at hl 3 rfl) ?_
        refine lv_if_ne (tgt := 94) hx hb dd_M_unpack_64 (by decide) (fun c_64 => ?_) (fun c_64 => ?_)
        · skip
          have c_64 : ¬ (i = 0) := fun z => c_64 ((ct_zeq (by omega)).mpr z)
          refine lv_lload_n hx hb dd_M_unpack_94 rfl (lv_at hl 2 rfl) ?_
          refine lv_aload_n hx hb dd_M_unpack_95 rfl (lv_at hl 0 rfl) ?_
          refine ct_behind_l (wc := [(q, .inr (6, [.int (nI 0), .ref ta, .ref vb, .int (nI n), .ref ba, .int (nI L.length), .int tk, .ref na, .ref nb, .int (nI ((cp_ru L i).2.1)), .int (nI 0), .int fz, .int (nI ((cp_ru L i).2.2.2.2.2.2))])), (ba, .inl (cB, 400000, .inl by0))]) (wr := [(ta, .inl (cJ, 3000, .inr (.inl f))), (vb, .inl (cJ, 3000, .inr (.inl g))), (na, .inl (cJ, 3000, .inr (.inl f2))), (nb, .inl (cJ, 3000, .inr (.inl g2)))]) (av := [.ref q]) (va_runV (As := []) (rest := [.long ((cp_ru L i).2.2.2.1)]) ⟨hx, hb, hml, hown, hw⟩ (cc_M_readTurn l D cJ cB q ta vb ba na nb (nI 0) tk fz (nI (cp_ru L i).2.2.2.2.2.2) n L by0 (cp_ru L i).2.1 (cp_ru L i).2.2.2.1 _ hL hB hru.1) (cwV 0 hw (tb_V wi_625 wi_627 wi_18 wi_25 wi_628) rfl rfl rfl (by decide +kernel) ⟨Nat.le_of_ble_eq_true rfl, Nat.le_of_ble_eq_true rfl⟩) ⟨ct_blind, ct_recv hK hP (q0 := 0) (ci := 6) rfl rfl, ct_pc hZ hK hP hD hS hA [0, 5] rfl (by decide)⟩ rfl rfl hl.1 rfl (lv_room (Nat.le_of_ble_eq_true rfl)) dd_M_unpack_96 ⟨Nat.le_of_ble_eq_true rfl, Nat.le_of_ble_eq_true rfl⟩) hK hP hD hS hA [0, 5] [1, 2, 3, 4] rfl rfl (by decide) (by decide) (fun r_96 u_96 H locs hw_96 hP hD hS => ?_)
          obtain ⟨p96, w96⟩ := u_96
          have hP : va_P D classes [(ta, .inl (cJ, 3000, .inr (.inl f))), (vb, .inl (cJ, 3000, .inr (.inl g))), (na, .inl (cJ, 3000, .inr (.inl f2))), (nb, .inl (cJ, 3000, .inr (.inl g2))), (q, .inr (6, [.int (nI 0), .ref ta, .ref vb, .int (nI n), .ref ba, .int (nI L.length), .int tk, .ref na, .ref nb, .int (nI p96), .int (nI w96), .int fz, .int (nI ((cp_ru L i).2.2.2.2.2.2))])), (ba, .inl (cB, 400000, .inl by0))] _ := hP
          have hD : va_D A [(ta, .inl (cJ, 3000, .inr (.inl f))), (vb, .inl (cJ, 3000, .inr (.inl g))), (na, .inl (cJ, 3000, .inr (.inl f2))), (nb, .inl (cJ, 3000, .inr (.inl g2))), (q, .inr (6, [.int (nI 0), .ref ta, .ref vb, .int (nI n), .ref ba, .int (nI L.length), .int tk, .ref na, .ref nb, .int (nI p96), .int (nI w96), .int fz, .int (nI ((cp_ru L i).2.2.2.2.2.2))])), (ba, .inl (cB, 400000, .inl by0))] := hD
          have hq9 := rt_pos (d := (cp_ru L i).2.2.2.1) hru.1
          rcases hrt : cp_rt L (cp_ru L i).2.1 (cp_ru L i).2.2.2.1 with ⟨_ | d9, q9⟩
          · skip
            obtain ⟨hr_96, hu_96⟩ := hw_96.1 q9 hrt
            have a1 : q9 = p96 := (congrArg (fun k => k.1) hu_96).symm
            have a2 : 1 = w96 := (congrArg (fun k => k.2) hu_96).symm
            subst a1 a2
            subst hr_96
            have hP : va_P D classes [(ta, .inl (cJ, 3000, .inr (.inl f))), (vb, .inl (cJ, 3000, .inr (.inl g))), (na, .inl (cJ, 3000, .inr (.inl f2))), (nb, .inl (cJ, 3000, .inr (.inl g2))), (q, .inr (6, [.int (nI 0), .ref ta, .ref vb, .int (nI n), .ref ba, .int (nI L.length), .int tk, .ref na, .ref nb, .int (nI q9), .int (nI 1), .int fz, .int (nI ((cp_ru L i).2.2.2.2.2.2))])), (ba, .inl (cB, 400000, .inl by0))] _ := hP
            have hD : va_D A [(ta, .inl (cJ, 3000, .inr (.inl f))), (vb, .inl (cJ, 3000, .inr (.inl g))), (na, .inl (cJ, 3000, .inr (.inl f2))), (nb, .inl (cJ, 3000, .inr (.inl g2))), (q, .inr (6, [.int (nI 0), .ref ta, .ref vb, .int (nI n), .ref ba, .int (nI L.length), .int tk, .ref na, .ref nb, .int (nI q9), .int (nI 1), .int fz, .int (nI ((cp_ru L i).2.2.2.2.2.2))])), (ba, .inl (cB, 400000, .inl by0))] := hD
            refine lv_ladd hx hb dd_M_unpack_99 ?_
            refine lv_lstore_n (lv' := [(2, .long (((cp_ru L i).2.2.2.1) + (0 : Int64))), (0, .ref q), (1, .int (nI kn)), (4, .int (nI i))]) hx hb dd_M_unpack_100 rfl hl (by decide) rfl (fun ls hl => ?_)
            refine lv_aload_n hx hb dd_M_unpack_101 rfl (lv_at hl 1 rfl) ?_
            refine va_get (D := D) (ci := 6) (C := cn_M) (T := cf_M) (N := 13) hx hb hw in_M hown hK hP 4 rfl rfl 7 (by decide) (hw _ wi_544) (fun _ h9 => h9) rfl dd_M_unpack_102 ?_
            refine lv_iload hx hb dd_M_unpack_105 (lv_at hl 3 rfl) ?_
            refine lv_aload_n hx hb dd_M_unpack_107 rfl (lv_at hl 1 rfl) ?_
            refine va_get (D := D) (ci := 6) (C := cn_M) (T := cf_M) (N := 13) hx hb hw in_M hown hK hP 4 rfl rfl 7 (by decide) (hw _ wi_544) (fun _ h9 => h9) rfl dd_M_unpack_108 ?_
            refine lv_iload hx hb dd_M_unpack_111 (lv_at hl 3 rfl) ?_
            refine lv_iconst (v := nI 1) hx hb dd_M_unpack_113 (by decide) ?_
            refine lv_isub hx hb dd_M_unpack_114 ?_
            refine ct_topi (y := nI (i - 1)) (pk_sub (by omega)) ?_
            refine va_lald hx hb hK hP 2 0 rfl rfl (vp_in_nI (by omega) (by omega)) dd_M_unpack_115 ?_
            refine ct_topl (y := f2 (i - 1)) (by rw [nI_clamp (by omega)]) ?_
            refine ct_topl (y := (cp_ru L i).2.2.1) ((mu_last hpt c_64).1) ?_
            refine lv_lload_n hx hb dd_M_unpack_116 rfl (lv_at hl 0 rfl) ?_
            refine lv_ladd hx hb dd_M_unpack_117 ?_
            refine va_last hx hb hK hP hD hS 2 0 rfl rfl (vp_in_nI (by omega) (by omega)) dd_M_unpack_118 (fun H locs hP hD hS => ?_)
            rw [show (nI i).toNatClampNeg = i from nI_clamp (by omega)] at hP hD
            have hP : va_P D classes [(ta, .inl (cJ, 3000, .inr (.inl f))), (vb, .inl (cJ, 3000, .inr (.inl g))), (na, .inl (cJ, 3000, .inr (.inl (vp_updL f2 i (((cp_ru L i).2.2.1) + (((cp_ru L i).2.2.2.1) + (0 : Int64))))))), (nb, .inl (cJ, 3000, .inr (.inl g2))), (q, .inr (6, [.int (nI 0), .ref ta, .ref vb, .int (nI n), .ref ba, .int (nI L.length), .int tk, .ref na, .ref nb, .int (nI q9), .int (nI 1), .int fz, .int (nI ((cp_ru L i).2.2.2.2.2.2))])), (ba, .inl (cB, 400000, .inl by0))] _ := hP
            have hD : va_D A [(ta, .inl (cJ, 3000, .inr (.inl f))), (vb, .inl (cJ, 3000, .inr (.inl g))), (na, .inl (cJ, 3000, .inr (.inl (vp_updL f2 i (((cp_ru L i).2.2.1) + (((cp_ru L i).2.2.2.1) + (0 : Int64))))))), (nb, .inl (cJ, 3000, .inr (.inl g2))), (q, .inr (6, [.int (nI 0), .ref ta, .ref vb, .int (nI n), .ref ba, .int (nI L.length), .int tk, .ref na, .ref nb, .int (nI q9), .int (nI 1), .int fz, .int (nI ((cp_ru L i).2.2.2.2.2.2))])), (ba, .inl (cB, 400000, .inl by0))] := hD
            refine lv_aload_n hx hb dd_M_unpack_119 rfl (lv_at hl 1 rfl) ?_
            refine lv_aload_n hx hb dd_M_unpack_120 rfl (lv_at hl 1 rfl) ?_
            refine va_get (D := D) (ci := 6) (C := cn_M) (T := cf_M) (N := 13) hx hb hw in_M hown hK hP 4 rfl rfl 10 (by decide) (hw _ wi_547) (fun _ h9 => h9) rfl dd_M_unpack_121 ?_
            refine lv_if_ne (tgt := 147) hx hb dd_M_unpack_124 (by decide) (fun c_124 => ?_) (fun c_124 => ?_)
            · skip
              have c_124 : ¬ (1 = 0) := fun z => c_124 ((ct_zeq (by omega)).mpr z)
              refine lv_iconst (v := nI 1) hx hb dd_M_unpack_147 (by decide) ?_
              refine lv_goto (tgt := 152) hx hb dd_M_unpack_148 (by decide) ?_
              refine va_put (D := D) (ci := 6) (v := .int (nI 1)) (ty := .boolean) (C := cn_M) (T := cf_M) (N := 13) hx hb hw in_M ty_M to_M nn_M hown hK hP hD hS 4 rfl rfl 10 (by decide) (hw _ wi_547) (fun _ h9 => h9) rfl (by decide +kernel) (by decide) (by decide) (Nat.le_of_ble_eq_true rfl) dd_M_unpack_152 (fun H locs hP hD hS => ?_)
              have hP : va_P D classes [(ta, .inl (cJ, 3000, .inr (.inl f))), (vb, .inl (cJ, 3000, .inr (.inl g))), (na, .inl (cJ, 3000, .inr (.inl (vp_updL f2 i (((cp_ru L i).2.2.1) + (((cp_ru L i).2.2.2.1) + (0 : Int64))))))), (nb, .inl (cJ, 3000, .inr (.inl g2))), (q, .inr (6, [.int (nI 0), .ref ta, .ref vb, .int (nI n), .ref ba, .int (nI L.length), .int tk, .ref na, .ref nb, .int (nI q9), .int (nI 1), .int fz, .int (nI ((cp_ru L i).2.2.2.2.2.2))])), (ba, .inl (cB, 400000, .inl by0))] _ := hP
              have hD : va_D A [(ta, .inl (cJ, 3000, .inr (.inl f))), (vb, .inl (cJ, 3000, .inr (.inl g))), (na, .inl (cJ, 3000, .inr (.inl (vp_updL f2 i (((cp_ru L i).2.2.1) + (((cp_ru L i).2.2.2.1) + (0 : Int64))))))), (nb, .inl (cJ, 3000, .inr (.inl g2))), (q, .inr (6, [.int (nI 0), .ref ta, .ref vb, .int (nI n), .ref ba, .int (nI L.length), .int tk, .ref na, .ref nb, .int (nI q9), .int (nI 1), .int fz, .int (nI ((cp_ru L i).2.2.2.2.2.2))])), (ba, .inl (cB, 400000, .inl by0))] := hD
              refine lv_aload_n hx hb dd_M_unpack_155 rfl (lv_at hl 1 rfl) ?_
              refine va_get (D := D) (ci := 6) (C := cn_M) (T := cf_M) (N := 13) hx hb hw in_M hown hK hP 4 rfl rfl 8 (by decide) (hw _ wi_545) (fun _ h9 => h9) rfl dd_M_unpack_156 ?_
              refine lv_iload hx hb dd_M_unpack_159 (lv_at hl 3 rfl) ?_
              refine lv_aload_n hx hb dd_M_unpack_161 rfl (lv_at hl 1 rfl) ?_
              refine va_get (D := D) (ci := 6) (C := cn_M) (T := cf_M) (N := 13) hx hb hw in_M hown hK hP 4 rfl rfl 8 (by decide) (hw _ wi_545) (fun _ h9 => h9) rfl dd_M_unpack_162 ?_
              refine lv_iload hx hb dd_M_unpack_165 (lv_at hl 3 rfl) ?_
              refine lv_iconst (v := nI 1) hx hb dd_M_unpack_167 (by decide) ?_
              refine lv_isub hx hb dd_M_unpack_168 ?_
              refine ct_topi (y := nI (i - 1)) (pk_sub (by omega)) ?_
              refine va_lald hx hb hK hP 3 0 rfl rfl (vp_in_nI (by omega) (by omega)) dd_M_unpack_169 ?_
              refine ct_topl (y := g2 (i - 1)) (by rw [nI_clamp (by omega)]) ?_
              refine ct_topl (y := (cp_ru L i).2.2.2.2.1) ((mu_last hpt c_64).2) ?_
              refine lv_aload_n hx hb dd_M_unpack_170 rfl (lv_at hl 1 rfl) ?_
              refine va_get (D := D) (ci := 6) (C := cn_M) (T := cf_M) (N := 13) hx hb hw in_M hown hK hP 4 rfl rfl 10 (by decide) (hw _ wi_547) (fun _ h9 => h9) rfl dd_M_unpack_171 ?_
              refine lv_if_eq (tgt := 181) hx hb dd_M_unpack_174 (by decide) (fun c_174 => ?_) (fun c_174 => ?_)
              · skip
                have c_174 : 1 = 0 := (ct_zeq (by omega)).mp c_174
                exfalso
                omega
              have c_174 : ¬ (1 = 0) := fun z => c_174 ((ct_zeq (by omega)).mpr z)
              refine lv_lconst (v := 0) hx hb dd_M_unpack_177 (by decide) ?_
              refine lv_goto (tgt := 185) hx hb dd_M_unpack_178 (by decide) ?_
              refine lv_lxor hx hb dd_M_unpack_185 ?_
              refine va_last hx hb hK hP hD hS 3 0 rfl rfl (vp_in_nI (by omega) (by omega)) dd_M_unpack_186 (fun H locs hP hD hS => ?_)
              rw [show (nI i).toNatClampNeg = i from nI_clamp (by omega)] at hP hD
              have hP : va_P D classes [(ta, .inl (cJ, 3000, .inr (.inl f))), (vb, .inl (cJ, 3000, .inr (.inl g))), (na, .inl (cJ, 3000, .inr (.inl (vp_updL f2 i (((cp_ru L i).2.2.1) + (((cp_ru L i).2.2.2.1) + (0 : Int64))))))), (nb, .inl (cJ, 3000, .inr (.inl (vp_updL g2 i (((cp_ru L i).2.2.2.2.1) ^^^ 0))))), (q, .inr (6, [.int (nI 0), .ref ta, .ref vb, .int (nI n), .ref ba, .int (nI L.length), .int tk, .ref na, .ref nb, .int (nI q9), .int (nI 1), .int fz, .int (nI ((cp_ru L i).2.2.2.2.2.2))])), (ba, .inl (cB, 400000, .inl by0))] _ := hP
              have hD : va_D A [(ta, .inl (cJ, 3000, .inr (.inl f))), (vb, .inl (cJ, 3000, .inr (.inl g))), (na, .inl (cJ, 3000, .inr (.inl (vp_updL f2 i (((cp_ru L i).2.2.1) + (((cp_ru L i).2.2.2.1) + (0 : Int64))))))), (nb, .inl (cJ, 3000, .inr (.inl (vp_updL g2 i (((cp_ru L i).2.2.2.2.1) ^^^ 0))))), (q, .inr (6, [.int (nI 0), .ref ta, .ref vb, .int (nI n), .ref ba, .int (nI L.length), .int tk, .ref na, .ref nb, .int (nI q9), .int (nI 1), .int fz, .int (nI ((cp_ru L i).2.2.2.2.2.2))])), (ba, .inl (cB, 400000, .inl by0))] := hD
              refine lv_iinc (v := nI (i + 1)) (lv' := [(4, .int (nI (i + 1))), (2, .long (((cp_ru L i).2.2.2.1) + (0 : Int64))), (0, .ref q), (1, .int (nI kn))]) hx hb dd_M_unpack_187 hl (k := 3) rfl (nI_1 i) (by decide) rfl (fun ls hl => ?_)
              refine lv_goto (tgt := 49) hx hb dd_M_unpack_190 (by decide) ?_
              have e9 : (cp_ru L (i + 1)) = _ := (mu_rn hok c_64).trans (rn_n hrt)
              refine ih (i + 1, (cp_ru L i).2.2.2.1 + (0 : Int64), fz, (nI (cp_ru L i).2.2.2.2.2.2), vp_updL f2 i (((cp_ru L i).2.2.1) + (((cp_ru L i).2.2.2.1) + (0 : Int64))), vp_updL g2 i (((cp_ru L i).2.2.2.2.1) ^^^ 0), q9, 1) _ _ _ (by show kn - (i + 1) < kn - i; omega) ⟨hP.sub [4, 0, 1, 2, 3, 5] rfl, hD.sub [4, 0, 1, 2, 3, 5] (by decide) rfl, hS, lv_sub hl [2, 3, 1, 0] rfl, by show i + 1 ≤ kn; omega, by rw [e9], Or.inr ⟨rfl, by rw [e9]⟩⟩
            have c_124 : 1 = 0 := (ct_zeq (by omega)).mp c_124
            exfalso
            omega
          obtain ⟨hr_96, hu_96⟩ := hw_96.2 d9 q9 hrt
          have a1 : q9 = p96 := (congrArg (fun k => k.1) hu_96).symm
          have a2 : 0 = w96 := (congrArg (fun k => k.2) hu_96).symm
          subst a1 a2
          rw [hrt] at hq9
          have hq9 : q9 ≤ L.length := hq9
          have hP : va_P D classes [(ta, .inl (cJ, 3000, .inr (.inl f))), (vb, .inl (cJ, 3000, .inr (.inl g))), (na, .inl (cJ, 3000, .inr (.inl f2))), (nb, .inl (cJ, 3000, .inr (.inl g2))), (q, .inr (6, [.int (nI 0), .ref ta, .ref vb, .int (nI n), .ref ba, .int (nI L.length), .int tk, .ref na, .ref nb, .int (nI q9), .int (nI 0), .int fz, .int (nI ((cp_ru L i).2.2.2.2.2.2))])), (ba, .inl (cB, 400000, .inl by0))] _ := hP
          have hD : va_D A [(ta, .inl (cJ, 3000, .inr (.inl f))), (vb, .inl (cJ, 3000, .inr (.inl g))), (na, .inl (cJ, 3000, .inr (.inl f2))), (nb, .inl (cJ, 3000, .inr (.inl g2))), (q, .inr (6, [.int (nI 0), .ref ta, .ref vb, .int (nI n), .ref ba, .int (nI L.length), .int tk, .ref na, .ref nb, .int (nI q9), .int (nI 0), .int fz, .int (nI ((cp_ru L i).2.2.2.2.2.2))])), (ba, .inl (cB, 400000, .inl by0))] := hD
          refine lv_ladd hx hb dd_M_unpack_99 ?_
          refine ct_topl (y := d9) (hr_96) ?_
          refine lv_lstore_n (lv' := [(2, .long d9), (0, .ref q), (1, .int (nI kn)), (4, .int (nI i))]) hx hb dd_M_unpack_100 rfl hl (by decide) rfl (fun ls hl => ?_)
          refine lv_aload_n hx hb dd_M_unpack_101 rfl (lv_at hl 1 rfl) ?_
          refine va_get (D := D) (ci := 6) (C := cn_M) (T := cf_M) (N := 13) hx hb hw in_M hown hK hP 4 rfl rfl 7 (by decide) (hw _ wi_544) (fun _ h9 => h9) rfl dd_M_unpack_102 ?_
          refine lv_iload hx hb dd_M_unpack_105 (lv_at hl 3 rfl) ?_
          refine lv_aload_n hx hb dd_M_unpack_107 rfl (lv_at hl 1 rfl) ?_
          refine va_get (D := D) (ci := 6) (C := cn_M) (T := cf_M) (N := 13) hx hb hw in_M hown hK hP 4 rfl rfl 7 (by decide) (hw _ wi_544) (fun _ h9 => h9) rfl dd_M_unpack_108 ?_
          refine lv_iload hx hb dd_M_unpack_111 (lv_at hl 3 rfl) ?_
          refine lv_iconst (v := nI 1) hx hb dd_M_unpack_113 (by decide) ?_
          refine lv_isub hx hb dd_M_unpack_114 ?_
          refine ct_topi (y := nI (i - 1)) (pk_sub (by omega)) ?_
          refine va_lald hx hb hK hP 2 0 rfl rfl (vp_in_nI (by omega) (by omega)) dd_M_unpack_115 ?_
          refine ct_topl (y := f2 (i - 1)) (by rw [nI_clamp (by omega)]) ?_
          refine ct_topl (y := (cp_ru L i).2.2.1) ((mu_last hpt c_64).1) ?_
          refine lv_lload_n hx hb dd_M_unpack_116 rfl (lv_at hl 0 rfl) ?_
          refine lv_ladd hx hb dd_M_unpack_117 ?_
          refine va_last hx hb hK hP hD hS 2 0 rfl rfl (vp_in_nI (by omega) (by omega)) dd_M_unpack_118 (fun H locs hP hD hS => ?_)
          rw [show (nI i).toNatClampNeg = i from nI_clamp (by omega)] at hP hD
          have hP : va_P D classes [(ta, .inl (cJ, 3000, .inr (.inl f))), (vb, .inl (cJ, 3000, .inr (.inl g))), (na, .inl (cJ, 3000, .inr (.inl (vp_updL f2 i (((cp_ru L i).2.2.1) + d9))))), (nb, .inl (cJ, 3000, .inr (.inl g2))), (q, .inr (6, [.int (nI 0), .ref ta, .ref vb, .int (nI n), .ref ba, .int (nI L.length), .int tk, .ref na, .ref nb, .int (nI q9), .int (nI 0), .int fz, .int (nI ((cp_ru L i).2.2.2.2.2.2))])), (ba, .inl (cB, 400000, .inl by0))] _ := hP
          have hD : va_D A [(ta, .inl (cJ, 3000, .inr (.inl f))), (vb, .inl (cJ, 3000, .inr (.inl g))), (na, .inl (cJ, 3000, .inr (.inl (vp_updL f2 i (((cp_ru L i).2.2.1) + d9))))), (nb, .inl (cJ, 3000, .inr (.inl g2))), (q, .inr (6, [.int (nI 0), .ref ta, .ref vb, .int (nI n), .ref ba, .int (nI L.length), .int tk, .ref na, .ref nb, .int (nI q9), .int (nI 0), .int fz, .int (nI ((cp_ru L i).2.2.2.2.2.2))])), (ba, .inl (cB, 400000, .inl by0))] := hD
          refine lv_aload_n hx hb dd_M_unpack_119 rfl (lv_at hl 1 rfl) ?_
          refine lv_aload_n hx hb dd_M_unpack_120 rfl (lv_at hl 1 rfl) ?_
          refine va_get (D := D) (ci := 6) (C := cn_M) (T := cf_M) (N := 13) hx hb hw in_M hown hK hP 4 rfl rfl 10 (by decide) (hw _ wi_547) (fun _ h9 => h9) rfl dd_M_unpack_121 ?_
          refine lv_if_ne (tgt := 147) hx hb dd_M_unpack_124 (by decide) (fun c_124 => ?_) (fun c_124 => ?_)
          · skip
            have c_124 : ¬ (0 = 0) := fun z => c_124 ((ct_zeq (by omega)).mpr z)
            exfalso
            omega
          have c_124 : 0 = 0 := (ct_zeq (by omega)).mp c_124
          refine lv_lload_n hx hb dd_M_unpack_127 rfl (lv_at hl 0 rfl) ?_
          refine lv_lconst (v := 1) hx hb dd_M_unpack_128 (by decide) ?_
          refine W.lcmp hx hb dd_M_unpack_129 ?_
          refine lv_if_lt (tgt := 147) hx hb dd_M_unpack_130 (by decide) (fun c_130 => ?_) (fun c_130 => ?_)
          · skip
            have c_130 : d9 < 1 := (lg_cmp_lt _ _).mp c_130
            refine lv_iconst (v := nI 1) hx hb dd_M_unpack_147 (by decide) ?_
            refine lv_goto (tgt := 152) hx hb dd_M_unpack_148 (by decide) ?_
            refine va_put (D := D) (ci := 6) (v := .int (nI 1)) (ty := .boolean) (C := cn_M) (T := cf_M) (N := 13) hx hb hw in_M ty_M to_M nn_M hown hK hP hD hS 4 rfl rfl 10 (by decide) (hw _ wi_547) (fun _ h9 => h9) rfl (by decide +kernel) (by decide) (by decide) (Nat.le_of_ble_eq_true rfl) dd_M_unpack_152 (fun H locs hP hD hS => ?_)
            have hP : va_P D classes [(ta, .inl (cJ, 3000, .inr (.inl f))), (vb, .inl (cJ, 3000, .inr (.inl g))), (na, .inl (cJ, 3000, .inr (.inl (vp_updL f2 i (((cp_ru L i).2.2.1) + d9))))), (nb, .inl (cJ, 3000, .inr (.inl g2))), (q, .inr (6, [.int (nI 0), .ref ta, .ref vb, .int (nI n), .ref ba, .int (nI L.length), .int tk, .ref na, .ref nb, .int (nI q9), .int (nI 1), .int fz, .int (nI ((cp_ru L i).2.2.2.2.2.2))])), (ba, .inl (cB, 400000, .inl by0))] _ := hP
            have hD : va_D A [(ta, .inl (cJ, 3000, .inr (.inl f))), (vb, .inl (cJ, 3000, .inr (.inl g))), (na, .inl (cJ, 3000, .inr (.inl (vp_updL f2 i (((cp_ru L i).2.2.1) + d9))))), (nb, .inl (cJ, 3000, .inr (.inl g2))), (q, .inr (6, [.int (nI 0), .ref ta, .ref vb, .int (nI n), .ref ba, .int (nI L.length), .int tk, .ref na, .ref nb, .int (nI q9), .int (nI 1), .int fz, .int (nI ((cp_ru L i).2.2.2.2.2.2))])), (ba, .inl (cB, 400000, .inl by0))] := hD
            refine lv_aload_n hx hb dd_M_unpack_155 rfl (lv_at hl 1 rfl) ?_
            refine va_get (D := D) (ci := 6) (C := cn_M) (T := cf_M) (N := 13) hx hb hw in_M hown hK hP 4 rfl rfl 8 (by decide) (hw _ wi_545) (fun _ h9 => h9) rfl dd_M_unpack_156 ?_
            refine lv_iload hx hb dd_M_unpack_159 (lv_at hl 3 rfl) ?_
            refine lv_aload_n hx hb dd_M_unpack_161 rfl (lv_at hl 1 rfl) ?_
            refine va_get (D := D) (ci := 6) (C := cn_M) (T := cf_M) (N := 13) hx hb hw in_M hown hK hP 4 rfl rfl 8 (by decide) (hw _ wi_545) (fun _ h9 => h9) rfl dd_M_unpack_162 ?_
            refine lv_iload hx hb dd_M_unpack_165 (lv_at hl 3 rfl) ?_
            refine lv_iconst (v := nI 1) hx hb dd_M_unpack_167 (by decide) ?_
            refine lv_isub hx hb dd_M_unpack_168 ?_
            refine ct_topi (y := nI (i - 1)) (pk_sub (by omega)) ?_
            refine va_lald hx hb hK hP 3 0 rfl rfl (vp_in_nI (by omega) (by omega)) dd_M_unpack_169 ?_
            refine ct_topl (y := g2 (i - 1)) (by rw [nI_clamp (by omega)]) ?_
            refine ct_topl (y := (cp_ru L i).2.2.2.2.1) ((mu_last hpt c_64).2) ?_
            refine lv_aload_n hx hb dd_M_unpack_170 rfl (lv_at hl 1 rfl) ?_
            refine va_get (D := D) (ci := 6) (C := cn_M) (T := cf_M) (N := 13) hx hb hw in_M hown hK hP 4 rfl rfl 10 (by decide) (hw _ wi_547) (fun _ h9 => h9) rfl dd_M_unpack_171 ?_
            refine lv_if_eq (tgt := 181) hx hb dd_M_unpack_174 (by decide) (fun c_174 => ?_) (fun c_174 => ?_)
            · skip
              have c_174 : 1 = 0 := (ct_zeq (by omega)).mp c_174
              exfalso
              omega
            have c_174 : ¬ (1 = 0) := fun z => c_174 ((ct_zeq (by omega)).mpr z)
            refine lv_lconst (v := 0) hx hb dd_M_unpack_177 (by decide) ?_
            refine lv_goto (tgt := 185) hx hb dd_M_unpack_178 (by decide) ?_
            refine lv_lxor hx hb dd_M_unpack_185 ?_
            refine va_last hx hb hK hP hD hS 3 0 rfl rfl (vp_in_nI (by omega) (by omega)) dd_M_unpack_186 (fun H locs hP hD hS => ?_)
            rw [show (nI i).toNatClampNeg = i from nI_clamp (by omega)] at hP hD
            have hP : va_P D classes [(ta, .inl (cJ, 3000, .inr (.inl f))), (vb, .inl (cJ, 3000, .inr (.inl g))), (na, .inl (cJ, 3000, .inr (.inl (vp_updL f2 i (((cp_ru L i).2.2.1) + d9))))), (nb, .inl (cJ, 3000, .inr (.inl (vp_updL g2 i (((cp_ru L i).2.2.2.2.1) ^^^ 0))))), (q, .inr (6, [.int (nI 0), .ref ta, .ref vb, .int (nI n), .ref ba, .int (nI L.length), .int tk, .ref na, .ref nb, .int (nI q9), .int (nI 1), .int fz, .int (nI ((cp_ru L i).2.2.2.2.2.2))])), (ba, .inl (cB, 400000, .inl by0))] _ := hP
            have hD : va_D A [(ta, .inl (cJ, 3000, .inr (.inl f))), (vb, .inl (cJ, 3000, .inr (.inl g))), (na, .inl (cJ, 3000, .inr (.inl (vp_updL f2 i (((cp_ru L i).2.2.1) + d9))))), (nb, .inl (cJ, 3000, .inr (.inl (vp_updL g2 i (((cp_ru L i).2.2.2.2.1) ^^^ 0))))), (q, .inr (6, [.int (nI 0), .ref ta, .ref vb, .int (nI n), .ref ba, .int (nI L.length), .int tk, .ref na, .ref nb, .int (nI q9), .int (nI 1), .int fz, .int (nI ((cp_ru L i).2.2.2.2.2.2))])), (ba, .inl (cB, 400000, .inl by0))] := hD
            refine lv_iinc (v := nI (i + 1)) (lv' := [(4, .int (nI (i + 1))), (2, .long d9), (0, .ref q), (1, .int (nI kn))]) hx hb dd_M_unpack_187 hl (k := 3) rfl (nI_1 i) (by decide) rfl (fun ls hl => ?_)
            refine lv_goto (tgt := 49) hx hb dd_M_unpack_190 (by decide) ?_
            have e9 : (cp_ru L (i + 1)) = _ := (mu_rn hok c_64).trans (rn_f hrt (fun k => absurd k.1 (Int64.not_le.mpr c_130)))
            refine ih (i + 1, d9, fz, (nI (cp_ru L i).2.2.2.2.2.2), vp_updL f2 i (((cp_ru L i).2.2.1) + d9), vp_updL g2 i (((cp_ru L i).2.2.2.2.1) ^^^ 0), q9, 1) _ _ _ (by show kn - (i + 1) < kn - i; omega) ⟨hP.sub [4, 0, 1, 2, 3, 5] rfl, hD.sub [4, 0, 1, 2, 3, 5] (by decide) rfl, hS, lv_sub hl [2, 3, 1, 0] rfl, by show i + 1 ≤ kn; omega, by rw [e9], Or.inr ⟨rfl, by rw [e9]⟩⟩
          have c_130 : ¬ (d9 < 1) := fun z => c_130 ((lg_cmp_lt _ _).mpr z)
          refine lv_aload_n hx hb dd_M_unpack_133 rfl (lv_at hl 1 rfl) ?_
          refine va_get (D := D) (ci := 6) (C := cn_M) (T := cf_M) (N := 13) hx hb hw in_M hown hK hP 4 rfl rfl 7 (by decide) (hw _ wi_544) (fun _ h9 => h9) rfl dd_M_unpack_134 ?_
          refine lv_iload hx hb dd_M_unpack_137 (lv_at hl 3 rfl) ?_
          refine va_lald hx hb hK hP 2 0 rfl rfl (vp_in_nI (by omega) (by omega)) dd_M_unpack_139 ?_
          refine ct_topl (y := (vp_updL f2 i (((cp_ru L i).2.2.1) + d9)) i) (by rw [nI_clamp (by omega)]) ?_
          refine ct_topl (y := ((cp_ru L i).2.2.1 + d9)) (pk_uLs) ?_
          refine lv_ldc2 (v := 1099511627775) hx hb hown (hw _ wi_585) dd_M_unpack_140 ?_
          refine W.lcmp hx hb dd_M_unpack_143 ?_
          refine lv_if_le (tgt := 151) hx hb dd_M_unpack_144 (by decide) (fun c_144 => ?_) (fun c_144 => ?_)
          · skip
            have c_144 : ((cp_ru L i).2.2.1 + d9) ≤ 1099511627775 := (lg_cmp_le _ _).mp c_144
            refine lv_iconst (v := nI 0) hx hb dd_M_unpack_151 (by decide) ?_
            refine va_put (D := D) (ci := 6) (v := .int (nI 0)) (ty := .boolean) (C := cn_M) (T := cf_M) (N := 13) hx hb hw in_M ty_M to_M nn_M hown hK hP hD hS 4 rfl rfl 10 (by decide) (hw _ wi_547) (fun _ h9 => h9) rfl (by decide +kernel) (by decide) (by decide) (Nat.le_of_ble_eq_true rfl) dd_M_unpack_152 (fun H locs hP hD hS => ?_)
            have hP : va_P D classes [(ta, .inl (cJ, 3000, .inr (.inl f))), (vb, .inl (cJ, 3000, .inr (.inl g))), (na, .inl (cJ, 3000, .inr (.inl (vp_updL f2 i (((cp_ru L i).2.2.1) + d9))))), (nb, .inl (cJ, 3000, .inr (.inl g2))), (q, .inr (6, [.int (nI 0), .ref ta, .ref vb, .int (nI n), .ref ba, .int (nI L.length), .int tk, .ref na, .ref nb, .int (nI q9), .int (nI 0), .int fz, .int (nI ((cp_ru L i).2.2.2.2.2.2))])), (ba, .inl (cB, 400000, .inl by0))] _ := hP
            have hD : va_D A [(ta, .inl (cJ, 3000, .inr (.inl f))), (vb, .inl (cJ, 3000, .inr (.inl g))), (na, .inl (cJ, 3000, .inr (.inl (vp_updL f2 i (((cp_ru L i).2.2.1) + d9))))), (nb, .inl (cJ, 3000, .inr (.inl g2))), (q, .inr (6, [.int (nI 0), .ref ta, .ref vb, .int (nI n), .ref ba, .int (nI L.length), .int tk, .ref na, .ref nb, .int (nI q9), .int (nI 0), .int fz, .int (nI ((cp_ru L i).2.2.2.2.2.2))])), (ba, .inl (cB, 400000, .inl by0))] := hD
            refine lv_aload_n hx hb dd_M_unpack_155 rfl (lv_at hl 1 rfl) ?_
            refine va_get (D := D) (ci := 6) (C := cn_M) (T := cf_M) (N := 13) hx hb hw in_M hown hK hP 4 rfl rfl 8 (by decide) (hw _ wi_545) (fun _ h9 => h9) rfl dd_M_unpack_156 ?_
            refine lv_iload hx hb dd_M_unpack_159 (lv_at hl 3 rfl) ?_
            refine lv_aload_n hx hb dd_M_unpack_161 rfl (lv_at hl 1 rfl) ?_
            refine va_get (D := D) (ci := 6) (C := cn_M) (T := cf_M) (N := 13) hx hb hw in_M hown hK hP 4 rfl rfl 8 (by decide) (hw _ wi_545) (fun _ h9 => h9) rfl dd_M_unpack_162 ?_
            refine lv_iload hx hb dd_M_unpack_165 (lv_at hl 3 rfl) ?_
            refine lv_iconst (v := nI 1) hx hb dd_M_unpack_167 (by decide) ?_
            refine lv_isub hx hb dd_M_unpack_168 ?_
            refine ct_topi (y := nI (i - 1)) (pk_sub (by omega)) ?_
            refine va_lald hx hb hK hP 3 0 rfl rfl (vp_in_nI (by omega) (by omega)) dd_M_unpack_169 ?_
            refine ct_topl (y := g2 (i - 1)) (by rw [nI_clamp (by omega)]) ?_
            refine ct_topl (y := (cp_ru L i).2.2.2.2.1) ((mu_last hpt c_64).2) ?_
            refine lv_aload_n hx hb dd_M_unpack_170 rfl (lv_at hl 1 rfl) ?_
            refine va_get (D := D) (ci := 6) (C := cn_M) (T := cf_M) (N := 13) hx hb hw in_M hown hK hP 4 rfl rfl 10 (by decide) (hw _ wi_547) (fun _ h9 => h9) rfl dd_M_unpack_171 ?_
            refine lv_if_eq (tgt := 181) hx hb dd_M_unpack_174 (by decide) (fun c_174 => ?_) (fun c_174 => ?_)
            · skip
              have c_174 : 0 = 0 := (ct_zeq (by omega)).mp c_174
              refine lv_aload_n hx hb dd_M_unpack_181 rfl (lv_at hl 1 rfl) ?_
              refine ct_behind_l (wc := [(q, .inr (6, [.int (nI 0), .ref ta, .ref vb, .int (nI n), .ref ba, .int (nI L.length), .int tk, .ref na, .ref nb, .int (nI q9), .int (nI 0), .int fz, .int (nI ((cp_ru L i).2.2.2.2.2.2))])), (ba, .inl (cB, 400000, .inl by0))]) (wr := [(ta, .inl (cJ, 3000, .inr (.inl f))), (vb, .inl (cJ, 3000, .inr (.inl g))), (na, .inl (cJ, 3000, .inr (.inl (vp_updL f2 i (((cp_ru L i).2.2.1) + d9))))), (nb, .inl (cJ, 3000, .inr (.inl g2)))]) (av := [.ref q]) (va_runV (As := []) (rest := [.long ((cp_ru L i).2.2.2.2.1), .int (nI i), .ref nb]) ⟨hx, hb, hml, hown, hw⟩ (cc_M_readValue l D cJ cB q ta vb ba na nb (nI 0) tk fz n L by0 q9 ((cp_ru L i).2.2.1 + d9) d9 (cp_ru L i).2.2.2.2.1 (cp_ru L i).2.2.2.2.2.1 (cp_ru L i).2.2.2.2.2.2 _ hL hB hq9 (hru.2 hok) hfz9) (cwV 0 hw (tb_V wi_633 wi_635 wi_20 wi_25 wi_636) rfl rfl rfl (by decide +kernel) ⟨Nat.le_of_ble_eq_true rfl, Nat.le_of_ble_eq_true rfl⟩) ⟨ct_blind, ct_recv hK hP (q0 := 4) (ci := 6) rfl rfl, ct_pc hZ hK hP hD hS hA [4, 5] rfl (by decide)⟩ rfl rfl hl.1 rfl (lv_room (Nat.le_of_ble_eq_true rfl)) dd_M_unpack_182 ⟨Nat.le_of_ble_eq_true rfl, Nat.le_of_ble_eq_true rfl⟩) hK hP hD hS hA [4, 5] [0, 1, 2, 3] rfl rfl (by decide) (by decide) (fun r_182 u_182 H locs hw_182 hP hD hS => ?_)
              obtain ⟨p9, w9, fz9, fb9⟩ := u_182
              have hP : va_P D classes [(ta, .inl (cJ, 3000, .inr (.inl f))), (vb, .inl (cJ, 3000, .inr (.inl g))), (na, .inl (cJ, 3000, .inr (.inl (vp_updL f2 i (((cp_ru L i).2.2.1) + d9))))), (nb, .inl (cJ, 3000, .inr (.inl g2))), (q, .inr (6, [.int (nI 0), .ref ta, .ref vb, .int (nI n), .ref ba, .int (nI L.length), .int tk, .ref na, .ref nb, .int (nI p9), .int (nI w9), .int fz9, .int fb9])), (ba, .inl (cB, 400000, .inl by0))] _ := hP
              have hD : va_D A [(ta, .inl (cJ, 3000, .inr (.inl f))), (vb, .inl (cJ, 3000, .inr (.inl g))), (na, .inl (cJ, 3000, .inr (.inl (vp_updL f2 i (((cp_ru L i).2.2.1) + d9))))), (nb, .inl (cJ, 3000, .inr (.inl g2))), (q, .inr (6, [.int (nI 0), .ref ta, .ref vb, .int (nI n), .ref ba, .int (nI L.length), .int tk, .ref na, .ref nb, .int (nI p9), .int (nI w9), .int fz9, .int fb9])), (ba, .inl (cB, 400000, .inl by0))] := hD
              refine lv_lxor hx hb dd_M_unpack_185 ?_
              refine va_last hx hb hK hP hD hS 3 0 rfl rfl (vp_in_nI (by omega) (by omega)) dd_M_unpack_186 (fun H locs hP hD hS => ?_)
              rw [show (nI i).toNatClampNeg = i from nI_clamp (by omega)] at hP hD
              have hP : va_P D classes [(ta, .inl (cJ, 3000, .inr (.inl f))), (vb, .inl (cJ, 3000, .inr (.inl g))), (na, .inl (cJ, 3000, .inr (.inl (vp_updL f2 i (((cp_ru L i).2.2.1) + d9))))), (nb, .inl (cJ, 3000, .inr (.inl (vp_updL g2 i (((cp_ru L i).2.2.2.2.1) ^^^ r_182))))), (q, .inr (6, [.int (nI 0), .ref ta, .ref vb, .int (nI n), .ref ba, .int (nI L.length), .int tk, .ref na, .ref nb, .int (nI p9), .int (nI w9), .int fz9, .int fb9])), (ba, .inl (cB, 400000, .inl by0))] _ := hP
              have hD : va_D A [(ta, .inl (cJ, 3000, .inr (.inl f))), (vb, .inl (cJ, 3000, .inr (.inl g))), (na, .inl (cJ, 3000, .inr (.inl (vp_updL f2 i (((cp_ru L i).2.2.1) + d9))))), (nb, .inl (cJ, 3000, .inr (.inl (vp_updL g2 i (((cp_ru L i).2.2.2.2.1) ^^^ r_182))))), (q, .inr (6, [.int (nI 0), .ref ta, .ref vb, .int (nI n), .ref ba, .int (nI L.length), .int tk, .ref na, .ref nb, .int (nI p9), .int (nI w9), .int fz9, .int fb9])), (ba, .inl (cB, 400000, .inl by0))] := hD
              refine lv_iinc (v := nI (i + 1)) (lv' := [(4, .int (nI (i + 1))), (2, .long d9), (0, .ref q), (1, .int (nI kn))]) hx hb dd_M_unpack_187 hl (k := 3) rfl (nI_1 i) (by decide) rfl (fun ls hl => ?_)
              refine lv_goto (tgt := 49) hx hb dd_M_unpack_190 (by decide) ?_
              have e9 : (cp_ru L (i + 1)) = _ := (mu_rn hok c_64).trans (rn_s hrt ⟨Int64.not_lt.mp c_130, c_144⟩)
              rw [← e9] at hw_182
              obtain ⟨x1, x2, x3⟩ := hw_182
              have hst9 : (w9 = 0 ∧ (cp_ru L (i + 1)).1 = true ∧ d9 = (cp_ru L (i + 1)).2.2.2.1 ∧ fb9 = nI (cp_ru L (i + 1)).2.2.2.2.2.2 ∧ ((cp_ru L (i + 1)).2.2.2.2.2.2 ≠ 0 → fz9 = nI (cp_ru L (i + 1)).2.2.2.2.2.1) ∧ ∀ j, j < (i + 1) → (vp_updL f2 i (((cp_ru L i).2.2.1) + d9)) j = (cp_ru L (j + 1)).2.2.1 ∧ (vp_updL g2 i (((cp_ru L i).2.2.2.2.1) ^^^ r_182)) j = (cp_ru L (j + 1)).2.2.2.2.1) ∨ (w9 = 1 ∧ (cp_ru L (i + 1)).1 = false) := by
                cases hb9 : (cp_ru L (i + 1)).1 with
                | true =>
                  obtain ⟨y1, y2, y3, y4⟩ := x2 hb9
                  have htd := rv_td (by rw [← e9]; exact hb9)
                  rw [← e9] at htd
                  exact Or.inl ⟨y1, rfl, htd.2.symm, y3, y4, mu_ext hpt htd.1.symm y2⟩
                | false => exact Or.inr ⟨x3 hb9, rfl⟩
              refine ih (i + 1, d9, fz9, fb9, vp_updL f2 i (((cp_ru L i).2.2.1) + d9), vp_updL g2 i (((cp_ru L i).2.2.2.2.1) ^^^ r_182), p9, w9) _ _ _ (by show kn - (i + 1) < kn - i; omega) ⟨hP.sub [4, 0, 1, 2, 3, 5] rfl, hD.sub [4, 0, 1, 2, 3, 5] (by decide) rfl, hS, lv_sub hl [2, 3, 1, 0] rfl, by show i + 1 ≤ kn; omega, x1, hst9⟩
            have c_174 : ¬ (0 = 0) := fun z => c_174 ((ct_zeq (by omega)).mpr z)
            exfalso
            omega
          have c_144 : ¬ (((cp_ru L i).2.2.1 + d9) ≤ 1099511627775) := fun z => c_144 ((lg_cmp_le _ _).mpr z)
          refine lv_iconst (v := nI 1) hx hb dd_M_unpack_147 (by decide) ?_
          refine lv_goto (tgt := 152) hx hb dd_M_unpack_148 (by decide) ?_
          refine va_put (D := D) (ci := 6) (v := .int (nI 1)) (ty := .boolean) (C := cn_M) (T := cf_M) (N := 13) hx hb hw in_M ty_M to_M nn_M hown hK hP hD hS 4 rfl rfl 10 (by decide) (hw _ wi_547) (fun _ h9 => h9) rfl (by decide +kernel) (by decide) (by decide) (Nat.le_of_ble_eq_true rfl) dd_M_unpack_152 (fun H locs hP hD hS => ?_)
          have hP : va_P D classes [(ta, .inl (cJ, 3000, .inr (.inl f))), (vb, .inl (cJ, 3000, .inr (.inl g))), (na, .inl (cJ, 3000, .inr (.inl (vp_updL f2 i (((cp_ru L i).2.2.1) + d9))))), (nb, .inl (cJ, 3000, .inr (.inl g2))), (q, .inr (6, [.int (nI 0), .ref ta, .ref vb, .int (nI n), .ref ba, .int (nI L.length), .int tk, .ref na, .ref nb, .int (nI q9), .int (nI 1), .int fz, .int (nI ((cp_ru L i).2.2.2.2.2.2))])), (ba, .inl (cB, 400000, .inl by0))] _ := hP
          have hD : va_D A [(ta, .inl (cJ, 3000, .inr (.inl f))), (vb, .inl (cJ, 3000, .inr (.inl g))), (na, .inl (cJ, 3000, .inr (.inl (vp_updL f2 i (((cp_ru L i).2.2.1) + d9))))), (nb, .inl (cJ, 3000, .inr (.inl g2))), (q, .inr (6, [.int (nI 0), .ref ta, .ref vb, .int (nI n), .ref ba, .int (nI L.length), .int tk, .ref na, .ref nb, .int (nI q9), .int (nI 1), .int fz, .int (nI ((cp_ru L i).2.2.2.2.2.2))])), (ba, .inl (cB, 400000, .inl by0))] := hD
          refine lv_aload_n hx hb dd_M_unpack_155 rfl (lv_at hl 1 rfl) ?_
          refine va_get (D := D) (ci := 6) (C := cn_M) (T := cf_M) (N := 13) hx hb hw in_M hown hK hP 4 rfl rfl 8 (by decide) (hw _ wi_545) (fun _ h9 => h9) rfl dd_M_unpack_156 ?_
          refine lv_iload hx hb dd_M_unpack_159 (lv_at hl 3 rfl) ?_
          refine lv_aload_n hx hb dd_M_unpack_161 rfl (lv_at hl 1 rfl) ?_
          refine va_get (D := D) (ci := 6) (C := cn_M) (T := cf_M) (N := 13) hx hb hw in_M hown hK hP 4 rfl rfl 8 (by decide) (hw _ wi_545) (fun _ h9 => h9) rfl dd_M_unpack_162 ?_
          refine lv_iload hx hb dd_M_unpack_165 (lv_at hl 3 rfl) ?_
          refine lv_iconst (v := nI 1) hx hb dd_M_unpack_167 (by decide) ?_
          refine lv_isub hx hb dd_M_unpack_168 ?_
          refine ct_topi (y := nI (i - 1)) (pk_sub (by omega)) ?_
          refine va_lald hx hb hK hP 3 0 rfl rfl (vp_in_nI (by omega) (by omega)) dd_M_unpack_169 ?_
          refine ct_topl (y := g2 (i - 1)) (by rw [nI_clamp (by omega)]) ?_
          refine ct_topl (y := (cp_ru L i).2.2.2.2.1) ((mu_last hpt c_64).2) ?_
          refine lv_aload_n hx hb dd_M_unpack_170 rfl (lv_at hl 1 rfl) ?_
          refine va_get (D := D) (ci := 6) (C := cn_M) (T := cf_M) (N := 13) hx hb hw in_M hown hK hP 4 rfl rfl 10 (by decide) (hw _ wi_547) (fun _ h9 => h9) rfl dd_M_unpack_171 ?_
          refine lv_if_eq (tgt := 181) hx hb dd_M_unpack_174 (by decide) (fun c_174 => ?_) (fun c_174 => ?_)
          · skip
            have c_174 : 1 = 0 := (ct_zeq (by omega)).mp c_174
            exfalso
            omega
          have c_174 : ¬ (1 = 0) := fun z => c_174 ((ct_zeq (by omega)).mpr z)
          refine lv_lconst (v := 0) hx hb dd_M_unpack_177 (by decide) ?_
          refine lv_goto (tgt := 185) hx hb dd_M_unpack_178 (by decide) ?_
          refine lv_lxor hx hb dd_M_unpack_185 ?_
          refine va_last hx hb hK hP hD hS 3 0 rfl rfl (vp_in_nI (by omega) (by omega)) dd_M_unpack_186 (fun H locs hP hD hS => ?_)
          rw [show (nI i).toNatClampNeg = i from nI_clamp (by omega)] at hP hD
          have hP : va_P D classes [(ta, .inl (cJ, 3000, .inr (.inl f))), (vb, .inl (cJ, 3000, .inr (.inl g))), (na, .inl (cJ, 3000, .inr (.inl (vp_updL f2 i (((cp_ru L i).2.2.1) + d9))))), (nb, .inl (cJ, 3000, .inr (.inl (vp_updL g2 i (((cp_ru L i).2.2.2.2.1) ^^^ 0))))), (q, .inr (6, [.int (nI 0), .ref ta, .ref vb, .int (nI n), .ref ba, .int (nI L.length), .int tk, .ref na, .ref nb, .int (nI q9), .int (nI 1), .int fz, .int (nI ((cp_ru L i).2.2.2.2.2.2))])), (ba, .inl (cB, 400000, .inl by0))] _ := hP
          have hD : va_D A [(ta, .inl (cJ, 3000, .inr (.inl f))), (vb, .inl (cJ, 3000, .inr (.inl g))), (na, .inl (cJ, 3000, .inr (.inl (vp_updL f2 i (((cp_ru L i).2.2.1) + d9))))), (nb, .inl (cJ, 3000, .inr (.inl (vp_updL g2 i (((cp_ru L i).2.2.2.2.1) ^^^ 0))))), (q, .inr (6, [.int (nI 0), .ref ta, .ref vb, .int (nI n), .ref ba, .int (nI L.length), .int tk, .ref na, .ref nb, .int (nI q9), .int (nI 1), .int fz, .int (nI ((cp_ru L i).2.2.2.2.2.2))])), (ba, .inl (cB, 400000, .inl by0))] := hD
          refine lv_iinc (v := nI (i + 1)) (lv' := [(4, .int (nI (i + 1))), (2, .long d9), (0, .ref q), (1, .int (nI kn))]) hx hb dd_M_unpack_187 hl (k := 3) rfl (nI_1 i) (by decide) rfl (fun ls hl => ?_)
          refine lv_goto (tgt := 49) hx hb dd_M_unpack_190 (by decide) ?_
          have e9 : (cp_ru L (i + 1)) = _ := (mu_rn hok c_64).trans (rn_f hrt (fun k => absurd k.2 c_144))
          refine ih (i + 1, d9, fz, (nI (cp_ru L i).2.2.2.2.2.2), vp_updL f2 i (((cp_ru L i).2.2.1) + d9), vp_updL g2 i (((cp_ru L i).2.2.2.2.1) ^^^ 0), q9, 1) _ _ _ (by show kn - (i + 1) < kn - i; omega) ⟨hP.sub [4, 0, 1, 2, 3, 5] rfl, hD.sub [4, 0, 1, 2, 3, 5] (by decide) rfl, hS, lv_sub hl [2, 3, 1, 0] rfl, by show i + 1 ≤ kn; omega, by rw [e9], Or.inr ⟨rfl, by rw [e9]⟩⟩
        have c_64 : i = 0 := (ct_zeq (by omega)).mp c_64
        subst c_64
        have hP : va_P D classes [(q, .inr (6, [.int (nI 0), .ref ta, .ref vb, .int (nI n), .ref ba, .int (nI L.length), .int tk, .ref na, .ref nb, .int (nI 0), .int (nI 0), .int fz, .int (nI 0)])), (ta, .inl (cJ, 3000, .inr (.inl f))), (vb, .inl (cJ, 3000, .inr (.inl g))), (na, .inl (cJ, 3000, .inr (.inl f2))), (nb, .inl (cJ, 3000, .inr (.inl g2))), (ba, .inl (cB, 400000, .inl by0))] _ := hP
        have hD : va_D A [(q, .inr (6, [.int (nI 0), .ref ta, .ref vb, .int (nI n), .ref ba, .int (nI L.length), .int tk, .ref na, .ref nb, .int (nI 0), .int (nI 0), .int fz, .int (nI 0)])), (ta, .inl (cJ, 3000, .inr (.inl f))), (vb, .inl (cJ, 3000, .inr (.inl g))), (na, .inl (cJ, 3000, .inr (.inl f2))), (nb, .inl (cJ, 3000, .inr (.inl g2))), (ba, .inl (cB, 400000, .inl by0))] := hD
        have hl : lv_has ls 5 [(0, .ref q), (1, .int (nI kn)), (2, .long 0), (4, .int (nI 0))] := hl
        refine lv_aload_n hx hb dd_M_unpack_67 rfl (lv_at hl 0 rfl) ?_
        refine va_get (D := D) (ci := 6) (C := cn_M) (T := cf_M) (N := 13) hx hb hw in_M hown hK hP 0 rfl rfl 7 (by decide) (hw _ wi_544) (fun _ h9 => h9) rfl dd_M_unpack_68 ?_
        refine lv_iconst (v := nI 0) hx hb dd_M_unpack_71 (by decide) ?_
        refine lv_aload_n hx hb dd_M_unpack_72 rfl (lv_at hl 0 rfl) ?_
        refine lv_bipush (v := nI 40) hx hb dd_M_unpack_73 (by decide) ?_
        refine ct_behind_l (wc := [(q, .inr (6, [.int (nI 0), .ref ta, .ref vb, .int (nI n), .ref ba, .int (nI L.length), .int tk, .ref na, .ref nb, .int (nI 0), .int (nI 0), .int fz, .int (nI 0)])), (ba, .inl (cB, 400000, .inl by0))]) (wr := [(ta, .inl (cJ, 3000, .inr (.inl f))), (vb, .inl (cJ, 3000, .inr (.inl g))), (na, .inl (cJ, 3000, .inr (.inl f2))), (nb, .inl (cJ, 3000, .inr (.inl g2)))]) (av := [.ref q, .int (nI 40)]) (va_runV (As := [.int (nI 40)]) (rest := [.int (nI 0), .ref na]) ⟨hx, hb, hml, hown, hw⟩ (cc_M_read l D cJ cB q ta vb ba na nb (nI 0) tk fz (nI 0) n L by0 0 0 40 _ hL hB (by decide) (by omega) (by omega)) (cwV 1 hw (tb_V wi_621 wi_623 wi_17 wi_25 wi_624) rfl rfl rfl (by decide +kernel) ⟨Nat.le_of_ble_eq_true rfl, Nat.le_of_ble_eq_true rfl⟩) ⟨ct_blind, ct_recv hK hP (q0 := 0) (ci := 6) rfl rfl, ct_pc hZ hK hP hD hS hA [0, 5] rfl (by decide)⟩ rfl rfl hl.1 rfl (lv_room (Nat.le_of_ble_eq_true rfl)) dd_M_unpack_75 ⟨Nat.le_of_ble_eq_true rfl, Nat.le_of_ble_eq_true rfl⟩) hK hP hD hS hA [0, 5] [1, 2, 3, 4] rfl rfl (by decide) (by decide) (fun r_75 u_75 H locs hw_75 hP hD hS => ?_)
        obtain ⟨p_75, w_75⟩ := u_75
        have hP : va_P D classes [(ta, .inl (cJ, 3000, .inr (.inl f))), (vb, .inl (cJ, 3000, .inr (.inl g))), (na, .inl (cJ, 3000, .inr (.inl f2))), (nb, .inl (cJ, 3000, .inr (.inl g2))), (q, .inr (6, [.int (nI 0), .ref ta, .ref vb, .int (nI n), .ref ba, .int (nI L.length), .int tk, .ref na, .ref nb, .int (nI p_75), .int (nI w_75), .int fz, .int (nI 0)])), (ba, .inl (cB, 400000, .inl by0))] _ := hP
        have hD : va_D A [(ta, .inl (cJ, 3000, .inr (.inl f))), (vb, .inl (cJ, 3000, .inr (.inl g))), (na, .inl (cJ, 3000, .inr (.inl f2))), (nb, .inl (cJ, 3000, .inr (.inl g2))), (q, .inr (6, [.int (nI 0), .ref ta, .ref vb, .int (nI n), .ref ba, .int (nI L.length), .int tk, .ref na, .ref nb, .int (nI p_75), .int (nI w_75), .int fz, .int (nI 0)])), (ba, .inl (cB, 400000, .inl by0))] := hD
        by_cases hc_75 : 0 + 40 ≤ L.length
        · skip
          obtain ⟨hr_75, hu_75⟩ := hw_75.1 ⟨rfl, hc_75⟩
          cases hu_75
          subst hr_75
          have hP : va_P D classes [(ta, .inl (cJ, 3000, .inr (.inl f))), (vb, .inl (cJ, 3000, .inr (.inl g))), (na, .inl (cJ, 3000, .inr (.inl f2))), (nb, .inl (cJ, 3000, .inr (.inl g2))), (q, .inr (6, [.int (nI 0), .ref ta, .ref vb, .int (nI n), .ref ba, .int (nI L.length), .int tk, .ref na, .ref nb, .int (nI 40), .int (nI 0), .int fz, .int (nI 0)])), (ba, .inl (cB, 400000, .inl by0))] _ := hP
          have hD : va_D A [(ta, .inl (cJ, 3000, .inr (.inl f))), (vb, .inl (cJ, 3000, .inr (.inl g))), (na, .inl (cJ, 3000, .inr (.inl f2))), (nb, .inl (cJ, 3000, .inr (.inl g2))), (q, .inr (6, [.int (nI 0), .ref ta, .ref vb, .int (nI n), .ref ba, .int (nI L.length), .int tk, .ref na, .ref nb, .int (nI 40), .int (nI 0), .int fz, .int (nI 0)])), (ba, .inl (cB, 400000, .inl by0))] := hD
          refine va_last hx hb hK hP hD hS 2 0 rfl rfl (vp_in_nI (by omega) (by omega)) dd_M_unpack_78 (fun H locs hP hD hS => ?_)
          rw [show (nI 0).toNatClampNeg = 0 from nI_clamp (by omega)] at hP hD
          have hP : va_P D classes [(ta, .inl (cJ, 3000, .inr (.inl f))), (vb, .inl (cJ, 3000, .inr (.inl g))), (na, .inl (cJ, 3000, .inr (.inl (vp_updL f2 0 (lN (cp_n L 0 40)))))), (nb, .inl (cJ, 3000, .inr (.inl g2))), (q, .inr (6, [.int (nI 0), .ref ta, .ref vb, .int (nI n), .ref ba, .int (nI L.length), .int tk, .ref na, .ref nb, .int (nI 40), .int (nI 0), .int fz, .int (nI 0)])), (ba, .inl (cB, 400000, .inl by0))] _ := hP
          have hD : va_D A [(ta, .inl (cJ, 3000, .inr (.inl f))), (vb, .inl (cJ, 3000, .inr (.inl g))), (na, .inl (cJ, 3000, .inr (.inl (vp_updL f2 0 (lN (cp_n L 0 40)))))), (nb, .inl (cJ, 3000, .inr (.inl g2))), (q, .inr (6, [.int (nI 0), .ref ta, .ref vb, .int (nI n), .ref ba, .int (nI L.length), .int tk, .ref na, .ref nb, .int (nI 40), .int (nI 0), .int fz, .int (nI 0)])), (ba, .inl (cB, 400000, .inl by0))] := hD
          refine lv_aload_n hx hb dd_M_unpack_79 rfl (lv_at hl 0 rfl) ?_
          refine va_get (D := D) (ci := 6) (C := cn_M) (T := cf_M) (N := 13) hx hb hw in_M hown hK hP 4 rfl rfl 8 (by decide) (hw _ wi_545) (fun _ h9 => h9) rfl dd_M_unpack_80 ?_
          refine lv_iconst (v := nI 0) hx hb dd_M_unpack_83 (by decide) ?_
          refine lv_aload_n hx hb dd_M_unpack_84 rfl (lv_at hl 0 rfl) ?_
          refine lv_bipush (v := nI 64) hx hb dd_M_unpack_85 (by decide) ?_
          refine ct_behind_l (wc := [(q, .inr (6, [.int (nI 0), .ref ta, .ref vb, .int (nI n), .ref ba, .int (nI L.length), .int tk, .ref na, .ref nb, .int (nI 40), .int (nI 0), .int fz, .int (nI 0)])), (ba, .inl (cB, 400000, .inl by0))]) (wr := [(ta, .inl (cJ, 3000, .inr (.inl f))), (vb, .inl (cJ, 3000, .inr (.inl g))), (na, .inl (cJ, 3000, .inr (.inl (vp_updL f2 0 (lN (cp_n L 0 40)))))), (nb, .inl (cJ, 3000, .inr (.inl g2)))]) (av := [.ref q, .int (nI 64)]) (va_runV (As := [.int (nI 64)]) (rest := [.int (nI 0), .ref nb]) ⟨hx, hb, hml, hown, hw⟩ (cc_M_read l D cJ cB q ta vb ba na nb (nI 0) tk fz (nI 0) n L by0 40 0 64 _ hL hB (by decide) (by omega) (by omega)) (cwV 1 hw (tb_V wi_621 wi_623 wi_17 wi_25 wi_624) rfl rfl rfl (by decide +kernel) ⟨Nat.le_of_ble_eq_true rfl, Nat.le_of_ble_eq_true rfl⟩) ⟨ct_blind, ct_recv hK hP (q0 := 4) (ci := 6) rfl rfl, ct_pc hZ hK hP hD hS hA [4, 5] rfl (by decide)⟩ rfl rfl hl.1 rfl (lv_room (Nat.le_of_ble_eq_true rfl)) dd_M_unpack_87 ⟨Nat.le_of_ble_eq_true rfl, Nat.le_of_ble_eq_true rfl⟩) hK hP hD hS hA [4, 5] [0, 1, 2, 3] rfl rfl (by decide) (by decide) (fun r_87 u_87 H locs hw_87 hP hD hS => ?_)
          obtain ⟨p_87, w_87⟩ := u_87
          have hP : va_P D classes [(ta, .inl (cJ, 3000, .inr (.inl f))), (vb, .inl (cJ, 3000, .inr (.inl g))), (na, .inl (cJ, 3000, .inr (.inl (vp_updL f2 0 (lN (cp_n L 0 40)))))), (nb, .inl (cJ, 3000, .inr (.inl g2))), (q, .inr (6, [.int (nI 0), .ref ta, .ref vb, .int (nI n), .ref ba, .int (nI L.length), .int tk, .ref na, .ref nb, .int (nI p_87), .int (nI w_87), .int fz, .int (nI 0)])), (ba, .inl (cB, 400000, .inl by0))] _ := hP
          have hD : va_D A [(ta, .inl (cJ, 3000, .inr (.inl f))), (vb, .inl (cJ, 3000, .inr (.inl g))), (na, .inl (cJ, 3000, .inr (.inl (vp_updL f2 0 (lN (cp_n L 0 40)))))), (nb, .inl (cJ, 3000, .inr (.inl g2))), (q, .inr (6, [.int (nI 0), .ref ta, .ref vb, .int (nI n), .ref ba, .int (nI L.length), .int tk, .ref na, .ref nb, .int (nI p_87), .int (nI w_87), .int fz, .int (nI 0)])), (ba, .inl (cB, 400000, .inl by0))] := hD
          by_cases hc_87 : 40 + 64 ≤ L.length
          · skip
            obtain ⟨hr_87, hu_87⟩ := hw_87.1 ⟨rfl, hc_87⟩
            cases hu_87
            subst hr_87
            have hP : va_P D classes [(ta, .inl (cJ, 3000, .inr (.inl f))), (vb, .inl (cJ, 3000, .inr (.inl g))), (na, .inl (cJ, 3000, .inr (.inl (vp_updL f2 0 (lN (cp_n L 0 40)))))), (nb, .inl (cJ, 3000, .inr (.inl g2))), (q, .inr (6, [.int (nI 0), .ref ta, .ref vb, .int (nI n), .ref ba, .int (nI L.length), .int tk, .ref na, .ref nb, .int (nI 104), .int (nI 0), .int fz, .int (nI 0)])), (ba, .inl (cB, 400000, .inl by0))] _ := hP
            have hD : va_D A [(ta, .inl (cJ, 3000, .inr (.inl f))), (vb, .inl (cJ, 3000, .inr (.inl g))), (na, .inl (cJ, 3000, .inr (.inl (vp_updL f2 0 (lN (cp_n L 0 40)))))), (nb, .inl (cJ, 3000, .inr (.inl g2))), (q, .inr (6, [.int (nI 0), .ref ta, .ref vb, .int (nI n), .ref ba, .int (nI L.length), .int tk, .ref na, .ref nb, .int (nI 104), .int (nI 0), .int fz, .int (nI 0)])), (ba, .inl (cB, 400000, .inl by0))] := hD
            refine va_last hx hb hK hP hD hS 3 0 rfl rfl (vp_in_nI (by omega) (by omega)) dd_M_unpack_90 (fun H locs hP hD hS => ?_)
            rw [show (nI 0).toNatClampNeg = 0 from nI_clamp (by omega)] at hP hD
            have hP : va_P D classes [(ta, .inl (cJ, 3000, .inr (.inl f))), (vb, .inl (cJ, 3000, .inr (.inl g))), (na, .inl (cJ, 3000, .inr (.inl (vp_updL f2 0 (lN (cp_n L 0 40)))))), (nb, .inl (cJ, 3000, .inr (.inl (vp_updL g2 0 (lN (cp_n L 40 64)))))), (q, .inr (6, [.int (nI 0), .ref ta, .ref vb, .int (nI n), .ref ba, .int (nI L.length), .int tk, .ref na, .ref nb, .int (nI 104), .int (nI 0), .int fz, .int (nI 0)])), (ba, .inl (cB, 400000, .inl by0))] _ := hP
            have hD : va_D A [(ta, .inl (cJ, 3000, .inr (.inl f))), (vb, .inl (cJ, 3000, .inr (.inl g))), (na, .inl (cJ, 3000, .inr (.inl (vp_updL f2 0 (lN (cp_n L 0 40)))))), (nb, .inl (cJ, 3000, .inr (.inl (vp_updL g2 0 (lN (cp_n L 40 64)))))), (q, .inr (6, [.int (nI 0), .ref ta, .ref vb, .int (nI n), .ref ba, .int (nI L.length), .int tk, .ref na, .ref nb, .int (nI 104), .int (nI 0), .int fz, .int (nI 0)])), (ba, .inl (cB, 400000, .inl by0))] := hD
            refine lv_goto (tgt := 187) hx hb dd_M_unpack_91 (by decide) ?_
            refine lv_iinc (v := nI 1) (lv' := [(4, .int (nI 1)), (0, .ref q), (1, .int (nI kn)), (2, .long 0)]) hx hb dd_M_unpack_187 hl (k := 3) rfl (nI_1 0) (by decide) rfl (fun ls hl => ?_)
            refine lv_goto (tgt := 49) hx hb dd_M_unpack_190 (by decide) ?_
            have e9 : (cp_ru L (0 + 1)) = (true, 104, lN (cp_n L 0 40), 0, lN (cp_n L 40 64), 0, 0) := by rw [ru_1]; unfold cp_r1; rw [if_pos (by omega), if_pos (by omega)]
            refine ih (0 + 1, 0, fz, nI 0, vp_updL f2 0 (lN (cp_n L 0 40)), vp_updL g2 0 (lN (cp_n L 40 64)), 104, 0) _ _ _ (by show kn - (0 + 1) < kn - 0; omega) ⟨hP.sub [4, 0, 1, 2, 3, 5] rfl, hD.sub [4, 0, 1, 2, 3, 5] (by decide) rfl, hS, lv_sub hl [1, 2, 3, 0] rfl, by show 0 + 1 ≤ kn; omega, by rw [e9], Or.inl ⟨rfl, by rw [e9], by rw [e9], by rw [e9], by rw [e9]; exact fun h => absurd rfl h, mu_ext hpt (by rw [e9]) (by rw [e9])⟩⟩
          obtain ⟨hr_87, hu_87⟩ := hw_87.2 (fun k9 => hc_87 k9.2)
          cases hu_87
          subst hr_87
          have hP : va_P D classes [(ta, .inl (cJ, 3000, .inr (.inl f))), (vb, .inl (cJ, 3000, .inr (.inl g))), (na, .inl (cJ, 3000, .inr (.inl (vp_updL f2 0 (lN (cp_n L 0 40)))))), (nb, .inl (cJ, 3000, .inr (.inl g2))), (q, .inr (6, [.int (nI 0), .ref ta, .ref vb, .int (nI n), .ref ba, .int (nI L.length), .int tk, .ref na, .ref nb, .int (nI 40), .int (nI 1), .int fz, .int (nI 0)])), (ba, .inl (cB, 400000, .inl by0))] _ := hP
          have hD : va_D A [(ta, .inl (cJ, 3000, .inr (.inl f))), (vb, .inl (cJ, 3000, .inr (.inl g))), (na, .inl (cJ, 3000, .inr (.inl (vp_updL f2 0 (lN (cp_n L 0 40)))))), (nb, .inl (cJ, 3000, .inr (.inl g2))), (q, .inr (6, [.int (nI 0), .ref ta, .ref vb, .int (nI n), .ref ba, .int (nI L.length), .int tk, .ref na, .ref nb, .int (nI 40), .int (nI 1), .int fz, .int (nI 0)])), (ba, .inl (cB, 400000, .inl by0))] := hD
          refine va_last hx hb hK hP hD hS 3 0 rfl rfl (vp_in_nI (by omega) (by omega)) dd_M_unpack_90 (fun H locs hP hD hS => ?_)
          rw [show (nI 0).toNatClampNeg = 0 from nI_clamp (by omega)] at hP hD
          have hP : va_P D classes [(ta, .inl (cJ, 3000, .inr (.inl f))), (vb, .inl (cJ, 3000, .inr (.inl g))), (na, .inl (cJ, 3000, .inr (.inl (vp_updL f2 0 (lN (cp_n L 0 40)))))), (nb, .inl (cJ, 3000, .inr (.inl (vp_updL g2 0 (0 : Int64))))), (q, .inr (6, [.int (nI 0), .ref ta, .ref vb, .int (nI n), .ref ba, .int (nI L.length), .int tk, .ref na, .ref nb, .int (nI 40), .int (nI 1), .int fz, .int (nI 0)])), (ba, .inl (cB, 400000, .inl by0))] _ := hP
          have hD : va_D A [(ta, .inl (cJ, 3000, .inr (.inl f))), (vb, .inl (cJ, 3000, .inr (.inl g))), (na, .inl (cJ, 3000, .inr (.inl (vp_updL f2 0 (lN (cp_n L 0 40)))))), (nb, .inl (cJ, 3000, .inr (.inl (vp_updL g2 0 (0 : Int64))))), (q, .inr (6, [.int (nI 0), .ref ta, .ref vb, .int (nI n), .ref ba, .int (nI L.length), .int tk, .ref na, .ref nb, .int (nI 40), .int (nI 1), .int fz, .int (nI 0)])), (ba, .inl (cB, 400000, .inl by0))] := hD
          refine lv_goto (tgt := 187) hx hb dd_M_unpack_91 (by decide) ?_
          refine lv_iinc (v := nI 1) (lv' := [(4, .int (nI 1)), (0, .ref q), (1, .int (nI kn)), (2, .long 0)]) hx hb dd_M_unpack_187 hl (k := 3) rfl (nI_1 0) (by decide) rfl (fun ls hl => ?_)
          refine lv_goto (tgt := 49) hx hb dd_M_unpack_190 (by decide) ?_
          have e9 : (cp_ru L (0 + 1)) = (false, 40, 0, 0, 0, 0, 0) := by rw [ru_1]; unfold cp_r1; rw [if_pos (by omega), if_neg (by omega)]
          refine ih (0 + 1, 0, fz, nI 0, vp_updL f2 0 (lN (cp_n L 0 40)), vp_updL g2 0 (0 : Int64), 40, 1) _ _ _ (by show kn - (0 + 1) < kn - 0; omega) ⟨hP.sub [4, 0, 1, 2, 3, 5] rfl, hD.sub [4, 0, 1, 2, 3, 5] (by decide) rfl, hS, lv_sub hl [1, 2, 3, 0] rfl, by show 0 + 1 ≤ kn; omega, by rw [e9], Or.inr ⟨rfl, by rw [e9]⟩⟩
        obtain ⟨hr_75, hu_75⟩ := hw_75.2 (fun k9 => hc_75 k9.2)
        cases hu_75
        subst hr_75
        have hP : va_P D classes [(ta, .inl (cJ, 3000, .inr (.inl f))), (vb, .inl (cJ, 3000, .inr (.inl g))), (na, .inl (cJ, 3000, .inr (.inl f2))), (nb, .inl (cJ, 3000, .inr (.inl g2))), (q, .inr (6, [.int (nI 0), .ref ta, .ref vb, .int (nI n), .ref ba, .int (nI L.length), .int tk, .ref na, .ref nb, .int (nI 0), .int (nI 1), .int fz, .int (nI 0)])), (ba, .inl (cB, 400000, .inl by0))] _ := hP
        have hD : va_D A [(ta, .inl (cJ, 3000, .inr (.inl f))), (vb, .inl (cJ, 3000, .inr (.inl g))), (na, .inl (cJ, 3000, .inr (.inl f2))), (nb, .inl (cJ, 3000, .inr (.inl g2))), (q, .inr (6, [.int (nI 0), .ref ta, .ref vb, .int (nI n), .ref ba, .int (nI L.length), .int tk, .ref na, .ref nb, .int (nI 0), .int (nI 1), .int fz, .int (nI 0)])), (ba, .inl (cB, 400000, .inl by0))] := hD
        refine va_last hx hb hK hP hD hS 2 0 rfl rfl (vp_in_nI (by omega) (by omega)) dd_M_unpack_78 (fun H locs hP hD hS => ?_)
        rw [show (nI 0).toNatClampNeg = 0 from nI_clamp (by omega)] at hP hD
        have hP : va_P D classes [(ta, .inl (cJ, 3000, .inr (.inl f))), (vb, .inl (cJ, 3000, .inr (.inl g))), (na, .inl (cJ, 3000, .inr (.inl (vp_updL f2 0 (0 : Int64))))), (nb, .inl (cJ, 3000, .inr (.inl g2))), (q, .inr (6, [.int (nI 0), .ref ta, .ref vb, .int (nI n), .ref ba, .int (nI L.length), .int tk, .ref na, .ref nb, .int (nI 0), .int (nI 1), .int fz, .int (nI 0)])), (ba, .inl (cB, 400000, .inl by0))] _ := hP
        have hD : va_D A [(ta, .inl (cJ, 3000, .inr (.inl f))), (vb, .inl (cJ, 3000, .inr (.inl g))), (na, .inl (cJ, 3000, .inr (.inl (vp_updL f2 0 (0 : Int64))))), (nb, .inl (cJ, 3000, .inr (.inl g2))), (q, .inr (6, [.int (nI 0), .ref ta, .ref vb, .int (nI n), .ref ba, .int (nI L.length), .int tk, .ref na, .ref nb, .int (nI 0), .int (nI 1), .int fz, .int (nI 0)])), (ba, .inl (cB, 400000, .inl by0))] := hD
        refine lv_aload_n hx hb dd_M_unpack_79 rfl (lv_at hl 0 rfl) ?_
        refine va_get (D := D) (ci := 6) (C := cn_M) (T := cf_M) (N := 13) hx hb hw in_M hown hK hP 4 rfl rfl 8 (by decide) (hw _ wi_545) (fun _ h9 => h9) rfl dd_M_unpack_80 ?_
        refine lv_iconst (v := nI 0) hx hb dd_M_unpack_83 (by decide) ?_
        refine lv_aload_n hx hb dd_M_unpack_84 rfl (lv_at hl 0 rfl) ?_
        refine lv_bipush (v := nI 64) hx hb dd_M_unpack_85 (by decide) ?_
        refine ct_behind_l (wc := [(q, .inr (6, [.int (nI 0), .ref ta, .ref vb, .int (nI n), .ref ba, .int (nI L.length), .int tk, .ref na, .ref nb, .int (nI 0), .int (nI 1), .int fz, .int (nI 0)])), (ba, .inl (cB, 400000, .inl by0))]) (wr := [(ta, .inl (cJ, 3000, .inr (.inl f))), (vb, .inl (cJ, 3000, .inr (.inl g))), (na, .inl (cJ, 3000, .inr (.inl (vp_updL f2 0 (0 : Int64))))), (nb, .inl (cJ, 3000, .inr (.inl g2)))]) (av := [.ref q, .int (nI 64)]) (va_runV (As := [.int (nI 64)]) (rest := [.int (nI 0), .ref nb]) ⟨hx, hb, hml, hown, hw⟩ (cc_M_read l D cJ cB q ta vb ba na nb (nI 0) tk fz (nI 0) n L by0 0 1 64 _ hL hB (by decide) (by omega) (by omega)) (cwV 1 hw (tb_V wi_621 wi_623 wi_17 wi_25 wi_624) rfl rfl rfl (by decide +kernel) ⟨Nat.le_of_ble_eq_true rfl, Nat.le_of_ble_eq_true rfl⟩) ⟨ct_blind, ct_recv hK hP (q0 := 4) (ci := 6) rfl rfl, ct_pc hZ hK hP hD hS hA [4, 5] rfl (by decide)⟩ rfl rfl hl.1 rfl (lv_room (Nat.le_of_ble_eq_true rfl)) dd_M_unpack_87 ⟨Nat.le_of_ble_eq_true rfl, Nat.le_of_ble_eq_true rfl⟩) hK hP hD hS hA [4, 5] [0, 1, 2, 3] rfl rfl (by decide) (by decide) (fun r_87 u_87 H locs hw_87 hP hD hS => ?_)
        obtain ⟨p_87, w_87⟩ := u_87
        have hP : va_P D classes [(ta, .inl (cJ, 3000, .inr (.inl f))), (vb, .inl (cJ, 3000, .inr (.inl g))), (na, .inl (cJ, 3000, .inr (.inl (vp_updL f2 0 (0 : Int64))))), (nb, .inl (cJ, 3000, .inr (.inl g2))), (q, .inr (6, [.int (nI 0), .ref ta, .ref vb, .int (nI n), .ref ba, .int (nI L.length), .int tk, .ref na, .ref nb, .int (nI p_87), .int (nI w_87), .int fz, .int (nI 0)])), (ba, .inl (cB, 400000, .inl by0))] _ := hP
        have hD : va_D A [(ta, .inl (cJ, 3000, .inr (.inl f))), (vb, .inl (cJ, 3000, .inr (.inl g))), (na, .inl (cJ, 3000, .inr (.inl (vp_updL f2 0 (0 : Int64))))), (nb, .inl (cJ, 3000, .inr (.inl g2))), (q, .inr (6, [.int (nI 0), .ref ta, .ref vb, .int (nI n), .ref ba, .int (nI L.length), .int tk, .ref na, .ref nb, .int (nI p_87), .int (nI w_87), .int fz, .int (nI 0)])), (ba, .inl (cB, 400000, .inl by0))] := hD
        obtain ⟨hr_87, hu_87⟩ := hw_87.2 (fun k9 => absurd k9.1 (by decide))
        cases hu_87
        subst hr_87
        have hP : va_P D classes [(ta, .inl (cJ, 3000, .inr (.inl f))), (vb, .inl (cJ, 3000, .inr (.inl g))), (na, .inl (cJ, 3000, .inr (.inl (vp_updL f2 0 (0 : Int64))))), (nb, .inl (cJ, 3000, .inr (.inl g2))), (q, .inr (6, [.int (nI 0), .ref ta, .ref vb, .int (nI n), .ref ba, .int (nI L.length), .int tk, .ref na, .ref nb, .int (nI 0), .int (nI 1), .int fz, .int (nI 0)])), (ba, .inl (cB, 400000, .inl by0))] _ := hP
        have hD : va_D A [(ta, .inl (cJ, 3000, .inr (.inl f))), (vb, .inl (cJ, 3000, .inr (.inl g))), (na, .inl (cJ, 3000, .inr (.inl (vp_updL f2 0 (0 : Int64))))), (nb, .inl (cJ, 3000, .inr (.inl g2))), (q, .inr (6, [.int (nI 0), .ref ta, .ref vb, .int (nI n), .ref ba, .int (nI L.length), .int tk, .ref na, .ref nb, .int (nI 0), .int (nI 1), .int fz, .int (nI 0)])), (ba, .inl (cB, 400000, .inl by0))] := hD
        refine va_last hx hb hK hP hD hS 3 0 rfl rfl (vp_in_nI (by omega) (by omega)) dd_M_unpack_90 (fun H locs hP hD hS => ?_)
        rw [show (nI 0).toNatClampNeg = 0 from nI_clamp (by omega)] at hP hD
        have hP : va_P D classes [(ta, .inl (cJ, 3000, .inr (.inl f))), (vb, .inl (cJ, 3000, .inr (.inl g))), (na, .inl (cJ, 3000, .inr (.inl (vp_updL f2 0 (0 : Int64))))), (nb, .inl (cJ, 3000, .inr (.inl (vp_updL g2 0 (0 : Int64))))), (q, .inr (6, [.int (nI 0), .ref ta, .ref vb, .int (nI n), .ref ba, .int (nI L.length), .int tk, .ref na, .ref nb, .int (nI 0), .int (nI 1), .int fz, .int (nI 0)])), (ba, .inl (cB, 400000, .inl by0))] _ := hP
        have hD : va_D A [(ta, .inl (cJ, 3000, .inr (.inl f))), (vb, .inl (cJ, 3000, .inr (.inl g))), (na, .inl (cJ, 3000, .inr (.inl (vp_updL f2 0 (0 : Int64))))), (nb, .inl (cJ, 3000, .inr (.inl (vp_updL g2 0 (0 : Int64))))), (q, .inr (6, [.int (nI 0), .ref ta, .ref vb, .int (nI n), .ref ba, .int (nI L.length), .int tk, .ref na, .ref nb, .int (nI 0), .int (nI 1), .int fz, .int (nI 0)])), (ba, .inl (cB, 400000, .inl by0))] := hD
        refine lv_goto (tgt := 187) hx hb dd_M_unpack_91 (by decide) ?_
        refine lv_iinc (v := nI 1) (lv' := [(4, .int (nI 1)), (0, .ref q), (1, .int (nI kn)), (2, .long 0)]) hx hb dd_M_unpack_187 hl (k := 3) rfl (nI_1 0) (by decide) rfl (fun ls hl => ?_)
        refine lv_goto (tgt := 49) hx hb dd_M_unpack_190 (by decide) ?_
        have e9 : (cp_ru L (0 + 1)) = (false, 0, 0, 0, 0, 0, 0) := by rw [ru_1]; unfold cp_r1; rw [if_neg (by omega)]
        refine ih (0 + 1, 0, fz, nI 0, vp_updL f2 0 (0 : Int64), vp_updL g2 0 (0 : Int64), 0, 1) _ _ _ (by show kn - (0 + 1) < kn - 0; omega) ⟨hP.sub [4, 0, 1, 2, 3, 5] rfl, hD.sub [4, 0, 1, 2, 3, 5] (by decide) rfl, hS, lv_sub hl [1, 2, 3, 0] rfl, by show 0 + 1 ≤ kn; omega, by rw [e9], Or.inr ⟨rfl, by rw [e9]⟩⟩
      subst hpl hw9
      have hP : va_P D classes [(q, .inr (6, [.int (nI 0), .ref ta, .ref vb, .int (nI n), .ref ba, .int (nI L.length), .int tk, .ref na, .ref nb, .int (nI ((cp_ru L i).2.1)), .int (nI 1), .int fz, .int fb])), (ta, .inl (cJ, 3000, .inr (.inl f))), (vb, .inl (cJ, 3000, .inr (.inl g))), (na, .inl (cJ, 3000, .inr (.inl f2))), (nb, .inl (cJ, 3000, .inr (.inl g2))), (ba, .inl (cB, 400000, .inl by0))] _ := hP
      have hD : va_D A [(q, .inr (6, [.int (nI 0), .ref ta, .ref vb, .int (nI n), .ref ba, .int (nI L.length), .int tk, .ref na, .ref nb, .int (nI ((cp_ru L i).2.1)), .int (nI 1), .int fz, .int fb])), (ta, .inl (cJ, 3000, .inr (.inl f))), (vb, .inl (cJ, 3000, .inr (.inl g))), (na, .inl (cJ, 3000, .inr (.inl f2))), (nb, .inl (cJ, 3000, .inr (.inl g2))), (ba, .inl (cB, 400000, .inl by0))] := hD
      refine lv_iload hx hb dd_M_unpack_49 (lv_at hl 3 rfl) ?_
      refine lv_iload_n hx hb dd_M_unpack_51 rfl (lv_at hl 1 rfl) ?_
      refine lv_icmp_ge (tgt := 193) hx hb dd_M_unpack_52 (by decide) (fun c_52 => ?_) (fun c_52 => ?_)
      · skip
        have c_52 : kn ≤ i := (nI_leI (by omega) (by omega)).mp c_52
        refine lv_aload_n hx hb dd_M_unpack_193 rfl (lv_at hl 0 rfl) ?_
        refine lv_aload_n hx hb dd_M_unpack_194 rfl (lv_at hl 0 rfl) ?_
        refine va_get (D := D) (ci := 6) (C := cn_M) (T := cf_M) (N := 13) hx hb hw in_M hown hK hP 0 rfl rfl 9 (by decide) (hw _ wi_546) (fun _ h9 => h9) rfl dd_M_unpack_195 ?_
        refine va_put (D := D) (ci := 6) (v := .int (nI ((cp_ru L i).2.1))) (ty := .int) (C := cn_M) (T := cf_M) (N := 13) hx hb hw in_M ty_M to_M nn_M hown hK hP hD hS 0 rfl rfl 6 (by decide) (hw _ wi_543) (fun _ h9 => h9) rfl (by decide +kernel) (rfl) (rfl) (Nat.le_of_ble_eq_true rfl) dd_M_unpack_198 (fun H locs hP hD hS => ?_)
        have hP : va_P D classes [(q, .inr (6, [.int (nI 0), .ref ta, .ref vb, .int (nI n), .ref ba, .int (nI L.length), .int (nI ((cp_ru L i).2.1)), .ref na, .ref nb, .int (nI ((cp_ru L i).2.1)), .int (nI 1), .int fz, .int fb])), (ta, .inl (cJ, 3000, .inr (.inl f))), (vb, .inl (cJ, 3000, .inr (.inl g))), (na, .inl (cJ, 3000, .inr (.inl f2))), (nb, .inl (cJ, 3000, .inr (.inl g2))), (ba, .inl (cB, 400000, .inl by0))] _ := hP
        have hD : va_D A [(q, .inr (6, [.int (nI 0), .ref ta, .ref vb, .int (nI n), .ref ba, .int (nI L.length), .int (nI ((cp_ru L i).2.1)), .ref na, .ref nb, .int (nI ((cp_ru L i).2.1)), .int (nI 1), .int fz, .int fb])), (ta, .inl (cJ, 3000, .inr (.inl f))), (vb, .inl (cJ, 3000, .inr (.inl g))), (na, .inl (cJ, 3000, .inr (.inl f2))), (nb, .inl (cJ, 3000, .inr (.inl g2))), (ba, .inl (cB, 400000, .inl by0))] := hD
        refine lv_aload_n hx hb dd_M_unpack_201 rfl (lv_at hl 0 rfl) ?_
        refine va_get (D := D) (ci := 6) (C := cn_M) (T := cf_M) (N := 13) hx hb hw in_M hown hK hP 0 rfl rfl 10 (by decide) (hw _ wi_547) (fun _ h9 => h9) rfl dd_M_unpack_202 ?_
        refine lv_if_eq (tgt := 210) hx hb dd_M_unpack_205 (by decide) (fun c_205 => ?_) (fun c_205 => ?_)
        · skip
          have c_205 : 1 = 0 := (ct_zeq (by omega)).mp c_205
          exfalso
          omega
        have c_205 : ¬ (1 = 0) := fun z => c_205 ((ct_zeq (by omega)).mpr z)
        refine lv_iconst (v := (-1)) hx hb dd_M_unpack_208 (by decide) ?_
        refine ct_iret (u := (nI 0, n, f, g, nI ((cp_ru L i).2.1), f2, g2, nI ((cp_ru L i).2.1), nI 1, fz, fb)) hx hb hr hlocks hK hP hD hS rfl ?_ dd_M_unpack_209
        have ek := ru_stop (L := L) (i := i) (by rw [hno]; decide) kn hi
        refine Or.inr ⟨kn, hkn, rfl, rfl, ?_, fun h => ?_, fun _ => ⟨rfl, rfl, rfl, rfl⟩⟩
        · show nI _ = nI _
          rw [ek]
        · rw [ek, hno] at h
          cases h
      have c_52 : ¬ (kn ≤ i) := fun z => c_52 ((nI_leI (by omega) (by omega)).mpr z)
      refine lv_aload_n hx hb dd_M_unpack_55 rfl (lv_at hl 0 rfl) ?_
      refine va_get (D := D) (ci := 6) (C := cn_M) (T := cf_M) (N := 13) hx hb hw in_M hown hK hP 0 rfl rfl 10 (by decide) (hw _ wi_547) (fun _ h9 => h9) rfl dd_M_unpack_56 ?_
      refine lv_if_ne (tgt := 193) hx hb dd_M_unpack_59 (by decide) (fun c_59 => ?_) (fun c_59 => ?_)
      · skip
        have c_59 : ¬ (1 = 0) := fun z => c_59 ((ct_zeq (by omega)).mpr z)
        refine lv_aload_n hx hb dd_M_unpack_193 rfl (lv_at hl 0 rfl) ?_
        refine lv_aload_n hx hb dd_M_unpack_194 rfl (lv_at hl 0 rfl) ?_
        refine va_get (D := D) (ci := 6) (C := cn_M) (T := cf_M) (N := 13) hx hb hw in_M hown hK hP 0 rfl rfl 9 (by decide) (hw _ wi_546) (fun _ h9 => h9) rfl dd_M_unpack_195 ?_
        refine va_put (D := D) (ci := 6) (v := .int (nI ((cp_ru L i).2.1))) (ty := .int) (C := cn_M) (T := cf_M) (N := 13) hx hb hw in_M ty_M to_M nn_M hown hK hP hD hS 0 rfl rfl 6 (by decide) (hw _ wi_543) (fun _ h9 => h9) rfl (by decide +kernel) (rfl) (rfl) (Nat.le_of_ble_eq_true rfl) dd_M_unpack_198 (fun H locs hP hD hS => ?_)
        have hP : va_P D classes [(q, .inr (6, [.int (nI 0), .ref ta, .ref vb, .int (nI n), .ref ba, .int (nI L.length), .int (nI ((cp_ru L i).2.1)), .ref na, .ref nb, .int (nI ((cp_ru L i).2.1)), .int (nI 1), .int fz, .int fb])), (ta, .inl (cJ, 3000, .inr (.inl f))), (vb, .inl (cJ, 3000, .inr (.inl g))), (na, .inl (cJ, 3000, .inr (.inl f2))), (nb, .inl (cJ, 3000, .inr (.inl g2))), (ba, .inl (cB, 400000, .inl by0))] _ := hP
        have hD : va_D A [(q, .inr (6, [.int (nI 0), .ref ta, .ref vb, .int (nI n), .ref ba, .int (nI L.length), .int (nI ((cp_ru L i).2.1)), .ref na, .ref nb, .int (nI ((cp_ru L i).2.1)), .int (nI 1), .int fz, .int fb])), (ta, .inl (cJ, 3000, .inr (.inl f))), (vb, .inl (cJ, 3000, .inr (.inl g))), (na, .inl (cJ, 3000, .inr (.inl f2))), (nb, .inl (cJ, 3000, .inr (.inl g2))), (ba, .inl (cB, 400000, .inl by0))] := hD
        refine lv_aload_n hx hb dd_M_unpack_201 rfl (lv_at hl 0 rfl) ?_
        refine va_get (D := D) (ci := 6) (C := cn_M) (T := cf_M) (N := 13) hx hb hw in_M hown hK hP 0 rfl rfl 10 (by decide) (hw _ wi_547) (fun _ h9 => h9) rfl dd_M_unpack_202 ?_
        refine lv_if_eq (tgt := 210) hx hb dd_M_unpack_205 (by decide) (fun c_205 => ?_) (fun c_205 => ?_)
        · skip
          have c_205 : 1 = 0 := (ct_zeq (by omega)).mp c_205
          exfalso
          omega
        have c_205 : ¬ (1 = 0) := fun z => c_205 ((ct_zeq (by omega)).mpr z)
        refine lv_iconst (v := (-1)) hx hb dd_M_unpack_208 (by decide) ?_
        refine ct_iret (u := (nI 0, n, f, g, nI ((cp_ru L i).2.1), f2, g2, nI ((cp_ru L i).2.1), nI 1, fz, fb)) hx hb hr hlocks hK hP hD hS rfl ?_ dd_M_unpack_209
        have ek := ru_stop (L := L) (i := i) (by rw [hno]; decide) kn hi
        refine Or.inr ⟨kn, hkn, rfl, rfl, ?_, fun h => ?_, fun _ => ⟨rfl, rfl, rfl, rfl⟩⟩
        · show nI _ = nI _
          rw [ek]
        · rw [ek, hno] at h
          cases h
      have c_59 : 1 = 0 := (ct_zeq (by omega)).mp c_59
      exfalso
      omega
    have c_24 : ¬ (0 ≤ 0) := fun z => c_24 ((ct_zle (by omega)).mpr z)
    exfalso
    omega
  refine lv_iconst (v := nI 1) hx hb dd_M_unpack_12 (by decide) ?_
  refine lv_goto (tgt := 17) hx hb dd_M_unpack_13 (by decide) ?_
  refine va_put (D := D) (ci := 6) (v := .int (nI 1)) (ty := .int) (C := cn_M) (T := cf_M) (N := 13) hx hb hw in_M ty_M to_M nn_M hown hK hP hD hS 0 rfl rfl 0 (by decide) (hw _ wi_537) (fun _ h9 => h9) rfl (by decide +kernel) (rfl) (rfl) (Nat.le_of_ble_eq_true rfl) dd_M_unpack_17 (fun H locs hP hD hS => ?_)
  have hP : va_P D classes [(q, .inr (6, [.int (nI 1), .ref ta, .ref vb, .int (nI n), .ref ba, .int (nI L.length), .int tk, .ref na, .ref nb, .int pl, .int wr, .int fz, .int fb])), (ta, .inl (cJ, 3000, .inr (.inl f))), (vb, .inl (cJ, 3000, .inr (.inl g))), (na, .inl (cJ, 3000, .inr (.inl f2))), (nb, .inl (cJ, 3000, .inr (.inl g2))), (ba, .inl (cB, 400000, .inl by0))] _ := hP
  have hD : va_D A [(q, .inr (6, [.int (nI 1), .ref ta, .ref vb, .int (nI n), .ref ba, .int (nI L.length), .int tk, .ref na, .ref nb, .int pl, .int wr, .int fz, .int fb])), (ta, .inl (cJ, 3000, .inr (.inl f))), (vb, .inl (cJ, 3000, .inr (.inl g))), (na, .inl (cJ, 3000, .inr (.inl f2))), (nb, .inl (cJ, 3000, .inr (.inl g2))), (ba, .inl (cB, 400000, .inl by0))] := hD
  refine lv_aload_n hx hb dd_M_unpack_20 rfl (lv_at hl 0 rfl) ?_
  refine va_get (D := D) (ci := 6) (C := cn_M) (T := cf_M) (N := 13) hx hb hw in_M hown hK hP 0 rfl rfl 0 (by decide) (hw _ wi_537) (fun _ h9 => h9) rfl dd_M_unpack_21 ?_
  refine lv_if_le (tgt := 29) hx hb dd_M_unpack_24 (by decide) (fun c_24 => ?_) (fun c_24 => ?_)
  · skip
    have c_24 : 1 ≤ 0 := (ct_zle (by omega)).mp c_24
    exfalso
    omega
  have c_24 : ¬ (1 ≤ 0) := fun z => c_24 ((ct_zle (by omega)).mpr z)
  refine lv_iconst (v := nI 0) hx hb dd_M_unpack_27 (by decide) ?_
  refine ct_iret (u := (nI 1, n, f, g, tk, f2, g2, pl, wr, fz, fb)) hx hb hr hlocks hK hP hD hS rfl ?_ dd_M_unpack_28
  exact Or.inl ⟨cp_ix_nle (n := 3000) (by omega) (Or.inr c_9), rfl, rfl, rfl, rfl, rfl⟩
