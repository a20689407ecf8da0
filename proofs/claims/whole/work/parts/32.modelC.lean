/-! the reference packs: helps -/
theorem mt_k {t : Int64} {k : Nat} (h : cp_kd t = k) : cp_wt t = cp_kb k ++ cp_bl t (cp_tb k) := by subst h; rfl
theorem mt_0 {t : Int64} (h : t = 0) : cp_kd t = 0 := if_pos h
theorem mt_1 {t : Int64} (h0 : ¬ t = 0) (h1 : -64 ≤ t ∧ t ≤ 63) : cp_kd t = 1 := by unfold cp_kd; rw [if_neg h0, if_pos h1]
theorem mt_2 {t : Int64} (h0 : ¬ t = 0) (h1 : ¬ (-64 ≤ t ∧ t ≤ 63)) (h2 : -512 ≤ t ∧ t ≤ 511) : cp_kd t = 2 := by unfold cp_kd; rw [if_neg h0, if_neg h1, if_pos h2]
theorem mt_3 {t : Int64} (h0 : ¬ t = 0) (h1 : ¬ (-64 ≤ t ∧ t ≤ 63)) (h2 : ¬ (-512 ≤ t ∧ t ≤ 511)) (h3 : -4096 ≤ t ∧ t ≤ 4095) : cp_kd t = 3 := by unfold cp_kd; rw [if_neg h0, if_neg h1, if_neg h2, if_pos h3]
theorem mt_4 {t : Int64} (h0 : ¬ t = 0) (h1 : ¬ (-64 ≤ t ∧ t ≤ 63)) (h2 : ¬ (-512 ≤ t ∧ t ≤ 511)) (h3 : ¬ (-4096 ≤ t ∧ t ≤ 4095)) : cp_kd t = 4 := by unfold cp_kd; rw [if_neg h0, if_neg h1, if_neg h2, if_neg h3]
theorem mv_lz {x : Int64} (hx : ¬ x = 0) {a : Nat} (ha : a < 64) : cp_fit x (63 - a) ↔ a + 1 ≤ cp_lz x := by
  constructor
  · intro h
    refine Classical.byContradiction (fun n => ?_)
    have t := cp_lz_top hx
    rw [h _ (by omega)] at t
    cases t
  · intro h j hj
    exact cp_lz_above x (by omega)
theorem mv_tz {x : Int64} (hx : ¬ x = 0) {b : Nat} (hb : b ≤ cp_tz x) : lN (cp_b x b).toNat = 0 ↔ b + 1 ≤ cp_tz x := by
  constructor
  · intro h
    refine Classical.byContradiction (fun n => ?_)
    have e : b = cp_tz x := by omega
    rw [e, cp_tz_low hx] at h
    exact absurd h (by decide)
  · intro h
    rw [cp_tz_below x h]; rfl
theorem mv_sub {n : Nat} (h : 1 ≤ n) : lN n - 1 = lN (n - 1) := by
  show lN n - lN 1 = _
  exact lN_sub h

set_option maxHeartbeats 4000000 in
set_option maxRecDepth 100000 in
theorem cc_M_writeTurn (l : Launch) (D : va_G) (cJ cB : ClassId) (q ta vb ba na nb : Nat) (cd tk pl wr fz fb : Int32) (n : Nat) (L : List Bool) (by0 : Nat → Int32) (t : Int64) (sz : Nat) (hL : L.length + 45 ≤ 400000) (hB : cp_Rb by0 L) : ct_v l my_M_writeTurn (Cond.code my_M_writeTurn mb_M_writeTurn 3 none :: TB) ({ frames := 1, cells := 0, slots := 0, locals := 24 } : Room) D classes cJ cB [.ref q, .long t] [(q, .inr (6, [.int cd, .ref ta, .ref vb, .int (nI n), .ref ba, .int (nI L.length), .int tk, .ref na, .ref nb, .int pl, .int wr, .int fz, .int fb])), (ba, .inl (cB, 400000, .inl by0))] sz (fun (u : Nat → Int32) => cp_Rb u (L ++ cp_wt t)) (fun u => [(q, .inr (6, [.int cd, .ref ta, .ref vb, .int (nI n), .ref ba, .int (nI ((L ++ cp_wt t).length)), .int tk, .ref na, .ref nb, .int pl, .int wr, .int fz, .int fb])), (ba, .inl (cB, 400000, .inl u))]) 0 0 := by
  refine ct_ofW (cc := mb_M_writeTurn) (maxL := 3) (ret := none) (by decide) rfl (Nat.le_of_ble_eq_true rfl) ?_
  intro p e s m below meth c hx hb hr hml hts hown hlocks hin hsz hK hP hD hA hS hZ ls hl
  have hw : ∀ w ∈ TB, w.before _ s = true := fun w h => hts w (List.mem_cons_of_mem _ h)
  have hown : s.vm.findClass cn_M = some m.cls := hown
  have hin : meth.name = "writeTurn" := hin
  generalize hAe : va_A [(q, .inr (6, [.int cd, .ref ta, .ref vb, .int (nI n), .ref ba, .int (nI L.length), .int tk, .ref na, .ref nb, .int pl, .int wr, .int fz, .int fb])), (ba, .inl (cB, 400000, .inl by0))] sz = A at hD hA hS hZ ⊢
  clear hAe
  have hl : lv_has ls 3 [(0, .ref q), (1, .long t)] := hl
  have hP : va_P D classes [(q, .inr (6, [.int cd, .ref ta, .ref vb, .int (nI n), .ref ba, .int (nI L.length), .int tk, .ref na, .ref nb, .int pl, .int wr, .int fz, .int fb])), (ba, .inl (cB, 400000, .inl by0))] s.heap := hP
  refine lv_lload_n hx hb dd_M_writeTurn_0 rfl (lv_at hl 1 rfl) ?_
  refine lv_lconst (v := 0) hx hb dd_M_writeTurn_1 (by decide) ?_
  refine W.lcmp hx hb dd_M_writeTurn_2 ?_
  refine lv_if_ne (tgt := 15) hx hb dd_M_writeTurn_3 (by decide) (fun c_3 => ?_) (fun c_3 => ?_)
  · skip
    have c_3 : ¬ (t = 0) := fun z => c_3 ((lg_cmp_eq _ _).mpr z)
    refine ct_cut (pc2 := 49) (stk2 := []) (fun H locs ls => va_P D classes [(q, .inr (6, [.int cd, .ref ta, .ref vb, .int (nI n), .ref ba, .int (nI L.length), .int tk, .ref na, .ref nb, .int pl, .int wr, .int fz, .int fb])), (ba, .inl (cB, 400000, .inl by0))] H ∧ va_D A [(q, .inr (6, [.int cd, .ref ta, .ref vb, .int (nI n), .ref ba, .int (nI L.length), .int tk, .ref na, .ref nb, .int pl, .int wr, .int fz, .int fb])), (ba, .inl (cB, 400000, .inl by0))] ∧ va_S A s.heap H locs ∧ lv_has ls 3 [(0, .ref q), (1, .long t)] ∧ (¬ (-64 ≤ t ∧ t ≤ 63))) ?_ (fun tl1 => ?_)
    · skip
      rintro H locs ls ⟨hP, hD, hS, hl, k_1⟩
      refine ct_cut (pc2 := 83) (stk2 := []) (fun H locs ls => va_P D classes [(q, .inr (6, [.int cd, .ref ta, .ref vb, .int (nI n), .ref ba, .int (nI L.length), .int tk, .ref na, .ref nb, .int pl, .int wr, .int fz, .int fb])), (ba, .inl (cB, 400000, .inl by0))] H ∧ va_D A [(q, .inr (6, [.int cd, .ref ta, .ref vb, .int (nI n), .ref ba, .int (nI L.length), .int tk, .ref na, .ref nb, .int pl, .int wr, .int fz, .int fb])), (ba, .inl (cB, 400000, .inl by0))] ∧ va_S A s.heap H locs ∧ lv_has ls 3 [(0, .ref q), (1, .long t)] ∧ (¬ (-512 ≤ t ∧ t ≤ 511))) ?_ (fun tl2 => ?_)
      · skip
        rintro H locs ls ⟨hP, hD, hS, hl, k_2⟩
        refine ct_cut (pc2 := 117) (stk2 := []) (fun H locs ls => va_P D classes [(q, .inr (6, [.int cd, .ref ta, .ref vb, .int (nI n), .ref ba, .int (nI L.length), .int tk, .ref na, .ref nb, .int pl, .int wr, .int fz, .int fb])), (ba, .inl (cB, 400000, .inl by0))] H ∧ va_D A [(q, .inr (6, [.int cd, .ref ta, .ref vb, .int (nI n), .ref ba, .int (nI L.length), .int tk, .ref na, .ref nb, .int pl, .int wr, .int fz, .int fb])), (ba, .inl (cB, 400000, .inl by0))] ∧ va_S A s.heap H locs ∧ lv_has ls 3 [(0, .ref q), (1, .long t)] ∧ (¬ (-4096 ≤ t ∧ t ≤ 4095))) ?_ (fun tl3 => ?_)
        · skip
          rintro H locs ls ⟨hP, hD, hS, hl, k_3⟩
          refine lv_aload_n hx hb dd_M_writeTurn_117 rfl (lv_at hl 0 rfl) ?_
          refine lv_ldc2 (v := 15) hx hb hown (hw _ wi_611) dd_M_writeTurn_118 ?_
          refine lv_iconst (v := nI 4) hx hb dd_M_writeTurn_121 (by decide) ?_
          refine ct_behind_v (wc := [(q, .inr (6, [.int cd, .ref ta, .ref vb, .int (nI n), .ref ba, .int (nI L.length), .int tk, .ref na, .ref nb, .int pl, .int wr, .int fz, .int fb])), (ba, .inl (cB, 400000, .inl by0))]) (wr := []) (av := [.ref q, .long 15, .int (nI 4)]) (va_runV (As := [.long 15, .int (nI 4)]) (rest := []) ⟨hx, hb, hml, hown, hw⟩ (cc_M_write l D cJ cB q ta vb ba na nb cd tk pl wr fz fb n L by0 15 4 _ (by omega) hB (by omega)) (cwV 2 hw (tb_V wi_594 wi_596 wi_14 wi_25 wi_597) rfl rfl rfl (by decide +kernel) ⟨Nat.le_of_ble_eq_true rfl, Nat.le_of_ble_eq_true rfl⟩) ⟨ct_blind, ct_recv hK hP (q0 := 0) (ci := 6) rfl rfl, ct_pc hZ hK hP hD hS hA [0, 1] rfl (by decide)⟩ rfl rfl hl.1 rfl (lv_room (Nat.le_of_ble_eq_true rfl)) dd_M_writeTurn_122 ⟨Nat.le_of_ble_eq_true rfl, Nat.le_of_ble_eq_true rfl⟩) hK hP hD hS hA [0, 1] [] rfl rfl (by decide) (by decide) (fun u_122 H locs hw_122 hP hD hS => ?_)
          have hP : va_P D classes [(q, .inr (6, [.int cd, .ref ta, .ref vb, .int (nI n), .ref ba, .int (nI ((L ++ cp_bl 15 4).length)), .int tk, .ref na, .ref nb, .int pl, .int wr, .int fz, .int fb])), (ba, .inl (cB, 400000, .inl u_122))] _ := hP
          have hD : va_D A [(q, .inr (6, [.int cd, .ref ta, .ref vb, .int (nI n), .ref ba, .int (nI ((L ++ cp_bl 15 4).length)), .int tk, .ref na, .ref nb, .int pl, .int wr, .int fz, .int fb])), (ba, .inl (cB, 400000, .inl u_122))] := hD
          refine lv_aload_n hx hb dd_M_writeTurn_125 rfl (lv_at hl 0 rfl) ?_
          refine lv_lload_n hx hb dd_M_writeTurn_126 rfl (lv_at hl 1 rfl) ?_
          refine lv_bipush (v := nI 41) hx hb dd_M_writeTurn_127 (by decide) ?_
          refine ct_behind_v (wc := [(q, .inr (6, [.int cd, .ref ta, .ref vb, .int (nI n), .ref ba, .int (nI ((L ++ cp_bl 15 4).length)), .int tk, .ref na, .ref nb, .int pl, .int wr, .int fz, .int fb])), (ba, .inl (cB, 400000, .inl u_122))]) (wr := []) (av := [.ref q, .long t, .int (nI 41)]) (va_runV (As := [.long t, .int (nI 41)]) (rest := []) ⟨hx, hb, hml, hown, hw⟩ (cc_M_write l D cJ cB q ta vb ba na nb cd tk pl wr fz fb n (L ++ cp_bl 15 4) u_122 t 41 _ (by simp only [List.length_append, cp_bl_len]; omega) hw_122 (by omega)) (cwV 2 hw (tb_V wi_594 wi_596 wi_14 wi_25 wi_597) rfl rfl rfl (by decide +kernel) ⟨Nat.le_of_ble_eq_true rfl, Nat.le_of_ble_eq_true rfl⟩) ⟨ct_blind, ct_recv hK hP (q0 := 0) (ci := 6) rfl rfl, ct_pc hZ hK hP hD hS hA [0, 1] rfl (by decide)⟩ rfl rfl hl.1 rfl (lv_room (Nat.le_of_ble_eq_true rfl)) dd_M_writeTurn_129 ⟨Nat.le_of_ble_eq_true rfl, Nat.le_of_ble_eq_true rfl⟩) hK hP hD hS hA [0, 1] [] rfl rfl (by decide) (by decide) (fun u_129 H locs hw_129 hP hD hS => ?_)
          have hP : va_P D classes [(q, .inr (6, [.int cd, .ref ta, .ref vb, .int (nI n), .ref ba, .int (nI (((L ++ cp_bl 15 4) ++ cp_bl t 41).length)), .int tk, .ref na, .ref nb, .int pl, .int wr, .int fz, .int fb])), (ba, .inl (cB, 400000, .inl u_129))] _ := hP
          have hD : va_D A [(q, .inr (6, [.int cd, .ref ta, .ref vb, .int (nI n), .ref ba, .int (nI (((L ++ cp_bl 15 4) ++ cp_bl t 41).length)), .int tk, .ref na, .ref nb, .int pl, .int wr, .int fz, .int fb])), (ba, .inl (cB, 400000, .inl u_129))] := hD
          have eL : L ++ cp_wt t = (L ++ cp_bl 15 4) ++ cp_bl t 41 := by rw [mt_k (mt_4 c_3 k_1 k_2 k_3)]; exact (List.append_assoc _ _ _).symm
          refine ct_vret (u := u_129) (ws := [(q, .inr (6, [.int cd, .ref ta, .ref vb, .int (nI n), .ref ba, .int (nI (((L ++ cp_bl 15 4) ++ cp_bl t 41).length)), .int tk, .ref na, .ref nb, .int pl, .int wr, .int fz, .int fb])), (ba, .inl (cB, 400000, .inl u_129))]) hx hb hr hlocks hK hP hD hS (by simp only [eL]) ?_ dd_M_writeTurn_132
          rw [eL]; exact hw_129
        refine lv_lload_n hx hb dd_M_writeTurn_83 rfl (lv_at hl 1 rfl) ?_
        refine lv_ldc2 (v := (-4096)) hx hb hown (hw _ wi_608) dd_M_writeTurn_84 ?_
        refine W.lcmp hx hb dd_M_writeTurn_87 ?_
        refine lv_if_lt (tgt := 117) hx hb dd_M_writeTurn_88 (by decide) (fun c_88 => ?_) (fun c_88 => ?_)
        · skip
          have c_88 : t < (-4096) := (lg_cmp_lt _ _).mp c_88
          exact tl3 _ _ _ ⟨hP, hD, hS, lv_sub hl [0, 1] rfl, fun z => absurd z.1 (Int64.not_le.mpr c_88)⟩
        have c_88 : ¬ (t < (-4096)) := fun z => c_88 ((lg_cmp_lt _ _).mpr z)
        refine lv_lload_n hx hb dd_M_writeTurn_91 rfl (lv_at hl 1 rfl) ?_
        refine lv_ldc2 (v := 4095) hx hb hown (hw _ wi_609) dd_M_writeTurn_92 ?_
        refine W.lcmp hx hb dd_M_writeTurn_95 ?_
        refine lv_if_gt (tgt := 117) hx hb dd_M_writeTurn_96 (by decide) (fun c_96 => ?_) (fun c_96 => ?_)
        · skip
          have c_96 : 4095 < t := (lg_cmp_gt _ _).mp c_96
          exact tl3 _ _ _ ⟨hP, hD, hS, lv_sub hl [0, 1] rfl, fun z => absurd z.2 (Int64.not_le.mpr c_96)⟩
        have c_96 : ¬ (4095 < t) := fun z => c_96 ((lg_cmp_gt _ _).mpr z)
        refine lv_aload_n hx hb dd_M_writeTurn_99 rfl (lv_at hl 0 rfl) ?_
        refine lv_ldc2 (v := 14) hx hb hown (hw _ wi_610) dd_M_writeTurn_100 ?_
        refine lv_iconst (v := nI 4) hx hb dd_M_writeTurn_103 (by decide) ?_
        refine ct_behind_v (wc := [(q, .inr (6, [.int cd, .ref ta, .ref vb, .int (nI n), .ref ba, .int (nI L.length), .int tk, .ref na, .ref nb, .int pl, .int wr, .int fz, .int fb])), (ba, .inl (cB, 400000, .inl by0))]) (wr := []) (av := [.ref q, .long 14, .int (nI 4)]) (va_runV (As := [.long 14, .int (nI 4)]) (rest := []) ⟨hx, hb, hml, hown, hw⟩ (cc_M_write l D cJ cB q ta vb ba na nb cd tk pl wr fz fb n L by0 14 4 _ (by omega) hB (by omega)) (cwV 2 hw (tb_V wi_594 wi_596 wi_14 wi_25 wi_597) rfl rfl rfl (by decide +kernel) ⟨Nat.le_of_ble_eq_true rfl, Nat.le_of_ble_eq_true rfl⟩) ⟨ct_blind, ct_recv hK hP (q0 := 0) (ci := 6) rfl rfl, ct_pc hZ hK hP hD hS hA [0, 1] rfl (by decide)⟩ rfl rfl hl.1 rfl (lv_room (Nat.le_of_ble_eq_true rfl)) dd_M_writeTurn_104 ⟨Nat.le_of_ble_eq_true rfl, Nat.le_of_ble_eq_true rfl⟩) hK hP hD hS hA [0, 1] [] rfl rfl (by decide) (by decide) (fun u_104 H locs hw_104 hP hD hS => ?_)
        have hP : va_P D classes [(q, .inr (6, [.int cd, .ref ta, .ref vb, .int (nI n), .ref ba, .int (nI ((L ++ cp_bl 14 4).length)), .int tk, .ref na, .ref nb, .int pl, .int wr, .int fz, .int fb])), (ba, .inl (cB, 400000, .inl u_104))] _ := hP
        have hD : va_D A [(q, .inr (6, [.int cd, .ref ta, .ref vb, .int (nI n), .ref ba, .int (nI ((L ++ cp_bl 14 4).length)), .int tk, .ref na, .ref nb, .int pl, .int wr, .int fz, .int fb])), (ba, .inl (cB, 400000, .inl u_104))] := hD
        refine lv_aload_n hx hb dd_M_writeTurn_107 rfl (lv_at hl 0 rfl) ?_
        refine lv_lload_n hx hb dd_M_writeTurn_108 rfl (lv_at hl 1 rfl) ?_
        refine lv_bipush (v := nI 13) hx hb dd_M_writeTurn_109 (by decide) ?_
        refine ct_behind_v (wc := [(q, .inr (6, [.int cd, .ref ta, .ref vb, .int (nI n), .ref ba, .int (nI ((L ++ cp_bl 14 4).length)), .int tk, .ref na, .ref nb, .int pl, .int wr, .int fz, .int fb])), (ba, .inl (cB, 400000, .inl u_104))]) (wr := []) (av := [.ref q, .long t, .int (nI 13)]) (va_runV (As := [.long t, .int (nI 13)]) (rest := []) ⟨hx, hb, hml, hown, hw⟩ (cc_M_write l D cJ cB q ta vb ba na nb cd tk pl wr fz fb n (L ++ cp_bl 14 4) u_104 t 13 _ (by simp only [List.length_append, cp_bl_len]; omega) hw_104 (by omega)) (cwV 2 hw (tb_V wi_594 wi_596 wi_14 wi_25 wi_597) rfl rfl rfl (by decide +kernel) ⟨Nat.le_of_ble_eq_true rfl, Nat.le_of_ble_eq_true rfl⟩) ⟨ct_blind, ct_recv hK hP (q0 := 0) (ci := 6) rfl rfl, ct_pc hZ hK hP hD hS hA [0, 1] rfl (by decide)⟩ rfl rfl hl.1 rfl (lv_room (Nat.le_of_ble_eq_true rfl)) dd_M_writeTurn_111 ⟨Nat.le_of_ble_eq_true rfl, Nat.le_of_ble_eq_true rfl⟩) hK hP hD hS hA [0, 1] [] rfl rfl (by decide) (by decide) (fun u_111 H locs hw_111 hP hD hS => ?_)
        have hP : va_P D classes [(q, .inr (6, [.int cd, .ref ta, .ref vb, .int (nI n), .ref ba, .int (nI (((L ++ cp_bl 14 4) ++ cp_bl t 13).length)), .int tk, .ref na, .ref nb, .int pl, .int wr, .int fz, .int fb])), (ba, .inl (cB, 400000, .inl u_111))] _ := hP
        have hD : va_D A [(q, .inr (6, [.int cd, .ref ta, .ref vb, .int (nI n), .ref ba, .int (nI (((L ++ cp_bl 14 4) ++ cp_bl t 13).length)), .int tk, .ref na, .ref nb, .int pl, .int wr, .int fz, .int fb])), (ba, .inl (cB, 400000, .inl u_111))] := hD
        refine lv_goto (tgt := 132) hx hb dd_M_writeTurn_114 (by decide) ?_
        have eL : L ++ cp_wt t = (L ++ cp_bl 14 4) ++ cp_bl t 13 := by rw [mt_k (mt_3 c_3 k_1 k_2 ⟨Int64.not_lt.mp c_88, Int64.not_lt.mp c_96⟩)]; exact (List.append_assoc _ _ _).symm
        refine ct_vret (u := u_111) (ws := [(q, .inr (6, [.int cd, .ref ta, .ref vb, .int (nI n), .ref ba, .int (nI (((L ++ cp_bl 14 4) ++ cp_bl t 13).length)), .int tk, .ref na, .ref nb, .int pl, .int wr, .int fz, .int fb])), (ba, .inl (cB, 400000, .inl u_111))]) hx hb hr hlocks hK hP hD hS (by simp only [eL]) ?_ dd_M_writeTurn_132
        rw [eL]; exact hw_111
      refine lv_lload_n hx hb dd_M_writeTurn_49 rfl (lv_at hl 1 rfl) ?_
      refine lv_ldc2 (v := (-512)) hx hb hown (hw _ wi_605) dd_M_writeTurn_50 ?_
      refine W.lcmp hx hb dd_M_writeTurn_53 ?_
      refine lv_if_lt (tgt := 83) hx hb dd_M_writeTurn_54 (by decide) (fun c_54 => ?_) (fun c_54 => ?_)
      · skip
        have c_54 : t < (-512) := (lg_cmp_lt _ _).mp c_54
        exact tl2 _ _ _ ⟨hP, hD, hS, lv_sub hl [0, 1] rfl, fun z => absurd z.1 (Int64.not_le.mpr c_54)⟩
      have c_54 : ¬ (t < (-512)) := fun z => c_54 ((lg_cmp_lt _ _).mpr z)
      refine lv_lload_n hx hb dd_M_writeTurn_57 rfl (lv_at hl 1 rfl) ?_
      refine lv_ldc2 (v := 511) hx hb hown (hw _ wi_606) dd_M_writeTurn_58 ?_
      refine W.lcmp hx hb dd_M_writeTurn_61 ?_
      refine lv_if_gt (tgt := 83) hx hb dd_M_writeTurn_62 (by decide) (fun c_62 => ?_) (fun c_62 => ?_)
      · skip
        have c_62 : 511 < t := (lg_cmp_gt _ _).mp c_62
        exact tl2 _ _ _ ⟨hP, hD, hS, lv_sub hl [0, 1] rfl, fun z => absurd z.2 (Int64.not_le.mpr c_62)⟩
      have c_62 : ¬ (511 < t) := fun z => c_62 ((lg_cmp_gt _ _).mpr z)
      refine lv_aload_n hx hb dd_M_writeTurn_65 rfl (lv_at hl 0 rfl) ?_
      refine lv_ldc2 (v := 6) hx hb hown (hw _ wi_607) dd_M_writeTurn_66 ?_
      refine lv_iconst (v := nI 3) hx hb dd_M_writeTurn_69 (by decide) ?_
      refine ct_behind_v (wc := [(q, .inr (6, [.int cd, .ref ta, .ref vb, .int (nI n), .ref ba, .int (nI L.length), .int tk, .ref na, .ref nb, .int pl, .int wr, .int fz, .int fb])), (ba, .inl (cB, 400000, .inl by0))]) (wr := []) (av := [.ref q, .long 6, .int (nI 3)]) (va_runV (As := [.long 6, .int (nI 3)]) (rest := []) ⟨hx, hb, hml, hown, hw⟩ (cc_M_write l D cJ cB q ta vb ba na nb cd tk pl wr fz fb n L by0 6 3 _ (by omega) hB (by omega)) (cwV 2 hw (tb_V wi_594 wi_596 wi_14 wi_25 wi_597) rfl rfl rfl (by decide +kernel) ⟨Nat.le_of_ble_eq_true rfl, Nat.le_of_ble_eq_true rfl⟩) ⟨ct_blind, ct_recv hK hP (q0 := 0) (ci := 6) rfl rfl, ct_pc hZ hK hP hD hS hA [0, 1] rfl (by decide)⟩ rfl rfl hl.1 rfl (lv_room (Nat.le_of_ble_eq_true rfl)) dd_M_writeTurn_70 ⟨Nat.le_of_ble_eq_true rfl, Nat.le_of_ble_eq_true rfl⟩) hK hP hD hS hA [0, 1] [] rfl rfl (by decide) (by decide) (fun u_70 H locs hw_70 hP hD hS => ?_)
      have hP : va_P D classes [(q, .inr (6, [.int cd, .ref ta, .ref vb, .int (nI n), .ref ba, .int (nI ((L ++ cp_bl 6 3).length)), .int tk, .ref na, .ref nb, .int pl, .int wr, .int fz, .int fb])), (ba, .inl (cB, 400000, .inl u_70))] _ := hP
      have hD : va_D A [(q, .inr (6, [.int cd, .ref ta, .ref vb, .int (nI n), .ref ba, .int (nI ((L ++ cp_bl 6 3).length)), .int tk, .ref na, .ref nb, .int pl, .int wr, .int fz, .int fb])), (ba, .inl (cB, 400000, .inl u_70))] := hD
      refine lv_aload_n hx hb dd_M_writeTurn_73 rfl (lv_at hl 0 rfl) ?_
      refine lv_lload_n hx hb dd_M_writeTurn_74 rfl (lv_at hl 1 rfl) ?_
      refine lv_bipush (v := nI 10) hx hb dd_M_writeTurn_75 (by decide) ?_
      refine ct_behind_v (wc := [(q, .inr (6, [.int cd, .ref ta, .ref vb, .int (nI n), .ref ba, .int (nI ((L ++ cp_bl 6 3).length)), .int tk, .ref na, .ref nb, .int pl, .int wr, .int fz, .int fb])), (ba, .inl (cB, 400000, .inl u_70))]) (wr := []) (av := [.ref q, .long t, .int (nI 10)]) (va_runV (As := [.long t, .int (nI 10)]) (rest := []) ⟨hx, hb, hml, hown, hw⟩ (cc_M_write l D cJ cB q ta vb ba na nb cd tk pl wr fz fb n (L ++ cp_bl 6 3) u_70 t 10 _ (by simp only [List.length_append, cp_bl_len]; omega) hw_70 (by omega)) (cwV 2 hw (tb_V wi_594 wi_596 wi_14 wi_25 wi_597) rfl rfl rfl (by decide +kernel) ⟨Nat.le_of_ble_eq_true rfl, Nat.le_of_ble_eq_true rfl⟩) ⟨ct_blind, ct_recv hK hP (q0 := 0) (ci := 6) rfl rfl, ct_pc hZ hK hP hD hS hA [0, 1] rfl (by decide)⟩ rfl rfl hl.1 rfl (lv_room (Nat.le_of_ble_eq_true rfl)) dd_M_writeTurn_77 ⟨Nat.le_of_ble_eq_true rfl, Nat.le_of_ble_eq_true rfl⟩) hK hP hD hS hA [0, 1] [] rfl rfl (by decide) (by decide) (fun u_77 H locs hw_77 hP hD hS => ?_)
      have hP : va_P D classes [(q, .inr (6, [.int cd, .ref ta, .ref vb, .int (nI n), .ref ba, .int (nI (((L ++ cp_bl 6 3) ++ cp_bl t 10).length)), .int tk, .ref na, .ref nb, .int pl, .int wr, .int fz, .int fb])), (ba, .inl (cB, 400000, .inl u_77))] _ := hP
      have hD : va_D A [(q, .inr (6, [.int cd, .ref ta, .ref vb, .int (nI n), .ref ba, .int (nI (((L ++ cp_bl 6 3) ++ cp_bl t 10).length)), .int tk, .ref na, .ref nb, .int pl, .int wr, .int fz, .int fb])), (ba, .inl (cB, 400000, .inl u_77))] := hD
      refine lv_goto (tgt := 132) hx hb dd_M_writeTurn_80 (by decide) ?_
      have eL : L ++ cp_wt t = (L ++ cp_bl 6 3) ++ cp_bl t 10 := by rw [mt_k (mt_2 c_3 k_1 ⟨Int64.not_lt.mp c_54, Int64.not_lt.mp c_62⟩)]; exact (List.append_assoc _ _ _).symm
      refine ct_vret (u := u_77) (ws := [(q, .inr (6, [.int cd, .ref ta, .ref vb, .int (nI n), .ref ba, .int (nI (((L ++ cp_bl 6 3) ++ cp_bl t 10).length)), .int tk, .ref na, .ref nb, .int pl, .int wr, .int fz, .int fb])), (ba, .inl (cB, 400000, .inl u_77))]) hx hb hr hlocks hK hP hD hS (by simp only [eL]) ?_ dd_M_writeTurn_132
      rw [eL]; exact hw_77
    refine lv_lload_n hx hb dd_M_writeTurn_15 rfl (lv_at hl 1 rfl) ?_
    refine lv_ldc2 (v := (-64)) hx hb hown (hw _ wi_602) dd_M_writeTurn_16 ?_
    refine W.lcmp hx hb dd_M_writeTurn_19 ?_
    refine lv_if_lt (tgt := 49) hx hb dd_M_writeTurn_20 (by decide) (fun c_20 => ?_) (fun c_20 => ?_)
    · skip
      have c_20 : t < (-64) := (lg_cmp_lt _ _).mp c_20
      exact tl1 _ _ _ ⟨hP, hD, hS, lv_sub hl [0, 1] rfl, fun z => absurd z.1 (Int64.not_le.mpr c_20)⟩
    have c_20 : ¬ (t < (-64)) := fun z => c_20 ((lg_cmp_lt _ _).mpr z)
    refine lv_lload_n hx hb dd_M_writeTurn_23 rfl (lv_at hl 1 rfl) ?_
    refine lv_ldc2 (v := 63) hx hb hown (hw _ wi_603) dd_M_writeTurn_24 ?_
    refine W.lcmp hx hb dd_M_writeTurn_27 ?_
    refine lv_if_gt (tgt := 49) hx hb dd_M_writeTurn_28 (by decide) (fun c_28 => ?_) (fun c_28 => ?_)
    · skip
      have c_28 : 63 < t := (lg_cmp_gt _ _).mp c_28
      exact tl1 _ _ _ ⟨hP, hD, hS, lv_sub hl [0, 1] rfl, fun z => absurd z.2 (Int64.not_le.mpr c_28)⟩
    have c_28 : ¬ (63 < t) := fun z => c_28 ((lg_cmp_gt _ _).mpr z)
    refine lv_aload_n hx hb dd_M_writeTurn_31 rfl (lv_at hl 0 rfl) ?_
    refine lv_ldc2 (v := 2) hx hb hown (hw _ wi_604) dd_M_writeTurn_32 ?_
    refine lv_iconst (v := nI 2) hx hb dd_M_writeTurn_35 (by decide) ?_
    refine ct_behind_v (wc := [(q, .inr (6, [.int cd, .ref ta, .ref vb, .int (nI n), .ref ba, .int (nI L.length), .int tk, .ref na, .ref nb, .int pl, .int wr, .int fz, .int fb])), (ba, .inl (cB, 400000, .inl by0))]) (wr := []) (av := [.ref q, .long 2, .int (nI 2)]) (va_runV (As := [.long 2, .int (nI 2)]) (rest := []) ⟨hx, hb, hml, hown, hw⟩ (cc_M_write l D cJ cB q ta vb ba na nb cd tk pl wr fz fb n L by0 2 2 _ (by omega) hB (by omega)) (cwV 2 hw (tb_V wi_594 wi_596 wi_14 wi_25 wi_597) rfl rfl rfl (by decide +kernel) ⟨Nat.le_of_ble_eq_true rfl, Nat.le_of_ble_eq_true rfl⟩) ⟨ct_blind, ct_recv hK hP (q0 := 0) (ci := 6) rfl rfl, ct_pc hZ hK hP hD hS hA [0, 1] rfl (by decide)⟩ rfl rfl hl.1 rfl (lv_room (Nat.le_of_ble_eq_true rfl)) dd_M_writeTurn_36 ⟨Nat.le_of_ble_eq_true rfl, Nat.le_of_ble_eq_true rfl⟩) hK hP hD hS hA [0, 1] [] rfl rfl (by decide) (by decide) (fun u_36 H locs hw_36 hP hD hS => ?_)
    have hP : va_P D classes [(q, .inr (6, [.int cd, .ref ta, .ref vb, .int (nI n), .ref ba, .int (nI ((L ++ cp_bl 2 2).length)), .int tk, .ref na, .ref nb, .int pl, .int wr, .int fz, .int fb])), (ba, .inl (cB, 400000, .inl u_36))] _ := hP
    have hD : va_D A [(q, .inr (6, [.int cd, .ref ta, .ref vb, .int (nI n), .ref ba, .int (nI ((L ++ cp_bl 2 2).length)), .int tk, .ref na, .ref nb, .int pl, .int wr, .int fz, .int fb])), (ba, .inl (cB, 400000, .inl u_36))] := hD
    refine lv_aload_n hx hb dd_M_writeTurn_39 rfl (lv_at hl 0 rfl) ?_
    refine lv_lload_n hx hb dd_M_writeTurn_40 rfl (lv_at hl 1 rfl) ?_
    refine lv_bipush (v := nI 7) hx hb dd_M_writeTurn_41 (by decide) ?_
    refine ct_behind_v (wc := [(q, .inr (6, [.int cd, .ref ta, .ref vb, .int (nI n), .ref ba, .int (nI ((L ++ cp_bl 2 2).length)), .int tk, .ref na, .ref nb, .int pl, .int wr, .int fz, .int fb])), (ba, .inl (cB, 400000, .inl u_36))]) (wr := []) (av := [.ref q, .long t, .int (nI 7)]) (va_runV (As := [.long t, .int (nI 7)]) (rest := []) ⟨hx, hb, hml, hown, hw⟩ (cc_M_write l D cJ cB q ta vb ba na nb cd tk pl wr fz fb n (L ++ cp_bl 2 2) u_36 t 7 _ (by simp only [List.length_append, cp_bl_len]; omega) hw_36 (by omega)) (cwV 2 hw (tb_V wi_594 wi_596 wi_14 wi_25 wi_597) rfl rfl rfl (by decide +kernel) ⟨Nat.le_of_ble_eq_true rfl, Nat.le_of_ble_eq_true rfl⟩) ⟨ct_blind, ct_recv hK hP (q0 := 0) (ci := 6) rfl rfl, ct_pc hZ hK hP hD hS hA [0, 1] rfl (by decide)⟩ rfl rfl hl.1 rfl (lv_room (Nat.le_of_ble_eq_true rfl)) dd_M_writeTurn_43 ⟨Nat.le_of_ble_eq_true rfl, Nat.le_of_ble_eq_true rfl⟩) hK hP hD hS hA [0, 1] [] rfl rfl (by decide) (by decide) (fun u_43 H locs hw_43 hP hD hS => ?_)
    have hP : va_P D classes [(q, .inr (6, [.int cd, .ref ta, .ref vb, .int (nI n), .ref ba, .int (nI (((L ++ cp_bl 2 2) ++ cp_bl t 7).length)), .int tk, .ref na, .ref nb, .int pl, .int wr, .int fz, .int fb])), (ba, .inl (cB, 400000, .inl u_43))] _ := hP
    have hD : va_D A [(q, .inr (6, [.int cd, .ref ta, .ref vb, .int (nI n), .ref ba, .int (nI (((L ++ cp_bl 2 2) ++ cp_bl t 7).length)), .int tk, .ref na, .ref nb, .int pl, .int wr, .int fz, .int fb])), (ba, .inl (cB, 400000, .inl u_43))] := hD
    refine lv_goto (tgt := 132) hx hb dd_M_writeTurn_46 (by decide) ?_
    have eL : L ++ cp_wt t = (L ++ cp_bl 2 2) ++ cp_bl t 7 := by rw [mt_k (mt_1 c_3 ⟨Int64.not_lt.mp c_20, Int64.not_lt.mp c_28⟩)]; exact (List.append_assoc _ _ _).symm
    refine ct_vret (u := u_43) (ws := [(q, .inr (6, [.int cd, .ref ta, .ref vb, .int (nI n), .ref ba, .int (nI (((L ++ cp_bl 2 2) ++ cp_bl t 7).length)), .int tk, .ref na, .ref nb, .int pl, .int wr, .int fz, .int fb])), (ba, .inl (cB, 400000, .inl u_43))]) hx hb hr hlocks hK hP hD hS (by simp only [eL]) ?_ dd_M_writeTurn_132
    rw [eL]; exact hw_43
  have c_3 : t = 0 := (lg_cmp_eq _ _).mp c_3
  refine lv_aload_n hx hb dd_M_writeTurn_6 rfl (lv_at hl 0 rfl) ?_
  refine lv_lconst (v := 0) hx hb dd_M_writeTurn_7 (by decide) ?_
  refine lv_iconst (v := nI 1) hx hb dd_M_writeTurn_8 (by decide) ?_
  refine ct_behind_v (wc := [(q, .inr (6, [.int cd, .ref ta, .ref vb, .int (nI n), .ref ba, .int (nI L.length), .int tk, .ref na, .ref nb, .int pl, .int wr, .int fz, .int fb])), (ba, .inl (cB, 400000, .inl by0))]) (wr := []) (av := [.ref q, .long 0, .int (nI 1)]) (va_runV (As := [.long 0, .int (nI 1)]) (rest := []) ⟨hx, hb, hml, hown, hw⟩ (cc_M_write l D cJ cB q ta vb ba na nb cd tk pl wr fz fb n L by0 0 1 _ (by omega) hB (by omega)) (cwV 2 hw (tb_V wi_594 wi_596 wi_14 wi_25 wi_597) rfl rfl rfl (by decide +kernel) ⟨Nat.le_of_ble_eq_true rfl, Nat.le_of_ble_eq_true rfl⟩) ⟨ct_blind, ct_recv hK hP (q0 := 0) (ci := 6) rfl rfl, ct_pc hZ hK hP hD hS hA [0, 1] rfl (by decide)⟩ rfl rfl hl.1 rfl (lv_room (Nat.le_of_ble_eq_true rfl)) dd_M_writeTurn_9 ⟨Nat.le_of_ble_eq_true rfl, Nat.le_of_ble_eq_true rfl⟩) hK hP hD hS hA [0, 1] [] rfl rfl (by decide) (by decide) (fun u_9 H locs hw_9 hP hD hS => ?_)
  have hP : va_P D classes [(q, .inr (6, [.int cd, .ref ta, .ref vb, .int (nI n), .ref ba, .int (nI ((L ++ cp_bl 0 1).length)), .int tk, .ref na, .ref nb, .int pl, .int wr, .int fz, .int fb])), (ba, .inl (cB, 400000, .inl u_9))] _ := hP
  have hD : va_D A [(q, .inr (6, [.int cd, .ref ta, .ref vb, .int (nI n), .ref ba, .int (nI ((L ++ cp_bl 0 1).length)), .int tk, .ref na, .ref nb, .int pl, .int wr, .int fz, .int fb])), (ba, .inl (cB, 400000, .inl u_9))] := hD
  refine lv_goto (tgt := 132) hx hb dd_M_writeTurn_12 (by decide) ?_
  have eL : L ++ cp_wt t = L ++ cp_bl 0 1 := by rw [mt_k (mt_0 c_3)]; exact rfl
  refine ct_vret (u := u_9) (ws := [(q, .inr (6, [.int cd, .ref ta, .ref vb, .int (nI n), .ref ba, .int (nI ((L ++ cp_bl 0 1).length)), .int tk, .ref na, .ref nb, .int pl, .int wr, .int fz, .int fb])), (ba, .inl (cB, 400000, .inl u_9))]) hx hb hr hlocks hK hP hD hS (by simp only [eL]) ?_ dd_M_writeTurn_132
  rw [eL]; exact hw_9

set_option maxHeartbeats 4000000 in
set_option maxRecDepth 100000 in
theorem cc_M_writeValue (l : Launch) (D : va_G) (cJ cB : ClassId) (q ta vb ba na nb : Nat) (cd tk pl wr fz : Int32) (n : Nat) (L : List Bool) (by0 : Nat → Int32) (z y : Nat) (x : Int64) (sz : Nat) (hL : L.length + 77 ≤ 400000) (hB : cp_Rb by0 L) (hzn : z + y ≤ 64) (hz : y ≠ 0 → fz = nI z) : ct_v l my_M_writeValue (Cond.code my_M_writeValue mb_M_writeValue 6 none :: TB) ({ frames := 1, cells := 0, slots := 0, locals := 24 } : Room) D classes cJ cB [.ref q, .long x] [(q, .inr (6, [.int cd, .ref ta, .ref vb, .int (nI n), .ref ba, .int (nI L.length), .int tk, .ref na, .ref nb, .int pl, .int wr, .int fz, .int (nI y)])), (ba, .inl (cB, 400000, .inl by0))] sz (fun (u : (Nat → Int32) × Int32) => cp_Rb u.1 (L ++ (cp_wv z y x).1) ∧ ((cp_wv z y x).2.2 ≠ 0 → u.2 = nI (cp_wv z y x).2.1)) (fun u => [(q, .inr (6, [.int cd, .ref ta, .ref vb, .int (nI n), .ref ba, .int (nI ((L ++ (cp_wv z y x).1).length)), .int tk, .ref na, .ref nb, .int pl, .int wr, .int u.2, .int (nI ((cp_wv z y x).2.2))])), (ba, .inl (cB, 400000, .inl u.1))]) 0 0 := by
  refine ct_ofW (cc := mb_M_writeValue) (maxL := 6) (ret := none) (by decide) rfl (Nat.le_of_ble_eq_true rfl) ?_
  intro p e s m below meth c hx hb hr hml hts hown hlocks hin hsz hK hP hD hA hS hZ ls hl
  have hw : ∀ w ∈ TB, w.before _ s = true := fun w h => hts w (List.mem_cons_of_mem _ h)
  have hown : s.vm.findClass cn_M = some m.cls := hown
  have hin : meth.name = "writeValue" := hin
  generalize hAe : va_A [(q, .inr (6, [.int cd, .ref ta, .ref vb, .int (nI n), .ref ba, .int (nI L.length), .int tk, .ref na, .ref nb, .int pl, .int wr, .int fz, .int (nI y)])), (ba, .inl (cB, 400000, .inl by0))] sz = A at hD hA hS hZ ⊢
  clear hAe
  have hl : lv_has ls 6 [(0, .ref q), (1, .long x)] := hl
  have hP : va_P D classes [(q, .inr (6, [.int cd, .ref ta, .ref vb, .int (nI n), .ref ba, .int (nI L.length), .int tk, .ref na, .ref nb, .int pl, .int wr, .int fz, .int (nI y)])), (ba, .inl (cB, 400000, .inl by0))] s.heap := hP
  refine lv_lload_n hx hb dd_M_writeValue_0 rfl (lv_at hl 1 rfl) ?_
  refine lv_lconst (v := 0) hx hb dd_M_writeValue_1 (by decide) ?_
  refine W.lcmp hx hb dd_M_writeValue_2 ?_
  refine lv_if_ne (tgt := 13) hx hb dd_M_writeValue_3 (by decide) (fun c_3 => ?_) (fun c_3 => ?_)
  · skip
    have c_3 : ¬ (x = 0) := fun z => c_3 ((lg_cmp_eq _ _).mpr z)
    have hlt := cp_lz_lt c_3
    have htt := cp_tz_lt c_3
    have hsum := cp_lt_sum c_3
    obtain ⟨a0, ha0⟩ : ∃ k, k = min (cp_lz x) 31 := ⟨_, rfl⟩
    obtain ⟨b0, hb0⟩ : ∃ k, k = cp_tz x := ⟨_, rfl⟩
    refine ct_cut (pc2 := 38) (stk2 := []) (fun H locs ls => va_P D classes [(q, .inr (6, [.int cd, .ref ta, .ref vb, .int (nI n), .ref ba, .int (nI L.length), .int tk, .ref na, .ref nb, .int pl, .int wr, .int fz, .int (nI y)])), (ba, .inl (cB, 400000, .inl by0))] H ∧ va_D A [(q, .inr (6, [.int cd, .ref ta, .ref vb, .int (nI n), .ref ba, .int (nI L.length), .int tk, .ref na, .ref nb, .int pl, .int wr, .int fz, .int (nI y)])), (ba, .inl (cB, 400000, .inl by0))] ∧ va_S A s.heap H locs ∧ lv_has ls 6 [(0, .ref q), (1, .long x), (3, .int (nI a0))]) ?_ (fun tl1 => ?_)
    · skip
      rintro H locs ls ⟨hP, hD, hS, hl⟩
      refine lv_iconst (v := nI 0) hx hb dd_M_writeValue_38 (by decide) ?_
      refine lv_istore (lv' := [(4, .int (nI 0)), (0, .ref q), (1, .long x), (3, .int (nI a0))]) hx hb dd_M_writeValue_39 hl (by decide) rfl (fun ls hl => ?_)
      refine ct_loop (σ := Nat) (fun a H locs ls => va_P D classes [(q, .inr (6, [.int cd, .ref ta, .ref vb, .int (nI n), .ref ba, .int (nI L.length), .int tk, .ref na, .ref nb, .int pl, .int wr, .int fz, .int (nI y)])), (ba, .inl (cB, 400000, .inl by0))] H ∧ va_D A [(q, .inr (6, [.int cd, .ref ta, .ref vb, .int (nI n), .ref ba, .int (nI L.length), .int tk, .ref na, .ref nb, .int pl, .int wr, .int fz, .int (nI y)])), (ba, .inl (cB, 400000, .inl by0))] ∧ va_S A s.heap H locs ∧ lv_has ls 6 [(0, .ref q), (1, .long x), (3, .int (nI a0)), (4, .int (nI a))] ∧ (a ≤ cp_tz x)) (fun a => 64 - a) ?_ (0) ⟨hP, hD, hS, lv_sub hl [1, 2, 3, 0] rfl, Nat.zero_le _⟩
      rintro b H locs ls ⟨hP, hD, hS, hl, hb1⟩ ih
      have hP : va_P D classes [(q, .inr (6, [.int cd, .ref ta, .ref vb, .int (nI n), .ref ba, .int (nI L.length), .int tk, .ref na, .ref nb, .int pl, .int wr, .int fz, .int (nI y)])), (ba, .inl (cB, 400000, .inl by0))] _ := hP
      have hD : va_D A [(q, .inr (6, [.int cd, .ref ta, .ref vb, .int (nI n), .ref ba, .int (nI L.length), .int tk, .ref na, .ref nb, .int pl, .int wr, .int fz, .int (nI y)])), (ba, .inl (cB, 400000, .inl by0))] := hD
      have hl : lv_has ls 6 [(0, .ref q), (1, .long x), (3, .int (nI a0)), (4, .int (nI b))] := hl
      have hb1 : b ≤ cp_tz x := hb1
      refine lv_lload_n hx hb dd_M_writeValue_41 rfl (lv_at hl 1 rfl) ?_
      refine lv_iload hx hb dd_M_writeValue_42 (lv_at hl 3 rfl) ?_
      refine lv_lushr (v := (x.toUInt64 >>> ((nI b).toInt64.toUInt64 &&& Int64.toUInt64 63)).toInt64) hx hb dd_M_writeValue_44 rfl ?_
      refine lv_lconst (v := 1) hx hb dd_M_writeValue_45 (by decide) ?_
      refine lv_land hx hb dd_M_writeValue_46 ?_
      refine ct_topl (y := lN (cp_b x b).toNat) (mw_bit x (by omega)) ?_
      refine lv_lconst (v := 0) hx hb dd_M_writeValue_47 (by decide) ?_
      refine W.lcmp hx hb dd_M_writeValue_48 ?_
      refine lv_if_ne (tgt := 58) hx hb dd_M_writeValue_49 (by decide) (fun c_49 => ?_) (fun c_49 => ?_)
      · skip
        have c_49 : ¬ ((lN (cp_b x b).toNat) = 0) := fun z => c_49 ((lg_cmp_eq _ _).mpr z)
        have c_49 : ¬ b + 1 ≤ cp_tz x := fun k => c_49 ((mv_tz c_3 hb1).mpr k)
        rw [show b = b0 by omega] at hl
        refine ct_cut (pc2 := 121) (stk2 := []) (fun H locs ls => va_P D classes [(q, .inr (6, [.int cd, .ref ta, .ref vb, .int (nI n), .ref ba, .int (nI L.length), .int tk, .ref na, .ref nb, .int pl, .int wr, .int fz, .int (nI y)])), (ba, .inl (cB, 400000, .inl by0))] H ∧ va_D A [(q, .inr (6, [.int cd, .ref ta, .ref vb, .int (nI n), .ref ba, .int (nI L.length), .int tk, .ref na, .ref nb, .int pl, .int wr, .int fz, .int (nI y)])), (ba, .inl (cB, 400000, .inl by0))] ∧ va_S A s.heap H locs ∧ lv_has ls 6 [(0, .ref q), (1, .long x), (3, .int (nI a0)), (4, .int (nI b0))] ∧ (¬ (0 < y ∧ z ≤ a0 ∧ 64 - z - y ≤ b0))) ?_ (fun tl2 => ?_)
        · skip
          rintro H locs ls ⟨hP, hD, hS, hl, hno⟩
          refine lv_bipush (v := nI 64) hx hb dd_M_writeValue_121 (by decide) ?_
          refine lv_iload_n hx hb dd_M_writeValue_123 rfl (lv_at hl 2 rfl) ?_
          refine lv_isub hx hb dd_M_writeValue_124 ?_
          refine ct_topi (y := nI (64 - a0)) (pk_sub (by omega)) ?_
          refine lv_iload hx hb dd_M_writeValue_125 (lv_at hl 3 rfl) ?_
          refine lv_isub hx hb dd_M_writeValue_127 ?_
          refine ct_topi (y := nI (64 - a0 - b0)) (pk_sub (by omega)) ?_
          refine lv_istore (lv' := [(5, .int (nI (64 - a0 - b0))), (0, .ref q), (1, .long x), (3, .int (nI a0)), (4, .int (nI b0))]) hx hb dd_M_writeValue_128 hl (by decide) rfl (fun ls hl => ?_)
          refine lv_aload_n hx hb dd_M_writeValue_130 rfl (lv_at hl 1 rfl) ?_
          refine lv_ldc2 (v := 3) hx hb hown (hw _ wi_616) dd_M_writeValue_131 ?_
          refine lv_iconst (v := nI 2) hx hb dd_M_writeValue_134 (by decide) ?_
          refine ct_behind_v (wc := [(q, .inr (6, [.int cd, .ref ta, .ref vb, .int (nI n), .ref ba, .int (nI L.length), .int tk, .ref na, .ref nb, .int pl, .int wr, .int fz, .int (nI y)])), (ba, .inl (cB, 400000, .inl by0))]) (wr := []) (av := [.ref q, .long 3, .int (nI 2)]) (va_runV (As := [.long 3, .int (nI 2)]) (rest := []) ⟨hx, hb, hml, hown, hw⟩ (cc_M_write l D cJ cB q ta vb ba na nb cd tk pl wr fz (nI y) n L by0 3 2 _ (by omega) hB (by omega)) (cwV 2 hw (tb_V wi_594 wi_596 wi_14 wi_25 wi_597) rfl rfl rfl (by decide +kernel) ⟨Nat.le_of_ble_eq_true rfl, Nat.le_of_ble_eq_true rfl⟩) ⟨ct_blind, ct_recv hK hP (q0 := 0) (ci := 6) rfl rfl, ct_pc hZ hK hP hD hS hA [0, 1] rfl (by decide)⟩ rfl rfl hl.1 rfl (lv_room (Nat.le_of_ble_eq_true rfl)) dd_M_writeValue_135 ⟨Nat.le_of_ble_eq_true rfl, Nat.le_of_ble_eq_true rfl⟩) hK hP hD hS hA [0, 1] [] rfl rfl (by decide) (by decide) (fun u_135 H locs hw_135 hP hD hS => ?_)
          have hP : va_P D classes [(q, .inr (6, [.int cd, .ref ta, .ref vb, .int (nI n), .ref ba, .int (nI ((L ++ cp_bl 3 2).length)), .int tk, .ref na, .ref nb, .int pl, .int wr, .int fz, .int (nI y)])), (ba, .inl (cB, 400000, .inl u_135))] _ := hP
          have hD : va_D A [(q, .inr (6, [.int cd, .ref ta, .ref vb, .int (nI n), .ref ba, .int (nI ((L ++ cp_bl 3 2).length)), .int tk, .ref na, .ref nb, .int pl, .int wr, .int fz, .int (nI y)])), (ba, .inl (cB, 400000, .inl u_135))] := hD
          refine lv_aload_n hx hb dd_M_writeValue_138 rfl (lv_at hl 1 rfl) ?_
          refine lv_iload_n hx hb dd_M_writeValue_139 rfl (lv_at hl 3 rfl) ?_
          refine lv_i2l (v := (nI a0).toInt64) hx hb dd_M_writeValue_140 rfl ?_
          refine ct_topl (y := lN a0) (nI_l (by omega)) ?_
          refine lv_iconst (v := nI 5) hx hb dd_M_writeValue_141 (by decide) ?_
          refine ct_behind_v (wc := [(q, .inr (6, [.int cd, .ref ta, .ref vb, .int (nI n), .ref ba, .int (nI ((L ++ cp_bl 3 2).length)), .int tk, .ref na, .ref nb, .int pl, .int wr, .int fz, .int (nI y)])), (ba, .inl (cB, 400000, .inl u_135))]) (wr := []) (av := [.ref q, .long (lN a0), .int (nI 5)]) (va_runV (As := [.long (lN a0), .int (nI 5)]) (rest := []) ⟨hx, hb, hml, hown, hw⟩ (cc_M_write l D cJ cB q ta vb ba na nb cd tk pl wr fz (nI y) n (L ++ cp_bl 3 2) u_135 (lN a0) 5 _ (by simp only [List.length_append, cp_bl_len]; omega) hw_135 (by omega)) (cwV 2 hw (tb_V wi_594 wi_596 wi_14 wi_25 wi_597) rfl rfl rfl (by decide +kernel) ⟨Nat.le_of_ble_eq_true rfl, Nat.le_of_ble_eq_true rfl⟩) ⟨ct_blind, ct_recv hK hP (q0 := 0) (ci := 6) rfl rfl, ct_pc hZ hK hP hD hS hA [0, 1] rfl (by decide)⟩ rfl rfl hl.1 rfl (lv_room (Nat.le_of_ble_eq_true rfl)) dd_M_writeValue_142 ⟨Nat.le_of_ble_eq_true rfl, Nat.le_of_ble_eq_true rfl⟩) hK hP hD hS hA [0, 1] [] rfl rfl (by decide) (by decide) (fun u_142 H locs hw_142 hP hD hS => ?_)
          have hP : va_P D classes [(q, .inr (6, [.int cd, .ref ta, .ref vb, .int (nI n), .ref ba, .int (nI (((L ++ cp_bl 3 2) ++ cp_bl (lN a0) 5).length)), .int tk, .ref na, .ref nb, .int pl, .int wr, .int fz, .int (nI y)])), (ba, .inl (cB, 400000, .inl u_142))] _ := hP
          have hD : va_D A [(q, .inr (6, [.int cd, .ref ta, .ref vb, .int (nI n), .ref ba, .int (nI (((L ++ cp_bl 3 2) ++ cp_bl (lN a0) 5).length)), .int tk, .ref na, .ref nb, .int pl, .int wr, .int fz, .int (nI y)])), (ba, .inl (cB, 400000, .inl u_142))] := hD
          refine lv_aload_n hx hb dd_M_writeValue_145 rfl (lv_at hl 1 rfl) ?_
          refine lv_iload hx hb dd_M_writeValue_146 (lv_at hl 0 rfl) ?_
          refine lv_i2l (v := (nI (64 - a0 - b0)).toInt64) hx hb dd_M_writeValue_148 rfl ?_
          refine ct_topl (y := lN (64 - a0 - b0)) (nI_l (by omega)) ?_
          refine lv_lconst (v := 1) hx hb dd_M_writeValue_149 (by decide) ?_
          refine lv_lsub hx hb dd_M_writeValue_150 ?_
          refine ct_topl (y := lN (64 - a0 - b0 - 1)) (mv_sub (by omega)) ?_
          refine lv_bipush (v := nI 6) hx hb dd_M_writeValue_151 (by decide) ?_
          refine ct_behind_v (wc := [(q, .inr (6, [.int cd, .ref ta, .ref vb, .int (nI n), .ref ba, .int (nI (((L ++ cp_bl 3 2) ++ cp_bl (lN a0) 5).length)), .int tk, .ref na, .ref nb, .int pl, .int wr, .int fz, .int (nI y)])), (ba, .inl (cB, 400000, .inl u_142))]) (wr := []) (av := [.ref q, .long (lN (64 - a0 - b0 - 1)), .int (nI 6)]) (va_runV (As := [.long (lN (64 - a0 - b0 - 1)), .int (nI 6)]) (rest := []) ⟨hx, hb, hml, hown, hw⟩ (cc_M_write l D cJ cB q ta vb ba na nb cd tk pl wr fz (nI y) n ((L ++ cp_bl 3 2) ++ cp_bl (lN a0) 5) u_142 (lN (64 - a0 - b0 - 1)) 6 _ (by simp only [List.length_append, cp_bl_len]; omega) hw_142 (by omega)) (cwV 2 hw (tb_V wi_594 wi_596 wi_14 wi_25 wi_597) rfl rfl rfl (by decide +kernel) ⟨Nat.le_of_ble_eq_true rfl, Nat.le_of_ble_eq_true rfl⟩) ⟨ct_blind, ct_recv hK hP (q0 := 0) (ci := 6) rfl rfl, ct_pc hZ hK hP hD hS hA [0, 1] rfl (by decide)⟩ rfl rfl hl.1 rfl (lv_room (Nat.le_of_ble_eq_true rfl)) dd_M_writeValue_153 ⟨Nat.le_of_ble_eq_true rfl, Nat.le_of_ble_eq_true rfl⟩) hK hP hD hS hA [0, 1] [] rfl rfl (by decide) (by decide) (fun u_153 H locs hw_153 hP hD hS => ?_)
          have hP : va_P D classes [(q, .inr (6, [.int cd, .ref ta, .ref vb, .int (nI n), .ref ba, .int (nI ((((L ++ cp_bl 3 2) ++ cp_bl (lN a0) 5) ++ cp_bl (lN (64 - a0 - b0 - 1)) 6).length)), .int tk, .ref na, .ref nb, .int pl, .int wr, .int fz, .int (nI y)])), (ba, .inl (cB, 400000, .inl u_153))] _ := hP
          have hD : va_D A [(q, .inr (6, [.int cd, .ref ta, .ref vb, .int (nI n), .ref ba, .int (nI ((((L ++ cp_bl 3 2) ++ cp_bl (lN a0) 5) ++ cp_bl (lN (64 - a0 - b0 - 1)) 6).length)), .int tk, .ref na, .ref nb, .int pl, .int wr, .int fz, .int (nI y)])), (ba, .inl (cB, 400000, .inl u_153))] := hD
          refine lv_aload_n hx hb dd_M_writeValue_156 rfl (lv_at hl 1 rfl) ?_
          refine lv_lload_n hx hb dd_M_writeValue_157 rfl (lv_at hl 2 rfl) ?_
          refine lv_iload hx hb dd_M_writeValue_158 (lv_at hl 4 rfl) ?_
          refine lv_lushr (v := (x.toUInt64 >>> ((nI b0).toInt64.toUInt64 &&& Int64.toUInt64 63)).toInt64) hx hb dd_M_writeValue_160 rfl ?_
          refine ct_topl (y := cp_sr x b0) (rfl) ?_
          refine lv_iload hx hb dd_M_writeValue_161 (lv_at hl 0 rfl) ?_
          refine ct_behind_v (wc := [(q, .inr (6, [.int cd, .ref ta, .ref vb, .int (nI n), .ref ba, .int (nI ((((L ++ cp_bl 3 2) ++ cp_bl (lN a0) 5) ++ cp_bl (lN (64 - a0 - b0 - 1)) 6).length)), .int tk, .ref na, .ref nb, .int pl, .int wr, .int fz, .int (nI y)])), (ba, .inl (cB, 400000, .inl u_153))]) (wr := []) (av := [.ref q, .long (cp_sr x b0), .int (nI (64 - a0 - b0))]) (va_runV (As := [.long (cp_sr x b0), .int (nI (64 - a0 - b0))]) (rest := []) ⟨hx, hb, hml, hown, hw⟩ (cc_M_write l D cJ cB q ta vb ba na nb cd tk pl wr fz (nI y) n (((L ++ cp_bl 3 2) ++ cp_bl (lN a0) 5) ++ cp_bl (lN (64 - a0 - b0 - 1)) 6) u_153 (cp_sr x b0) (64 - a0 - b0) _ (by simp only [List.length_append, cp_bl_len]; omega) hw_153 (by omega)) (cwV 2 hw (tb_V wi_594 wi_596 wi_14 wi_25 wi_597) rfl rfl rfl (by decide +kernel) ⟨Nat.le_of_ble_eq_true rfl, Nat.le_of_ble_eq_true rfl⟩) ⟨ct_blind, ct_recv hK hP (q0 := 0) (ci := 6) rfl rfl, ct_pc hZ hK hP hD hS hA [0, 1] rfl (by decide)⟩ rfl rfl hl.1 rfl (lv_room (Nat.le_of_ble_eq_true rfl)) dd_M_writeValue_163 ⟨Nat.le_of_ble_eq_true rfl, Nat.le_of_ble_eq_true rfl⟩) hK hP hD hS hA [0, 1] [] rfl rfl (by decide) (by decide) (fun u_163 H locs hw_163 hP hD hS => ?_)
          have hP : va_P D classes [(q, .inr (6, [.int cd, .ref ta, .ref vb, .int (nI n), .ref ba, .int (nI (((((L ++ cp_bl 3 2) ++ cp_bl (lN a0) 5) ++ cp_bl (lN (64 - a0 - b0 - 1)) 6) ++ cp_bl (cp_sr x b0) (64 - a0 - b0)).length)), .int tk, .ref na, .ref nb, .int pl, .int wr, .int fz, .int (nI y)])), (ba, .inl (cB, 400000, .inl u_163))] _ := hP
          have hD : va_D A [(q, .inr (6, [.int cd, .ref ta, .ref vb, .int (nI n), .ref ba, .int (nI (((((L ++ cp_bl 3 2) ++ cp_bl (lN a0) 5) ++ cp_bl (lN (64 - a0 - b0 - 1)) 6) ++ cp_bl (cp_sr x b0) (64 - a0 - b0)).length)), .int tk, .ref na, .ref nb, .int pl, .int wr, .int fz, .int (nI y)])), (ba, .inl (cB, 400000, .inl u_163))] := hD
          refine lv_aload_n hx hb dd_M_writeValue_166 rfl (lv_at hl 1 rfl) ?_
          refine lv_iload_n hx hb dd_M_writeValue_167 rfl (lv_at hl 3 rfl) ?_
          refine va_put (D := D) (ci := 6) (v := .int (nI a0)) (ty := .int) (C := cn_M) (T := cf_M) (N := 13) hx hb hw in_M ty_M to_M nn_M hown hK hP hD hS 0 rfl rfl 11 (by decide) (hw _ wi_548) (fun _ h9 => h9) rfl (by decide +kernel) (rfl) (rfl) (Nat.le_of_ble_eq_true rfl) dd_M_writeValue_168 (fun H locs hP hD hS => ?_)
          have hP : va_P D classes [(q, .inr (6, [.int cd, .ref ta, .ref vb, .int (nI n), .ref ba, .int (nI (((((L ++ cp_bl 3 2) ++ cp_bl (lN a0) 5) ++ cp_bl (lN (64 - a0 - b0 - 1)) 6) ++ cp_bl (cp_sr x b0) (64 - a0 - b0)).length)), .int tk, .ref na, .ref nb, .int pl, .int wr, .int (nI a0), .int (nI y)])), (ba, .inl (cB, 400000, .inl u_163))] _ := hP
          have hD : va_D A [(q, .inr (6, [.int cd, .ref ta, .ref vb, .int (nI n), .ref ba, .int (nI (((((L ++ cp_bl 3 2) ++ cp_bl (lN a0) 5) ++ cp_bl (lN (64 - a0 - b0 - 1)) 6) ++ cp_bl (cp_sr x b0) (64 - a0 - b0)).length)), .int tk, .ref na, .ref nb, .int pl, .int wr, .int (nI a0), .int (nI y)])), (ba, .inl (cB, 400000, .inl u_163))] := hD
          refine lv_aload_n hx hb dd_M_writeValue_171 rfl (lv_at hl 1 rfl) ?_
          refine lv_iload hx hb dd_M_writeValue_172 (lv_at hl 0 rfl) ?_
          refine va_put (D := D) (ci := 6) (v := .int (nI (64 - a0 - b0))) (ty := .int) (C := cn_M) (T := cf_M) (N := 13) hx hb hw in_M ty_M to_M nn_M hown hK hP hD hS 0 rfl rfl 12 (by decide) (hw _ wi_549) (fun _ h9 => h9) rfl (by decide +kernel) (rfl) (rfl) (Nat.le_of_ble_eq_true rfl) dd_M_writeValue_174 (fun H locs hP hD hS => ?_)
          have hP : va_P D classes [(q, .inr (6, [.int cd, .ref ta, .ref vb, .int (nI n), .ref ba, .int (nI (((((L ++ cp_bl 3 2) ++ cp_bl (lN a0) 5) ++ cp_bl (lN (64 - a0 - b0 - 1)) 6) ++ cp_bl (cp_sr x b0) (64 - a0 - b0)).length)), .int tk, .ref na, .ref nb, .int pl, .int wr, .int (nI a0), .int (nI (64 - a0 - b0))])), (ba, .inl (cB, 400000, .inl u_163))] _ := hP
          have hD : va_D A [(q, .inr (6, [.int cd, .ref ta, .ref vb, .int (nI n), .ref ba, .int (nI (((((L ++ cp_bl 3 2) ++ cp_bl (lN a0) 5) ++ cp_bl (lN (64 - a0 - b0 - 1)) 6) ++ cp_bl (cp_sr x b0) (64 - a0 - b0)).length)), .int tk, .ref na, .ref nb, .int pl, .int wr, .int (nI a0), .int (nI (64 - a0 - b0))])), (ba, .inl (cB, 400000, .inl u_163))] := hD
          have e_wv : cp_wv z y x = (((cp_bl 3 2 ++ cp_bl (lN a0) 5) ++ cp_bl (lN (64 - a0 - b0 - 1)) 6) ++ cp_bl (cp_sr x b0) (64 - a0 - b0), a0, 64 - a0 - b0) := by unfold cp_wv; rw [if_neg c_3, ← ha0, ← hb0, if_neg hno]
          have eL : L ++ (cp_wv z y x).1 = (((L ++ cp_bl 3 2) ++ cp_bl (lN a0) 5) ++ cp_bl (lN (64 - a0 - b0 - 1)) 6) ++ cp_bl (cp_sr x b0) (64 - a0 - b0) := by rw [e_wv]; simp only [List.append_assoc]
          have eY : (cp_wv z y x).2.2 = 64 - a0 - b0 := by rw [e_wv]
          have eZ : (cp_wv z y x).2.1 = a0 := by rw [e_wv]
          refine ct_vret (u := (u_163, nI a0)) (ws := [(q, .inr (6, [.int cd, .ref ta, .ref vb, .int (nI n), .ref ba, .int (nI (((((L ++ cp_bl 3 2) ++ cp_bl (lN a0) 5) ++ cp_bl (lN (64 - a0 - b0 - 1)) 6) ++ cp_bl (cp_sr x b0) (64 - a0 - b0)).length)), .int tk, .ref na, .ref nb, .int pl, .int wr, .int (nI a0), .int (nI (64 - a0 - b0))])), (ba, .inl (cB, 400000, .inl u_163))]) hx hb hr hlocks hK hP hD hS (by simp only [eL, eY]) ?_ dd_M_writeValue_177
          exact ⟨by rw [eL]; exact hw_163, fun h => by rw [eZ]⟩
        refine lv_aload_n hx hb dd_M_writeValue_58 rfl (lv_at hl 0 rfl) ?_
        refine va_get (D := D) (ci := 6) (C := cn_M) (T := cf_M) (N := 13) hx hb hw in_M hown hK hP 0 rfl rfl 12 (by decide) (hw _ wi_549) (fun _ h9 => h9) rfl dd_M_writeValue_59 ?_
        refine lv_if_le (tgt := 121) hx hb dd_M_writeValue_62 (by decide) (fun c_62 => ?_) (fun c_62 => ?_)
        · skip
          have c_62 : y ≤ 0 := (ct_zle (by omega)).mp c_62
          exact tl2 _ _ _ ⟨hP, hD, hS, lv_sub hl [0, 1, 2, 3] rfl, by omega⟩
        have c_62 : ¬ (y ≤ 0) := fun z => c_62 ((ct_zle (by omega)).mpr z)
        refine lv_iload_n hx hb dd_M_writeValue_65 rfl (lv_at hl 2 rfl) ?_
        refine lv_aload_n hx hb dd_M_writeValue_66 rfl (lv_at hl 0 rfl) ?_
        refine va_get (D := D) (ci := 6) (C := cn_M) (T := cf_M) (N := 13) hx hb hw in_M hown hK hP 0 rfl rfl 11 (by decide) (hw _ wi_548) (fun _ h9 => h9) rfl dd_M_writeValue_67 ?_
        refine ct_topi (y := nI z) (hz (by omega)) ?_
        refine lv_icmp_lt (tgt := 121) hx hb dd_M_writeValue_70 (by decide) (fun c_70 => ?_) (fun c_70 => ?_)
        · skip
          have c_70 : a0 < z := (nI_ltI (by omega) (by omega)).mp c_70
          exact tl2 _ _ _ ⟨hP, hD, hS, lv_sub hl [0, 1, 2, 3] rfl, by omega⟩
        have c_70 : ¬ (a0 < z) := fun z => c_70 ((nI_ltI (by omega) (by omega)).mpr z)
        refine lv_iload hx hb dd_M_writeValue_73 (lv_at hl 3 rfl) ?_
        refine lv_bipush (v := nI 64) hx hb dd_M_writeValue_75 (by decide) ?_
        refine lv_aload_n hx hb dd_M_writeValue_77 rfl (lv_at hl 0 rfl) ?_
        refine va_get (D := D) (ci := 6) (C := cn_M) (T := cf_M) (N := 13) hx hb hw in_M hown hK hP 0 rfl rfl 11 (by decide) (hw _ wi_548) (fun _ h9 => h9) rfl dd_M_writeValue_78 ?_
        refine ct_topi (y := nI z) (hz (by omega)) ?_
        refine lv_isub hx hb dd_M_writeValue_81 ?_
        refine ct_topi (y := nI (64 - z)) (pk_sub (by omega)) ?_
        refine lv_aload_n hx hb dd_M_writeValue_82 rfl (lv_at hl 0 rfl) ?_
        refine va_get (D := D) (ci := 6) (C := cn_M) (T := cf_M) (N := 13) hx hb hw in_M hown hK hP 0 rfl rfl 12 (by decide) (hw _ wi_549) (fun _ h9 => h9) rfl dd_M_writeValue_83 ?_
        refine lv_isub hx hb dd_M_writeValue_86 ?_
        refine ct_topi (y := nI (64 - z - y)) (pk_sub (by omega)) ?_
        refine lv_icmp_lt (tgt := 121) hx hb dd_M_writeValue_87 (by decide) (fun c_87 => ?_) (fun c_87 => ?_)
        · skip
          have c_87 : b0 < (64 - z - y) := (nI_ltI (by omega) (by omega)).mp c_87
          exact tl2 _ _ _ ⟨hP, hD, hS, lv_sub hl [0, 1, 2, 3] rfl, by omega⟩
        have c_87 : ¬ (b0 < (64 - z - y)) := fun z => c_87 ((nI_ltI (by omega) (by omega)).mpr z)
        refine lv_aload_n hx hb dd_M_writeValue_90 rfl (lv_at hl 0 rfl) ?_
        refine lv_ldc2 (v := 2) hx hb hown (hw _ wi_604) dd_M_writeValue_91 ?_
        refine lv_iconst (v := nI 2) hx hb dd_M_writeValue_94 (by decide) ?_
        refine ct_behind_v (wc := [(q, .inr (6, [.int cd, .ref ta, .ref vb, .int (nI n), .ref ba, .int (nI L.length), .int tk, .ref na, .ref nb, .int pl, .int wr, .int fz, .int (nI y)])), (ba, .inl (cB, 400000, .inl by0))]) (wr := []) (av := [.ref q, .long 2, .int (nI 2)]) (va_runV (As := [.long 2, .int (nI 2)]) (rest := []) ⟨hx, hb, hml, hown, hw⟩ (cc_M_write l D cJ cB q ta vb ba na nb cd tk pl wr fz (nI y) n L by0 2 2 _ (by omega) hB (by omega)) (cwV 2 hw (tb_V wi_594 wi_596 wi_14 wi_25 wi_597) rfl rfl rfl (by decide +kernel) ⟨Nat.le_of_ble_eq_true rfl, Nat.le_of_ble_eq_true rfl⟩) ⟨ct_blind, ct_recv hK hP (q0 := 0) (ci := 6) rfl rfl, ct_pc hZ hK hP hD hS hA [0, 1] rfl (by decide)⟩ rfl rfl hl.1 rfl (lv_room (Nat.le_of_ble_eq_true rfl)) dd_M_writeValue_95 ⟨Nat.le_of_ble_eq_true rfl, Nat.le_of_ble_eq_true rfl⟩) hK hP hD hS hA [0, 1] [] rfl rfl (by decide) (by decide) (fun u_95 H locs hw_95 hP hD hS => ?_)
        have hP : va_P D classes [(q, .inr (6, [.int cd, .ref ta, .ref vb, .int (nI n), .ref ba, .int (nI ((L ++ cp_bl 2 2).length)), .int tk, .ref na, .ref nb, .int pl, .int wr, .int fz, .int (nI y)])), (ba, .inl (cB, 400000, .inl u_95))] _ := hP
        have hD : va_D A [(q, .inr (6, [.int cd, .ref ta, .ref vb, .int (nI n), .ref ba, .int (nI ((L ++ cp_bl 2 2).length)), .int tk, .ref na, .ref nb, .int pl, .int wr, .int fz, .int (nI y)])), (ba, .inl (cB, 400000, .inl u_95))] := hD
        refine lv_aload_n hx hb dd_M_writeValue_98 rfl (lv_at hl 0 rfl) ?_
        refine lv_lload_n hx hb dd_M_writeValue_99 rfl (lv_at hl 1 rfl) ?_
        refine lv_bipush (v := nI 64) hx hb dd_M_writeValue_100 (by decide) ?_
        refine lv_aload_n hx hb dd_M_writeValue_102 rfl (lv_at hl 0 rfl) ?_
        refine va_get (D := D) (ci := 6) (C := cn_M) (T := cf_M) (N := 13) hx hb hw in_M hown hK hP 0 rfl rfl 11 (by decide) (hw _ wi_548) (fun _ h9 => h9) rfl dd_M_writeValue_103 ?_
        refine ct_topi (y := nI z) (hz (by omega)) ?_
        refine lv_isub hx hb dd_M_writeValue_106 ?_
        refine ct_topi (y := nI (64 - z)) (pk_sub (by omega)) ?_
        refine lv_aload_n hx hb dd_M_writeValue_107 rfl (lv_at hl 0 rfl) ?_
        refine va_get (D := D) (ci := 6) (C := cn_M) (T := cf_M) (N := 13) hx hb hw in_M hown hK hP 0 rfl rfl 12 (by decide) (hw _ wi_549) (fun _ h9 => h9) rfl dd_M_writeValue_108 ?_
        refine lv_isub hx hb dd_M_writeValue_111 ?_
        refine ct_topi (y := nI (64 - z - y)) (pk_sub (by omega)) ?_
        refine lv_lushr (v := (x.toUInt64 >>> ((nI (64 - z - y)).toInt64.toUInt64 &&& Int64.toUInt64 63)).toInt64) hx hb dd_M_writeValue_112 rfl ?_
        refine ct_topl (y := cp_sr x (64 - z - y)) (rfl) ?_
        refine lv_aload_n hx hb dd_M_writeValue_113 rfl (lv_at hl 0 rfl) ?_
        refine va_get (D := D) (ci := 6) (C := cn_M) (T := cf_M) (N := 13) hx hb hw in_M hown hK hP 0 rfl rfl 12 (by decide) (hw _ wi_549) (fun _ h9 => h9) rfl dd_M_writeValue_114 ?_
        refine ct_behind_v (wc := [(q, .inr (6, [.int cd, .ref ta, .ref vb, .int (nI n), .ref ba, .int (nI ((L ++ cp_bl 2 2).length)), .int tk, .ref na, .ref nb, .int pl, .int wr, .int fz, .int (nI y)])), (ba, .inl (cB, 400000, .inl u_95))]) (wr := []) (av := [.ref q, .long (cp_sr x (64 - z - y)), .int (nI y)]) (va_runV (As := [.long (cp_sr x (64 - z - y)), .int (nI y)]) (rest := []) ⟨hx, hb, hml, hown, hw⟩ (cc_M_write l D cJ cB q ta vb ba na nb cd tk pl wr fz (nI y) n (L ++ cp_bl 2 2) u_95 (cp_sr x (64 - z - y)) y _ (by simp only [List.length_append, cp_bl_len]; omega) hw_95 (by omega)) (cwV 2 hw (tb_V wi_594 wi_596 wi_14 wi_25 wi_597) rfl rfl rfl (by decide +kernel) ⟨Nat.le_of_ble_eq_true rfl, Nat.le_of_ble_eq_true rfl⟩) ⟨ct_blind, ct_recv hK hP (q0 := 0) (ci := 6) rfl rfl, ct_pc hZ hK hP hD hS hA [0, 1] rfl (by decide)⟩ rfl rfl hl.1 rfl (lv_room (Nat.le_of_ble_eq_true rfl)) dd_M_writeValue_117 ⟨Nat.le_of_ble_eq_true rfl, Nat.le_of_ble_eq_true rfl⟩) hK hP hD hS hA [0, 1] [] rfl rfl (by decide) (by decide) (fun u_117 H locs hw_117 hP hD hS => ?_)
        have hP : va_P D classes [(q, .inr (6, [.int cd, .ref ta, .ref vb, .int (nI n), .ref ba, .int (nI (((L ++ cp_bl 2 2) ++ cp_bl (cp_sr x (64 - z - y)) y).length)), .int tk, .ref na, .ref nb, .int pl, .int wr, .int fz, .int (nI y)])), (ba, .inl (cB, 400000, .inl u_117))] _ := hP
        have hD : va_D A [(q, .inr (6, [.int cd, .ref ta, .ref vb, .int (nI n), .ref ba, .int (nI (((L ++ cp_bl 2 2) ++ cp_bl (cp_sr x (64 - z - y)) y).length)), .int tk, .ref na, .ref nb, .int pl, .int wr, .int fz, .int (nI y)])), (ba, .inl (cB, 400000, .inl u_117))] := hD
        have e_wv : cp_wv z y x = (cp_bl 2 2 ++ cp_bl (cp_sr x (64 - z - y)) y, z, y) := by unfold cp_wv; rw [if_neg c_3, ← ha0, ← hb0, if_pos (by omega)]
        have eL : L ++ (cp_wv z y x).1 = (L ++ cp_bl 2 2) ++ cp_bl (cp_sr x (64 - z - y)) y := by rw [e_wv]; simp only [List.append_assoc]
        have eY : (cp_wv z y x).2.2 = y := by rw [e_wv]
        have eZ : (cp_wv z y x).2.1 = z := by rw [e_wv]
        refine ct_vret (u := (u_117, fz)) (ws := [(q, .inr (6, [.int cd, .ref ta, .ref vb, .int (nI n), .ref ba, .int (nI (((L ++ cp_bl 2 2) ++ cp_bl (cp_sr x (64 - z - y)) y).length)), .int tk, .ref na, .ref nb, .int pl, .int wr, .int fz, .int (nI y)])), (ba, .inl (cB, 400000, .inl u_117))]) hx hb hr hlocks hK hP hD hS (by simp only [eL, eY]) ?_ dd_M_writeValue_120
        exact ⟨by rw [eL]; exact hw_117, fun h => by rw [eZ]; exact hz (by rw [eY] at h; exact h)⟩
      have c_49 : (lN (cp_b x b).toNat) = 0 := (lg_cmp_eq _ _).mp c_49
      have c_49 : b + 1 ≤ cp_tz x := (mv_tz c_3 hb1).mp c_49
      refine lv_iinc (v := nI (b + 1)) (lv' := [(4, .int (nI (b + 1))), (0, .ref q), (1, .long x), (3, .int (nI a0))]) hx hb dd_M_writeValue_52 hl (k := 3) rfl (nI_1 b) (by decide) rfl (fun ls hl => ?_)
      refine lv_goto (tgt := 41) hx hb dd_M_writeValue_55 (by decide) ?_
      refine ih (b + 1) _ _ _ (by show 64 - (b + 1) < 64 - b; omega) ⟨hP, hD, hS, lv_sub hl [1, 2, 3, 0] rfl, c_49⟩
    refine lv_iconst (v := nI 0) hx hb dd_M_writeValue_13 (by decide) ?_
    refine lv_istore_n (lv' := [(3, .int (nI 0)), (0, .ref q), (1, .long x)]) hx hb dd_M_writeValue_14 rfl hl (by decide) rfl (fun ls hl => ?_)
    refine ct_loop (σ := Nat) (fun a H locs ls => va_P D classes [(q, .inr (6, [.int cd, .ref ta, .ref vb, .int (nI n), .ref ba, .int (nI L.length), .int tk, .ref na, .ref nb, .int pl, .int wr, .int fz, .int (nI y)])), (ba, .inl (cB, 400000, .inl by0))] H ∧ va_D A [(q, .inr (6, [.int cd, .ref ta, .ref vb, .int (nI n), .ref ba, .int (nI L.length), .int tk, .ref na, .ref nb, .int pl, .int wr, .int fz, .int (nI y)])), (ba, .inl (cB, 400000, .inl by0))] ∧ va_S A s.heap H locs ∧ lv_has ls 6 [(0, .ref q), (1, .long x), (3, .int (nI a))] ∧ (a ≤ 31) ∧ (a ≤ cp_lz x)) (fun a => 31 - a) ?_ (0) ⟨hP, hD, hS, lv_sub hl [1, 2, 0] rfl, Nat.zero_le _, Nat.zero_le _⟩
    rintro a H locs ls ⟨hP, hD, hS, hl, ha1, ha2⟩ ih
    have hP : va_P D classes [(q, .inr (6, [.int cd, .ref ta, .ref vb, .int (nI n), .ref ba, .int (nI L.length), .int tk, .ref na, .ref nb, .int pl, .int wr, .int fz, .int (nI y)])), (ba, .inl (cB, 400000, .inl by0))] _ := hP
    have hD : va_D A [(q, .inr (6, [.int cd, .ref ta, .ref vb, .int (nI n), .ref ba, .int (nI L.length), .int tk, .ref na, .ref nb, .int pl, .int wr, .int fz, .int (nI y)])), (ba, .inl (cB, 400000, .inl by0))] := hD
    have hl : lv_has ls 6 [(0, .ref q), (1, .long x), (3, .int (nI a))] := hl
    have ha1 : a ≤ 31 := ha1
    have ha2 : a ≤ cp_lz x := ha2
    refine lv_iload_n hx hb dd_M_writeValue_15 rfl (lv_at hl 2 rfl) ?_
    refine lv_bipush (v := nI 31) hx hb dd_M_writeValue_16 (by decide) ?_
    refine lv_icmp_ge (tgt := 38) hx hb dd_M_writeValue_18 (by decide) (fun c_18 => ?_) (fun c_18 => ?_)
    · skip
      have c_18 : 31 ≤ a := (nI_leI (by omega) (by omega)).mp c_18
      rw [show a = a0 by omega] at hl
      exact tl1 _ _ _ ⟨hP, hD, hS, lv_sub hl [0, 1, 2] rfl⟩
    have c_18 : ¬ (31 ≤ a) := fun z => c_18 ((nI_leI (by omega) (by omega)).mpr z)
    refine lv_lload_n hx hb dd_M_writeValue_21 rfl (lv_at hl 1 rfl) ?_
    refine lv_bipush (v := nI 63) hx hb dd_M_writeValue_22 (by decide) ?_
    refine lv_iload_n hx hb dd_M_writeValue_24 rfl (lv_at hl 2 rfl) ?_
    refine lv_isub hx hb dd_M_writeValue_25 ?_
    refine ct_topi (y := nI (63 - a)) (pk_sub (by omega)) ?_
    refine lv_lushr (v := (x.toUInt64 >>> ((nI (63 - a)).toInt64.toUInt64 &&& Int64.toUInt64 63)).toInt64) hx hb dd_M_writeValue_26 rfl ?_
    refine lv_lconst (v := 0) hx hb dd_M_writeValue_27 (by decide) ?_
    refine W.lcmp hx hb dd_M_writeValue_28 ?_
    refine lv_if_ne (tgt := 38) hx hb dd_M_writeValue_29 (by decide) (fun c_29 => ?_) (fun c_29 => ?_)
    · skip
      have c_29 : ¬ (((x.toUInt64 >>> ((nI (63 - a)).toInt64.toUInt64 &&& Int64.toUInt64 63)).toInt64) = 0) := fun z => c_29 ((lg_cmp_eq _ _).mpr z)
      have c_29 : ¬ a + 1 ≤ cp_lz x := fun k => c_29 ((cp_ushr0 x (by omega)).mpr ((mv_lz c_3 (by omega)).mpr k))
      rw [show a = a0 by omega] at hl
      exact tl1 _ _ _ ⟨hP, hD, hS, lv_sub hl [0, 1, 2] rfl⟩
    have c_29 : ((x.toUInt64 >>> ((nI (63 - a)).toInt64.toUInt64 &&& Int64.toUInt64 63)).toInt64) = 0 := (lg_cmp_eq _ _).mp c_29
    have c_29 : a + 1 ≤ cp_lz x := (mv_lz c_3 (by omega)).mp ((cp_ushr0 x (by omega)).mp c_29)
    refine lv_iinc (v := nI (a + 1)) (lv' := [(3, .int (nI (a + 1))), (0, .ref q), (1, .long x)]) hx hb dd_M_writeValue_32 hl (k := 2) rfl (nI_1 a) (by decide) rfl (fun ls hl => ?_)
    refine lv_goto (tgt := 15) hx hb dd_M_writeValue_35 (by decide) ?_
    refine ih (a + 1) _ _ _ (by show 31 - (a + 1) < 31 - a; omega) ⟨hP, hD, hS, lv_sub hl [1, 2, 0] rfl, by show a + 1 ≤ 31; omega, c_29⟩
  have c_3 : x = 0 := (lg_cmp_eq _ _).mp c_3
  refine lv_aload_n hx hb dd_M_writeValue_6 rfl (lv_at hl 0 rfl) ?_
  refine lv_lconst (v := 0) hx hb dd_M_writeValue_7 (by decide) ?_
  refine lv_iconst (v := nI 1) hx hb dd_M_writeValue_8 (by decide) ?_
  refine ct_behind_v (wc := [(q, .inr (6, [.int cd, .ref ta, .ref vb, .int (nI n), .ref ba, .int (nI L.length), .int tk, .ref na, .ref nb, .int pl, .int wr, .int fz, .int (nI y)])), (ba, .inl (cB, 400000, .inl by0))]) (wr := []) (av := [.ref q, .long 0, .int (nI 1)]) (va_runV (As := [.long 0, .int (nI 1)]) (rest := []) ⟨hx, hb, hml, hown, hw⟩ (cc_M_write l D cJ cB q ta vb ba na nb cd tk pl wr fz (nI y) n L by0 0 1 _ (by omega) hB (by omega)) (cwV 2 hw (tb_V wi_594 wi_596 wi_14 wi_25 wi_597) rfl rfl rfl (by decide +kernel) ⟨Nat.le_of_ble_eq_true rfl, Nat.le_of_ble_eq_true rfl⟩) ⟨ct_blind, ct_recv hK hP (q0 := 0) (ci := 6) rfl rfl, ct_pc hZ hK hP hD hS hA [0, 1] rfl (by decide)⟩ rfl rfl hl.1 rfl (lv_room (Nat.le_of_ble_eq_true rfl)) dd_M_writeValue_9 ⟨Nat.le_of_ble_eq_true rfl, Nat.le_of_ble_eq_true rfl⟩) hK hP hD hS hA [0, 1] [] rfl rfl (by decide) (by decide) (fun u_9 H locs hw_9 hP hD hS => ?_)
  have hP : va_P D classes [(q, .inr (6, [.int cd, .ref ta, .ref vb, .int (nI n), .ref ba, .int (nI ((L ++ cp_bl 0 1).length)), .int tk, .ref na, .ref nb, .int pl, .int wr, .int fz, .int (nI y)])), (ba, .inl (cB, 400000, .inl u_9))] _ := hP
  have hD : va_D A [(q, .inr (6, [.int cd, .ref ta, .ref vb, .int (nI n), .ref ba, .int (nI ((L ++ cp_bl 0 1).length)), .int tk, .ref na, .ref nb, .int pl, .int wr, .int fz, .int (nI y)])), (ba, .inl (cB, 400000, .inl u_9))] := hD
  have e_wv : cp_wv z y x = (cp_bl 0 1, z, y) := by unfold cp_wv; rw [if_pos c_3]
  have eL : L ++ (cp_wv z y x).1 = L ++ cp_bl 0 1 := by rw [e_wv]
  have eY : (cp_wv z y x).2.2 = y := by rw [e_wv]
  have eZ : (cp_wv z y x).2.1 = z := by rw [e_wv]
  refine ct_vret (u := (u_9, fz)) (ws := [(q, .inr (6, [.int cd, .ref ta, .ref vb, .int (nI n), .ref ba, .int (nI ((L ++ cp_bl 0 1).length)), .int tk, .ref na, .ref nb, .int pl, .int wr, .int fz, .int (nI y)])), (ba, .inl (cB, 400000, .inl u_9))]) hx hb hr hlocks hK hP hD hS (by simp only [eL, eY]) ?_ dd_M_writeValue_12
  exact ⟨by rw [eL]; exact hw_9, fun h => by rw [eZ]; exact hz (by rw [eY] at h; exact h)⟩

set_option maxHeartbeats 4000000 in
set_option maxRecDepth 100000 in
theorem cc_M_pack (l : Launch) (D : va_G) (cJ cB : ClassId) (q ta vb ba na nb : Nat) (cd tk pl wr fz fb : Int32) (n : Nat) (L : List Bool) (f g : Nat → Int64) (by0 : Nat → Int32) (sz : Nat) (h1 : n ≤ 3000) : ct_i l my_M_pack (Cond.code my_M_pack mb_M_pack 4 (some .int) :: TB) ({ frames := 2, cells := 0, slots := 0, locals := 49 } : Room) D classes cJ cB [.ref q] [(q, .inr (6, [.int cd, .ref ta, .ref vb, .int (nI n), .ref ba, .int (nI L.length), .int tk, .ref na, .ref nb, .int pl, .int wr, .int fz, .int fb])), (ta, .inl (cJ, 3000, .inr (.inl f))), (vb, .inl (cJ, 3000, .inr (.inl g))), (ba, .inl (cB, 400000, .inl by0))] sz (fun (r : Int32) (u : (Nat → Int32) × Int32) => r = nI (cp_pk f g n).1.length ∧ cp_Rb u.1 (cp_pk f g n).1) (fun u => [(q, .inr (6, [.int (nI 0), .ref ta, .ref vb, .int (nI n), .ref ba, .int (nI ((cp_pk f g n).1.length)), .int tk, .ref na, .ref nb, .int pl, .int wr, .int u.2, .int (nI ((cp_pk f g n).2.2))])), (ta, .inl (cJ, 3000, .inr (.inl f))), (vb, .inl (cJ, 3000, .inr (.inl g))), (ba, .inl (cB, 400000, .inl u.1))]) 0 0 := by
  refine ct_ofW (cc := mb_M_pack) (maxL := 4) (ret := some .int) (by decide) rfl (Nat.le_of_ble_eq_true rfl) ?_
  intro p e s m below meth c hx hb hr hml hts hown hlocks hin hsz hK hP hD hA hS hZ ls hl
  have hw : ∀ w ∈ TB, w.before _ s = true := fun w h => hts w (List.mem_cons_of_mem _ h)
  have hown : s.vm.findClass cn_M = some m.cls := hown
  have hin : meth.name = "pack" := hin
  generalize hAe : va_A [(q, .inr (6, [.int cd, .ref ta, .ref vb, .int (nI n), .ref ba, .int (nI L.length), .int tk, .ref na, .ref nb, .int pl, .int wr, .int fz, .int fb])), (ta, .inl (cJ, 3000, .inr (.inl f))), (vb, .inl (cJ, 3000, .inr (.inl g))), (ba, .inl (cB, 400000, .inl by0))] sz = A at hD hA hS hZ ⊢
  clear hAe
  have hl : lv_has ls 4 [(0, .ref q)] := hl
  have hP : va_P D classes [(q, .inr (6, [.int cd, .ref ta, .ref vb, .int (nI n), .ref ba, .int (nI L.length), .int tk, .ref na, .ref nb, .int pl, .int wr, .int fz, .int fb])), (ta, .inl (cJ, 3000, .inr (.inl f))), (vb, .inl (cJ, 3000, .inr (.inl g))), (ba, .inl (cB, 400000, .inl by0))] s.heap := hP
  refine lv_aload_n hx hb dd_M_pack_0 rfl (lv_at hl 0 rfl) ?_
  refine lv_iconst (v := nI 0) hx hb dd_M_pack_1 (by decide) ?_
  refine va_put (D := D) (ci := 6) (v := .int (nI 0)) (ty := .int) (C := cn_M) (T := cf_M) (N := 13) hx hb hw in_M ty_M to_M nn_M hown hK hP hD hS 0 rfl rfl 0 (by decide) (hw _ wi_537) (fun _ h9 => h9) rfl (by decide +kernel) (rfl) (rfl) (Nat.le_of_ble_eq_true rfl) dd_M_pack_2 (fun H locs hP hD hS => ?_)
  have hP : va_P D classes [(q, .inr (6, [.int (nI 0), .ref ta, .ref vb, .int (nI n), .ref ba, .int (nI L.length), .int tk, .ref na, .ref nb, .int pl, .int wr, .int fz, .int fb])), (ta, .inl (cJ, 3000, .inr (.inl f))), (vb, .inl (cJ, 3000, .inr (.inl g))), (ba, .inl (cB, 400000, .inl by0))] _ := hP
  have hD : va_D A [(q, .inr (6, [.int (nI 0), .ref ta, .ref vb, .int (nI n), .ref ba, .int (nI L.length), .int tk, .ref na, .ref nb, .int pl, .int wr, .int fz, .int fb])), (ta, .inl (cJ, 3000, .inr (.inl f))), (vb, .inl (cJ, 3000, .inr (.inl g))), (ba, .inl (cB, 400000, .inl by0))] := hD
  refine lv_aload_n hx hb dd_M_pack_5 rfl (lv_at hl 0 rfl) ?_
  refine lv_iconst (v := nI 0) hx hb dd_M_pack_6 (by decide) ?_
  refine va_put (D := D) (ci := 6) (v := .int (nI 0)) (ty := .int) (C := cn_M) (T := cf_M) (N := 13) hx hb hw in_M ty_M to_M nn_M hown hK hP hD hS 0 rfl rfl 5 (by decide) (hw _ wi_542) (fun _ h9 => h9) rfl (by decide +kernel) (rfl) (rfl) (Nat.le_of_ble_eq_true rfl) dd_M_pack_7 (fun H locs hP hD hS => ?_)
  have hP : va_P D classes [(q, .inr (6, [.int (nI 0), .ref ta, .ref vb, .int (nI n), .ref ba, .int (nI 0), .int tk, .ref na, .ref nb, .int pl, .int wr, .int fz, .int fb])), (ta, .inl (cJ, 3000, .inr (.inl f))), (vb, .inl (cJ, 3000, .inr (.inl g))), (ba, .inl (cB, 400000, .inl by0))] _ := hP
  have hD : va_D A [(q, .inr (6, [.int (nI 0), .ref ta, .ref vb, .int (nI n), .ref ba, .int (nI 0), .int tk, .ref na, .ref nb, .int pl, .int wr, .int fz, .int fb])), (ta, .inl (cJ, 3000, .inr (.inl f))), (vb, .inl (cJ, 3000, .inr (.inl g))), (ba, .inl (cB, 400000, .inl by0))] := hD
  refine lv_aload_n hx hb dd_M_pack_10 rfl (lv_at hl 0 rfl) ?_
  refine lv_iconst (v := nI 0) hx hb dd_M_pack_11 (by decide) ?_
  refine va_put (D := D) (ci := 6) (v := .int (nI 0)) (ty := .int) (C := cn_M) (T := cf_M) (N := 13) hx hb hw in_M ty_M to_M nn_M hown hK hP hD hS 0 rfl rfl 12 (by decide) (hw _ wi_549) (fun _ h9 => h9) rfl (by decide +kernel) (rfl) (rfl) (Nat.le_of_ble_eq_true rfl) dd_M_pack_12 (fun H locs hP hD hS => ?_)
  have hP : va_P D classes [(q, .inr (6, [.int (nI 0), .ref ta, .ref vb, .int (nI n), .ref ba, .int (nI 0), .int tk, .ref na, .ref nb, .int pl, .int wr, .int fz, .int (nI 0)])), (ta, .inl (cJ, 3000, .inr (.inl f))), (vb, .inl (cJ, 3000, .inr (.inl g))), (ba, .inl (cB, 400000, .inl by0))] _ := hP
  have hD : va_D A [(q, .inr (6, [.int (nI 0), .ref ta, .ref vb, .int (nI n), .ref ba, .int (nI 0), .int tk, .ref na, .ref nb, .int pl, .int wr, .int fz, .int (nI 0)])), (ta, .inl (cJ, 3000, .inr (.inl f))), (vb, .inl (cJ, 3000, .inr (.inl g))), (ba, .inl (cB, 400000, .inl by0))] := hD
  refine lv_iconst (v := nI 0) hx hb dd_M_pack_15 (by decide) ?_
  refine lv_istore_n (lv' := [(1, .int (nI 0)), (0, .ref q)]) hx hb dd_M_pack_16 rfl hl (by decide) rfl (fun ls hl => ?_)
  refine ct_loop (σ := Nat × Int32 × (Nat → Int32)) (fun a H locs ls => va_P D classes [(q, .inr (6, [.int (nI 0), .ref ta, .ref vb, .int (nI n), .ref ba, .int (nI ((cp_pk f g a.1).1.length)), .int tk, .ref na, .ref nb, .int pl, .int wr, .int a.2.1, .int (nI ((cp_pk f g a.1).2.2))])), (ta, .inl (cJ, 3000, .inr (.inl f))), (vb, .inl (cJ, 3000, .inr (.inl g))), (ba, .inl (cB, 400000, .inl a.2.2))] H ∧ va_D A [(q, .inr (6, [.int (nI 0), .ref ta, .ref vb, .int (nI n), .ref ba, .int (nI ((cp_pk f g a.1).1.length)), .int tk, .ref na, .ref nb, .int pl, .int wr, .int a.2.1, .int (nI ((cp_pk f g a.1).2.2))])), (ta, .inl (cJ, 3000, .inr (.inl f))), (vb, .inl (cJ, 3000, .inr (.inl g))), (ba, .inl (cB, 400000, .inl a.2.2))] ∧ va_S A s.heap H locs ∧ lv_has ls 4 [(0, .ref q), (1, .int (nI a.1))] ∧ (a.1 ≤ n) ∧ (cp_Rb a.2.2 (cp_pk f g a.1).1) ∧ ((cp_pk f g a.1).2.2 ≠ 0 → a.2.1 = nI (cp_pk f g a.1).2.1)) (fun a => n - a.1) ?_ (0, fz, by0) ⟨hP, hD, hS, lv_sub hl [1, 0] rfl, Nat.zero_le n, fun i h => absurd h (Nat.not_lt_zero i), fun h => absurd rfl h⟩
  rintro ⟨i, fz, by0⟩ H locs ls ⟨hP, hD, hS, hl, hi, hB, hz⟩ ih
  have hP : va_P D classes [(q, .inr (6, [.int (nI 0), .ref ta, .ref vb, .int (nI n), .ref ba, .int (nI ((cp_pk f g i).1.length)), .int tk, .ref na, .ref nb, .int pl, .int wr, .int fz, .int (nI ((cp_pk f g i).2.2))])), (ta, .inl (cJ, 3000, .inr (.inl f))), (vb, .inl (cJ, 3000, .inr (.inl g))), (ba, .inl (cB, 400000, .inl by0))] _ := hP
  have hD : va_D A [(q, .inr (6, [.int (nI 0), .ref ta, .ref vb, .int (nI n), .ref ba, .int (nI ((cp_pk f g i).1.length)), .int tk, .ref na, .ref nb, .int pl, .int wr, .int fz, .int (nI ((cp_pk f g i).2.2))])), (ta, .inl (cJ, 3000, .inr (.inl f))), (vb, .inl (cJ, 3000, .inr (.inl g))), (ba, .inl (cB, 400000, .inl by0))] := hD
  have hl : lv_has ls 4 [(0, .ref q), (1, .int (nI i))] := hl
  have hi : i ≤ n := hi
  have hB : cp_Rb by0 (cp_pk f g i).1 := hB
  have hz : (cp_pk f g i).2.2 ≠ 0 → fz = nI (cp_pk f g i).2.1 := hz
  refine lv_iload_n hx hb dd_M_pack_17 rfl (lv_at hl 1 rfl) ?_
  refine lv_aload_n hx hb dd_M_pack_18 rfl (lv_at hl 0 rfl) ?_
  refine va_get (D := D) (ci := 6) (C := cn_M) (T := cf_M) (N := 13) hx hb hw in_M hown hK hP 0 rfl rfl 3 (by decide) (hw _ wi_540) (fun _ h9 => h9) rfl dd_M_pack_19 ?_
  refine lv_icmp_ge (tgt := 129) hx hb dd_M_pack_22 (by decide) (fun c_22 => ?_) (fun c_22 => ?_)
  · skip
    have c_22 : n ≤ i := (nI_leI (by omega) (by omega)).mp c_22
    have hin : i = n := by omega
    subst hin
    refine lv_aload_n hx hb dd_M_pack_129 rfl (lv_at hl 0 rfl) ?_
    refine va_get (D := D) (ci := 6) (C := cn_M) (T := cf_M) (N := 13) hx hb hw in_M hown hK hP 0 rfl rfl 5 (by decide) (hw _ wi_542) (fun _ h9 => h9) rfl dd_M_pack_130 ?_
    refine ct_iret (u := (by0, fz)) hx hb hr hlocks hK hP hD hS rfl ?_ dd_M_pack_133
    exact ⟨rfl, hB⟩
  have c_22 : ¬ (n ≤ i) := fun z => c_22 ((nI_leI (by omega) (by omega)).mpr z)
  have hpk := cp_pk_inv f g i
  refine lv_iload_n hx hb dd_M_pack_25 rfl (lv_at hl 1 rfl) ?_
  refine lv_if_ne (tgt := 56) hx hb dd_M_pack_26 (by decide) (fun c_26 => ?_) (fun c_26 => ?_)
  · skip
    have c_26 : ¬ (i = 0) := fun z => c_26 ((ct_zeq (by omega)).mpr z)
    refine lv_aload_n hx hb dd_M_pack_56 rfl (lv_at hl 0 rfl) ?_
    refine va_get (D := D) (ci := 6) (C := cn_M) (T := cf_M) (N := 13) hx hb hw in_M hown hK hP 0 rfl rfl 1 (by decide) (hw _ wi_538) (fun _ h9 => h9) rfl dd_M_pack_57 ?_
    refine lv_iload_n hx hb dd_M_pack_60 rfl (lv_at hl 1 rfl) ?_
    refine va_lald hx hb hK hP 1 0 rfl rfl (vp_in_nI (by omega) (by omega)) dd_M_pack_61 ?_
    refine ct_topl (y := f i) (by rw [nI_clamp (by omega)]) ?_
    refine lv_aload_n hx hb dd_M_pack_62 rfl (lv_at hl 0 rfl) ?_
    refine va_get (D := D) (ci := 6) (C := cn_M) (T := cf_M) (N := 13) hx hb hw in_M hown hK hP 0 rfl rfl 1 (by decide) (hw _ wi_538) (fun _ h9 => h9) rfl dd_M_pack_63 ?_
    refine lv_iload_n hx hb dd_M_pack_66 rfl (lv_at hl 1 rfl) ?_
    refine lv_iconst (v := nI 1) hx hb dd_M_pack_67 (by decide) ?_
    refine lv_isub hx hb dd_M_pack_68 ?_
    refine ct_topi (y := nI (i - 1)) (pk_sub (by omega)) ?_
    refine va_lald hx hb hK hP 1 0 rfl rfl (vp_in_nI (by omega) (by omega)) dd_M_pack_69 ?_
    refine ct_topl (y := f (i - 1)) (by rw [nI_clamp (by omega)]) ?_
    refine lv_lsub hx hb dd_M_pack_70 ?_
    refine lv_lstore_n (lv' := [(2, .long ((f i) - (f (i - 1)))), (0, .ref q), (1, .int (nI i))]) hx hb dd_M_pack_71 rfl hl (by decide) rfl (fun ls hl => ?_)
    refine ct_cut (pc2 := 101) (stk2 := [.long (cp_tn f i), .ref q]) (fun H locs ls => va_P D classes [(q, .inr (6, [.int (nI 0), .ref ta, .ref vb, .int (nI n), .ref ba, .int (nI ((cp_pk f g i).1.length)), .int tk, .ref na, .ref nb, .int pl, .int wr, .int fz, .int (nI ((cp_pk f g i).2.2))])), (ta, .inl (cJ, 3000, .inr (.inl f))), (vb, .inl (cJ, 3000, .inr (.inl g))), (ba, .inl (cB, 400000, .inl by0))] H ∧ va_D A [(q, .inr (6, [.int (nI 0), .ref ta, .ref vb, .int (nI n), .ref ba, .int (nI ((cp_pk f g i).1.length)), .int tk, .ref na, .ref nb, .int pl, .int wr, .int fz, .int (nI ((cp_pk f g i).2.2))])), (ta, .inl (cJ, 3000, .inr (.inl f))), (vb, .inl (cJ, 3000, .inr (.inl g))), (ba, .inl (cB, 400000, .inl by0))] ∧ va_S A s.heap H locs ∧ lv_has ls 4 [(0, .ref q), (1, .int (nI i))]) ?_ (fun tl1 => ?_)
    · skip
      rintro H locs ls ⟨hP, hD, hS, hl⟩
      refine ct_behind_v (wc := [(q, .inr (6, [.int (nI 0), .ref ta, .ref vb, .int (nI n), .ref ba, .int (nI ((cp_pk f g i).1.length)), .int tk, .ref na, .ref nb, .int pl, .int wr, .int fz, .int (nI ((cp_pk f g i).2.2))])), (ba, .inl (cB, 400000, .inl by0))]) (wr := [(ta, .inl (cJ, 3000, .inr (.inl f))), (vb, .inl (cJ, 3000, .inr (.inl g)))]) (av := [.ref q, .long (cp_tn f i)]) (va_runV (As := [.long (cp_tn f i)]) (rest := []) ⟨hx, hb, hml, hown, hw⟩ (cc_M_writeTurn l D cJ cB q ta vb ba na nb (nI 0) tk pl wr fz (nI (cp_pk f g i).2.2) n (cp_pk f g i).1 by0 (cp_tn f i) _ (by omega) hB) (cwV 1 hw (tb_V wi_598 wi_600 wi_15 wi_25 wi_601) rfl rfl rfl (by decide +kernel) ⟨Nat.le_of_ble_eq_true rfl, Nat.le_of_ble_eq_true rfl⟩) ⟨ct_blind, ct_recv hK hP (q0 := 0) (ci := 6) rfl rfl, ct_pc hZ hK hP hD hS hA [0, 3] rfl (by decide)⟩ rfl rfl hl.1 rfl (lv_room (Nat.le_of_ble_eq_true rfl)) dd_M_pack_101 ⟨Nat.le_of_ble_eq_true rfl, Nat.le_of_ble_eq_true rfl⟩) hK hP hD hS hA [0, 3] [1, 2] rfl rfl (by decide) (by decide) (fun u_101 H locs hw_101 hP hD hS => ?_)
      have hwt := cp_wt_len (cp_tn f i)
      have hP : va_P D classes [(ta, .inl (cJ, 3000, .inr (.inl f))), (vb, .inl (cJ, 3000, .inr (.inl g))), (q, .inr (6, [.int (nI 0), .ref ta, .ref vb, .int (nI n), .ref ba, .int (nI (((cp_pk f g i).1 ++ cp_wt (cp_tn f i)).length)), .int tk, .ref na, .ref nb, .int pl, .int wr, .int fz, .int (nI ((cp_pk f g i).2.2))])), (ba, .inl (cB, 400000, .inl u_101))] _ := hP
      have hD : va_D A [(ta, .inl (cJ, 3000, .inr (.inl f))), (vb, .inl (cJ, 3000, .inr (.inl g))), (q, .inr (6, [.int (nI 0), .ref ta, .ref vb, .int (nI n), .ref ba, .int (nI (((cp_pk f g i).1 ++ cp_wt (cp_tn f i)).length)), .int tk, .ref na, .ref nb, .int pl, .int wr, .int fz, .int (nI ((cp_pk f g i).2.2))])), (ba, .inl (cB, 400000, .inl u_101))] := hD
      refine lv_aload_n hx hb dd_M_pack_104 rfl (lv_at hl 0 rfl) ?_
      refine lv_aload_n hx hb dd_M_pack_105 rfl (lv_at hl 0 rfl) ?_
      refine va_get (D := D) (ci := 6) (C := cn_M) (T := cf_M) (N := 13) hx hb hw in_M hown hK hP 2 rfl rfl 2 (by decide) (hw _ wi_539) (fun _ h9 => h9) rfl dd_M_pack_106 ?_
      refine lv_iload_n hx hb dd_M_pack_109 rfl (lv_at hl 1 rfl) ?_
      refine va_lald hx hb hK hP 1 0 rfl rfl (vp_in_nI (by omega) (by omega)) dd_M_pack_110 ?_
      refine ct_topl (y := g i) (by rw [nI_clamp (by omega)]) ?_
      refine lv_aload_n hx hb dd_M_pack_111 rfl (lv_at hl 0 rfl) ?_
      refine va_get (D := D) (ci := 6) (C := cn_M) (T := cf_M) (N := 13) hx hb hw in_M hown hK hP 2 rfl rfl 2 (by decide) (hw _ wi_539) (fun _ h9 => h9) rfl dd_M_pack_112 ?_
      refine lv_iload_n hx hb dd_M_pack_115 rfl (lv_at hl 1 rfl) ?_
      refine lv_iconst (v := nI 1) hx hb dd_M_pack_116 (by decide) ?_
      refine lv_isub hx hb dd_M_pack_117 ?_
      refine ct_topi (y := nI (i - 1)) (pk_sub (by omega)) ?_
      refine va_lald hx hb hK hP 1 0 rfl rfl (vp_in_nI (by omega) (by omega)) dd_M_pack_118 ?_
      refine ct_topl (y := g (i - 1)) (by rw [nI_clamp (by omega)]) ?_
      refine lv_lxor hx hb dd_M_pack_119 ?_
      refine ct_behind_v (wc := [(q, .inr (6, [.int (nI 0), .ref ta, .ref vb, .int (nI n), .ref ba, .int (nI (((cp_pk f g i).1 ++ cp_wt (cp_tn f i)).length)), .int tk, .ref na, .ref nb, .int pl, .int wr, .int fz, .int (nI ((cp_pk f g i).2.2))])), (ba, .inl (cB, 400000, .inl u_101))]) (wr := [(ta, .inl (cJ, 3000, .inr (.inl f))), (vb, .inl (cJ, 3000, .inr (.inl g)))]) (av := [.ref q, .long ((g i) ^^^ (g (i - 1)))]) (va_runV (As := [.long ((g i) ^^^ (g (i - 1)))]) (rest := []) ⟨hx, hb, hml, hown, hw⟩ (cc_M_writeValue l D cJ cB q ta vb ba na nb (nI 0) tk pl wr fz n ((cp_pk f g i).1 ++ cp_wt (cp_tn f i)) u_101 (cp_pk f g i).2.1 (cp_pk f g i).2.2 (g i ^^^ g (i - 1)) _ (by rw [List.length_append]; omega) hw_101 hpk.2 hz) (cwV 1 hw (tb_V wi_612 wi_614 wi_16 wi_25 wi_615) rfl rfl rfl (by decide +kernel) ⟨Nat.le_of_ble_eq_true rfl, Nat.le_of_ble_eq_true rfl⟩) ⟨ct_blind, ct_recv hK hP (q0 := 2) (ci := 6) rfl rfl, ct_pc hZ hK hP hD hS hA [2, 3] rfl (by decide)⟩ rfl rfl hl.1 rfl (lv_room (Nat.le_of_ble_eq_true rfl)) dd_M_pack_120 ⟨Nat.le_of_ble_eq_true rfl, Nat.le_of_ble_eq_true rfl⟩) hK hP hD hS hA [2, 3] [0, 1] rfl rfl (by decide) (by decide) (fun u_120 H locs hw_120 hP hD hS => ?_)
      have eP := cp_pk_s f g c_26
      have eL : ((cp_pk f g i).1 ++ cp_wt (cp_tn f i)) ++ (cp_wv (cp_pk f g i).2.1 (cp_pk f g i).2.2 (g i ^^^ g (i - 1))).1 = (cp_pk f g (i + 1)).1 := by rw [eP]
      have eF : (cp_wv (cp_pk f g i).2.1 (cp_pk f g i).2.2 (g i ^^^ g (i - 1))).2 = (cp_pk f g (i + 1)).2 := by rw [eP]
      rw [eL, eF] at hP hD hw_120
      have hP : va_P D classes [(ta, .inl (cJ, 3000, .inr (.inl f))), (vb, .inl (cJ, 3000, .inr (.inl g))), (q, .inr (6, [.int (nI 0), .ref ta, .ref vb, .int (nI n), .ref ba, .int (nI ((cp_pk f g (i + 1)).1.length)), .int tk, .ref na, .ref nb, .int pl, .int wr, .int u_120.2, .int (nI ((cp_pk f g (i + 1)).2.2))])), (ba, .inl (cB, 400000, .inl u_120.1))] _ := hP
      have hD : va_D A [(ta, .inl (cJ, 3000, .inr (.inl f))), (vb, .inl (cJ, 3000, .inr (.inl g))), (q, .inr (6, [.int (nI 0), .ref ta, .ref vb, .int (nI n), .ref ba, .int (nI ((cp_pk f g (i + 1)).1.length)), .int tk, .ref na, .ref nb, .int pl, .int wr, .int u_120.2, .int (nI ((cp_pk f g (i + 1)).2.2))])), (ba, .inl (cB, 400000, .inl u_120.1))] := hD
      refine lv_iinc (v := nI (i + 1)) (lv' := [(1, .int (nI (i + 1))), (0, .ref q)]) hx hb dd_M_pack_123 hl (k := 1) rfl (nI_1 i) (by decide) rfl (fun ls hl => ?_)
      refine lv_goto (tgt := 17) hx hb dd_M_pack_126 (by decide) ?_
      refine ih (i + 1, u_120.2, u_120.1) _ _ _ (by show n - (i + 1) < n - i; omega) ⟨hP.sub [2, 0, 1, 3] rfl, hD.sub [2, 0, 1, 3] (by decide) rfl, hS, lv_sub hl [1, 0] rfl, by show i + 1 ≤ n; omega, hw_120.1, hw_120.2⟩
    refine lv_aload_n hx hb dd_M_pack_72 rfl (lv_at hl 1 rfl) ?_
    refine lv_iload_n hx hb dd_M_pack_73 rfl (lv_at hl 2 rfl) ?_
    refine lv_iconst (v := nI 1) hx hb dd_M_pack_74 (by decide) ?_
    refine lv_icmp_ne (tgt := 82) hx hb dd_M_pack_75 (by decide) (fun c_75 => ?_) (fun c_75 => ?_)
    · skip
      have c_75 : ¬ (i = 1) := fun z => c_75 ((nI_eq (by omega) (by omega)).mpr z)
      refine lv_lload_n hx hb dd_M_pack_82 rfl (lv_at hl 0 rfl) ?_
      refine lv_aload_n hx hb dd_M_pack_83 rfl (lv_at hl 1 rfl) ?_
      refine va_get (D := D) (ci := 6) (C := cn_M) (T := cf_M) (N := 13) hx hb hw in_M hown hK hP 0 rfl rfl 1 (by decide) (hw _ wi_538) (fun _ h9 => h9) rfl dd_M_pack_84 ?_
      refine lv_iload_n hx hb dd_M_pack_87 rfl (lv_at hl 2 rfl) ?_
      refine lv_iconst (v := nI 1) hx hb dd_M_pack_88 (by decide) ?_
      refine lv_isub hx hb dd_M_pack_89 ?_
      refine ct_topi (y := nI (i - 1)) (pk_sub (by omega)) ?_
      refine va_lald hx hb hK hP 1 0 rfl rfl (vp_in_nI (by omega) (by omega)) dd_M_pack_90 ?_
      refine ct_topl (y := f (i - 1)) (by rw [nI_clamp (by omega)]) ?_
      refine lv_aload_n hx hb dd_M_pack_91 rfl (lv_at hl 1 rfl) ?_
      refine va_get (D := D) (ci := 6) (C := cn_M) (T := cf_M) (N := 13) hx hb hw in_M hown hK hP 0 rfl rfl 1 (by decide) (hw _ wi_538) (fun _ h9 => h9) rfl dd_M_pack_92 ?_
      refine lv_iload_n hx hb dd_M_pack_95 rfl (lv_at hl 2 rfl) ?_
      refine lv_iconst (v := nI 2) hx hb dd_M_pack_96 (by decide) ?_
      refine lv_isub hx hb dd_M_pack_97 ?_
      refine ct_topi (y := nI (i - 2)) (pk_sub (by omega)) ?_
      refine va_lald hx hb hK hP 1 0 rfl rfl (vp_in_nI (by omega) (by omega)) dd_M_pack_98 ?_
      refine ct_topl (y := f (i - 2)) (by rw [nI_clamp (by omega)]) ?_
      refine lv_lsub hx hb dd_M_pack_99 ?_
      refine lv_lsub hx hb dd_M_pack_100 ?_
      refine ct_topl (y := cp_tn f i) (by unfold cp_tn; rw [if_neg c_75]) ?_
      exact tl1 _ _ _ ⟨hP, hD, hS, lv_sub hl [1, 2] rfl⟩
    have c_75 : i = 1 := (nI_eq (by omega) (by omega)).mp c_75
    refine lv_lload_n hx hb dd_M_pack_78 rfl (lv_at hl 0 rfl) ?_
    refine lv_goto (tgt := 101) hx hb dd_M_pack_79 (by decide) ?_
    refine ct_topl (y := cp_tn f i) (by subst c_75; rfl) ?_
    exact tl1 _ _ _ ⟨hP, hD, hS, lv_sub hl [1, 2] rfl⟩
  have c_26 : i = 0 := (ct_zeq (by omega)).mp c_26
  refine lv_aload_n hx hb dd_M_pack_29 rfl (lv_at hl 0 rfl) ?_
  refine lv_aload_n hx hb dd_M_pack_30 rfl (lv_at hl 0 rfl) ?_
  refine va_get (D := D) (ci := 6) (C := cn_M) (T := cf_M) (N := 13) hx hb hw in_M hown hK hP 0 rfl rfl 1 (by decide) (hw _ wi_538) (fun _ h9 => h9) rfl dd_M_pack_31 ?_
  refine lv_iconst (v := nI 0) hx hb dd_M_pack_34 (by decide) ?_
  refine va_lald hx hb hK hP 1 0 rfl rfl (vp_in_nI (by omega) (by omega)) dd_M_pack_35 ?_
  refine ct_topl (y := f 0) (by rw [nI_clamp (by omega)]) ?_
  refine lv_bipush (v := nI 40) hx hb dd_M_pack_36 (by decide) ?_
  refine ct_behind_v (wc := [(q, .inr (6, [.int (nI 0), .ref ta, .ref vb, .int (nI n), .ref ba, .int (nI ((cp_pk f g i).1.length)), .int tk, .ref na, .ref nb, .int pl, .int wr, .int fz, .int (nI ((cp_pk f g i).2.2))])), (ba, .inl (cB, 400000, .inl by0))]) (wr := [(ta, .inl (cJ, 3000, .inr (.inl f))), (vb, .inl (cJ, 3000, .inr (.inl g)))]) (av := [.ref q, .long (f 0), .int (nI 40)]) (va_runV (As := [.long (f 0), .int (nI 40)]) (rest := []) ⟨hx, hb, hml, hown, hw⟩ (cc_M_write l D cJ cB q ta vb ba na nb (nI 0) tk pl wr fz (nI (cp_pk f g i).2.2) n ((cp_pk f g i).1) by0 (f 0) 40 _ (by omega) hB (by omega)) (cwV 2 hw (tb_V wi_594 wi_596 wi_14 wi_25 wi_597) rfl rfl rfl (by decide +kernel) ⟨Nat.le_of_ble_eq_true rfl, Nat.le_of_ble_eq_true rfl⟩) ⟨ct_blind, ct_recv hK hP (q0 := 0) (ci := 6) rfl rfl, ct_pc hZ hK hP hD hS hA [0, 3] rfl (by decide)⟩ rfl rfl hl.1 rfl (lv_room (Nat.le_of_ble_eq_true rfl)) dd_M_pack_38 ⟨Nat.le_of_ble_eq_true rfl, Nat.le_of_ble_eq_true rfl⟩) hK hP hD hS hA [0, 3] [1, 2] rfl rfl (by decide) (by decide) (fun u_38 H locs hw_38 hP hD hS => ?_)
  have hP : va_P D classes [(ta, .inl (cJ, 3000, .inr (.inl f))), (vb, .inl (cJ, 3000, .inr (.inl g))), (q, .inr (6, [.int (nI 0), .ref ta, .ref vb, .int (nI n), .ref ba, .int (nI ((((cp_pk f g i).1) ++ cp_bl (f 0) 40).length)), .int tk, .ref na, .ref nb, .int pl, .int wr, .int fz, .int (nI ((cp_pk f g i).2.2))])), (ba, .inl (cB, 400000, .inl u_38))] _ := hP
  have hD : va_D A [(ta, .inl (cJ, 3000, .inr (.inl f))), (vb, .inl (cJ, 3000, .inr (.inl g))), (q, .inr (6, [.int (nI 0), .ref ta, .ref vb, .int (nI n), .ref ba, .int (nI ((((cp_pk f g i).1) ++ cp_bl (f 0) 40).length)), .int tk, .ref na, .ref nb, .int pl, .int wr, .int fz, .int (nI ((cp_pk f g i).2.2))])), (ba, .inl (cB, 400000, .inl u_38))] := hD
  refine lv_aload_n hx hb dd_M_pack_41 rfl (lv_at hl 0 rfl) ?_
  refine lv_aload_n hx hb dd_M_pack_42 rfl (lv_at hl 0 rfl) ?_
  refine va_get (D := D) (ci := 6) (C := cn_M) (T := cf_M) (N := 13) hx hb hw in_M hown hK hP 2 rfl rfl 2 (by decide) (hw _ wi_539) (fun _ h9 => h9) rfl dd_M_pack_43 ?_
  refine lv_iconst (v := nI 0) hx hb dd_M_pack_46 (by decide) ?_
  refine va_lald hx hb hK hP 1 0 rfl rfl (vp_in_nI (by omega) (by omega)) dd_M_pack_47 ?_
  refine ct_topl (y := g 0) (by rw [nI_clamp (by omega)]) ?_
  refine lv_bipush (v := nI 64) hx hb dd_M_pack_48 (by decide) ?_
  refine ct_behind_v (wc := [(q, .inr (6, [.int (nI 0), .ref ta, .ref vb, .int (nI n), .ref ba, .int (nI ((((cp_pk f g i).1) ++ cp_bl (f 0) 40).length)), .int tk, .ref na, .ref nb, .int pl, .int wr, .int fz, .int (nI ((cp_pk f g i).2.2))])), (ba, .inl (cB, 400000, .inl u_38))]) (wr := [(ta, .inl (cJ, 3000, .inr (.inl f))), (vb, .inl (cJ, 3000, .inr (.inl g)))]) (av := [.ref q, .long (g 0), .int (nI 64)]) (va_runV (As := [.long (g 0), .int (nI 64)]) (rest := []) ⟨hx, hb, hml, hown, hw⟩ (cc_M_write l D cJ cB q ta vb ba na nb (nI 0) tk pl wr fz (nI (cp_pk f g i).2.2) n (((cp_pk f g i).1) ++ cp_bl (f 0) 40) u_38 (g 0) 64 _ (by simp only [List.length_append, cp_bl_len]; omega) hw_38 (by omega)) (cwV 2 hw (tb_V wi_594 wi_596 wi_14 wi_25 wi_597) rfl rfl rfl (by decide +kernel) ⟨Nat.le_of_ble_eq_true rfl, Nat.le_of_ble_eq_true rfl⟩) ⟨ct_blind, ct_recv hK hP (q0 := 2) (ci := 6) rfl rfl, ct_pc hZ hK hP hD hS hA [2, 3] rfl (by decide)⟩ rfl rfl hl.1 rfl (lv_room (Nat.le_of_ble_eq_true rfl)) dd_M_pack_50 ⟨Nat.le_of_ble_eq_true rfl, Nat.le_of_ble_eq_true rfl⟩) hK hP hD hS hA [2, 3] [0, 1] rfl rfl (by decide) (by decide) (fun u_50 H locs hw_50 hP hD hS => ?_)
  have hP : va_P D classes [(ta, .inl (cJ, 3000, .inr (.inl f))), (vb, .inl (cJ, 3000, .inr (.inl g))), (q, .inr (6, [.int (nI 0), .ref ta, .ref vb, .int (nI n), .ref ba, .int (nI (((((cp_pk f g i).1) ++ cp_bl (f 0) 40) ++ cp_bl (g 0) 64).length)), .int tk, .ref na, .ref nb, .int pl, .int wr, .int fz, .int (nI ((cp_pk f g i).2.2))])), (ba, .inl (cB, 400000, .inl u_50))] _ := hP
  have hD : va_D A [(ta, .inl (cJ, 3000, .inr (.inl f))), (vb, .inl (cJ, 3000, .inr (.inl g))), (q, .inr (6, [.int (nI 0), .ref ta, .ref vb, .int (nI n), .ref ba, .int (nI (((((cp_pk f g i).1) ++ cp_bl (f 0) 40) ++ cp_bl (g 0) 64).length)), .int tk, .ref na, .ref nb, .int pl, .int wr, .int fz, .int (nI ((cp_pk f g i).2.2))])), (ba, .inl (cB, 400000, .inl u_50))] := hD
  have eL : (((cp_pk f g i).1) ++ cp_bl (f 0) 40) ++ cp_bl (g 0) 64 = (cp_pk f g (i + 1)).1 := by subst c_26; rfl
  rw [eL] at hP hD hw_50
  have eF : (cp_pk f g i).2.2 = (cp_pk f g (i + 1)).2.2 := by subst c_26; rfl
  rw [eF] at hP hD
  have hP : va_P D classes [(ta, .inl (cJ, 3000, .inr (.inl f))), (vb, .inl (cJ, 3000, .inr (.inl g))), (q, .inr (6, [.int (nI 0), .ref ta, .ref vb, .int (nI n), .ref ba, .int (nI ((cp_pk f g (i + 1)).1.length)), .int tk, .ref na, .ref nb, .int pl, .int wr, .int fz, .int (nI ((cp_pk f g (i + 1)).2.2))])), (ba, .inl (cB, 400000, .inl u_50))] _ := hP
  have hD : va_D A [(ta, .inl (cJ, 3000, .inr (.inl f))), (vb, .inl (cJ, 3000, .inr (.inl g))), (q, .inr (6, [.int (nI 0), .ref ta, .ref vb, .int (nI n), .ref ba, .int (nI ((cp_pk f g (i + 1)).1.length)), .int tk, .ref na, .ref nb, .int pl, .int wr, .int fz, .int (nI ((cp_pk f g (i + 1)).2.2))])), (ba, .inl (cB, 400000, .inl u_50))] := hD
  refine lv_goto (tgt := 123) hx hb dd_M_pack_53 (by decide) ?_
  refine lv_iinc (v := nI (i + 1)) (lv' := [(1, .int (nI (i + 1))), (0, .ref q)]) hx hb dd_M_pack_123 hl (k := 1) rfl (nI_1 i) (by decide) rfl (fun ls hl => ?_)
  refine lv_goto (tgt := 17) hx hb dd_M_pack_126 (by decide) ?_
  refine ih (i + 1, fz, u_50) _ _ _ (by show n - (i + 1) < n - i; omega) ⟨hP.sub [2, 0, 1, 3] rfl, hD.sub [2, 0, 1, 3] (by decide) rfl, hS, lv_sub hl [1, 0] rfl, by show i + 1 ≤ n; omega, hw_50, by subst c_26; exact fun h => absurd rfl h⟩
