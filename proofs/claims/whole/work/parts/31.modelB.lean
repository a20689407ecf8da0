theorem okt_m1 {n : Nat} {f : Nat → Int64} {t : Int64} (h1 : ¬ t < 0) (h2 : ¬ cp_max < t) (h : n = 0 ∨ ¬ t ≤ f (n - 1)) : cp_okt n f t :=
  ⟨⟨Int64.not_lt.mp h1, Int64.not_lt.mp h2⟩, h.elim Or.inl (fun z => Or.inr (Int64.not_le.mp z))⟩
theorem okt_m2 {n : Nat} {f : Nat → Int64} {t : Int64} (h : t < 0 ∨ cp_max < t ∨ (¬ n = 0 ∧ t ≤ f (n - 1))) : ¬ cp_okt n f t := by
  rintro ⟨⟨a, b⟩, d⟩
  rcases h with h | h | ⟨h, h'⟩
  · exact absurd a (Int64.not_le.mpr h)
  · exact absurd b (Int64.not_le.mpr h)
  · rcases d with d | d
    · exact h d
    · exact absurd h' (Int64.not_le.mpr d)
theorem fit_00 {v : Int64} (h : cp_fit v 0) : v = 0 := cp_ext (fun j _ => by rw [cp_0]; exact h j (Nat.zero_le j))

set_option maxHeartbeats 4000000 in
set_option maxRecDepth 100000 in
theorem cc_M_add (l : Launch) (D : va_G) (cJ cB : ClassId) (q ta vb ba na nb : Nat) (cd tk pl wr fz fb : Int32) (n : Nat) (L : List Bool) (f g : Nat → Int64) (t v : Int64) (sz : Nat) (h1 : n ≤ 3000) : ct_i l my_M_add (Cond.code my_M_add mb_M_add 6 (some .int) :: TB) ({ frames := 0, cells := 0, slots := 0, locals := 0 } : Room) D classes cJ cB [.ref q, .long t, .long v] [(q, .inr (6, [.int cd, .ref ta, .ref vb, .int (nI n), .ref ba, .int (nI L.length), .int tk, .ref na, .ref nb, .int pl, .int wr, .int fz, .int fb])), (ta, .inl (cJ, 3000, .inr (.inl f))), (vb, .inl (cJ, 3000, .inr (.inl g)))] sz (fun (r : Int32) (u : Nat × (Nat → Int64) × (Nat → Int64) × Int32) => (¬ cp_okt n f t ∧ u = (n, f, g, nI 1)) ∨ (cp_okt n f t ∧ n = 3000 ∧ u = (n, f, g, nI 2)) ∨ (cp_okt n f t ∧ n < 3000 ∧ r = nI (n + 1) ∧ u = (n + 1, vp_updL f n t, vp_updL g n v, nI 0))) (fun u => [(q, .inr (6, [.int u.2.2.2, .ref ta, .ref vb, .int (nI u.1), .ref ba, .int (nI L.length), .int tk, .ref na, .ref nb, .int pl, .int wr, .int fz, .int fb])), (ta, .inl (cJ, 3000, .inr (.inl u.2.1))), (vb, .inl (cJ, 3000, .inr (.inl u.2.2.1)))]) 0 0 := by
  refine ct_ofW (cc := mb_M_add) (maxL := 6) (ret := some .int) (by decide) rfl (Nat.le_of_ble_eq_true rfl) ?_
  intro p e s m below meth c hx hb hr hml hts hown hlocks hin hsz hK hP hD hA hS hZ ls hl
  have hw : ∀ w ∈ TB, w.before _ s = true := fun w h => hts w (List.mem_cons_of_mem _ h)
  have hown : s.vm.findClass cn_M = some m.cls := hown
  have hin : meth.name = "add" := hin
  generalize hAe : va_A [(q, .inr (6, [.int cd, .ref ta, .ref vb, .int (nI n), .ref ba, .int (nI L.length), .int tk, .ref na, .ref nb, .int pl, .int wr, .int fz, .int fb])), (ta, .inl (cJ, 3000, .inr (.inl f))), (vb, .inl (cJ, 3000, .inr (.inl g)))] sz = A at hD hA hS hZ ⊢
  clear hAe
  have hl : lv_has ls 6 [(0, .ref q), (1, .long t), (3, .long v)] := hl
  have hP : va_P D classes [(q, .inr (6, [.int cd, .ref ta, .ref vb, .int (nI n), .ref ba, .int (nI L.length), .int tk, .ref na, .ref nb, .int pl, .int wr, .int fz, .int fb])), (ta, .inl (cJ, 3000, .inr (.inl f))), (vb, .inl (cJ, 3000, .inr (.inl g)))] s.heap := hP
  refine lv_lload_n hx hb dd_M_add_0 rfl (lv_at hl 1 rfl) ?_
  refine lv_lconst (v := 0) hx hb dd_M_add_1 (by decide) ?_
  refine W.lcmp hx hb dd_M_add_2 ?_
  refine lv_if_lt (tgt := 41) hx hb dd_M_add_3 (by decide) (fun c_3 => ?_) (fun c_3 => ?_)
  · skip
    have c_3 : t < 0 := (lg_cmp_lt _ _).mp c_3
    refine lv_iconst (v := nI 0) hx hb dd_M_add_41 (by decide) ?_
    refine lv_istore (lv' := [(5, .int (nI 0)), (0, .ref q), (1, .long t), (3, .long v)]) hx hb dd_M_add_42 hl (by decide) rfl (fun ls hl => ?_)
    refine lv_aload_n hx hb dd_M_add_44 rfl (lv_at hl 1 rfl) ?_
    refine lv_iload hx hb dd_M_add_45 (lv_at hl 0 rfl) ?_
    refine lv_if_ne (tgt := 54) hx hb dd_M_add_47 (by decide) (fun c_47 => ?_) (fun c_47 => ?_)
    · skip
      have c_47 : ¬ (0 = 0) := fun z => c_47 ((ct_zeq (by omega)).mpr z)
      exfalso
      omega
    have c_47 : 0 = 0 := (ct_zeq (by omega)).mp c_47
    refine lv_iconst (v := nI 1) hx hb dd_M_add_50 (by decide) ?_
    refine lv_goto (tgt := 69) hx hb dd_M_add_51 (by decide) ?_
    refine va_put (D := D) (ci := 6) (v := .int (nI 1)) (ty := .int) (C := cn_M) (T := cf_M) (N := 13) hx hb hw in_M ty_M to_M nn_M hown hK hP hD hS 0 rfl rfl 0 (by decide) (hw _ wi_537) (fun _ h9 => h9) rfl (by decide +kernel) (rfl) (rfl) (Nat.le_of_ble_eq_true rfl) dd_M_add_69 (fun H locs hP hD hS => ?_)
    have hP : va_P D classes [(q, .inr (6, [.int (nI 1), .ref ta, .ref vb, .int (nI n), .ref ba, .int (nI L.length), .int tk, .ref na, .ref nb, .int pl, .int wr, .int fz, .int fb])), (ta, .inl (cJ, 3000, .inr (.inl f))), (vb, .inl (cJ, 3000, .inr (.inl g)))] _ := hP
    have hD : va_D A [(q, .inr (6, [.int (nI 1), .ref ta, .ref vb, .int (nI n), .ref ba, .int (nI L.length), .int tk, .ref na, .ref nb, .int pl, .int wr, .int fz, .int fb])), (ta, .inl (cJ, 3000, .inr (.inl f))), (vb, .inl (cJ, 3000, .inr (.inl g)))] := hD
    refine lv_aload_n hx hb dd_M_add_72 rfl (lv_at hl 1 rfl) ?_
    refine va_get (D := D) (ci := 6) (C := cn_M) (T := cf_M) (N := 13) hx hb hw in_M hown hK hP 0 rfl rfl 0 (by decide) (hw _ wi_537) (fun _ h9 => h9) rfl dd_M_add_73 ?_
    refine lv_if_le (tgt := 81) hx hb dd_M_add_76 (by decide) (fun c_76 => ?_) (fun c_76 => ?_)
    · skip
      have c_76 : 1 ≤ 0 := (ct_zle (by omega)).mp c_76
      exfalso
      omega
    have c_76 : ¬ (1 ≤ 0) := fun z => c_76 ((ct_zle (by omega)).mpr z)
    refine lv_iconst (v := nI 0) hx hb dd_M_add_79 (by decide) ?_
    refine ct_iret (u := (n, f, g, nI 1)) hx hb hr hlocks hK hP hD hS rfl ?_ dd_M_add_80
    exact Or.inl ⟨okt_m2 (Or.inl c_3), rfl⟩
  have c_3 : ¬ (t < 0) := fun z => c_3 ((lg_cmp_lt _ _).mpr z)
  refine lv_lload_n hx hb dd_M_add_6 rfl (lv_at hl 1 rfl) ?_
  refine lv_ldc2 (v := 1099511627775) hx hb hown (hw _ wi_585) dd_M_add_7 ?_
  refine W.lcmp hx hb dd_M_add_10 ?_
  refine lv_if_gt (tgt := 41) hx hb dd_M_add_11 (by decide) (fun c_11 => ?_) (fun c_11 => ?_)
  · skip
    have c_11 : 1099511627775 < t := (lg_cmp_gt _ _).mp c_11
    refine lv_iconst (v := nI 0) hx hb dd_M_add_41 (by decide) ?_
    refine lv_istore (lv' := [(5, .int (nI 0)), (0, .ref q), (1, .long t), (3, .long v)]) hx hb dd_M_add_42 hl (by decide) rfl (fun ls hl => ?_)
    refine lv_aload_n hx hb dd_M_add_44 rfl (lv_at hl 1 rfl) ?_
    refine lv_iload hx hb dd_M_add_45 (lv_at hl 0 rfl) ?_
    refine lv_if_ne (tgt := 54) hx hb dd_M_add_47 (by decide) (fun c_47 => ?_) (fun c_47 => ?_)
    · skip
      have c_47 : ¬ (0 = 0) := fun z => c_47 ((ct_zeq (by omega)).mpr z)
      exfalso
      omega
    have c_47 : 0 = 0 := (ct_zeq (by omega)).mp c_47
    refine lv_iconst (v := nI 1) hx hb dd_M_add_50 (by decide) ?_
    refine lv_goto (tgt := 69) hx hb dd_M_add_51 (by decide) ?_
    refine va_put (D := D) (ci := 6) (v := .int (nI 1)) (ty := .int) (C := cn_M) (T := cf_M) (N := 13) hx hb hw in_M ty_M to_M nn_M hown hK hP hD hS 0 rfl rfl 0 (by decide) (hw _ wi_537) (fun _ h9 => h9) rfl (by decide +kernel) (rfl) (rfl) (Nat.le_of_ble_eq_true rfl) dd_M_add_69 (fun H locs hP hD hS => ?_)
    have hP : va_P D classes [(q, .inr (6, [.int (nI 1), .ref ta, .ref vb, .int (nI n), .ref ba, .int (nI L.length), .int tk, .ref na, .ref nb, .int pl, .int wr, .int fz, .int fb])), (ta, .inl (cJ, 3000, .inr (.inl f))), (vb, .inl (cJ, 3000, .inr (.inl g)))] _ := hP
    have hD : va_D A [(q, .inr (6, [.int (nI 1), .ref ta, .ref vb, .int (nI n), .ref ba, .int (nI L.length), .int tk, .ref na, .ref nb, .int pl, .int wr, .int fz, .int fb])), (ta, .inl (cJ, 3000, .inr (.inl f))), (vb, .inl (cJ, 3000, .inr (.inl g)))] := hD
    refine lv_aload_n hx hb dd_M_add_72 rfl (lv_at hl 1 rfl) ?_
    refine va_get (D := D) (ci := 6) (C := cn_M) (T := cf_M) (N := 13) hx hb hw in_M hown hK hP 0 rfl rfl 0 (by decide) (hw _ wi_537) (fun _ h9 => h9) rfl dd_M_add_73 ?_
    refine lv_if_le (tgt := 81) hx hb dd_M_add_76 (by decide) (fun c_76 => ?_) (fun c_76 => ?_)
    · skip
      have c_76 : 1 ≤ 0 := (ct_zle (by omega)).mp c_76
      exfalso
      omega
    have c_76 : ¬ (1 ≤ 0) := fun z => c_76 ((ct_zle (by omega)).mpr z)
    refine lv_iconst (v := nI 0) hx hb dd_M_add_79 (by decide) ?_
    refine ct_iret (u := (n, f, g, nI 1)) hx hb hr hlocks hK hP hD hS rfl ?_ dd_M_add_80
    exact Or.inl ⟨okt_m2 (Or.inr (Or.inl c_11)), rfl⟩
  have c_11 : ¬ (1099511627775 < t) := fun z => c_11 ((lg_cmp_gt _ _).mpr z)
  refine lv_aload_n hx hb dd_M_add_14 rfl (lv_at hl 0 rfl) ?_
  refine va_get (D := D) (ci := 6) (C := cn_M) (T := cf_M) (N := 13) hx hb hw in_M hown hK hP 0 rfl rfl 3 (by decide) (hw _ wi_540) (fun _ h9 => h9) rfl dd_M_add_15 ?_
  refine lv_if_eq (tgt := 37) hx hb dd_M_add_18 (by decide) (fun c_18 => ?_) (fun c_18 => ?_)
  · skip
    have c_18 : n = 0 := (ct_zeq (by omega)).mp c_18
    refine lv_iconst (v := nI 1) hx hb dd_M_add_37 (by decide) ?_
    refine lv_goto (tgt := 42) hx hb dd_M_add_38 (by decide) ?_
    refine lv_istore (lv' := [(5, .int (nI 1)), (0, .ref q), (1, .long t), (3, .long v)]) hx hb dd_M_add_42 hl (by decide) rfl (fun ls hl => ?_)
    refine lv_aload_n hx hb dd_M_add_44 rfl (lv_at hl 1 rfl) ?_
    refine lv_iload hx hb dd_M_add_45 (lv_at hl 0 rfl) ?_
    refine lv_if_ne (tgt := 54) hx hb dd_M_add_47 (by decide) (fun c_47 => ?_) (fun c_47 => ?_)
    · skip
      have c_47 : ¬ (1 = 0) := fun z => c_47 ((ct_zeq (by omega)).mpr z)
      refine lv_aload_n hx hb dd_M_add_54 rfl (lv_at hl 1 rfl) ?_
      refine va_get (D := D) (ci := 6) (C := cn_M) (T := cf_M) (N := 13) hx hb hw in_M hown hK hP 0 rfl rfl 3 (by decide) (hw _ wi_540) (fun _ h9 => h9) rfl dd_M_add_55 ?_
      refine lv_sipush (v := nI 3000) hx hb dd_M_add_58 (by decide) ?_
      refine lv_icmp_ne (tgt := 68) hx hb dd_M_add_61 (by decide) (fun c_61 => ?_) (fun c_61 => ?_)
      · skip
        have c_61 : ¬ (n = 3000) := fun z => c_61 ((nI_eq (by omega) (by omega)).mpr z)
        refine lv_iconst (v := nI 0) hx hb dd_M_add_68 (by decide) ?_
        refine va_put (D := D) (ci := 6) (v := .int (nI 0)) (ty := .int) (C := cn_M) (T := cf_M) (N := 13) hx hb hw in_M ty_M to_M nn_M hown hK hP hD hS 0 rfl rfl 0 (by decide) (hw _ wi_537) (fun _ h9 => h9) rfl (by decide +kernel) (rfl) (rfl) (Nat.le_of_ble_eq_true rfl) dd_M_add_69 (fun H locs hP hD hS => ?_)
        have hP : va_P D classes [(q, .inr (6, [.int (nI 0), .ref ta, .ref vb, .int (nI n), .ref ba, .int (nI L.length), .int tk, .ref na, .ref nb, .int pl, .int wr, .int fz, .int fb])), (ta, .inl (cJ, 3000, .inr (.inl f))), (vb, .inl (cJ, 3000, .inr (.inl g)))] _ := hP
        have hD : va_D A [(q, .inr (6, [.int (nI 0), .ref ta, .ref vb, .int (nI n), .ref ba, .int (nI L.length), .int tk, .ref na, .ref nb, .int pl, .int wr, .int fz, .int fb])), (ta, .inl (cJ, 3000, .inr (.inl f))), (vb, .inl (cJ, 3000, .inr (.inl g)))] := hD
        refine lv_aload_n hx hb dd_M_add_72 rfl (lv_at hl 1 rfl) ?_
        refine va_get (D := D) (ci := 6) (C := cn_M) (T := cf_M) (N := 13) hx hb hw in_M hown hK hP 0 rfl rfl 0 (by decide) (hw _ wi_537) (fun _ h9 => h9) rfl dd_M_add_73 ?_
        refine lv_if_le (tgt := 81) hx hb dd_M_add_76 (by decide) (fun c_76 => ?_) (fun c_76 => ?_)
        · skip
          have c_76 : 0 ≤ 0 := (ct_zle (by omega)).mp c_76
          refine lv_aload_n hx hb dd_M_add_81 rfl (lv_at hl 1 rfl) ?_
          refine va_get (D := D) (ci := 6) (C := cn_M) (T := cf_M) (N := 13) hx hb hw in_M hown hK hP 0 rfl rfl 1 (by decide) (hw _ wi_538) (fun _ h9 => h9) rfl dd_M_add_82 ?_
          refine lv_aload_n hx hb dd_M_add_85 rfl (lv_at hl 1 rfl) ?_
          refine va_get (D := D) (ci := 6) (C := cn_M) (T := cf_M) (N := 13) hx hb hw in_M hown hK hP 0 rfl rfl 3 (by decide) (hw _ wi_540) (fun _ h9 => h9) rfl dd_M_add_86 ?_
          refine lv_lload_n hx hb dd_M_add_89 rfl (lv_at hl 2 rfl) ?_
          refine va_last hx hb hK hP hD hS 1 0 rfl rfl (vp_in_nI (by omega) (by omega)) dd_M_add_90 (fun H locs hP hD hS => ?_)
          rw [show (nI n).toNatClampNeg = n from nI_clamp (by omega)] at hP hD
          have hP : va_P D classes [(q, .inr (6, [.int (nI 0), .ref ta, .ref vb, .int (nI n), .ref ba, .int (nI L.length), .int tk, .ref na, .ref nb, .int pl, .int wr, .int fz, .int fb])), (ta, .inl (cJ, 3000, .inr (.inl (vp_updL f n t)))), (vb, .inl (cJ, 3000, .inr (.inl g)))] _ := hP
          have hD : va_D A [(q, .inr (6, [.int (nI 0), .ref ta, .ref vb, .int (nI n), .ref ba, .int (nI L.length), .int tk, .ref na, .ref nb, .int pl, .int wr, .int fz, .int fb])), (ta, .inl (cJ, 3000, .inr (.inl (vp_updL f n t)))), (vb, .inl (cJ, 3000, .inr (.inl g)))] := hD
          refine lv_aload_n hx hb dd_M_add_91 rfl (lv_at hl 1 rfl) ?_
          refine va_get (D := D) (ci := 6) (C := cn_M) (T := cf_M) (N := 13) hx hb hw in_M hown hK hP 0 rfl rfl 2 (by decide) (hw _ wi_539) (fun _ h9 => h9) rfl dd_M_add_92 ?_
          refine lv_aload_n hx hb dd_M_add_95 rfl (lv_at hl 1 rfl) ?_
          refine va_get (D := D) (ci := 6) (C := cn_M) (T := cf_M) (N := 13) hx hb hw in_M hown hK hP 0 rfl rfl 3 (by decide) (hw _ wi_540) (fun _ h9 => h9) rfl dd_M_add_96 ?_
          refine lv_lload_n hx hb dd_M_add_99 rfl (lv_at hl 3 rfl) ?_
          refine va_last hx hb hK hP hD hS 2 0 rfl rfl (vp_in_nI (by omega) (by omega)) dd_M_add_100 (fun H locs hP hD hS => ?_)
          rw [show (nI n).toNatClampNeg = n from nI_clamp (by omega)] at hP hD
          have hP : va_P D classes [(q, .inr (6, [.int (nI 0), .ref ta, .ref vb, .int (nI n), .ref ba, .int (nI L.length), .int tk, .ref na, .ref nb, .int pl, .int wr, .int fz, .int fb])), (ta, .inl (cJ, 3000, .inr (.inl (vp_updL f n t)))), (vb, .inl (cJ, 3000, .inr (.inl (vp_updL g n v))))] _ := hP
          have hD : va_D A [(q, .inr (6, [.int (nI 0), .ref ta, .ref vb, .int (nI n), .ref ba, .int (nI L.length), .int tk, .ref na, .ref nb, .int pl, .int wr, .int fz, .int fb])), (ta, .inl (cJ, 3000, .inr (.inl (vp_updL f n t)))), (vb, .inl (cJ, 3000, .inr (.inl (vp_updL g n v))))] := hD
          refine lv_aload_n hx hb dd_M_add_101 rfl (lv_at hl 1 rfl) ?_
          refine lv_dup hx hb dd_M_add_102 rfl ?_
          refine va_get (D := D) (ci := 6) (C := cn_M) (T := cf_M) (N := 13) hx hb hw in_M hown hK hP 0 rfl rfl 3 (by decide) (hw _ wi_540) (fun _ h9 => h9) rfl dd_M_add_103 ?_
          refine lv_iconst (v := nI 1) hx hb dd_M_add_106 (by decide) ?_
          refine lv_iadd hx hb dd_M_add_107 ?_
          refine ct_topi (y := nI (n + 1)) (nI_add _ _) ?_
          refine va_put (D := D) (ci := 6) (v := .int (nI (n + 1))) (ty := .int) (C := cn_M) (T := cf_M) (N := 13) hx hb hw in_M ty_M to_M nn_M hown hK hP hD hS 0 rfl rfl 3 (by decide) (hw _ wi_540) (fun _ h9 => h9) rfl (by decide +kernel) (rfl) (rfl) (Nat.le_of_ble_eq_true rfl) dd_M_add_108 (fun H locs hP hD hS => ?_)
          have hP : va_P D classes [(q, .inr (6, [.int (nI 0), .ref ta, .ref vb, .int (nI (n + 1)), .ref ba, .int (nI L.length), .int tk, .ref na, .ref nb, .int pl, .int wr, .int fz, .int fb])), (ta, .inl (cJ, 3000, .inr (.inl (vp_updL f n t)))), (vb, .inl (cJ, 3000, .inr (.inl (vp_updL g n v))))] _ := hP
          have hD : va_D A [(q, .inr (6, [.int (nI 0), .ref ta, .ref vb, .int (nI (n + 1)), .ref ba, .int (nI L.length), .int tk, .ref na, .ref nb, .int pl, .int wr, .int fz, .int fb])), (ta, .inl (cJ, 3000, .inr (.inl (vp_updL f n t)))), (vb, .inl (cJ, 3000, .inr (.inl (vp_updL g n v))))] := hD
          refine lv_aload_n hx hb dd_M_add_111 rfl (lv_at hl 1 rfl) ?_
          refine va_get (D := D) (ci := 6) (C := cn_M) (T := cf_M) (N := 13) hx hb hw in_M hown hK hP 0 rfl rfl 3 (by decide) (hw _ wi_540) (fun _ h9 => h9) rfl dd_M_add_112 ?_
          refine ct_iret (u := (n + 1, vp_updL f n t, vp_updL g n v, nI 0)) hx hb hr hlocks hK hP hD hS rfl ?_ dd_M_add_115
          exact Or.inr (Or.inr ⟨okt_m1 c_3 c_11 (Or.inl c_18), by omega, rfl, rfl⟩)
        have c_76 : ¬ (0 ≤ 0) := fun z => c_76 ((ct_zle (by omega)).mpr z)
        exfalso
        omega
      have c_61 : n = 3000 := (nI_eq (by omega) (by omega)).mp c_61
      refine lv_iconst (v := nI 2) hx hb dd_M_add_64 (by decide) ?_
      refine lv_goto (tgt := 69) hx hb dd_M_add_65 (by decide) ?_
      refine va_put (D := D) (ci := 6) (v := .int (nI 2)) (ty := .int) (C := cn_M) (T := cf_M) (N := 13) hx hb hw in_M ty_M to_M nn_M hown hK hP hD hS 0 rfl rfl 0 (by decide) (hw _ wi_537) (fun _ h9 => h9) rfl (by decide +kernel) (rfl) (rfl) (Nat.le_of_ble_eq_true rfl) dd_M_add_69 (fun H locs hP hD hS => ?_)
      have hP : va_P D classes [(q, .inr (6, [.int (nI 2), .ref ta, .ref vb, .int (nI n), .ref ba, .int (nI L.length), .int tk, .ref na, .ref nb, .int pl, .int wr, .int fz, .int fb])), (ta, .inl (cJ, 3000, .inr (.inl f))), (vb, .inl (cJ, 3000, .inr (.inl g)))] _ := hP
      have hD : va_D A [(q, .inr (6, [.int (nI 2), .ref ta, .ref vb, .int (nI n), .ref ba, .int (nI L.length), .int tk, .ref na, .ref nb, .int pl, .int wr, .int fz, .int fb])), (ta, .inl (cJ, 3000, .inr (.inl f))), (vb, .inl (cJ, 3000, .inr (.inl g)))] := hD
      refine lv_aload_n hx hb dd_M_add_72 rfl (lv_at hl 1 rfl) ?_
      refine va_get (D := D) (ci := 6) (C := cn_M) (T := cf_M) (N := 13) hx hb hw in_M hown hK hP 0 rfl rfl 0 (by decide) (hw _ wi_537) (fun _ h9 => h9) rfl dd_M_add_73 ?_
      refine lv_if_le (tgt := 81) hx hb dd_M_add_76 (by decide) (fun c_76 => ?_) (fun c_76 => ?_)
      · skip
        have c_76 : 2 ≤ 0 := (ct_zle (by omega)).mp c_76
        exfalso
        omega
      have c_76 : ¬ (2 ≤ 0) := fun z => c_76 ((ct_zle (by omega)).mpr z)
      refine lv_iconst (v := nI 0) hx hb dd_M_add_79 (by decide) ?_
      refine ct_iret (u := (n, f, g, nI 2)) hx hb hr hlocks hK hP hD hS rfl ?_ dd_M_add_80
      exact Or.inr (Or.inl ⟨okt_m1 c_3 c_11 (Or.inl c_18), c_61, rfl⟩)
    have c_47 : 1 = 0 := (ct_zeq (by omega)).mp c_47
    exfalso
    omega
  have c_18 : ¬ (n = 0) := fun z => c_18 ((ct_zeq (by omega)).mpr z)
  refine lv_lload_n hx hb dd_M_add_21 rfl (lv_at hl 1 rfl) ?_
  refine lv_aload_n hx hb dd_M_add_22 rfl (lv_at hl 0 rfl) ?_
  refine va_get (D := D) (ci := 6) (C := cn_M) (T := cf_M) (N := 13) hx hb hw in_M hown hK hP 0 rfl rfl 1 (by decide) (hw _ wi_538) (fun _ h9 => h9) rfl dd_M_add_23 ?_
  refine lv_aload_n hx hb dd_M_add_26 rfl (lv_at hl 0 rfl) ?_
  refine va_get (D := D) (ci := 6) (C := cn_M) (T := cf_M) (N := 13) hx hb hw in_M hown hK hP 0 rfl rfl 3 (by decide) (hw _ wi_540) (fun _ h9 => h9) rfl dd_M_add_27 ?_
  refine lv_iconst (v := nI 1) hx hb dd_M_add_30 (by decide) ?_
  refine lv_isub hx hb dd_M_add_31 ?_
  refine ct_topi (y := nI (n - 1)) (pk_sub (by omega)) ?_
  refine va_lald hx hb hK hP 1 0 rfl rfl (vp_in_nI (by omega) (by omega)) dd_M_add_32 ?_
  refine ct_topl (y := f (n - 1)) (by rw [nI_clamp (by omega)]) ?_
  refine W.lcmp hx hb dd_M_add_33 ?_
  refine lv_if_le (tgt := 41) hx hb dd_M_add_34 (by decide) (fun c_34 => ?_) (fun c_34 => ?_)
  · skip
    have c_34 : t ≤ (f (n - 1)) := (lg_cmp_le _ _).mp c_34
    refine lv_iconst (v := nI 0) hx hb dd_M_add_41 (by decide) ?_
    refine lv_istore (lv' := [(5, .int (nI 0)), (0, .ref q), (1, .long t), (3, .long v)]) hx hb dd_M_add_42 hl (by decide) rfl (fun ls hl => ?_)
    refine lv_aload_n hx hb dd_M_add_44 rfl (lv_at hl 1 rfl) ?_
    refine lv_iload hx hb dd_M_add_45 (lv_at hl 0 rfl) ?_
    refine lv_if_ne (tgt := 54) hx hb dd_M_add_47 (by decide) (fun c_47 => ?_) (fun c_47 => ?_)
    · skip
      have c_47 : ¬ (0 = 0) := fun z => c_47 ((ct_zeq (by omega)).mpr z)
      exfalso
      omega
    have c_47 : 0 = 0 := (ct_zeq (by omega)).mp c_47
    refine lv_iconst (v := nI 1) hx hb dd_M_add_50 (by decide) ?_
    refine lv_goto (tgt := 69) hx hb dd_M_add_51 (by decide) ?_
    refine va_put (D := D) (ci := 6) (v := .int (nI 1)) (ty := .int) (C := cn_M) (T := cf_M) (N := 13) hx hb hw in_M ty_M to_M nn_M hown hK hP hD hS 0 rfl rfl 0 (by decide) (hw _ wi_537) (fun _ h9 => h9) rfl (by decide +kernel) (rfl) (rfl) (Nat.le_of_ble_eq_true rfl) dd_M_add_69 (fun H locs hP hD hS => ?_)
    have hP : va_P D classes [(q, .inr (6, [.int (nI 1), .ref ta, .ref vb, .int (nI n), .ref ba, .int (nI L.length), .int tk, .ref na, .ref nb, .int pl, .int wr, .int fz, .int fb])), (ta, .inl (cJ, 3000, .inr (.inl f))), (vb, .inl (cJ, 3000, .inr (.inl g)))] _ := hP
    have hD : va_D A [(q, .inr (6, [.int (nI 1), .ref ta, .ref vb, .int (nI n), .ref ba, .int (nI L.length), .int tk, .ref na, .ref nb, .int pl, .int wr, .int fz, .int fb])), (ta, .inl (cJ, 3000, .inr (.inl f))), (vb, .inl (cJ, 3000, .inr (.inl g)))] := hD
    refine lv_aload_n hx hb dd_M_add_72 rfl (lv_at hl 1 rfl) ?_
    refine va_get (D := D) (ci := 6) (C := cn_M) (T := cf_M) (N := 13) hx hb hw in_M hown hK hP 0 rfl rfl 0 (by decide) (hw _ wi_537) (fun _ h9 => h9) rfl dd_M_add_73 ?_
    refine lv_if_le (tgt := 81) hx hb dd_M_add_76 (by decide) (fun c_76 => ?_) (fun c_76 => ?_)
    · skip
      have c_76 : 1 ≤ 0 := (ct_zle (by omega)).mp c_76
      exfalso
      omega
    have c_76 : ¬ (1 ≤ 0) := fun z => c_76 ((ct_zle (by omega)).mpr z)
    refine lv_iconst (v := nI 0) hx hb dd_M_add_79 (by decide) ?_
    refine ct_iret (u := (n, f, g, nI 1)) hx hb hr hlocks hK hP hD hS rfl ?_ dd_M_add_80
    exact Or.inl ⟨okt_m2 (Or.inr (Or.inr ⟨c_18, c_34⟩)), rfl⟩
  have c_34 : ¬ (t ≤ (f (n - 1))) := fun z => c_34 ((lg_cmp_le _ _).mpr z)
  refine lv_iconst (v := nI 1) hx hb dd_M_add_37 (by decide) ?_
  refine lv_goto (tgt := 42) hx hb dd_M_add_38 (by decide) ?_
  refine lv_istore (lv' := [(5, .int (nI 1)), (0, .ref q), (1, .long t), (3, .long v)]) hx hb dd_M_add_42 hl (by decide) rfl (fun ls hl => ?_)
  refine lv_aload_n hx hb dd_M_add_44 rfl (lv_at hl 1 rfl) ?_
  refine lv_iload hx hb dd_M_add_45 (lv_at hl 0 rfl) ?_
  refine lv_if_ne (tgt := 54) hx hb dd_M_add_47 (by decide) (fun c_47 => ?_) (fun c_47 => ?_)
  · skip
    have c_47 : ¬ (1 = 0) := fun z => c_47 ((ct_zeq (by omega)).mpr z)
    refine lv_aload_n hx hb dd_M_add_54 rfl (lv_at hl 1 rfl) ?_
    refine va_get (D := D) (ci := 6) (C := cn_M) (T := cf_M) (N := 13) hx hb hw in_M hown hK hP 0 rfl rfl 3 (by decide) (hw _ wi_540) (fun _ h9 => h9) rfl dd_M_add_55 ?_
    refine lv_sipush (v := nI 3000) hx hb dd_M_add_58 (by decide) ?_
    refine lv_icmp_ne (tgt := 68) hx hb dd_M_add_61 (by decide) (fun c_61 => ?_) (fun c_61 => ?_)
    · skip
      have c_61 : ¬ (n = 3000) := fun z => c_61 ((nI_eq (by omega) (by omega)).mpr z)
      refine lv_iconst (v := nI 0) hx hb dd_M_add_68 (by decide) ?_
      refine va_put (D := D) (ci := 6) (v := .int (nI 0)) (ty := .int) (C := cn_M) (T := cf_M) (N := 13) hx hb hw in_M ty_M to_M nn_M hown hK hP hD hS 0 rfl rfl 0 (by decide) (hw _ wi_537) (fun _ h9 => h9) rfl (by decide +kernel) (rfl) (rfl) (Nat.le_of_ble_eq_true rfl) dd_M_add_69 (fun H locs hP hD hS => ?_)
      have hP : va_P D classes [(q, .inr (6, [.int (nI 0), .ref ta, .ref vb, .int (nI n), .ref ba, .int (nI L.length), .int tk, .ref na, .ref nb, .int pl, .int wr, .int fz, .int fb])), (ta, .inl (cJ, 3000, .inr (.inl f))), (vb, .inl (cJ, 3000, .inr (.inl g)))] _ := hP
      have hD : va_D A [(q, .inr (6, [.int (nI 0), .ref ta, .ref vb, .int (nI n), .ref ba, .int (nI L.length), .int tk, .ref na, .ref nb, .int pl, .int wr, .int fz, .int fb])), (ta, .inl (cJ, 3000, .inr (.inl f))), (vb, .inl (cJ, 3000, .inr (.inl g)))] := hD
      refine lv_aload_n hx hb dd_M_add_72 rfl (lv_at hl 1 rfl) ?_
      refine va_get (D := D) (ci := 6) (C := cn_M) (T := cf_M) (N := 13) hx hb hw in_M hown hK hP 0 rfl rfl 0 (by decide) (hw _ wi_537) (fun _ h9 => h9) rfl dd_M_add_73 ?_
      refine lv_if_le (tgt := 81) hx hb dd_M_add_76 (by decide) (fun c_76 => ?_) (fun c_76 => ?_)
      · skip
        have c_76 : 0 ≤ 0 := (ct_zle (by omega)).mp c_76
        refine lv_aload_n hx hb dd_M_add_81 rfl (lv_at hl 1 rfl) ?_
        refine va_get (D := D) (ci := 6) (C := cn_M) (T := cf_M) (N := 13) hx hb hw in_M hown hK hP 0 rfl rfl 1 (by decide) (hw _ wi_538) (fun _ h9 => h9) rfl dd_M_add_82 ?_
        refine lv_aload_n hx hb dd_M_add_85 rfl (lv_at hl 1 rfl) ?_
        refine va_get (D := D) (ci := 6) (C := cn_M) (T := cf_M) (N := 13) hx hb hw in_M hown hK hP 0 rfl rfl 3 (by decide) (hw _ wi_540) (fun _ h9 => h9) rfl dd_M_add_86 ?_
        refine lv_lload_n hx hb dd_M_add_89 rfl (lv_at hl 2 rfl) ?_
        refine va_last hx hb hK hP hD hS 1 0 rfl rfl (vp_in_nI (by omega) (by omega)) dd_M_add_90 (fun H locs hP hD hS => ?_)
        rw [show (nI n).toNatClampNeg = n from nI_clamp (by omega)] at hP hD
        have hP : va_P D classes [(q, .inr (6, [.int (nI 0), .ref ta, .ref vb, .int (nI n), .ref ba, .int (nI L.length), .int tk, .ref na, .ref nb, .int pl, .int wr, .int fz, .int fb])), (ta, .inl (cJ, 3000, .inr (.inl (vp_updL f n t)))), (vb, .inl (cJ, 3000, .inr (.inl g)))] _ := hP
        have hD : va_D A [(q, .inr (6, [.int (nI 0), .ref ta, .ref vb, .int (nI n), .ref ba, .int (nI L.length), .int tk, .ref na, .ref nb, .int pl, .int wr, .int fz, .int fb])), (ta, .inl (cJ, 3000, .inr (.inl (vp_updL f n t)))), (vb, .inl (cJ, 3000, .inr (.inl g)))] := hD
        refine lv_aload_n hx hb dd_M_add_91 rfl (lv_at hl 1 rfl) ?_
        refine va_get (D := D) (ci := 6) (C := cn_M) (T := cf_M) (N := 13) hx hb hw in_M hown hK hP 0 rfl rfl 2 (by decide) (hw _ wi_539) (fun _ h9 => h9) rfl dd_M_add_92 ?_
        refine lv_aload_n hx hb dd_M_add_95 rfl (lv_at hl 1 rfl) ?_
        refine va_get (D := D) (ci := 6) (C := cn_M) (T := cf_M) (N := 13) hx hb hw in_M hown hK hP 0 rfl rfl 3 (by decide) (hw _ wi_540) (fun _ h9 => h9) rfl dd_M_add_96 ?_
        refine lv_lload_n hx hb dd_M_add_99 rfl (lv_at hl 3 rfl) ?_
        refine va_last hx hb hK hP hD hS 2 0 rfl rfl (vp_in_nI (by omega) (by omega)) dd_M_add_100 (fun H locs hP hD hS => ?_)
        rw [show (nI n).toNatClampNeg = n from nI_clamp (by omega)] at hP hD
        have hP : va_P D classes [(q, .inr (6, [.int (nI 0), .ref ta, .ref vb, .int (nI n), .ref ba, .int (nI L.length), .int tk, .ref na, .ref nb, .int pl, .int wr, .int fz, .int fb])), (ta, .inl (cJ, 3000, .inr (.inl (vp_updL f n t)))), (vb, .inl (cJ, 3000, .inr (.inl (vp_updL g n v))))] _ := hP
        have hD : va_D A [(q, .inr (6, [.int (nI 0), .ref ta, .ref vb, .int (nI n), .ref ba, .int (nI L.length), .int tk, .ref na, .ref nb, .int pl, .int wr, .int fz, .int fb])), (ta, .inl (cJ, 3000, .inr (.inl (vp_updL f n t)))), (vb, .inl (cJ, 3000, .inr (.inl (vp_updL g n v))))] := hD
        refine lv_aload_n hx hb dd_M_add_101 rfl (lv_at hl 1 rfl) ?_
        refine lv_dup hx hb dd_M_add_102 rfl ?_
        refine va_get (D := D) (ci := 6) (C := cn_M) (T := cf_M) (N := 13) hx hb hw in_M hown hK hP 0 rfl rfl 3 (by decide) (hw _ wi_540) (fun _ h9 => h9) rfl dd_M_add_103 ?_
        refine lv_iconst (v := nI 1) hx hb dd_M_add_106 (by decide) ?_
        refine lv_iadd hx hb dd_M_add_107 ?_
        refine ct_topi (y := nI (n + 1)) (nI_add _ _) ?_
        refine va_put (D := D) (ci := 6) (v := .int (nI (n + 1))) (ty := .int) (C := cn_M) (T := cf_M) (N := 13) hx hb hw in_M ty_M to_M nn_M hown hK hP hD hS 0 rfl rfl 3 (by decide) (hw _ wi_540) (fun _ h9 => h9) rfl (by decide +kernel) (rfl) (rfl) (Nat.le_of_ble_eq_true rfl) dd_M_add_108 (fun H locs hP hD hS => ?_)
        have hP : va_P D classes [(q, .inr (6, [.int (nI 0), .ref ta, .ref vb, .int (nI (n + 1)), .ref ba, .int (nI L.length), .int tk, .ref na, .ref nb, .int pl, .int wr, .int fz, .int fb])), (ta, .inl (cJ, 3000, .inr (.inl (vp_updL f n t)))), (vb, .inl (cJ, 3000, .inr (.inl (vp_updL g n v))))] _ := hP
        have hD : va_D A [(q, .inr (6, [.int (nI 0), .ref ta, .ref vb, .int (nI (n + 1)), .ref ba, .int (nI L.length), .int tk, .ref na, .ref nb, .int pl, .int wr, .int fz, .int fb])), (ta, .inl (cJ, 3000, .inr (.inl (vp_updL f n t)))), (vb, .inl (cJ, 3000, .inr (.inl (vp_updL g n v))))] := hD
        refine lv_aload_n hx hb dd_M_add_111 rfl (lv_at hl 1 rfl) ?_
        refine va_get (D := D) (ci := 6) (C := cn_M) (T := cf_M) (N := 13) hx hb hw in_M hown hK hP 0 rfl rfl 3 (by decide) (hw _ wi_540) (fun _ h9 => h9) rfl dd_M_add_112 ?_
        refine ct_iret (u := (n + 1, vp_updL f n t, vp_updL g n v, nI 0)) hx hb hr hlocks hK hP hD hS rfl ?_ dd_M_add_115
        exact Or.inr (Or.inr ⟨okt_m1 c_3 c_11 (Or.inr c_34), by omega, rfl, rfl⟩)
      have c_76 : ¬ (0 ≤ 0) := fun z => c_76 ((ct_zle (by omega)).mpr z)
      exfalso
      omega
    have c_61 : n = 3000 := (nI_eq (by omega) (by omega)).mp c_61
    refine lv_iconst (v := nI 2) hx hb dd_M_add_64 (by decide) ?_
    refine lv_goto (tgt := 69) hx hb dd_M_add_65 (by decide) ?_
    refine va_put (D := D) (ci := 6) (v := .int (nI 2)) (ty := .int) (C := cn_M) (T := cf_M) (N := 13) hx hb hw in_M ty_M to_M nn_M hown hK hP hD hS 0 rfl rfl 0 (by decide) (hw _ wi_537) (fun _ h9 => h9) rfl (by decide +kernel) (rfl) (rfl) (Nat.le_of_ble_eq_true rfl) dd_M_add_69 (fun H locs hP hD hS => ?_)
    have hP : va_P D classes [(q, .inr (6, [.int (nI 2), .ref ta, .ref vb, .int (nI n), .ref ba, .int (nI L.length), .int tk, .ref na, .ref nb, .int pl, .int wr, .int fz, .int fb])), (ta, .inl (cJ, 3000, .inr (.inl f))), (vb, .inl (cJ, 3000, .inr (.inl g)))] _ := hP
    have hD : va_D A [(q, .inr (6, [.int (nI 2), .ref ta, .ref vb, .int (nI n), .ref ba, .int (nI L.length), .int tk, .ref na, .ref nb, .int pl, .int wr, .int fz, .int fb])), (ta, .inl (cJ, 3000, .inr (.inl f))), (vb, .inl (cJ, 3000, .inr (.inl g)))] := hD
    refine lv_aload_n hx hb dd_M_add_72 rfl (lv_at hl 1 rfl) ?_
    refine va_get (D := D) (ci := 6) (C := cn_M) (T := cf_M) (N := 13) hx hb hw in_M hown hK hP 0 rfl rfl 0 (by decide) (hw _ wi_537) (fun _ h9 => h9) rfl dd_M_add_73 ?_
    refine lv_if_le (tgt := 81) hx hb dd_M_add_76 (by decide) (fun c_76 => ?_) (fun c_76 => ?_)
    · skip
      have c_76 : 2 ≤ 0 := (ct_zle (by omega)).mp c_76
      exfalso
      omega
    have c_76 : ¬ (2 ≤ 0) := fun z => c_76 ((ct_zle (by omega)).mpr z)
    refine lv_iconst (v := nI 0) hx hb dd_M_add_79 (by decide) ?_
    refine ct_iret (u := (n, f, g, nI 2)) hx hb hr hlocks hK hP hD hS rfl ?_ dd_M_add_80
    exact Or.inr (Or.inl ⟨okt_m1 c_3 c_11 (Or.inr c_34), c_61, rfl⟩)
  have c_47 : 1 = 0 := (ct_zeq (by omega)).mp c_47
  exfalso
  omega

set_option maxHeartbeats 4000000 in
set_option maxRecDepth 100000 in
theorem cc_M_keep (l : Launch) (D : va_G) (cJ cB : ClassId) (q ta vb ba na nb : Nat) (cd tk pl wr fz fb : Int32) (n : Nat) (L : List Bool) (k : Int32) (sz : Nat) (h1 : n ≤ 3000) : ct_i l my_M_keep (Cond.code my_M_keep mb_M_keep 3 (some .int) :: TB) ({ frames := 0, cells := 0, slots := 0, locals := 0 } : Room) D classes cJ cB [.ref q, .int k] [(q, .inr (6, [.int cd, .ref ta, .ref vb, .int (nI n), .ref ba, .int (nI L.length), .int tk, .ref na, .ref nb, .int pl, .int wr, .int fz, .int fb]))] sz (fun (r : Int32) (u : Nat × Int32) => (¬ cp_ix k (n + 1) ∧ u = (n, nI 1)) ∨ (u.1 ≤ n ∧ k = nI u.1 ∧ r = nI (n - u.1) ∧ u.2 = nI 0)) (fun u => [(q, .inr (6, [.int u.2, .ref ta, .ref vb, .int (nI u.1), .ref ba, .int (nI L.length), .int tk, .ref na, .ref nb, .int pl, .int wr, .int fz, .int fb]))]) 0 0 := by
  refine ct_ofW (cc := mb_M_keep) (maxL := 3) (ret := some .int) (by decide) rfl (Nat.le_of_ble_eq_true rfl) ?_
  intro p e s m below meth c hx hb hr hml hts hown hlocks hin hsz hK hP hD hA hS hZ ls hl
  have hw : ∀ w ∈ TB, w.before _ s = true := fun w h => hts w (List.mem_cons_of_mem _ h)
  have hown : s.vm.findClass cn_M = some m.cls := hown
  have hin : meth.name = "keep" := hin
  generalize hAe : va_A [(q, .inr (6, [.int cd, .ref ta, .ref vb, .int (nI n), .ref ba, .int (nI L.length), .int tk, .ref na, .ref nb, .int pl, .int wr, .int fz, .int fb]))] sz = A at hD hA hS hZ ⊢
  clear hAe
  have hl : lv_has ls 3 [(0, .ref q), (1, .int k)] := hl
  have hP : va_P D classes [(q, .inr (6, [.int cd, .ref ta, .ref vb, .int (nI n), .ref ba, .int (nI L.length), .int tk, .ref na, .ref nb, .int pl, .int wr, .int fz, .int fb]))] s.heap := hP
  refine lv_aload_n hx hb dd_M_keep_0 rfl (lv_at hl 0 rfl) ?_
  refine lv_iload_n hx hb dd_M_keep_1 rfl (lv_at hl 1 rfl) ?_
  refine lv_if_lt (tgt := 13) hx hb dd_M_keep_2 (by decide) (fun c_2 => ?_) (fun c_2 => ?_)
  · skip
    refine lv_iconst (v := nI 1) hx hb dd_M_keep_13 (by decide) ?_
    refine lv_goto (tgt := 18) hx hb dd_M_keep_14 (by decide) ?_
    refine va_put (D := D) (ci := 6) (v := .int (nI 1)) (ty := .int) (C := cn_M) (T := cf_M) (N := 13) hx hb hw in_M ty_M to_M nn_M hown hK hP hD hS 0 rfl rfl 0 (by decide) (hw _ wi_537) (fun _ h9 => h9) rfl (by decide +kernel) (rfl) (rfl) (Nat.le_of_ble_eq_true rfl) dd_M_keep_18 (fun H locs hP hD hS => ?_)
    have hP : va_P D classes [(q, .inr (6, [.int (nI 1), .ref ta, .ref vb, .int (nI n), .ref ba, .int (nI L.length), .int tk, .ref na, .ref nb, .int pl, .int wr, .int fz, .int fb]))] _ := hP
    have hD : va_D A [(q, .inr (6, [.int (nI 1), .ref ta, .ref vb, .int (nI n), .ref ba, .int (nI L.length), .int tk, .ref na, .ref nb, .int pl, .int wr, .int fz, .int fb]))] := hD
    refine lv_aload_n hx hb dd_M_keep_21 rfl (lv_at hl 0 rfl) ?_
    refine va_get (D := D) (ci := 6) (C := cn_M) (T := cf_M) (N := 13) hx hb hw in_M hown hK hP 0 rfl rfl 0 (by decide) (hw _ wi_537) (fun _ h9 => h9) rfl dd_M_keep_22 ?_
    refine lv_if_le (tgt := 30) hx hb dd_M_keep_25 (by decide) (fun c_25 => ?_) (fun c_25 => ?_)
    · skip
      have c_25 : 1 ≤ 0 := (ct_zle (by omega)).mp c_25
      exfalso
      omega
    have c_25 : ¬ (1 ≤ 0) := fun z => c_25 ((ct_zle (by omega)).mpr z)
    refine lv_iconst (v := nI 0) hx hb dd_M_keep_28 (by decide) ?_
    refine ct_iret (u := (n, nI 1)) hx hb hr hlocks hK hP hD hS rfl ?_ dd_M_keep_29
    exact Or.inl ⟨cp_ix_nle (by omega) (Or.inl c_2), rfl⟩
  refine lv_iload_n hx hb dd_M_keep_5 rfl (lv_at hl 1 rfl) ?_
  refine lv_aload_n hx hb dd_M_keep_6 rfl (lv_at hl 0 rfl) ?_
  refine va_get (D := D) (ci := 6) (C := cn_M) (T := cf_M) (N := 13) hx hb hw in_M hown hK hP 0 rfl rfl 3 (by decide) (hw _ wi_540) (fun _ h9 => h9) rfl dd_M_keep_7 ?_
  refine lv_icmp_le (tgt := 17) hx hb dd_M_keep_10 (by decide) (fun c_10 => ?_) (fun c_10 => ?_)
  · skip
    obtain ⟨j, hj, hkj⟩ := cp_ix_le (by omega) c_2 c_10
    subst hkj
    refine lv_iconst (v := nI 0) hx hb dd_M_keep_17 (by decide) ?_
    refine va_put (D := D) (ci := 6) (v := .int (nI 0)) (ty := .int) (C := cn_M) (T := cf_M) (N := 13) hx hb hw in_M ty_M to_M nn_M hown hK hP hD hS 0 rfl rfl 0 (by decide) (hw _ wi_537) (fun _ h9 => h9) rfl (by decide +kernel) (rfl) (rfl) (Nat.le_of_ble_eq_true rfl) dd_M_keep_18 (fun H locs hP hD hS => ?_)
    have hP : va_P D classes [(q, .inr (6, [.int (nI 0), .ref ta, .ref vb, .int (nI n), .ref ba, .int (nI L.length), .int tk, .ref na, .ref nb, .int pl, .int wr, .int fz, .int fb]))] _ := hP
    have hD : va_D A [(q, .inr (6, [.int (nI 0), .ref ta, .ref vb, .int (nI n), .ref ba, .int (nI L.length), .int tk, .ref na, .ref nb, .int pl, .int wr, .int fz, .int fb]))] := hD
    refine lv_aload_n hx hb dd_M_keep_21 rfl (lv_at hl 0 rfl) ?_
    refine va_get (D := D) (ci := 6) (C := cn_M) (T := cf_M) (N := 13) hx hb hw in_M hown hK hP 0 rfl rfl 0 (by decide) (hw _ wi_537) (fun _ h9 => h9) rfl dd_M_keep_22 ?_
    refine lv_if_le (tgt := 30) hx hb dd_M_keep_25 (by decide) (fun c_25 => ?_) (fun c_25 => ?_)
    · skip
      have c_25 : 0 ≤ 0 := (ct_zle (by omega)).mp c_25
      refine lv_aload_n hx hb dd_M_keep_30 rfl (lv_at hl 0 rfl) ?_
      refine va_get (D := D) (ci := 6) (C := cn_M) (T := cf_M) (N := 13) hx hb hw in_M hown hK hP 0 rfl rfl 3 (by decide) (hw _ wi_540) (fun _ h9 => h9) rfl dd_M_keep_31 ?_
      refine lv_iload_n hx hb dd_M_keep_34 rfl (lv_at hl 1 rfl) ?_
      refine lv_isub hx hb dd_M_keep_35 ?_
      refine ct_topi (y := nI (n - j)) (pk_sub (by omega)) ?_
      refine lv_istore_n (lv' := [(2, .int (nI (n - j))), (0, .ref q), (1, .int (nI j))]) hx hb dd_M_keep_36 rfl hl (by decide) rfl (fun ls hl => ?_)
      refine lv_aload_n hx hb dd_M_keep_37 rfl (lv_at hl 1 rfl) ?_
      refine lv_iload_n hx hb dd_M_keep_38 rfl (lv_at hl 2 rfl) ?_
      refine va_put (D := D) (ci := 6) (v := .int (nI j)) (ty := .int) (C := cn_M) (T := cf_M) (N := 13) hx hb hw in_M ty_M to_M nn_M hown hK hP hD hS 0 rfl rfl 3 (by decide) (hw _ wi_540) (fun _ h9 => h9) rfl (by decide +kernel) (rfl) (rfl) (Nat.le_of_ble_eq_true rfl) dd_M_keep_39 (fun H locs hP hD hS => ?_)
      have hP : va_P D classes [(q, .inr (6, [.int (nI 0), .ref ta, .ref vb, .int (nI j), .ref ba, .int (nI L.length), .int tk, .ref na, .ref nb, .int pl, .int wr, .int fz, .int fb]))] _ := hP
      have hD : va_D A [(q, .inr (6, [.int (nI 0), .ref ta, .ref vb, .int (nI j), .ref ba, .int (nI L.length), .int tk, .ref na, .ref nb, .int pl, .int wr, .int fz, .int fb]))] := hD
      refine lv_iload_n hx hb dd_M_keep_42 rfl (lv_at hl 0 rfl) ?_
      refine ct_iret (u := (j, nI 0)) hx hb hr hlocks hK hP hD hS rfl ?_ dd_M_keep_43
      exact Or.inr ⟨hj, rfl, rfl, rfl⟩
    have c_25 : ¬ (0 ≤ 0) := fun z => c_25 ((ct_zle (by omega)).mpr z)
    exfalso
    omega
  refine lv_iconst (v := nI 1) hx hb dd_M_keep_13 (by decide) ?_
  refine lv_goto (tgt := 18) hx hb dd_M_keep_14 (by decide) ?_
  refine va_put (D := D) (ci := 6) (v := .int (nI 1)) (ty := .int) (C := cn_M) (T := cf_M) (N := 13) hx hb hw in_M ty_M to_M nn_M hown hK hP hD hS 0 rfl rfl 0 (by decide) (hw _ wi_537) (fun _ h9 => h9) rfl (by decide +kernel) (rfl) (rfl) (Nat.le_of_ble_eq_true rfl) dd_M_keep_18 (fun H locs hP hD hS => ?_)
  have hP : va_P D classes [(q, .inr (6, [.int (nI 1), .ref ta, .ref vb, .int (nI n), .ref ba, .int (nI L.length), .int tk, .ref na, .ref nb, .int pl, .int wr, .int fz, .int fb]))] _ := hP
  have hD : va_D A [(q, .inr (6, [.int (nI 1), .ref ta, .ref vb, .int (nI n), .ref ba, .int (nI L.length), .int tk, .ref na, .ref nb, .int pl, .int wr, .int fz, .int fb]))] := hD
  refine lv_aload_n hx hb dd_M_keep_21 rfl (lv_at hl 0 rfl) ?_
  refine va_get (D := D) (ci := 6) (C := cn_M) (T := cf_M) (N := 13) hx hb hw in_M hown hK hP 0 rfl rfl 0 (by decide) (hw _ wi_537) (fun _ h9 => h9) rfl dd_M_keep_22 ?_
  refine lv_if_le (tgt := 30) hx hb dd_M_keep_25 (by decide) (fun c_25 => ?_) (fun c_25 => ?_)
  · skip
    have c_25 : 1 ≤ 0 := (ct_zle (by omega)).mp c_25
    exfalso
    omega
  have c_25 : ¬ (1 ≤ 0) := fun z => c_25 ((ct_zle (by omega)).mpr z)
  refine lv_iconst (v := nI 0) hx hb dd_M_keep_28 (by decide) ?_
  refine ct_iret (u := (n, nI 1)) hx hb hr hlocks hK hP hD hS rfl ?_ dd_M_keep_29
  exact Or.inl ⟨cp_ix_nle (by omega) (Or.inr c_10), rfl⟩

set_option maxHeartbeats 4000000 in
set_option maxRecDepth 100000 in
theorem cc_M_count (l : Launch) (D : va_G) (cJ cB : ClassId) (q ta vb ba na nb : Nat) (cd tk pl wr fz fb : Int32) (n : Nat) (L : List Bool) (k : Int32) (sz : Nat) (h1 : n ≤ 3000) : ct_i l my_M_count (Cond.code my_M_count mb_M_count 2 (some .int) :: TB) ({ frames := 0, cells := 0, slots := 0, locals := 0 } : Room) D classes cJ cB [.ref q, .int k] [(q, .inr (6, [.int cd, .ref ta, .ref vb, .int (nI n), .ref ba, .int (nI L.length), .int tk, .ref na, .ref nb, .int pl, .int wr, .int fz, .int fb]))] sz (fun (r : Int32) (u : Int32) => (k = 0 ∧ r = nI n ∧ u = nI 0) ∨ (k = 1 ∧ r = nI L.length ∧ u = nI 0) ∨ (¬ k = 0 ∧ ¬ k = 1 ∧ u = nI 1)) (fun u => [(q, .inr (6, [.int u, .ref ta, .ref vb, .int (nI n), .ref ba, .int (nI L.length), .int tk, .ref na, .ref nb, .int pl, .int wr, .int fz, .int fb]))]) 0 0 := by
  refine ct_ofW (cc := mb_M_count) (maxL := 2) (ret := some .int) (by decide) rfl (Nat.le_of_ble_eq_true rfl) ?_
  intro p e s m below meth c hx hb hr hml hts hown hlocks hin hsz hK hP hD hA hS hZ ls hl
  have hw : ∀ w ∈ TB, w.before _ s = true := fun w h => hts w (List.mem_cons_of_mem _ h)
  have hown : s.vm.findClass cn_M = some m.cls := hown
  have hin : meth.name = "count" := hin
  generalize hAe : va_A [(q, .inr (6, [.int cd, .ref ta, .ref vb, .int (nI n), .ref ba, .int (nI L.length), .int tk, .ref na, .ref nb, .int pl, .int wr, .int fz, .int fb]))] sz = A at hD hA hS hZ ⊢
  clear hAe
  have hl : lv_has ls 2 [(0, .ref q), (1, .int k)] := hl
  have hP : va_P D classes [(q, .inr (6, [.int cd, .ref ta, .ref vb, .int (nI n), .ref ba, .int (nI L.length), .int tk, .ref na, .ref nb, .int pl, .int wr, .int fz, .int fb]))] s.heap := hP
  refine lv_aload_n hx hb dd_M_count_0 rfl (lv_at hl 0 rfl) ?_
  refine lv_iload_n hx hb dd_M_count_1 rfl (lv_at hl 1 rfl) ?_
  refine lv_if_eq (tgt := 10) hx hb dd_M_count_2 (by decide) (fun c_2 => ?_) (fun c_2 => ?_)
  · skip
    refine lv_iconst (v := nI 0) hx hb dd_M_count_10 (by decide) ?_
    refine lv_goto (tgt := 15) hx hb dd_M_count_11 (by decide) ?_
    refine va_put (D := D) (ci := 6) (v := .int (nI 0)) (ty := .int) (C := cn_M) (T := cf_M) (N := 13) hx hb hw in_M ty_M to_M nn_M hown hK hP hD hS 0 rfl rfl 0 (by decide) (hw _ wi_537) (fun _ h9 => h9) rfl (by decide +kernel) (rfl) (rfl) (Nat.le_of_ble_eq_true rfl) dd_M_count_15 (fun H locs hP hD hS => ?_)
    have hP : va_P D classes [(q, .inr (6, [.int (nI 0), .ref ta, .ref vb, .int (nI n), .ref ba, .int (nI L.length), .int tk, .ref na, .ref nb, .int pl, .int wr, .int fz, .int fb]))] _ := hP
    have hD : va_D A [(q, .inr (6, [.int (nI 0), .ref ta, .ref vb, .int (nI n), .ref ba, .int (nI L.length), .int tk, .ref na, .ref nb, .int pl, .int wr, .int fz, .int fb]))] := hD
    refine lv_aload_n hx hb dd_M_count_18 rfl (lv_at hl 0 rfl) ?_
    refine va_get (D := D) (ci := 6) (C := cn_M) (T := cf_M) (N := 13) hx hb hw in_M hown hK hP 0 rfl rfl 0 (by decide) (hw _ wi_537) (fun _ h9 => h9) rfl dd_M_count_19 ?_
    refine lv_if_le (tgt := 29) hx hb dd_M_count_22 (by decide) (fun c_22 => ?_) (fun c_22 => ?_)
    · skip
      have c_22 : 0 ≤ 0 := (ct_zle (by omega)).mp c_22
      refine lv_iload_n hx hb dd_M_count_29 rfl (lv_at hl 1 rfl) ?_
      refine lv_if_ne (tgt := 40) hx hb dd_M_count_30 (by decide) (fun c_30 => ?_) (fun c_30 => ?_)
      · skip
        exfalso
        first | exact c_30 c_2 | exact c_2 c_30
      refine lv_aload_n hx hb dd_M_count_33 rfl (lv_at hl 0 rfl) ?_
      refine va_get (D := D) (ci := 6) (C := cn_M) (T := cf_M) (N := 13) hx hb hw in_M hown hK hP 0 rfl rfl 3 (by decide) (hw _ wi_540) (fun _ h9 => h9) rfl dd_M_count_34 ?_
      refine lv_goto (tgt := 44) hx hb dd_M_count_37 (by decide) ?_
      refine ct_iret (u := nI 0) hx hb hr hlocks hK hP hD hS rfl ?_ dd_M_count_44
      exact Or.inl ⟨c_2, rfl, rfl⟩
    have c_22 : ¬ (0 ≤ 0) := fun z => c_22 ((ct_zle (by omega)).mpr z)
    exfalso
    omega
  refine lv_iload_n hx hb dd_M_count_5 rfl (lv_at hl 1 rfl) ?_
  refine lv_iconst (v := nI 1) hx hb dd_M_count_6 (by decide) ?_
  refine lv_icmp_ne (tgt := 14) hx hb dd_M_count_7 (by decide) (fun c_7 => ?_) (fun c_7 => ?_)
  · skip
    refine lv_iconst (v := nI 1) hx hb dd_M_count_14 (by decide) ?_
    refine va_put (D := D) (ci := 6) (v := .int (nI 1)) (ty := .int) (C := cn_M) (T := cf_M) (N := 13) hx hb hw in_M ty_M to_M nn_M hown hK hP hD hS 0 rfl rfl 0 (by decide) (hw _ wi_537) (fun _ h9 => h9) rfl (by decide +kernel) (rfl) (rfl) (Nat.le_of_ble_eq_true rfl) dd_M_count_15 (fun H locs hP hD hS => ?_)
    have hP : va_P D classes [(q, .inr (6, [.int (nI 1), .ref ta, .ref vb, .int (nI n), .ref ba, .int (nI L.length), .int tk, .ref na, .ref nb, .int pl, .int wr, .int fz, .int fb]))] _ := hP
    have hD : va_D A [(q, .inr (6, [.int (nI 1), .ref ta, .ref vb, .int (nI n), .ref ba, .int (nI L.length), .int tk, .ref na, .ref nb, .int pl, .int wr, .int fz, .int fb]))] := hD
    refine lv_aload_n hx hb dd_M_count_18 rfl (lv_at hl 0 rfl) ?_
    refine va_get (D := D) (ci := 6) (C := cn_M) (T := cf_M) (N := 13) hx hb hw in_M hown hK hP 0 rfl rfl 0 (by decide) (hw _ wi_537) (fun _ h9 => h9) rfl dd_M_count_19 ?_
    refine lv_if_le (tgt := 29) hx hb dd_M_count_22 (by decide) (fun c_22 => ?_) (fun c_22 => ?_)
    · skip
      have c_22 : 1 ≤ 0 := (ct_zle (by omega)).mp c_22
      exfalso
      omega
    have c_22 : ¬ (1 ≤ 0) := fun z => c_22 ((ct_zle (by omega)).mpr z)
    refine lv_iconst (v := nI 0) hx hb dd_M_count_25 (by decide) ?_
    refine lv_goto (tgt := 44) hx hb dd_M_count_26 (by decide) ?_
    refine ct_iret (u := nI 1) hx hb hr hlocks hK hP hD hS rfl ?_ dd_M_count_44
    exact Or.inr (Or.inr ⟨c_2, c_7, rfl⟩)
  refine lv_iconst (v := nI 0) hx hb dd_M_count_10 (by decide) ?_
  refine lv_goto (tgt := 15) hx hb dd_M_count_11 (by decide) ?_
  refine va_put (D := D) (ci := 6) (v := .int (nI 0)) (ty := .int) (C := cn_M) (T := cf_M) (N := 13) hx hb hw in_M ty_M to_M nn_M hown hK hP hD hS 0 rfl rfl 0 (by decide) (hw _ wi_537) (fun _ h9 => h9) rfl (by decide +kernel) (rfl) (rfl) (Nat.le_of_ble_eq_true rfl) dd_M_count_15 (fun H locs hP hD hS => ?_)
  have hP : va_P D classes [(q, .inr (6, [.int (nI 0), .ref ta, .ref vb, .int (nI n), .ref ba, .int (nI L.length), .int tk, .ref na, .ref nb, .int pl, .int wr, .int fz, .int fb]))] _ := hP
  have hD : va_D A [(q, .inr (6, [.int (nI 0), .ref ta, .ref vb, .int (nI n), .ref ba, .int (nI L.length), .int tk, .ref na, .ref nb, .int pl, .int wr, .int fz, .int fb]))] := hD
  refine lv_aload_n hx hb dd_M_count_18 rfl (lv_at hl 0 rfl) ?_
  refine va_get (D := D) (ci := 6) (C := cn_M) (T := cf_M) (N := 13) hx hb hw in_M hown hK hP 0 rfl rfl 0 (by decide) (hw _ wi_537) (fun _ h9 => h9) rfl dd_M_count_19 ?_
  refine lv_if_le (tgt := 29) hx hb dd_M_count_22 (by decide) (fun c_22 => ?_) (fun c_22 => ?_)
  · skip
    have c_22 : 0 ≤ 0 := (ct_zle (by omega)).mp c_22
    refine lv_iload_n hx hb dd_M_count_29 rfl (lv_at hl 1 rfl) ?_
    refine lv_if_ne (tgt := 40) hx hb dd_M_count_30 (by decide) (fun c_30 => ?_) (fun c_30 => ?_)
    · skip
      refine lv_aload_n hx hb dd_M_count_40 rfl (lv_at hl 0 rfl) ?_
      refine va_get (D := D) (ci := 6) (C := cn_M) (T := cf_M) (N := 13) hx hb hw in_M hown hK hP 0 rfl rfl 5 (by decide) (hw _ wi_542) (fun _ h9 => h9) rfl dd_M_count_41 ?_
      refine ct_iret (u := nI 0) hx hb hr hlocks hK hP hD hS rfl ?_ dd_M_count_44
      exact Or.inr (Or.inl ⟨c_7, rfl, rfl⟩)
    exfalso
    first | exact c_30 c_2 | exact c_2 c_30
  have c_22 : ¬ (0 ≤ 0) := fun z => c_22 ((ct_zle (by omega)).mpr z)
  exfalso
  omega

set_option maxHeartbeats 4000000 in
set_option maxRecDepth 100000 in
theorem cc_M_time (l : Launch) (D : va_G) (cJ cB : ClassId) (q ta vb ba na nb : Nat) (cd tk pl wr fz fb : Int32) (n : Nat) (L : List Bool) (f : Nat → Int64) (k : Int32) (sz : Nat) (h1 : n ≤ 3000) : ct_l l my_M_time (Cond.code my_M_time mb_M_time 2 (some .long) :: TB) ({ frames := 0, cells := 0, slots := 0, locals := 0 } : Room) D classes cJ cB [.ref q, .int k] [(q, .inr (6, [.int cd, .ref ta, .ref vb, .int (nI n), .ref ba, .int (nI L.length), .int tk, .ref na, .ref nb, .int pl, .int wr, .int fz, .int fb])), (ta, .inl (cJ, 3000, .inr (.inl f)))] sz (fun (r : Int64) (u : Int32) => (∃ j : Nat, j < n ∧ k = nI j ∧ r = f j ∧ u = nI 0) ∨ (¬ cp_ix k n ∧ u = nI 1)) (fun u => [(q, .inr (6, [.int u, .ref ta, .ref vb, .int (nI n), .ref ba, .int (nI L.length), .int tk, .ref na, .ref nb, .int pl, .int wr, .int fz, .int fb])), (ta, .inl (cJ, 3000, .inr (.inl f)))]) 0 0 := by
  refine ct_ofW (cc := mb_M_time) (maxL := 2) (ret := some .long) (by decide) rfl (Nat.le_of_ble_eq_true rfl) ?_
  intro p e s m below meth c hx hb hr hml hts hown hlocks hin hsz hK hP hD hA hS hZ ls hl
  have hw : ∀ w ∈ TB, w.before _ s = true := fun w h => hts w (List.mem_cons_of_mem _ h)
  have hown : s.vm.findClass cn_M = some m.cls := hown
  have hin : meth.name = "time" := hin
  generalize hAe : va_A [(q, .inr (6, [.int cd, .ref ta, .ref vb, .int (nI n), .ref ba, .int (nI L.length), .int tk, .ref na, .ref nb, .int pl, .int wr, .int fz, .int fb])), (ta, .inl (cJ, 3000, .inr (.inl f)))] sz = A at hD hA hS hZ ⊢
  clear hAe
  have hl : lv_has ls 2 [(0, .ref q), (1, .int k)] := hl
  have hP : va_P D classes [(q, .inr (6, [.int cd, .ref ta, .ref vb, .int (nI n), .ref ba, .int (nI L.length), .int tk, .ref na, .ref nb, .int pl, .int wr, .int fz, .int fb])), (ta, .inl (cJ, 3000, .inr (.inl f)))] s.heap := hP
  refine lv_aload_n hx hb dd_M_time_0 rfl (lv_at hl 0 rfl) ?_
  refine lv_iload_n hx hb dd_M_time_1 rfl (lv_at hl 1 rfl) ?_
  refine lv_if_lt (tgt := 13) hx hb dd_M_time_2 (by decide) (fun c_2 => ?_) (fun c_2 => ?_)
  · skip
    refine lv_iconst (v := nI 1) hx hb dd_M_time_13 (by decide) ?_
    refine lv_goto (tgt := 18) hx hb dd_M_time_14 (by decide) ?_
    refine va_put (D := D) (ci := 6) (v := .int (nI 1)) (ty := .int) (C := cn_M) (T := cf_M) (N := 13) hx hb hw in_M ty_M to_M nn_M hown hK hP hD hS 0 rfl rfl 0 (by decide) (hw _ wi_537) (fun _ h9 => h9) rfl (by decide +kernel) (rfl) (rfl) (Nat.le_of_ble_eq_true rfl) dd_M_time_18 (fun H locs hP hD hS => ?_)
    have hP : va_P D classes [(q, .inr (6, [.int (nI 1), .ref ta, .ref vb, .int (nI n), .ref ba, .int (nI L.length), .int tk, .ref na, .ref nb, .int pl, .int wr, .int fz, .int fb])), (ta, .inl (cJ, 3000, .inr (.inl f)))] _ := hP
    have hD : va_D A [(q, .inr (6, [.int (nI 1), .ref ta, .ref vb, .int (nI n), .ref ba, .int (nI L.length), .int tk, .ref na, .ref nb, .int pl, .int wr, .int fz, .int fb])), (ta, .inl (cJ, 3000, .inr (.inl f)))] := hD
    refine lv_aload_n hx hb dd_M_time_21 rfl (lv_at hl 0 rfl) ?_
    refine va_get (D := D) (ci := 6) (C := cn_M) (T := cf_M) (N := 13) hx hb hw in_M hown hK hP 0 rfl rfl 0 (by decide) (hw _ wi_537) (fun _ h9 => h9) rfl dd_M_time_22 ?_
    refine lv_if_le (tgt := 32) hx hb dd_M_time_25 (by decide) (fun c_25 => ?_) (fun c_25 => ?_)
    · skip
      have c_25 : 1 ≤ 0 := (ct_zle (by omega)).mp c_25
      exfalso
      omega
    have c_25 : ¬ (1 ≤ 0) := fun z => c_25 ((ct_zle (by omega)).mpr z)
    refine lv_lconst (v := 0) hx hb dd_M_time_28 (by decide) ?_
    refine lv_goto (tgt := 38) hx hb dd_M_time_29 (by decide) ?_
    refine ct_lret (u := nI 1) hx hb hr hlocks hK hP hD hS rfl ?_ dd_M_time_38
    exact Or.inr ⟨cp_ix_n (by omega) (Or.inl c_2), rfl⟩
  refine lv_iload_n hx hb dd_M_time_5 rfl (lv_at hl 1 rfl) ?_
  refine lv_aload_n hx hb dd_M_time_6 rfl (lv_at hl 0 rfl) ?_
  refine va_get (D := D) (ci := 6) (C := cn_M) (T := cf_M) (N := 13) hx hb hw in_M hown hK hP 0 rfl rfl 3 (by decide) (hw _ wi_540) (fun _ h9 => h9) rfl dd_M_time_7 ?_
  refine lv_icmp_lt (tgt := 17) hx hb dd_M_time_10 (by decide) (fun c_10 => ?_) (fun c_10 => ?_)
  · skip
    obtain ⟨j, hj, hkj⟩ := cp_ix_of (by omega) c_2 c_10
    subst hkj
    refine lv_iconst (v := nI 0) hx hb dd_M_time_17 (by decide) ?_
    refine va_put (D := D) (ci := 6) (v := .int (nI 0)) (ty := .int) (C := cn_M) (T := cf_M) (N := 13) hx hb hw in_M ty_M to_M nn_M hown hK hP hD hS 0 rfl rfl 0 (by decide) (hw _ wi_537) (fun _ h9 => h9) rfl (by decide +kernel) (rfl) (rfl) (Nat.le_of_ble_eq_true rfl) dd_M_time_18 (fun H locs hP hD hS => ?_)
    have hP : va_P D classes [(q, .inr (6, [.int (nI 0), .ref ta, .ref vb, .int (nI n), .ref ba, .int (nI L.length), .int tk, .ref na, .ref nb, .int pl, .int wr, .int fz, .int fb])), (ta, .inl (cJ, 3000, .inr (.inl f)))] _ := hP
    have hD : va_D A [(q, .inr (6, [.int (nI 0), .ref ta, .ref vb, .int (nI n), .ref ba, .int (nI L.length), .int tk, .ref na, .ref nb, .int pl, .int wr, .int fz, .int fb])), (ta, .inl (cJ, 3000, .inr (.inl f)))] := hD
    refine lv_aload_n hx hb dd_M_time_21 rfl (lv_at hl 0 rfl) ?_
    refine va_get (D := D) (ci := 6) (C := cn_M) (T := cf_M) (N := 13) hx hb hw in_M hown hK hP 0 rfl rfl 0 (by decide) (hw _ wi_537) (fun _ h9 => h9) rfl dd_M_time_22 ?_
    refine lv_if_le (tgt := 32) hx hb dd_M_time_25 (by decide) (fun c_25 => ?_) (fun c_25 => ?_)
    · skip
      have c_25 : 0 ≤ 0 := (ct_zle (by omega)).mp c_25
      refine lv_aload_n hx hb dd_M_time_32 rfl (lv_at hl 0 rfl) ?_
      refine va_get (D := D) (ci := 6) (C := cn_M) (T := cf_M) (N := 13) hx hb hw in_M hown hK hP 0 rfl rfl 1 (by decide) (hw _ wi_538) (fun _ h9 => h9) rfl dd_M_time_33 ?_
      refine lv_iload_n hx hb dd_M_time_36 rfl (lv_at hl 1 rfl) ?_
      refine va_lald hx hb hK hP 1 0 rfl rfl (vp_in_nI (by omega) (by omega)) dd_M_time_37 ?_
      refine ct_topl (y := f j) (by rw [nI_clamp (by omega)]) ?_
      refine ct_lret (u := nI 0) hx hb hr hlocks hK hP hD hS rfl ?_ dd_M_time_38
      exact Or.inl ⟨j, hj, rfl, rfl, rfl⟩
    have c_25 : ¬ (0 ≤ 0) := fun z => c_25 ((ct_zle (by omega)).mpr z)
    exfalso
    omega
  refine lv_iconst (v := nI 1) hx hb dd_M_time_13 (by decide) ?_
  refine lv_goto (tgt := 18) hx hb dd_M_time_14 (by decide) ?_
  refine va_put (D := D) (ci := 6) (v := .int (nI 1)) (ty := .int) (C := cn_M) (T := cf_M) (N := 13) hx hb hw in_M ty_M to_M nn_M hown hK hP hD hS 0 rfl rfl 0 (by decide) (hw _ wi_537) (fun _ h9 => h9) rfl (by decide +kernel) (rfl) (rfl) (Nat.le_of_ble_eq_true rfl) dd_M_time_18 (fun H locs hP hD hS => ?_)
  have hP : va_P D classes [(q, .inr (6, [.int (nI 1), .ref ta, .ref vb, .int (nI n), .ref ba, .int (nI L.length), .int tk, .ref na, .ref nb, .int pl, .int wr, .int fz, .int fb])), (ta, .inl (cJ, 3000, .inr (.inl f)))] _ := hP
  have hD : va_D A [(q, .inr (6, [.int (nI 1), .ref ta, .ref vb, .int (nI n), .ref ba, .int (nI L.length), .int tk, .ref na, .ref nb, .int pl, .int wr, .int fz, .int fb])), (ta, .inl (cJ, 3000, .inr (.inl f)))] := hD
  refine lv_aload_n hx hb dd_M_time_21 rfl (lv_at hl 0 rfl) ?_
  refine va_get (D := D) (ci := 6) (C := cn_M) (T := cf_M) (N := 13) hx hb hw in_M hown hK hP 0 rfl rfl 0 (by decide) (hw _ wi_537) (fun _ h9 => h9) rfl dd_M_time_22 ?_
  refine lv_if_le (tgt := 32) hx hb dd_M_time_25 (by decide) (fun c_25 => ?_) (fun c_25 => ?_)
  · skip
    have c_25 : 1 ≤ 0 := (ct_zle (by omega)).mp c_25
    exfalso
    omega
  have c_25 : ¬ (1 ≤ 0) := fun z => c_25 ((ct_zle (by omega)).mpr z)
  refine lv_lconst (v := 0) hx hb dd_M_time_28 (by decide) ?_
  refine lv_goto (tgt := 38) hx hb dd_M_time_29 (by decide) ?_
  refine ct_lret (u := nI 1) hx hb hr hlocks hK hP hD hS rfl ?_ dd_M_time_38
  exact Or.inr ⟨cp_ix_n (by omega) (Or.inr c_10), rfl⟩

set_option maxHeartbeats 4000000 in
set_option maxRecDepth 100000 in
theorem cc_M_value (l : Launch) (D : va_G) (cJ cB : ClassId) (q ta vb ba na nb : Nat) (cd tk pl wr fz fb : Int32) (n : Nat) (L : List Bool) (g : Nat → Int64) (k : Int32) (sz : Nat) (h1 : n ≤ 3000) : ct_l l my_M_value (Cond.code my_M_value mb_M_value 2 (some .long) :: TB) ({ frames := 0, cells := 0, slots := 0, locals := 0 } : Room) D classes cJ cB [.ref q, .int k] [(q, .inr (6, [.int cd, .ref ta, .ref vb, .int (nI n), .ref ba, .int (nI L.length), .int tk, .ref na, .ref nb, .int pl, .int wr, .int fz, .int fb])), (vb, .inl (cJ, 3000, .inr (.inl g)))] sz (fun (r : Int64) (u : Int32) => (∃ j : Nat, j < n ∧ k = nI j ∧ r = g j ∧ u = nI 0) ∨ (¬ cp_ix k n ∧ u = nI 1)) (fun u => [(q, .inr (6, [.int u, .ref ta, .ref vb, .int (nI n), .ref ba, .int (nI L.length), .int tk, .ref na, .ref nb, .int pl, .int wr, .int fz, .int fb])), (vb, .inl (cJ, 3000, .inr (.inl g)))]) 0 0 := by
  refine ct_ofW (cc := mb_M_value) (maxL := 2) (ret := some .long) (by decide) rfl (Nat.le_of_ble_eq_true rfl) ?_
  intro p e s m below meth c hx hb hr hml hts hown hlocks hin hsz hK hP hD hA hS hZ ls hl
  have hw : ∀ w ∈ TB, w.before _ s = true := fun w h => hts w (List.mem_cons_of_mem _ h)
  have hown : s.vm.findClass cn_M = some m.cls := hown
  have hin : meth.name = "value" := hin
  generalize hAe : va_A [(q, .inr (6, [.int cd, .ref ta, .ref vb, .int (nI n), .ref ba, .int (nI L.length), .int tk, .ref na, .ref nb, .int pl, .int wr, .int fz, .int fb])), (vb, .inl (cJ, 3000, .inr (.inl g)))] sz = A at hD hA hS hZ ⊢
  clear hAe
  have hl : lv_has ls 2 [(0, .ref q), (1, .int k)] := hl
  have hP : va_P D classes [(q, .inr (6, [.int cd, .ref ta, .ref vb, .int (nI n), .ref ba, .int (nI L.length), .int tk, .ref na, .ref nb, .int pl, .int wr, .int fz, .int fb])), (vb, .inl (cJ, 3000, .inr (.inl g)))] s.heap := hP
  refine lv_aload_n hx hb dd_M_value_0 rfl (lv_at hl 0 rfl) ?_
  refine lv_iload_n hx hb dd_M_value_1 rfl (lv_at hl 1 rfl) ?_
  refine lv_if_lt (tgt := 13) hx hb dd_M_value_2 (by decide) (fun c_2 => ?_) (fun c_2 => ?_)
  · skip
    refine lv_iconst (v := nI 1) hx hb dd_M_value_13 (by decide) ?_
    refine lv_goto (tgt := 18) hx hb dd_M_value_14 (by decide) ?_
    refine va_put (D := D) (ci := 6) (v := .int (nI 1)) (ty := .int) (C := cn_M) (T := cf_M) (N := 13) hx hb hw in_M ty_M to_M nn_M hown hK hP hD hS 0 rfl rfl 0 (by decide) (hw _ wi_537) (fun _ h9 => h9) rfl (by decide +kernel) (rfl) (rfl) (Nat.le_of_ble_eq_true rfl) dd_M_value_18 (fun H locs hP hD hS => ?_)
    have hP : va_P D classes [(q, .inr (6, [.int (nI 1), .ref ta, .ref vb, .int (nI n), .ref ba, .int (nI L.length), .int tk, .ref na, .ref nb, .int pl, .int wr, .int fz, .int fb])), (vb, .inl (cJ, 3000, .inr (.inl g)))] _ := hP
    have hD : va_D A [(q, .inr (6, [.int (nI 1), .ref ta, .ref vb, .int (nI n), .ref ba, .int (nI L.length), .int tk, .ref na, .ref nb, .int pl, .int wr, .int fz, .int fb])), (vb, .inl (cJ, 3000, .inr (.inl g)))] := hD
    refine lv_aload_n hx hb dd_M_value_21 rfl (lv_at hl 0 rfl) ?_
    refine va_get (D := D) (ci := 6) (C := cn_M) (T := cf_M) (N := 13) hx hb hw in_M hown hK hP 0 rfl rfl 0 (by decide) (hw _ wi_537) (fun _ h9 => h9) rfl dd_M_value_22 ?_
    refine lv_if_le (tgt := 32) hx hb dd_M_value_25 (by decide) (fun c_25 => ?_) (fun c_25 => ?_)
    · skip
      have c_25 : 1 ≤ 0 := (ct_zle (by omega)).mp c_25
      exfalso
      omega
    have c_25 : ¬ (1 ≤ 0) := fun z => c_25 ((ct_zle (by omega)).mpr z)
    refine lv_lconst (v := 0) hx hb dd_M_value_28 (by decide) ?_
    refine lv_goto (tgt := 38) hx hb dd_M_value_29 (by decide) ?_
    refine ct_lret (u := nI 1) hx hb hr hlocks hK hP hD hS rfl ?_ dd_M_value_38
    exact Or.inr ⟨cp_ix_n (by omega) (Or.inl c_2), rfl⟩
  refine lv_iload_n hx hb dd_M_value_5 rfl (lv_at hl 1 rfl) ?_
  refine lv_aload_n hx hb dd_M_value_6 rfl (lv_at hl 0 rfl) ?_
  refine va_get (D := D) (ci := 6) (C := cn_M) (T := cf_M) (N := 13) hx hb hw in_M hown hK hP 0 rfl rfl 3 (by decide) (hw _ wi_540) (fun _ h9 => h9) rfl dd_M_value_7 ?_
  refine lv_icmp_lt (tgt := 17) hx hb dd_M_value_10 (by decide) (fun c_10 => ?_) (fun c_10 => ?_)
  · skip
    obtain ⟨j, hj, hkj⟩ := cp_ix_of (by omega) c_2 c_10
    subst hkj
    refine lv_iconst (v := nI 0) hx hb dd_M_value_17 (by decide) ?_
    refine va_put (D := D) (ci := 6) (v := .int (nI 0)) (ty := .int) (C := cn_M) (T := cf_M) (N := 13) hx hb hw in_M ty_M to_M nn_M hown hK hP hD hS 0 rfl rfl 0 (by decide) (hw _ wi_537) (fun _ h9 => h9) rfl (by decide +kernel) (rfl) (rfl) (Nat.le_of_ble_eq_true rfl) dd_M_value_18 (fun H locs hP hD hS => ?_)
    have hP : va_P D classes [(q, .inr (6, [.int (nI 0), .ref ta, .ref vb, .int (nI n), .ref ba, .int (nI L.length), .int tk, .ref na, .ref nb, .int pl, .int wr, .int fz, .int fb])), (vb, .inl (cJ, 3000, .inr (.inl g)))] _ := hP
    have hD : va_D A [(q, .inr (6, [.int (nI 0), .ref ta, .ref vb, .int (nI n), .ref ba, .int (nI L.length), .int tk, .ref na, .ref nb, .int pl, .int wr, .int fz, .int fb])), (vb, .inl (cJ, 3000, .inr (.inl g)))] := hD
    refine lv_aload_n hx hb dd_M_value_21 rfl (lv_at hl 0 rfl) ?_
    refine va_get (D := D) (ci := 6) (C := cn_M) (T := cf_M) (N := 13) hx hb hw in_M hown hK hP 0 rfl rfl 0 (by decide) (hw _ wi_537) (fun _ h9 => h9) rfl dd_M_value_22 ?_
    refine lv_if_le (tgt := 32) hx hb dd_M_value_25 (by decide) (fun c_25 => ?_) (fun c_25 => ?_)
    · skip
      have c_25 : 0 ≤ 0 := (ct_zle (by omega)).mp c_25
      refine lv_aload_n hx hb dd_M_value_32 rfl (lv_at hl 0 rfl) ?_
      refine va_get (D := D) (ci := 6) (C := cn_M) (T := cf_M) (N := 13) hx hb hw in_M hown hK hP 0 rfl rfl 2 (by decide) (hw _ wi_539) (fun _ h9 => h9) rfl dd_M_value_33 ?_
      refine lv_iload_n hx hb dd_M_value_36 rfl (lv_at hl 1 rfl) ?_
      refine va_lald hx hb hK hP 1 0 rfl rfl (vp_in_nI (by omega) (by omega)) dd_M_value_37 ?_
      refine ct_topl (y := g j) (by rw [nI_clamp (by omega)]) ?_
      refine ct_lret (u := nI 0) hx hb hr hlocks hK hP hD hS rfl ?_ dd_M_value_38
      exact Or.inl ⟨j, hj, rfl, rfl, rfl⟩
    have c_25 : ¬ (0 ≤ 0) := fun z => c_25 ((ct_zle (by omega)).mpr z)
    exfalso
    omega
  refine lv_iconst (v := nI 1) hx hb dd_M_value_13 (by decide) ?_
  refine lv_goto (tgt := 18) hx hb dd_M_value_14 (by decide) ?_
  refine va_put (D := D) (ci := 6) (v := .int (nI 1)) (ty := .int) (C := cn_M) (T := cf_M) (N := 13) hx hb hw in_M ty_M to_M nn_M hown hK hP hD hS 0 rfl rfl 0 (by decide) (hw _ wi_537) (fun _ h9 => h9) rfl (by decide +kernel) (rfl) (rfl) (Nat.le_of_ble_eq_true rfl) dd_M_value_18 (fun H locs hP hD hS => ?_)
  have hP : va_P D classes [(q, .inr (6, [.int (nI 1), .ref ta, .ref vb, .int (nI n), .ref ba, .int (nI L.length), .int tk, .ref na, .ref nb, .int pl, .int wr, .int fz, .int fb])), (vb, .inl (cJ, 3000, .inr (.inl g)))] _ := hP
  have hD : va_D A [(q, .inr (6, [.int (nI 1), .ref ta, .ref vb, .int (nI n), .ref ba, .int (nI L.length), .int tk, .ref na, .ref nb, .int pl, .int wr, .int fz, .int fb])), (vb, .inl (cJ, 3000, .inr (.inl g)))] := hD
  refine lv_aload_n hx hb dd_M_value_21 rfl (lv_at hl 0 rfl) ?_
  refine va_get (D := D) (ci := 6) (C := cn_M) (T := cf_M) (N := 13) hx hb hw in_M hown hK hP 0 rfl rfl 0 (by decide) (hw _ wi_537) (fun _ h9 => h9) rfl dd_M_value_22 ?_
  refine lv_if_le (tgt := 32) hx hb dd_M_value_25 (by decide) (fun c_25 => ?_) (fun c_25 => ?_)
  · skip
    have c_25 : 1 ≤ 0 := (ct_zle (by omega)).mp c_25
    exfalso
    omega
  have c_25 : ¬ (1 ≤ 0) := fun z => c_25 ((ct_zle (by omega)).mpr z)
  refine lv_lconst (v := 0) hx hb dd_M_value_28 (by decide) ?_
  refine lv_goto (tgt := 38) hx hb dd_M_value_29 (by decide) ?_
  refine ct_lret (u := nI 1) hx hb hr hlocks hK hP hD hS rfl ?_ dd_M_value_38
  exact Or.inr ⟨cp_ix_n (by omega) (Or.inr c_10), rfl⟩

set_option maxHeartbeats 4000000 in
set_option maxRecDepth 100000 in
theorem cc_M_bit (l : Launch) (D : va_G) (cJ cB : ClassId) (q ta vb ba na nb : Nat) (cd tk pl wr fz fb : Int32) (n : Nat) (L : List Bool) (by0 : Nat → Int32) (k : Int32) (sz : Nat) (hL : L.length ≤ 400000) (hB : cp_Rb by0 L) : ct_i l my_M_bit (Cond.code my_M_bit mb_M_bit 2 (some .boolean) :: TB) ({ frames := 0, cells := 0, slots := 0, locals := 0 } : Room) D classes cJ cB [.ref q, .int k] [(q, .inr (6, [.int cd, .ref ta, .ref vb, .int (nI n), .ref ba, .int (nI L.length), .int tk, .ref na, .ref nb, .int pl, .int wr, .int fz, .int fb])), (ba, .inl (cB, 400000, .inl by0))] sz (fun (r : Int32) (u : Int32) => (∃ j : Nat, j < L.length ∧ k = nI j ∧ r = bI (cp_g L j = true) ∧ u = nI 0) ∨ (¬ cp_ix k L.length ∧ u = nI 1)) (fun u => [(q, .inr (6, [.int u, .ref ta, .ref vb, .int (nI n), .ref ba, .int (nI L.length), .int tk, .ref na, .ref nb, .int pl, .int wr, .int fz, .int fb])), (ba, .inl (cB, 400000, .inl by0))]) 0 0 := by
  refine ct_ofW (cc := mb_M_bit) (maxL := 2) (ret := some .boolean) (by decide) rfl (Nat.le_of_ble_eq_true rfl) ?_
  intro p e s m below meth c hx hb hr hml hts hown hlocks hin hsz hK hP hD hA hS hZ ls hl
  have hw : ∀ w ∈ TB, w.before _ s = true := fun w h => hts w (List.mem_cons_of_mem _ h)
  have hown : s.vm.findClass cn_M = some m.cls := hown
  have hin : meth.name = "bit" := hin
  generalize hAe : va_A [(q, .inr (6, [.int cd, .ref ta, .ref vb, .int (nI n), .ref ba, .int (nI L.length), .int tk, .ref na, .ref nb, .int pl, .int wr, .int fz, .int fb])), (ba, .inl (cB, 400000, .inl by0))] sz = A at hD hA hS hZ ⊢
  clear hAe
  have hl : lv_has ls 2 [(0, .ref q), (1, .int k)] := hl
  have hP : va_P D classes [(q, .inr (6, [.int cd, .ref ta, .ref vb, .int (nI n), .ref ba, .int (nI L.length), .int tk, .ref na, .ref nb, .int pl, .int wr, .int fz, .int fb])), (ba, .inl (cB, 400000, .inl by0))] s.heap := hP
  refine lv_aload_n hx hb dd_M_bit_0 rfl (lv_at hl 0 rfl) ?_
  refine lv_iload_n hx hb dd_M_bit_1 rfl (lv_at hl 1 rfl) ?_
  refine lv_if_lt (tgt := 13) hx hb dd_M_bit_2 (by decide) (fun c_2 => ?_) (fun c_2 => ?_)
  · skip
    refine lv_iconst (v := nI 1) hx hb dd_M_bit_13 (by decide) ?_
    refine lv_goto (tgt := 18) hx hb dd_M_bit_14 (by decide) ?_
    refine va_put (D := D) (ci := 6) (v := .int (nI 1)) (ty := .int) (C := cn_M) (T := cf_M) (N := 13) hx hb hw in_M ty_M to_M nn_M hown hK hP hD hS 0 rfl rfl 0 (by decide) (hw _ wi_537) (fun _ h9 => h9) rfl (by decide +kernel) (rfl) (rfl) (Nat.le_of_ble_eq_true rfl) dd_M_bit_18 (fun H locs hP hD hS => ?_)
    have hP : va_P D classes [(q, .inr (6, [.int (nI 1), .ref ta, .ref vb, .int (nI n), .ref ba, .int (nI L.length), .int tk, .ref na, .ref nb, .int pl, .int wr, .int fz, .int fb])), (ba, .inl (cB, 400000, .inl by0))] _ := hP
    have hD : va_D A [(q, .inr (6, [.int (nI 1), .ref ta, .ref vb, .int (nI n), .ref ba, .int (nI L.length), .int tk, .ref na, .ref nb, .int pl, .int wr, .int fz, .int fb])), (ba, .inl (cB, 400000, .inl by0))] := hD
    refine lv_aload_n hx hb dd_M_bit_21 rfl (lv_at hl 0 rfl) ?_
    refine va_get (D := D) (ci := 6) (C := cn_M) (T := cf_M) (N := 13) hx hb hw in_M hown hK hP 0 rfl rfl 0 (by decide) (hw _ wi_537) (fun _ h9 => h9) rfl dd_M_bit_22 ?_
    refine lv_if_ne (tgt := 42) hx hb dd_M_bit_25 (by decide) (fun c_25 => ?_) (fun c_25 => ?_)
    · skip
      have c_25 : ¬ (1 = 0) := fun z => c_25 ((ct_zeq (by omega)).mpr z)
      refine lv_iconst (v := nI 0) hx hb dd_M_bit_42 (by decide) ?_
      refine ct_zret (u := nI 1) hx hb hr hlocks (by decide) hK hP hD hS rfl ?_ dd_M_bit_43
      exact Or.inr ⟨cp_ix_n (by omega) (Or.inl c_2), rfl⟩
    have c_25 : 1 = 0 := (ct_zeq (by omega)).mp c_25
    exfalso
    omega
  refine lv_iload_n hx hb dd_M_bit_5 rfl (lv_at hl 1 rfl) ?_
  refine lv_aload_n hx hb dd_M_bit_6 rfl (lv_at hl 0 rfl) ?_
  refine va_get (D := D) (ci := 6) (C := cn_M) (T := cf_M) (N := 13) hx hb hw in_M hown hK hP 0 rfl rfl 5 (by decide) (hw _ wi_542) (fun _ h9 => h9) rfl dd_M_bit_7 ?_
  refine lv_icmp_lt (tgt := 17) hx hb dd_M_bit_10 (by decide) (fun c_10 => ?_) (fun c_10 => ?_)
  · skip
    obtain ⟨j, hj, hkj⟩ := cp_ix_of (by omega) c_2 c_10
    subst hkj
    refine lv_iconst (v := nI 0) hx hb dd_M_bit_17 (by decide) ?_
    refine va_put (D := D) (ci := 6) (v := .int (nI 0)) (ty := .int) (C := cn_M) (T := cf_M) (N := 13) hx hb hw in_M ty_M to_M nn_M hown hK hP hD hS 0 rfl rfl 0 (by decide) (hw _ wi_537) (fun _ h9 => h9) rfl (by decide +kernel) (rfl) (rfl) (Nat.le_of_ble_eq_true rfl) dd_M_bit_18 (fun H locs hP hD hS => ?_)
    have hP : va_P D classes [(q, .inr (6, [.int (nI 0), .ref ta, .ref vb, .int (nI n), .ref ba, .int (nI L.length), .int tk, .ref na, .ref nb, .int pl, .int wr, .int fz, .int fb])), (ba, .inl (cB, 400000, .inl by0))] _ := hP
    have hD : va_D A [(q, .inr (6, [.int (nI 0), .ref ta, .ref vb, .int (nI n), .ref ba, .int (nI L.length), .int tk, .ref na, .ref nb, .int pl, .int wr, .int fz, .int fb])), (ba, .inl (cB, 400000, .inl by0))] := hD
    refine lv_aload_n hx hb dd_M_bit_21 rfl (lv_at hl 0 rfl) ?_
    refine va_get (D := D) (ci := 6) (C := cn_M) (T := cf_M) (N := 13) hx hb hw in_M hown hK hP 0 rfl rfl 0 (by decide) (hw _ wi_537) (fun _ h9 => h9) rfl dd_M_bit_22 ?_
    refine lv_if_ne (tgt := 42) hx hb dd_M_bit_25 (by decide) (fun c_25 => ?_) (fun c_25 => ?_)
    · skip
      have c_25 : ¬ (0 = 0) := fun z => c_25 ((ct_zeq (by omega)).mpr z)
      exfalso
      omega
    have c_25 : 0 = 0 := (ct_zeq (by omega)).mp c_25
    refine lv_aload_n hx hb dd_M_bit_28 rfl (lv_at hl 0 rfl) ?_
    refine va_get (D := D) (ci := 6) (C := cn_M) (T := cf_M) (N := 13) hx hb hw in_M hown hK hP 0 rfl rfl 4 (by decide) (hw _ wi_541) (fun _ h9 => h9) rfl dd_M_bit_29 ?_
    refine lv_iload_n hx hb dd_M_bit_32 rfl (lv_at hl 1 rfl) ?_
    refine va_bald hx hb hK hP 1 1 rfl rfl (vp_in_nI (by omega) (by omega)) dd_M_bit_33 ?_
    refine ct_topi (y := by0 j) (by rw [nI_clamp (by omega)]) ?_
    refine lv_iconst (v := nI 1) hx hb dd_M_bit_34 (by decide) ?_
    refine lv_icmp_ne (tgt := 42) hx hb dd_M_bit_35 (by decide) (fun c_35 => ?_) (fun c_35 => ?_)
    · skip
      have c_35 : ¬ (by0 j = nI 1) := fun z => c_35 (Iff.rfl.mpr z)
      refine lv_iconst (v := nI 0) hx hb dd_M_bit_42 (by decide) ?_
      refine ct_zret (u := nI 0) hx hb hr hlocks (by decide) hK hP hD hS rfl ?_ dd_M_bit_43
      exact Or.inl ⟨j, hj, rfl, bI_f (fun z => c_35 ((rb_1 hB hj).mpr z)), rfl⟩
    have c_35 : by0 j = nI 1 := Iff.rfl.mp c_35
    refine lv_iconst (v := nI 1) hx hb dd_M_bit_38 (by decide) ?_
    refine lv_goto (tgt := 43) hx hb dd_M_bit_39 (by decide) ?_
    refine ct_zret (u := nI 0) hx hb hr hlocks (by decide) hK hP hD hS rfl ?_ dd_M_bit_43
    exact Or.inl ⟨j, hj, rfl, bI_t ((rb_1 hB hj).mp c_35), rfl⟩
  refine lv_iconst (v := nI 1) hx hb dd_M_bit_13 (by decide) ?_
  refine lv_goto (tgt := 18) hx hb dd_M_bit_14 (by decide) ?_
  refine va_put (D := D) (ci := 6) (v := .int (nI 1)) (ty := .int) (C := cn_M) (T := cf_M) (N := 13) hx hb hw in_M ty_M to_M nn_M hown hK hP hD hS 0 rfl rfl 0 (by decide) (hw _ wi_537) (fun _ h9 => h9) rfl (by decide +kernel) (rfl) (rfl) (Nat.le_of_ble_eq_true rfl) dd_M_bit_18 (fun H locs hP hD hS => ?_)
  have hP : va_P D classes [(q, .inr (6, [.int (nI 1), .ref ta, .ref vb, .int (nI n), .ref ba, .int (nI L.length), .int tk, .ref na, .ref nb, .int pl, .int wr, .int fz, .int fb])), (ba, .inl (cB, 400000, .inl by0))] _ := hP
  have hD : va_D A [(q, .inr (6, [.int (nI 1), .ref ta, .ref vb, .int (nI n), .ref ba, .int (nI L.length), .int tk, .ref na, .ref nb, .int pl, .int wr, .int fz, .int fb])), (ba, .inl (cB, 400000, .inl by0))] := hD
  refine lv_aload_n hx hb dd_M_bit_21 rfl (lv_at hl 0 rfl) ?_
  refine va_get (D := D) (ci := 6) (C := cn_M) (T := cf_M) (N := 13) hx hb hw in_M hown hK hP 0 rfl rfl 0 (by decide) (hw _ wi_537) (fun _ h9 => h9) rfl dd_M_bit_22 ?_
  refine lv_if_ne (tgt := 42) hx hb dd_M_bit_25 (by decide) (fun c_25 => ?_) (fun c_25 => ?_)
  · skip
    have c_25 : ¬ (1 = 0) := fun z => c_25 ((ct_zeq (by omega)).mpr z)
    refine lv_iconst (v := nI 0) hx hb dd_M_bit_42 (by decide) ?_
    refine ct_zret (u := nI 1) hx hb hr hlocks (by decide) hK hP hD hS rfl ?_ dd_M_bit_43
    exact Or.inr ⟨cp_ix_n (by omega) (Or.inr c_10), rfl⟩
  have c_25 : 1 = 0 := (ct_zeq (by omega)).mp c_25
  exfalso
  omega

set_option maxHeartbeats 4000000 in
set_option maxRecDepth 100000 in
theorem cc_M_flip (l : Launch) (D : va_G) (cJ cB : ClassId) (q ta vb ba na nb : Nat) (cd tk pl wr fz fb : Int32) (n : Nat) (L : List Bool) (by0 : Nat → Int32) (k : Int32) (sz : Nat) (hL : L.length ≤ 400000) (hB : cp_Rb by0 L) : ct_v l my_M_flip (Cond.code my_M_flip mb_M_flip 2 none :: TB) ({ frames := 0, cells := 0, slots := 0, locals := 0 } : Room) D classes cJ cB [.ref q, .int k] [(q, .inr (6, [.int cd, .ref ta, .ref vb, .int (nI n), .ref ba, .int (nI L.length), .int tk, .ref na, .ref nb, .int pl, .int wr, .int fz, .int fb])), (ba, .inl (cB, 400000, .inl by0))] sz (fun (u : (Nat → Int32) × Int32) => (∃ j : Nat, j < L.length ∧ k = nI j ∧ cp_Rb u.1 (L.set j (!cp_g L j)) ∧ u.2 = nI 0) ∨ (¬ cp_ix k L.length ∧ u = (by0, nI 1))) (fun u => [(q, .inr (6, [.int u.2, .ref ta, .ref vb, .int (nI n), .ref ba, .int (nI L.length), .int tk, .ref na, .ref nb, .int pl, .int wr, .int fz, .int fb])), (ba, .inl (cB, 400000, .inl u.1))]) 0 0 := by
  refine ct_ofW (cc := mb_M_flip) (maxL := 2) (ret := none) (by decide) rfl (Nat.le_of_ble_eq_true rfl) ?_
  intro p e s m below meth c hx hb hr hml hts hown hlocks hin hsz hK hP hD hA hS hZ ls hl
  have hw : ∀ w ∈ TB, w.before _ s = true := fun w h => hts w (List.mem_cons_of_mem _ h)
  have hown : s.vm.findClass cn_M = some m.cls := hown
  have hin : meth.name = "flip" := hin
  generalize hAe : va_A [(q, .inr (6, [.int cd, .ref ta, .ref vb, .int (nI n), .ref ba, .int (nI L.length), .int tk, .ref na, .ref nb, .int pl, .int wr, .int fz, .int fb])), (ba, .inl (cB, 400000, .inl by0))] sz = A at hD hA hS hZ ⊢
  clear hAe
  have hl : lv_has ls 2 [(0, .ref q), (1, .int k)] := hl
  have hP : va_P D classes [(q, .inr (6, [.int cd, .ref ta, .ref vb, .int (nI n), .ref ba, .int (nI L.length), .int tk, .ref na, .ref nb, .int pl, .int wr, .int fz, .int fb])), (ba, .inl (cB, 400000, .inl by0))] s.heap := hP
  refine lv_aload_n hx hb dd_M_flip_0 rfl (lv_at hl 0 rfl) ?_
  refine lv_iload_n hx hb dd_M_flip_1 rfl (lv_at hl 1 rfl) ?_
  refine lv_if_lt (tgt := 13) hx hb dd_M_flip_2 (by decide) (fun c_2 => ?_) (fun c_2 => ?_)
  · skip
    refine lv_iconst (v := nI 1) hx hb dd_M_flip_13 (by decide) ?_
    refine lv_goto (tgt := 18) hx hb dd_M_flip_14 (by decide) ?_
    refine va_put (D := D) (ci := 6) (v := .int (nI 1)) (ty := .int) (C := cn_M) (T := cf_M) (N := 13) hx hb hw in_M ty_M to_M nn_M hown hK hP hD hS 0 rfl rfl 0 (by decide) (hw _ wi_537) (fun _ h9 => h9) rfl (by decide +kernel) (rfl) (rfl) (Nat.le_of_ble_eq_true rfl) dd_M_flip_18 (fun H locs hP hD hS => ?_)
    have hP : va_P D classes [(q, .inr (6, [.int (nI 1), .ref ta, .ref vb, .int (nI n), .ref ba, .int (nI L.length), .int tk, .ref na, .ref nb, .int pl, .int wr, .int fz, .int fb])), (ba, .inl (cB, 400000, .inl by0))] _ := hP
    have hD : va_D A [(q, .inr (6, [.int (nI 1), .ref ta, .ref vb, .int (nI n), .ref ba, .int (nI L.length), .int tk, .ref na, .ref nb, .int pl, .int wr, .int fz, .int fb])), (ba, .inl (cB, 400000, .inl by0))] := hD
    refine lv_aload_n hx hb dd_M_flip_21 rfl (lv_at hl 0 rfl) ?_
    refine va_get (D := D) (ci := 6) (C := cn_M) (T := cf_M) (N := 13) hx hb hw in_M hown hK hP 0 rfl rfl 0 (by decide) (hw _ wi_537) (fun _ h9 => h9) rfl dd_M_flip_22 ?_
    refine lv_if_ne (tgt := 43) hx hb dd_M_flip_25 (by decide) (fun c_25 => ?_) (fun c_25 => ?_)
    · skip
      have c_25 : ¬ (1 = 0) := fun z => c_25 ((ct_zeq (by omega)).mpr z)
      refine ct_vret (u := (by0, nI 1)) hx hb hr hlocks hK hP hD hS rfl ?_ dd_M_flip_43
      exact Or.inr ⟨cp_ix_n (by omega) (Or.inl c_2), rfl⟩
    have c_25 : 1 = 0 := (ct_zeq (by omega)).mp c_25
    exfalso
    omega
  refine lv_iload_n hx hb dd_M_flip_5 rfl (lv_at hl 1 rfl) ?_
  refine lv_aload_n hx hb dd_M_flip_6 rfl (lv_at hl 0 rfl) ?_
  refine va_get (D := D) (ci := 6) (C := cn_M) (T := cf_M) (N := 13) hx hb hw in_M hown hK hP 0 rfl rfl 5 (by decide) (hw _ wi_542) (fun _ h9 => h9) rfl dd_M_flip_7 ?_
  refine lv_icmp_lt (tgt := 17) hx hb dd_M_flip_10 (by decide) (fun c_10 => ?_) (fun c_10 => ?_)
  · skip
    obtain ⟨j, hj, hkj⟩ := cp_ix_of (by omega) c_2 c_10
    subst hkj
    refine lv_iconst (v := nI 0) hx hb dd_M_flip_17 (by decide) ?_
    refine va_put (D := D) (ci := 6) (v := .int (nI 0)) (ty := .int) (C := cn_M) (T := cf_M) (N := 13) hx hb hw in_M ty_M to_M nn_M hown hK hP hD hS 0 rfl rfl 0 (by decide) (hw _ wi_537) (fun _ h9 => h9) rfl (by decide +kernel) (rfl) (rfl) (Nat.le_of_ble_eq_true rfl) dd_M_flip_18 (fun H locs hP hD hS => ?_)
    have hP : va_P D classes [(q, .inr (6, [.int (nI 0), .ref ta, .ref vb, .int (nI n), .ref ba, .int (nI L.length), .int tk, .ref na, .ref nb, .int pl, .int wr, .int fz, .int fb])), (ba, .inl (cB, 400000, .inl by0))] _ := hP
    have hD : va_D A [(q, .inr (6, [.int (nI 0), .ref ta, .ref vb, .int (nI n), .ref ba, .int (nI L.length), .int tk, .ref na, .ref nb, .int pl, .int wr, .int fz, .int fb])), (ba, .inl (cB, 400000, .inl by0))] := hD
    refine lv_aload_n hx hb dd_M_flip_21 rfl (lv_at hl 0 rfl) ?_
    refine va_get (D := D) (ci := 6) (C := cn_M) (T := cf_M) (N := 13) hx hb hw in_M hown hK hP 0 rfl rfl 0 (by decide) (hw _ wi_537) (fun _ h9 => h9) rfl dd_M_flip_22 ?_
    refine lv_if_ne (tgt := 43) hx hb dd_M_flip_25 (by decide) (fun c_25 => ?_) (fun c_25 => ?_)
    · skip
      have c_25 : ¬ (0 = 0) := fun z => c_25 ((ct_zeq (by omega)).mpr z)
      exfalso
      omega
    have c_25 : 0 = 0 := (ct_zeq (by omega)).mp c_25
    refine lv_aload_n hx hb dd_M_flip_28 rfl (lv_at hl 0 rfl) ?_
    refine va_get (D := D) (ci := 6) (C := cn_M) (T := cf_M) (N := 13) hx hb hw in_M hown hK hP 0 rfl rfl 4 (by decide) (hw _ wi_541) (fun _ h9 => h9) rfl dd_M_flip_29 ?_
    refine lv_iload_n hx hb dd_M_flip_32 rfl (lv_at hl 1 rfl) ?_
    refine lv_iconst (v := nI 1) hx hb dd_M_flip_33 (by decide) ?_
    refine lv_aload_n hx hb dd_M_flip_34 rfl (lv_at hl 0 rfl) ?_
    refine va_get (D := D) (ci := 6) (C := cn_M) (T := cf_M) (N := 13) hx hb hw in_M hown hK hP 0 rfl rfl 4 (by decide) (hw _ wi_541) (fun _ h9 => h9) rfl dd_M_flip_35 ?_
    refine lv_iload_n hx hb dd_M_flip_38 rfl (lv_at hl 1 rfl) ?_
    refine va_bald hx hb hK hP 1 1 rfl rfl (vp_in_nI (by omega) (by omega)) dd_M_flip_39 ?_
    refine ct_topi (y := by0 j) (by rw [nI_clamp (by omega)]) ?_
    refine lv_isub hx hb dd_M_flip_40 ?_
    refine lv_i2b (v := ((nI 1) - (by0 j)).toInt8.toInt32) hx hb dd_M_flip_41 rfl ?_
    refine va_bast hx hb hK hP hD hS 1 1 rfl rfl (vp_in_nI (by omega) (by omega)) dd_M_flip_42 (fun H locs hP hD hS => ?_)
    rw [show (nI j).toNatClampNeg = j from nI_clamp (by omega)] at hP hD
    have hP : va_P D classes [(q, .inr (6, [.int (nI 0), .ref ta, .ref vb, .int (nI n), .ref ba, .int (nI L.length), .int tk, .ref na, .ref nb, .int pl, .int wr, .int fz, .int fb])), (ba, .inl (cB, 400000, .inl (upd by0 j (vp_nar .byte (((nI 1) - (by0 j)).toInt8.toInt32)))))] _ := hP
    have hD : va_D A [(q, .inr (6, [.int (nI 0), .ref ta, .ref vb, .int (nI n), .ref ba, .int (nI L.length), .int tk, .ref na, .ref nb, .int pl, .int wr, .int fz, .int fb])), (ba, .inl (cB, 400000, .inl (upd by0 j (vp_nar .byte (((nI 1) - (by0 j)).toInt8.toInt32)))))] := hD
    refine ct_vret (u := (upd by0 j (vp_nar .byte (((nI 1) - (by0 j)).toInt8.toInt32)), nI 0)) hx hb hr hlocks hK hP hD hS rfl ?_ dd_M_flip_43
    exact Or.inl ⟨j, hj, rfl, rb_flip hB hj, rfl⟩
  refine lv_iconst (v := nI 1) hx hb dd_M_flip_13 (by decide) ?_
  refine lv_goto (tgt := 18) hx hb dd_M_flip_14 (by decide) ?_
  refine va_put (D := D) (ci := 6) (v := .int (nI 1)) (ty := .int) (C := cn_M) (T := cf_M) (N := 13) hx hb hw in_M ty_M to_M nn_M hown hK hP hD hS 0 rfl rfl 0 (by decide) (hw _ wi_537) (fun _ h9 => h9) rfl (by decide +kernel) (rfl) (rfl) (Nat.le_of_ble_eq_true rfl) dd_M_flip_18 (fun H locs hP hD hS => ?_)
  have hP : va_P D classes [(q, .inr (6, [.int (nI 1), .ref ta, .ref vb, .int (nI n), .ref ba, .int (nI L.length), .int tk, .ref na, .ref nb, .int pl, .int wr, .int fz, .int fb])), (ba, .inl (cB, 400000, .inl by0))] _ := hP
  have hD : va_D A [(q, .inr (6, [.int (nI 1), .ref ta, .ref vb, .int (nI n), .ref ba, .int (nI L.length), .int tk, .ref na, .ref nb, .int pl, .int wr, .int fz, .int fb])), (ba, .inl (cB, 400000, .inl by0))] := hD
  refine lv_aload_n hx hb dd_M_flip_21 rfl (lv_at hl 0 rfl) ?_
  refine va_get (D := D) (ci := 6) (C := cn_M) (T := cf_M) (N := 13) hx hb hw in_M hown hK hP 0 rfl rfl 0 (by decide) (hw _ wi_537) (fun _ h9 => h9) rfl dd_M_flip_22 ?_
  refine lv_if_ne (tgt := 43) hx hb dd_M_flip_25 (by decide) (fun c_25 => ?_) (fun c_25 => ?_)
  · skip
    have c_25 : ¬ (1 = 0) := fun z => c_25 ((ct_zeq (by omega)).mpr z)
    refine ct_vret (u := (by0, nI 1)) hx hb hr hlocks hK hP hD hS rfl ?_ dd_M_flip_43
    exact Or.inr ⟨cp_ix_n (by omega) (Or.inr c_10), rfl⟩
  have c_25 : 1 = 0 := (ct_zeq (by omega)).mp c_25
  exfalso
  omega

set_option maxHeartbeats 4000000 in
set_option maxRecDepth 100000 in
theorem cc_M_cut (l : Launch) (D : va_G) (cJ cB : ClassId) (q ta vb ba na nb : Nat) (cd tk pl wr fz fb : Int32) (n : Nat) (L : List Bool) (by0 : Nat → Int32) (k : Int32) (sz : Nat) (hL : L.length ≤ 400000) (hB : cp_Rb by0 L) : ct_v l my_M_cut (Cond.code my_M_cut mb_M_cut 2 none :: TB) ({ frames := 0, cells := 0, slots := 0, locals := 0 } : Room) D classes cJ cB [.ref q, .int k] [(q, .inr (6, [.int cd, .ref ta, .ref vb, .int (nI n), .ref ba, .int (nI L.length), .int tk, .ref na, .ref nb, .int pl, .int wr, .int fz, .int fb])), (ba, .inl (cB, 400000, .inl by0))] sz (fun (u : Nat × Int32) => (¬ cp_ix k (L.length + 1) ∧ u = (L.length, nI 1)) ∨ (u.1 ≤ L.length ∧ k = nI u.1 ∧ u.2 = nI 0)) (fun u => [(q, .inr (6, [.int u.2, .ref ta, .ref vb, .int (nI n), .ref ba, .int (nI u.1), .int tk, .ref na, .ref nb, .int pl, .int wr, .int fz, .int fb])), (ba, .inl (cB, 400000, .inl by0))]) 0 0 := by
  refine ct_ofW (cc := mb_M_cut) (maxL := 2) (ret := none) (by decide) rfl (Nat.le_of_ble_eq_true rfl) ?_
  intro p e s m below meth c hx hb hr hml hts hown hlocks hin hsz hK hP hD hA hS hZ ls hl
  have hw : ∀ w ∈ TB, w.before _ s = true := fun w h => hts w (List.mem_cons_of_mem _ h)
  have hown : s.vm.findClass cn_M = some m.cls := hown
  have hin : meth.name = "cut" := hin
  generalize hAe : va_A [(q, .inr (6, [.int cd, .ref ta, .ref vb, .int (nI n), .ref ba, .int (nI L.length), .int tk, .ref na, .ref nb, .int pl, .int wr, .int fz, .int fb])), (ba, .inl (cB, 400000, .inl by0))] sz = A at hD hA hS hZ ⊢
  clear hAe
  have hl : lv_has ls 2 [(0, .ref q), (1, .int k)] := hl
  have hP : va_P D classes [(q, .inr (6, [.int cd, .ref ta, .ref vb, .int (nI n), .ref ba, .int (nI L.length), .int tk, .ref na, .ref nb, .int pl, .int wr, .int fz, .int fb])), (ba, .inl (cB, 400000, .inl by0))] s.heap := hP
  refine lv_aload_n hx hb dd_M_cut_0 rfl (lv_at hl 0 rfl) ?_
  refine lv_iload_n hx hb dd_M_cut_1 rfl (lv_at hl 1 rfl) ?_
  refine lv_if_lt (tgt := 13) hx hb dd_M_cut_2 (by decide) (fun c_2 => ?_) (fun c_2 => ?_)
  · skip
    refine lv_iconst (v := nI 1) hx hb dd_M_cut_13 (by decide) ?_
    refine lv_goto (tgt := 18) hx hb dd_M_cut_14 (by decide) ?_
    refine va_put (D := D) (ci := 6) (v := .int (nI 1)) (ty := .int) (C := cn_M) (T := cf_M) (N := 13) hx hb hw in_M ty_M to_M nn_M hown hK hP hD hS 0 rfl rfl 0 (by decide) (hw _ wi_537) (fun _ h9 => h9) rfl (by decide +kernel) (rfl) (rfl) (Nat.le_of_ble_eq_true rfl) dd_M_cut_18 (fun H locs hP hD hS => ?_)
    have hP : va_P D classes [(q, .inr (6, [.int (nI 1), .ref ta, .ref vb, .int (nI n), .ref ba, .int (nI L.length), .int tk, .ref na, .ref nb, .int pl, .int wr, .int fz, .int fb])), (ba, .inl (cB, 400000, .inl by0))] _ := hP
    have hD : va_D A [(q, .inr (6, [.int (nI 1), .ref ta, .ref vb, .int (nI n), .ref ba, .int (nI L.length), .int tk, .ref na, .ref nb, .int pl, .int wr, .int fz, .int fb])), (ba, .inl (cB, 400000, .inl by0))] := hD
    refine lv_aload_n hx hb dd_M_cut_21 rfl (lv_at hl 0 rfl) ?_
    refine lv_aload_n hx hb dd_M_cut_22 rfl (lv_at hl 0 rfl) ?_
    refine va_get (D := D) (ci := 6) (C := cn_M) (T := cf_M) (N := 13) hx hb hw in_M hown hK hP 0 rfl rfl 0 (by decide) (hw _ wi_537) (fun _ h9 => h9) rfl dd_M_cut_23 ?_
    refine lv_if_ne (tgt := 33) hx hb dd_M_cut_26 (by decide) (fun c_26 => ?_) (fun c_26 => ?_)
    · skip
      have c_26 : ¬ (1 = 0) := fun z => c_26 ((ct_zeq (by omega)).mpr z)
      refine lv_aload_n hx hb dd_M_cut_33 rfl (lv_at hl 0 rfl) ?_
      refine va_get (D := D) (ci := 6) (C := cn_M) (T := cf_M) (N := 13) hx hb hw in_M hown hK hP 0 rfl rfl 5 (by decide) (hw _ wi_542) (fun _ h9 => h9) rfl dd_M_cut_34 ?_
      refine va_put (D := D) (ci := 6) (v := .int (nI L.length)) (ty := .int) (C := cn_M) (T := cf_M) (N := 13) hx hb hw in_M ty_M to_M nn_M hown hK hP hD hS 0 rfl rfl 5 (by decide) (hw _ wi_542) (fun _ h9 => h9) rfl (by decide +kernel) (rfl) (rfl) (Nat.le_of_ble_eq_true rfl) dd_M_cut_37 (fun H locs hP hD hS => ?_)
      have hP : va_P D classes [(q, .inr (6, [.int (nI 1), .ref ta, .ref vb, .int (nI n), .ref ba, .int (nI L.length), .int tk, .ref na, .ref nb, .int pl, .int wr, .int fz, .int fb])), (ba, .inl (cB, 400000, .inl by0))] _ := hP
      have hD : va_D A [(q, .inr (6, [.int (nI 1), .ref ta, .ref vb, .int (nI n), .ref ba, .int (nI L.length), .int tk, .ref na, .ref nb, .int pl, .int wr, .int fz, .int fb])), (ba, .inl (cB, 400000, .inl by0))] := hD
      refine ct_vret (u := (L.length, nI 1)) hx hb hr hlocks hK hP hD hS rfl ?_ dd_M_cut_40
      exact Or.inl ⟨cp_ix_nle (by omega) (Or.inl c_2), rfl⟩
    have c_26 : 1 = 0 := (ct_zeq (by omega)).mp c_26
    exfalso
    omega
  refine lv_iload_n hx hb dd_M_cut_5 rfl (lv_at hl 1 rfl) ?_
  refine lv_aload_n hx hb dd_M_cut_6 rfl (lv_at hl 0 rfl) ?_
  refine va_get (D := D) (ci := 6) (C := cn_M) (T := cf_M) (N := 13) hx hb hw in_M hown hK hP 0 rfl rfl 5 (by decide) (hw _ wi_542) (fun _ h9 => h9) rfl dd_M_cut_7 ?_
  refine lv_icmp_le (tgt := 17) hx hb dd_M_cut_10 (by decide) (fun c_10 => ?_) (fun c_10 => ?_)
  · skip
    obtain ⟨j, hj, hkj⟩ := cp_ix_le (by omega) c_2 c_10
    subst hkj
    refine lv_iconst (v := nI 0) hx hb dd_M_cut_17 (by decide) ?_
    refine va_put (D := D) (ci := 6) (v := .int (nI 0)) (ty := .int) (C := cn_M) (T := cf_M) (N := 13) hx hb hw in_M ty_M to_M nn_M hown hK hP hD hS 0 rfl rfl 0 (by decide) (hw _ wi_537) (fun _ h9 => h9) rfl (by decide +kernel) (rfl) (rfl) (Nat.le_of_ble_eq_true rfl) dd_M_cut_18 (fun H locs hP hD hS => ?_)
    have hP : va_P D classes [(q, .inr (6, [.int (nI 0), .ref ta, .ref vb, .int (nI n), .ref ba, .int (nI L.length), .int tk, .ref na, .ref nb, .int pl, .int wr, .int fz, .int fb])), (ba, .inl (cB, 400000, .inl by0))] _ := hP
    have hD : va_D A [(q, .inr (6, [.int (nI 0), .ref ta, .ref vb, .int (nI n), .ref ba, .int (nI L.length), .int tk, .ref na, .ref nb, .int pl, .int wr, .int fz, .int fb])), (ba, .inl (cB, 400000, .inl by0))] := hD
    refine lv_aload_n hx hb dd_M_cut_21 rfl (lv_at hl 0 rfl) ?_
    refine lv_aload_n hx hb dd_M_cut_22 rfl (lv_at hl 0 rfl) ?_
    refine va_get (D := D) (ci := 6) (C := cn_M) (T := cf_M) (N := 13) hx hb hw in_M hown hK hP 0 rfl rfl 0 (by decide) (hw _ wi_537) (fun _ h9 => h9) rfl dd_M_cut_23 ?_
    refine lv_if_ne (tgt := 33) hx hb dd_M_cut_26 (by decide) (fun c_26 => ?_) (fun c_26 => ?_)
    · skip
      have c_26 : ¬ (0 = 0) := fun z => c_26 ((ct_zeq (by omega)).mpr z)
      exfalso
      omega
    have c_26 : 0 = 0 := (ct_zeq (by omega)).mp c_26
    refine lv_iload_n hx hb dd_M_cut_29 rfl (lv_at hl 1 rfl) ?_
    refine lv_goto (tgt := 37) hx hb dd_M_cut_30 (by decide) ?_
    refine va_put (D := D) (ci := 6) (v := .int (nI j)) (ty := .int) (C := cn_M) (T := cf_M) (N := 13) hx hb hw in_M ty_M to_M nn_M hown hK hP hD hS 0 rfl rfl 5 (by decide) (hw _ wi_542) (fun _ h9 => h9) rfl (by decide +kernel) (rfl) (rfl) (Nat.le_of_ble_eq_true rfl) dd_M_cut_37 (fun H locs hP hD hS => ?_)
    have hP : va_P D classes [(q, .inr (6, [.int (nI 0), .ref ta, .ref vb, .int (nI n), .ref ba, .int (nI j), .int tk, .ref na, .ref nb, .int pl, .int wr, .int fz, .int fb])), (ba, .inl (cB, 400000, .inl by0))] _ := hP
    have hD : va_D A [(q, .inr (6, [.int (nI 0), .ref ta, .ref vb, .int (nI n), .ref ba, .int (nI j), .int tk, .ref na, .ref nb, .int pl, .int wr, .int fz, .int fb])), (ba, .inl (cB, 400000, .inl by0))] := hD
    refine ct_vret (u := (j, nI 0)) hx hb hr hlocks hK hP hD hS rfl ?_ dd_M_cut_40
    exact Or.inr ⟨hj, rfl, rfl⟩
  refine lv_iconst (v := nI 1) hx hb dd_M_cut_13 (by decide) ?_
  refine lv_goto (tgt := 18) hx hb dd_M_cut_14 (by decide) ?_
  refine va_put (D := D) (ci := 6) (v := .int (nI 1)) (ty := .int) (C := cn_M) (T := cf_M) (N := 13) hx hb hw in_M ty_M to_M nn_M hown hK hP hD hS 0 rfl rfl 0 (by decide) (hw _ wi_537) (fun _ h9 => h9) rfl (by decide +kernel) (rfl) (rfl) (Nat.le_of_ble_eq_true rfl) dd_M_cut_18 (fun H locs hP hD hS => ?_)
  have hP : va_P D classes [(q, .inr (6, [.int (nI 1), .ref ta, .ref vb, .int (nI n), .ref ba, .int (nI L.length), .int tk, .ref na, .ref nb, .int pl, .int wr, .int fz, .int fb])), (ba, .inl (cB, 400000, .inl by0))] _ := hP
  have hD : va_D A [(q, .inr (6, [.int (nI 1), .ref ta, .ref vb, .int (nI n), .ref ba, .int (nI L.length), .int tk, .ref na, .ref nb, .int pl, .int wr, .int fz, .int fb])), (ba, .inl (cB, 400000, .inl by0))] := hD
  refine lv_aload_n hx hb dd_M_cut_21 rfl (lv_at hl 0 rfl) ?_
  refine lv_aload_n hx hb dd_M_cut_22 rfl (lv_at hl 0 rfl) ?_
  refine va_get (D := D) (ci := 6) (C := cn_M) (T := cf_M) (N := 13) hx hb hw in_M hown hK hP 0 rfl rfl 0 (by decide) (hw _ wi_537) (fun _ h9 => h9) rfl dd_M_cut_23 ?_
  refine lv_if_ne (tgt := 33) hx hb dd_M_cut_26 (by decide) (fun c_26 => ?_) (fun c_26 => ?_)
  · skip
    have c_26 : ¬ (1 = 0) := fun z => c_26 ((ct_zeq (by omega)).mpr z)
    refine lv_aload_n hx hb dd_M_cut_33 rfl (lv_at hl 0 rfl) ?_
    refine va_get (D := D) (ci := 6) (C := cn_M) (T := cf_M) (N := 13) hx hb hw in_M hown hK hP 0 rfl rfl 5 (by decide) (hw _ wi_542) (fun _ h9 => h9) rfl dd_M_cut_34 ?_
    refine va_put (D := D) (ci := 6) (v := .int (nI L.length)) (ty := .int) (C := cn_M) (T := cf_M) (N := 13) hx hb hw in_M ty_M to_M nn_M hown hK hP hD hS 0 rfl rfl 5 (by decide) (hw _ wi_542) (fun _ h9 => h9) rfl (by decide +kernel) (rfl) (rfl) (Nat.le_of_ble_eq_true rfl) dd_M_cut_37 (fun H locs hP hD hS => ?_)
    have hP : va_P D classes [(q, .inr (6, [.int (nI 1), .ref ta, .ref vb, .int (nI n), .ref ba, .int (nI L.length), .int tk, .ref na, .ref nb, .int pl, .int wr, .int fz, .int fb])), (ba, .inl (cB, 400000, .inl by0))] _ := hP
    have hD : va_D A [(q, .inr (6, [.int (nI 1), .ref ta, .ref vb, .int (nI n), .ref ba, .int (nI L.length), .int tk, .ref na, .ref nb, .int pl, .int wr, .int fz, .int fb])), (ba, .inl (cB, 400000, .inl by0))] := hD
    refine ct_vret (u := (L.length, nI 1)) hx hb hr hlocks hK hP hD hS rfl ?_ dd_M_cut_40
    exact Or.inl ⟨cp_ix_nle (by omega) (Or.inr c_10), rfl⟩
  have c_26 : 1 = 0 := (ct_zeq (by omega)).mp c_26
  exfalso
  omega

set_option maxHeartbeats 4000000 in
set_option maxRecDepth 100000 in
theorem cc_M_put (l : Launch) (D : va_G) (cJ cB : ClassId) (q ta vb ba na nb : Nat) (cd tk pl wr fz fb : Int32) (n : Nat) (L : List Bool) (by0 : Nat → Int32) (v : Int64) (k : Int32) (sz : Nat) (hL : L.length ≤ 400000) (hB : cp_Rb by0 L) : ct_i l my_M_put (Cond.code my_M_put mb_M_put 5 (some .int) :: TB) ({ frames := 1, cells := 0, slots := 0, locals := 24 } : Room) D classes cJ cB [.ref q, .long v, .int k] [(q, .inr (6, [.int cd, .ref ta, .ref vb, .int (nI n), .ref ba, .int (nI L.length), .int tk, .ref na, .ref nb, .int pl, .int wr, .int fz, .int fb])), (ba, .inl (cB, 400000, .inl by0))] sz (fun (r : Int32) (u : Nat × (Nat → Int32) × Int32) => (¬ cp_okp k v ∧ u = (L.length, by0, nI 1)) ∨ ((∃ j : Nat, j ≤ 64 ∧ k = nI j ∧ cp_fit v j ∧ 400000 < L.length + j) ∧ u = (L.length, by0, nI 2)) ∨ (∃ j : Nat, j ≤ 64 ∧ k = nI j ∧ cp_fit v j ∧ L.length + j ≤ 400000 ∧ r = nI (L ++ cp_bl v j).length ∧ u.1 = (L ++ cp_bl v j).length ∧ cp_Rb u.2.1 (L ++ cp_bl v j) ∧ u.2.2 = nI 0)) (fun u => [(q, .inr (6, [.int u.2.2, .ref ta, .ref vb, .int (nI n), .ref ba, .int (nI u.1), .int tk, .ref na, .ref nb, .int pl, .int wr, .int fz, .int fb])), (ba, .inl (cB, 400000, .inl u.2.1))]) 0 0 := by
  refine ct_ofW (cc := mb_M_put) (maxL := 5) (ret := some .int) (by decide) rfl (Nat.le_of_ble_eq_true rfl) ?_
  intro p e s m below meth c hx hb hr hml hts hown hlocks hin hsz hK hP hD hA hS hZ ls hl
  have hw : ∀ w ∈ TB, w.before _ s = true := fun w h => hts w (List.mem_cons_of_mem _ h)
  have hown : s.vm.findClass cn_M = some m.cls := hown
  have hin : meth.name = "put" := hin
  generalize hAe : va_A [(q, .inr (6, [.int cd, .ref ta, .ref vb, .int (nI n), .ref ba, .int (nI L.length), .int tk, .ref na, .ref nb, .int pl, .int wr, .int fz, .int fb])), (ba, .inl (cB, 400000, .inl by0))] sz = A at hD hA hS hZ ⊢
  clear hAe
  have hl : lv_has ls 5 [(0, .ref q), (1, .long v), (3, .int k)] := hl
  have hP : va_P D classes [(q, .inr (6, [.int cd, .ref ta, .ref vb, .int (nI n), .ref ba, .int (nI L.length), .int tk, .ref na, .ref nb, .int pl, .int wr, .int fz, .int fb])), (ba, .inl (cB, 400000, .inl by0))] s.heap := hP
  refine lv_iload_n hx hb dd_M_put_0 rfl (lv_at hl 2 rfl) ?_
  refine lv_if_lt (tgt := 38) hx hb dd_M_put_1 (by decide) (fun c_1 => ?_) (fun c_1 => ?_)
  · skip
    refine lv_iconst (v := nI 0) hx hb dd_M_put_38 (by decide) ?_
    refine lv_istore (lv' := [(4, .int (nI 0)), (0, .ref q), (1, .long v), (3, .int k)]) hx hb dd_M_put_39 hl (by decide) rfl (fun ls hl => ?_)
    refine lv_aload_n hx hb dd_M_put_41 rfl (lv_at hl 1 rfl) ?_
    refine lv_iload hx hb dd_M_put_42 (lv_at hl 0 rfl) ?_
    refine lv_if_ne (tgt := 51) hx hb dd_M_put_44 (by decide) (fun c_44 => ?_) (fun c_44 => ?_)
    · skip
      have c_44 : ¬ (0 = 0) := fun z => c_44 ((ct_zeq (by omega)).mpr z)
      exfalso
      omega
    have c_44 : 0 = 0 := (ct_zeq (by omega)).mp c_44
    refine lv_iconst (v := nI 1) hx hb dd_M_put_47 (by decide) ?_
    refine lv_goto (tgt := 67) hx hb dd_M_put_48 (by decide) ?_
    refine va_put (D := D) (ci := 6) (v := .int (nI 1)) (ty := .int) (C := cn_M) (T := cf_M) (N := 13) hx hb hw in_M ty_M to_M nn_M hown hK hP hD hS 0 rfl rfl 0 (by decide) (hw _ wi_537) (fun _ h9 => h9) rfl (by decide +kernel) (rfl) (rfl) (Nat.le_of_ble_eq_true rfl) dd_M_put_67 (fun H locs hP hD hS => ?_)
    have hP : va_P D classes [(q, .inr (6, [.int (nI 1), .ref ta, .ref vb, .int (nI n), .ref ba, .int (nI L.length), .int tk, .ref na, .ref nb, .int pl, .int wr, .int fz, .int fb])), (ba, .inl (cB, 400000, .inl by0))] _ := hP
    have hD : va_D A [(q, .inr (6, [.int (nI 1), .ref ta, .ref vb, .int (nI n), .ref ba, .int (nI L.length), .int tk, .ref na, .ref nb, .int pl, .int wr, .int fz, .int fb])), (ba, .inl (cB, 400000, .inl by0))] := hD
    refine lv_aload_n hx hb dd_M_put_70 rfl (lv_at hl 1 rfl) ?_
    refine va_get (D := D) (ci := 6) (C := cn_M) (T := cf_M) (N := 13) hx hb hw in_M hown hK hP 0 rfl rfl 0 (by decide) (hw _ wi_537) (fun _ h9 => h9) rfl dd_M_put_71 ?_
    refine lv_if_le (tgt := 79) hx hb dd_M_put_74 (by decide) (fun c_74 => ?_) (fun c_74 => ?_)
    · skip
      have c_74 : 1 ≤ 0 := (ct_zle (by omega)).mp c_74
      exfalso
      omega
    have c_74 : ¬ (1 ≤ 0) := fun z => c_74 ((ct_zle (by omega)).mpr z)
    refine lv_iconst (v := nI 0) hx hb dd_M_put_77 (by decide) ?_
    refine ct_iret (u := (L.length, by0, nI 1)) hx hb hr hlocks hK hP hD hS rfl ?_ dd_M_put_78
    exact Or.inl ⟨fun ⟨i, hi, e, _⟩ => cp_ix_nle (n := 64) (by omega) (Or.inl c_1) ⟨i, by omega, e⟩, rfl⟩
  refine lv_iload_n hx hb dd_M_put_4 rfl (lv_at hl 2 rfl) ?_
  refine lv_bipush (v := nI 64) hx hb dd_M_put_5 (by decide) ?_
  refine lv_icmp_gt (tgt := 38) hx hb dd_M_put_7 (by decide) (fun c_7 => ?_) (fun c_7 => ?_)
  · skip
    refine lv_iconst (v := nI 0) hx hb dd_M_put_38 (by decide) ?_
    refine lv_istore (lv' := [(4, .int (nI 0)), (0, .ref q), (1, .long v), (3, .int k)]) hx hb dd_M_put_39 hl (by decide) rfl (fun ls hl => ?_)
    refine lv_aload_n hx hb dd_M_put_41 rfl (lv_at hl 1 rfl) ?_
    refine lv_iload hx hb dd_M_put_42 (lv_at hl 0 rfl) ?_
    refine lv_if_ne (tgt := 51) hx hb dd_M_put_44 (by decide) (fun c_44 => ?_) (fun c_44 => ?_)
    · skip
      have c_44 : ¬ (0 = 0) := fun z => c_44 ((ct_zeq (by omega)).mpr z)
      exfalso
      omega
    have c_44 : 0 = 0 := (ct_zeq (by omega)).mp c_44
    refine lv_iconst (v := nI 1) hx hb dd_M_put_47 (by decide) ?_
    refine lv_goto (tgt := 67) hx hb dd_M_put_48 (by decide) ?_
    refine va_put (D := D) (ci := 6) (v := .int (nI 1)) (ty := .int) (C := cn_M) (T := cf_M) (N := 13) hx hb hw in_M ty_M to_M nn_M hown hK hP hD hS 0 rfl rfl 0 (by decide) (hw _ wi_537) (fun _ h9 => h9) rfl (by decide +kernel) (rfl) (rfl) (Nat.le_of_ble_eq_true rfl) dd_M_put_67 (fun H locs hP hD hS => ?_)
    have hP : va_P D classes [(q, .inr (6, [.int (nI 1), .ref ta, .ref vb, .int (nI n), .ref ba, .int (nI L.length), .int tk, .ref na, .ref nb, .int pl, .int wr, .int fz, .int fb])), (ba, .inl (cB, 400000, .inl by0))] _ := hP
    have hD : va_D A [(q, .inr (6, [.int (nI 1), .ref ta, .ref vb, .int (nI n), .ref ba, .int (nI L.length), .int tk, .ref na, .ref nb, .int pl, .int wr, .int fz, .int fb])), (ba, .inl (cB, 400000, .inl by0))] := hD
    refine lv_aload_n hx hb dd_M_put_70 rfl (lv_at hl 1 rfl) ?_
    refine va_get (D := D) (ci := 6) (C := cn_M) (T := cf_M) (N := 13) hx hb hw in_M hown hK hP 0 rfl rfl 0 (by decide) (hw _ wi_537) (fun _ h9 => h9) rfl dd_M_put_71 ?_
    refine lv_if_le (tgt := 79) hx hb dd_M_put_74 (by decide) (fun c_74 => ?_) (fun c_74 => ?_)
    · skip
      have c_74 : 1 ≤ 0 := (ct_zle (by omega)).mp c_74
      exfalso
      omega
    have c_74 : ¬ (1 ≤ 0) := fun z => c_74 ((ct_zle (by omega)).mpr z)
    refine lv_iconst (v := nI 0) hx hb dd_M_put_77 (by decide) ?_
    refine ct_iret (u := (L.length, by0, nI 1)) hx hb hr hlocks hK hP hD hS rfl ?_ dd_M_put_78
    exact Or.inl ⟨fun ⟨i, hi, e, _⟩ => cp_ix_nle (n := 64) (by omega) (Or.inr (Int32.not_le.mpr c_7)) ⟨i, by omega, e⟩, rfl⟩
  obtain ⟨j, hj, hkj⟩ := cp_ix_le (n := 64) (by omega) c_1 (Int32.not_lt.mp c_7)
  subst hkj
  refine lv_iload_n hx hb dd_M_put_10 rfl (lv_at hl 2 rfl) ?_
  refine lv_bipush (v := nI 64) hx hb dd_M_put_11 (by decide) ?_
  refine lv_icmp_eq (tgt := 34) hx hb dd_M_put_13 (by decide) (fun c_13 => ?_) (fun c_13 => ?_)
  · skip
    have c_13 : j = 64 := (nI_eq (by omega) (by omega)).mp c_13
    have hfit : cp_fit v j := by rw [show j = 64 by omega]; exact cp_fit_64 v
    refine lv_iconst (v := nI 1) hx hb dd_M_put_34 (by decide) ?_
    refine lv_goto (tgt := 39) hx hb dd_M_put_35 (by decide) ?_
    refine lv_istore (lv' := [(4, .int (nI 1)), (0, .ref q), (1, .long v), (3, .int (nI j))]) hx hb dd_M_put_39 hl (by decide) rfl (fun ls hl => ?_)
    refine lv_aload_n hx hb dd_M_put_41 rfl (lv_at hl 1 rfl) ?_
    refine lv_iload hx hb dd_M_put_42 (lv_at hl 0 rfl) ?_
    refine lv_if_ne (tgt := 51) hx hb dd_M_put_44 (by decide) (fun c_44 => ?_) (fun c_44 => ?_)
    · skip
      have c_44 : ¬ (1 = 0) := fun z => c_44 ((ct_zeq (by omega)).mpr z)
      refine lv_aload_n hx hb dd_M_put_51 rfl (lv_at hl 1 rfl) ?_
      refine va_get (D := D) (ci := 6) (C := cn_M) (T := cf_M) (N := 13) hx hb hw in_M hown hK hP 0 rfl rfl 5 (by decide) (hw _ wi_542) (fun _ h9 => h9) rfl dd_M_put_52 ?_
      refine lv_iload_n hx hb dd_M_put_55 rfl (lv_at hl 3 rfl) ?_
      refine lv_iadd hx hb dd_M_put_56 ?_
      refine ct_topi (y := nI (L.length + j)) (nI_add _ _) ?_
      refine lv_ldc (v := 400000) hx hb hown (hw _ wi_536) dd_M_put_57 ?_
      refine ct_topi (y := nI 400000) (by decide) ?_
      refine lv_icmp_le (tgt := 66) hx hb dd_M_put_59 (by decide) (fun c_59 => ?_) (fun c_59 => ?_)
      · skip
        have c_59 : (L.length + j) ≤ 400000 := (nI_leI (by omega) (by omega)).mp c_59
        refine lv_iconst (v := nI 0) hx hb dd_M_put_66 (by decide) ?_
        refine va_put (D := D) (ci := 6) (v := .int (nI 0)) (ty := .int) (C := cn_M) (T := cf_M) (N := 13) hx hb hw in_M ty_M to_M nn_M hown hK hP hD hS 0 rfl rfl 0 (by decide) (hw _ wi_537) (fun _ h9 => h9) rfl (by decide +kernel) (rfl) (rfl) (Nat.le_of_ble_eq_true rfl) dd_M_put_67 (fun H locs hP hD hS => ?_)
        have hP : va_P D classes [(q, .inr (6, [.int (nI 0), .ref ta, .ref vb, .int (nI n), .ref ba, .int (nI L.length), .int tk, .ref na, .ref nb, .int pl, .int wr, .int fz, .int fb])), (ba, .inl (cB, 400000, .inl by0))] _ := hP
        have hD : va_D A [(q, .inr (6, [.int (nI 0), .ref ta, .ref vb, .int (nI n), .ref ba, .int (nI L.length), .int tk, .ref na, .ref nb, .int pl, .int wr, .int fz, .int fb])), (ba, .inl (cB, 400000, .inl by0))] := hD
        refine lv_aload_n hx hb dd_M_put_70 rfl (lv_at hl 1 rfl) ?_
        refine va_get (D := D) (ci := 6) (C := cn_M) (T := cf_M) (N := 13) hx hb hw in_M hown hK hP 0 rfl rfl 0 (by decide) (hw _ wi_537) (fun _ h9 => h9) rfl dd_M_put_71 ?_
        refine lv_if_le (tgt := 79) hx hb dd_M_put_74 (by decide) (fun c_74 => ?_) (fun c_74 => ?_)
        · skip
          have c_74 : 0 ≤ 0 := (ct_zle (by omega)).mp c_74
          refine lv_aload_n hx hb dd_M_put_79 rfl (lv_at hl 1 rfl) ?_
          refine lv_lload_n hx hb dd_M_put_80 rfl (lv_at hl 2 rfl) ?_
          refine lv_iload_n hx hb dd_M_put_81 rfl (lv_at hl 3 rfl) ?_
          refine ct_behind_v (wc := [(q, .inr (6, [.int (nI 0), .ref ta, .ref vb, .int (nI n), .ref ba, .int (nI L.length), .int tk, .ref na, .ref nb, .int pl, .int wr, .int fz, .int fb])), (ba, .inl (cB, 400000, .inl by0))]) (wr := []) (av := [.ref q, .long v, .int (nI j)]) (va_runV (As := [.long v, .int (nI j)]) (rest := []) ⟨hx, hb, hml, hown, hw⟩ (cc_M_write l D cJ cB q ta vb ba na nb (nI 0) tk pl wr fz fb n L by0 v j _ (by omega) hB hj) (cwV 2 hw (tb_V wi_594 wi_596 wi_14 wi_25 wi_597) rfl rfl rfl (by decide +kernel) ⟨Nat.le_of_ble_eq_true rfl, Nat.le_of_ble_eq_true rfl⟩) ⟨ct_blind, ct_recv hK hP (q0 := 0) (ci := 6) rfl rfl, ct_pc hZ hK hP hD hS hA [0, 1] rfl (by decide)⟩ rfl rfl hl.1 rfl (lv_room (Nat.le_of_ble_eq_true rfl)) dd_M_put_82 ⟨Nat.le_of_ble_eq_true rfl, Nat.le_of_ble_eq_true rfl⟩) hK hP hD hS hA [0, 1] [] rfl rfl (by decide) (by decide) (fun u_82 H locs hw_82 hP hD hS => ?_)
          have hP : va_P D classes [(q, .inr (6, [.int (nI 0), .ref ta, .ref vb, .int (nI n), .ref ba, .int (nI ((L ++ cp_bl v j).length)), .int tk, .ref na, .ref nb, .int pl, .int wr, .int fz, .int fb])), (ba, .inl (cB, 400000, .inl u_82))] _ := hP
          have hD : va_D A [(q, .inr (6, [.int (nI 0), .ref ta, .ref vb, .int (nI n), .ref ba, .int (nI ((L ++ cp_bl v j).length)), .int tk, .ref na, .ref nb, .int pl, .int wr, .int fz, .int fb])), (ba, .inl (cB, 400000, .inl u_82))] := hD
          refine lv_aload_n hx hb dd_M_put_85 rfl (lv_at hl 1 rfl) ?_
          refine va_get (D := D) (ci := 6) (C := cn_M) (T := cf_M) (N := 13) hx hb hw in_M hown hK hP 0 rfl rfl 5 (by decide) (hw _ wi_542) (fun _ h9 => h9) rfl dd_M_put_86 ?_
          refine ct_iret (u := ((L ++ cp_bl v j).length, u_82, nI 0)) hx hb hr hlocks hK hP hD hS rfl ?_ dd_M_put_89
          exact Or.inr (Or.inr ⟨j, hj, rfl, hfit, by omega, rfl, rfl, hw_82, rfl⟩)
        have c_74 : ¬ (0 ≤ 0) := fun z => c_74 ((ct_zle (by omega)).mpr z)
        exfalso
        omega
      have c_59 : ¬ ((L.length + j) ≤ 400000) := fun z => c_59 ((nI_leI (by omega) (by omega)).mpr z)
      refine lv_iconst (v := nI 2) hx hb dd_M_put_62 (by decide) ?_
      refine lv_goto (tgt := 67) hx hb dd_M_put_63 (by decide) ?_
      refine va_put (D := D) (ci := 6) (v := .int (nI 2)) (ty := .int) (C := cn_M) (T := cf_M) (N := 13) hx hb hw in_M ty_M to_M nn_M hown hK hP hD hS 0 rfl rfl 0 (by decide) (hw _ wi_537) (fun _ h9 => h9) rfl (by decide +kernel) (rfl) (rfl) (Nat.le_of_ble_eq_true rfl) dd_M_put_67 (fun H locs hP hD hS => ?_)
      have hP : va_P D classes [(q, .inr (6, [.int (nI 2), .ref ta, .ref vb, .int (nI n), .ref ba, .int (nI L.length), .int tk, .ref na, .ref nb, .int pl, .int wr, .int fz, .int fb])), (ba, .inl (cB, 400000, .inl by0))] _ := hP
      have hD : va_D A [(q, .inr (6, [.int (nI 2), .ref ta, .ref vb, .int (nI n), .ref ba, .int (nI L.length), .int tk, .ref na, .ref nb, .int pl, .int wr, .int fz, .int fb])), (ba, .inl (cB, 400000, .inl by0))] := hD
      refine lv_aload_n hx hb dd_M_put_70 rfl (lv_at hl 1 rfl) ?_
      refine va_get (D := D) (ci := 6) (C := cn_M) (T := cf_M) (N := 13) hx hb hw in_M hown hK hP 0 rfl rfl 0 (by decide) (hw _ wi_537) (fun _ h9 => h9) rfl dd_M_put_71 ?_
      refine lv_if_le (tgt := 79) hx hb dd_M_put_74 (by decide) (fun c_74 => ?_) (fun c_74 => ?_)
      · skip
        have c_74 : 2 ≤ 0 := (ct_zle (by omega)).mp c_74
        exfalso
        omega
      have c_74 : ¬ (2 ≤ 0) := fun z => c_74 ((ct_zle (by omega)).mpr z)
      refine lv_iconst (v := nI 0) hx hb dd_M_put_77 (by decide) ?_
      refine ct_iret (u := (L.length, by0, nI 2)) hx hb hr hlocks hK hP hD hS rfl ?_ dd_M_put_78
      exact Or.inr (Or.inl ⟨⟨j, hj, rfl, hfit, by omega⟩, rfl⟩)
    have c_44 : 1 = 0 := (ct_zeq (by omega)).mp c_44
    exfalso
    omega
  have c_13 : ¬ (j = 64) := fun z => c_13 ((nI_eq (by omega) (by omega)).mpr z)
  refine lv_lload_n hx hb dd_M_put_16 rfl (lv_at hl 1 rfl) ?_
  refine lv_iload_n hx hb dd_M_put_17 rfl (lv_at hl 2 rfl) ?_
  refine lv_lushr (v := (v.toUInt64 >>> ((nI j).toInt64.toUInt64 &&& Int64.toUInt64 63)).toInt64) hx hb dd_M_put_18 rfl ?_
  refine lv_lconst (v := 0) hx hb dd_M_put_19 (by decide) ?_
  refine W.lcmp hx hb dd_M_put_20 ?_
  refine lv_if_ne (tgt := 38) hx hb dd_M_put_21 (by decide) (fun c_21 => ?_) (fun c_21 => ?_)
  · skip
    have c_21 : ¬ (((v.toUInt64 >>> ((nI j).toInt64.toUInt64 &&& Int64.toUInt64 63)).toInt64) = 0) := fun z => c_21 ((lg_cmp_eq _ _).mpr z)
    refine lv_iconst (v := nI 0) hx hb dd_M_put_38 (by decide) ?_
    refine lv_istore (lv' := [(4, .int (nI 0)), (0, .ref q), (1, .long v), (3, .int (nI j))]) hx hb dd_M_put_39 hl (by decide) rfl (fun ls hl => ?_)
    refine lv_aload_n hx hb dd_M_put_41 rfl (lv_at hl 1 rfl) ?_
    refine lv_iload hx hb dd_M_put_42 (lv_at hl 0 rfl) ?_
    refine lv_if_ne (tgt := 51) hx hb dd_M_put_44 (by decide) (fun c_44 => ?_) (fun c_44 => ?_)
    · skip
      have c_44 : ¬ (0 = 0) := fun z => c_44 ((ct_zeq (by omega)).mpr z)
      exfalso
      omega
    have c_44 : 0 = 0 := (ct_zeq (by omega)).mp c_44
    refine lv_iconst (v := nI 1) hx hb dd_M_put_47 (by decide) ?_
    refine lv_goto (tgt := 67) hx hb dd_M_put_48 (by decide) ?_
    refine va_put (D := D) (ci := 6) (v := .int (nI 1)) (ty := .int) (C := cn_M) (T := cf_M) (N := 13) hx hb hw in_M ty_M to_M nn_M hown hK hP hD hS 0 rfl rfl 0 (by decide) (hw _ wi_537) (fun _ h9 => h9) rfl (by decide +kernel) (rfl) (rfl) (Nat.le_of_ble_eq_true rfl) dd_M_put_67 (fun H locs hP hD hS => ?_)
    have hP : va_P D classes [(q, .inr (6, [.int (nI 1), .ref ta, .ref vb, .int (nI n), .ref ba, .int (nI L.length), .int tk, .ref na, .ref nb, .int pl, .int wr, .int fz, .int fb])), (ba, .inl (cB, 400000, .inl by0))] _ := hP
    have hD : va_D A [(q, .inr (6, [.int (nI 1), .ref ta, .ref vb, .int (nI n), .ref ba, .int (nI L.length), .int tk, .ref na, .ref nb, .int pl, .int wr, .int fz, .int fb])), (ba, .inl (cB, 400000, .inl by0))] := hD
    refine lv_aload_n hx hb dd_M_put_70 rfl (lv_at hl 1 rfl) ?_
    refine va_get (D := D) (ci := 6) (C := cn_M) (T := cf_M) (N := 13) hx hb hw in_M hown hK hP 0 rfl rfl 0 (by decide) (hw _ wi_537) (fun _ h9 => h9) rfl dd_M_put_71 ?_
    refine lv_if_le (tgt := 79) hx hb dd_M_put_74 (by decide) (fun c_74 => ?_) (fun c_74 => ?_)
    · skip
      have c_74 : 1 ≤ 0 := (ct_zle (by omega)).mp c_74
      exfalso
      omega
    have c_74 : ¬ (1 ≤ 0) := fun z => c_74 ((ct_zle (by omega)).mpr z)
    refine lv_iconst (v := nI 0) hx hb dd_M_put_77 (by decide) ?_
    refine ct_iret (u := (L.length, by0, nI 1)) hx hb hr hlocks hK hP hD hS rfl ?_ dd_M_put_78
    exact Or.inl ⟨fun ⟨i, hi, e, hf⟩ => c_21 ((cp_ushr0 v (by omega)).mpr (by have := nI_inj (by omega) (by omega) e; subst this; exact hf)), rfl⟩
  have c_21 : ((v.toUInt64 >>> ((nI j).toInt64.toUInt64 &&& Int64.toUInt64 63)).toInt64) = 0 := (lg_cmp_eq _ _).mp c_21
  refine lv_iload_n hx hb dd_M_put_24 rfl (lv_at hl 2 rfl) ?_
  refine lv_if_gt (tgt := 34) hx hb dd_M_put_25 (by decide) (fun c_25 => ?_) (fun c_25 => ?_)
  · skip
    have c_25 : 0 < j := (ct_zgt (by omega)).mp c_25
    have hfit : cp_fit v j := (cp_ushr0 v (by omega)).mp c_21
    refine lv_iconst (v := nI 1) hx hb dd_M_put_34 (by decide) ?_
    refine lv_goto (tgt := 39) hx hb dd_M_put_35 (by decide) ?_
    refine lv_istore (lv' := [(4, .int (nI 1)), (0, .ref q), (1, .long v), (3, .int (nI j))]) hx hb dd_M_put_39 hl (by decide) rfl (fun ls hl => ?_)
    refine lv_aload_n hx hb dd_M_put_41 rfl (lv_at hl 1 rfl) ?_
    refine lv_iload hx hb dd_M_put_42 (lv_at hl 0 rfl) ?_
    refine lv_if_ne (tgt := 51) hx hb dd_M_put_44 (by decide) (fun c_44 => ?_) (fun c_44 => ?_)
    · skip
      have c_44 : ¬ (1 = 0) := fun z => c_44 ((ct_zeq (by omega)).mpr z)
      refine lv_aload_n hx hb dd_M_put_51 rfl (lv_at hl 1 rfl) ?_
      refine va_get (D := D) (ci := 6) (C := cn_M) (T := cf_M) (N := 13) hx hb hw in_M hown hK hP 0 rfl rfl 5 (by decide) (hw _ wi_542) (fun _ h9 => h9) rfl dd_M_put_52 ?_
      refine lv_iload_n hx hb dd_M_put_55 rfl (lv_at hl 3 rfl) ?_
      refine lv_iadd hx hb dd_M_put_56 ?_
      refine ct_topi (y := nI (L.length + j)) (nI_add _ _) ?_
      refine lv_ldc (v := 400000) hx hb hown (hw _ wi_536) dd_M_put_57 ?_
      refine ct_topi (y := nI 400000) (by decide) ?_
      refine lv_icmp_le (tgt := 66) hx hb dd_M_put_59 (by decide) (fun c_59 => ?_) (fun c_59 => ?_)
      · skip
        have c_59 : (L.length + j) ≤ 400000 := (nI_leI (by omega) (by omega)).mp c_59
        refine lv_iconst (v := nI 0) hx hb dd_M_put_66 (by decide) ?_
        refine va_put (D := D) (ci := 6) (v := .int (nI 0)) (ty := .int) (C := cn_M) (T := cf_M) (N := 13) hx hb hw in_M ty_M to_M nn_M hown hK hP hD hS 0 rfl rfl 0 (by decide) (hw _ wi_537) (fun _ h9 => h9) rfl (by decide +kernel) (rfl) (rfl) (Nat.le_of_ble_eq_true rfl) dd_M_put_67 (fun H locs hP hD hS => ?_)
        have hP : va_P D classes [(q, .inr (6, [.int (nI 0), .ref ta, .ref vb, .int (nI n), .ref ba, .int (nI L.length), .int tk, .ref na, .ref nb, .int pl, .int wr, .int fz, .int fb])), (ba, .inl (cB, 400000, .inl by0))] _ := hP
        have hD : va_D A [(q, .inr (6, [.int (nI 0), .ref ta, .ref vb, .int (nI n), .ref ba, .int (nI L.length), .int tk, .ref na, .ref nb, .int pl, .int wr, .int fz, .int fb])), (ba, .inl (cB, 400000, .inl by0))] := hD
        refine lv_aload_n hx hb dd_M_put_70 rfl (lv_at hl 1 rfl) ?_
        refine va_get (D := D) (ci := 6) (C := cn_M) (T := cf_M) (N := 13) hx hb hw in_M hown hK hP 0 rfl rfl 0 (by decide) (hw _ wi_537) (fun _ h9 => h9) rfl dd_M_put_71 ?_
        refine lv_if_le (tgt := 79) hx hb dd_M_put_74 (by decide) (fun c_74 => ?_) (fun c_74 => ?_)
        · skip
          have c_74 : 0 ≤ 0 := (ct_zle (by omega)).mp c_74
          refine lv_aload_n hx hb dd_M_put_79 rfl (lv_at hl 1 rfl) ?_
          refine lv_lload_n hx hb dd_M_put_80 rfl (lv_at hl 2 rfl) ?_
          refine lv_iload_n hx hb dd_M_put_81 rfl (lv_at hl 3 rfl) ?_
          refine ct_behind_v (wc := [(q, .inr (6, [.int (nI 0), .ref ta, .ref vb, .int (nI n), .ref ba, .int (nI L.length), .int tk, .ref na, .ref nb, .int pl, .int wr, .int fz, .int fb])), (ba, .inl (cB, 400000, .inl by0))]) (wr := []) (av := [.ref q, .long v, .int (nI j)]) (va_runV (As := [.long v, .int (nI j)]) (rest := []) ⟨hx, hb, hml, hown, hw⟩ (cc_M_write l D cJ cB q ta vb ba na nb (nI 0) tk pl wr fz fb n L by0 v j _ (by omega) hB hj) (cwV 2 hw (tb_V wi_594 wi_596 wi_14 wi_25 wi_597) rfl rfl rfl (by decide +kernel) ⟨Nat.le_of_ble_eq_true rfl, Nat.le_of_ble_eq_true rfl⟩) ⟨ct_blind, ct_recv hK hP (q0 := 0) (ci := 6) rfl rfl, ct_pc hZ hK hP hD hS hA [0, 1] rfl (by decide)⟩ rfl rfl hl.1 rfl (lv_room (Nat.le_of_ble_eq_true rfl)) dd_M_put_82 ⟨Nat.le_of_ble_eq_true rfl, Nat.le_of_ble_eq_true rfl⟩) hK hP hD hS hA [0, 1] [] rfl rfl (by decide) (by decide) (fun u_82 H locs hw_82 hP hD hS => ?_)
          have hP : va_P D classes [(q, .inr (6, [.int (nI 0), .ref ta, .ref vb, .int (nI n), .ref ba, .int (nI ((L ++ cp_bl v j).length)), .int tk, .ref na, .ref nb, .int pl, .int wr, .int fz, .int fb])), (ba, .inl (cB, 400000, .inl u_82))] _ := hP
          have hD : va_D A [(q, .inr (6, [.int (nI 0), .ref ta, .ref vb, .int (nI n), .ref ba, .int (nI ((L ++ cp_bl v j).length)), .int tk, .ref na, .ref nb, .int pl, .int wr, .int fz, .int fb])), (ba, .inl (cB, 400000, .inl u_82))] := hD
          refine lv_aload_n hx hb dd_M_put_85 rfl (lv_at hl 1 rfl) ?_
          refine va_get (D := D) (ci := 6) (C := cn_M) (T := cf_M) (N := 13) hx hb hw in_M hown hK hP 0 rfl rfl 5 (by decide) (hw _ wi_542) (fun _ h9 => h9) rfl dd_M_put_86 ?_
          refine ct_iret (u := ((L ++ cp_bl v j).length, u_82, nI 0)) hx hb hr hlocks hK hP hD hS rfl ?_ dd_M_put_89
          exact Or.inr (Or.inr ⟨j, hj, rfl, hfit, by omega, rfl, rfl, hw_82, rfl⟩)
        have c_74 : ¬ (0 ≤ 0) := fun z => c_74 ((ct_zle (by omega)).mpr z)
        exfalso
        omega
      have c_59 : ¬ ((L.length + j) ≤ 400000) := fun z => c_59 ((nI_leI (by omega) (by omega)).mpr z)
      refine lv_iconst (v := nI 2) hx hb dd_M_put_62 (by decide) ?_
      refine lv_goto (tgt := 67) hx hb dd_M_put_63 (by decide) ?_
      refine va_put (D := D) (ci := 6) (v := .int (nI 2)) (ty := .int) (C := cn_M) (T := cf_M) (N := 13) hx hb hw in_M ty_M to_M nn_M hown hK hP hD hS 0 rfl rfl 0 (by decide) (hw _ wi_537) (fun _ h9 => h9) rfl (by decide +kernel) (rfl) (rfl) (Nat.le_of_ble_eq_true rfl) dd_M_put_67 (fun H locs hP hD hS => ?_)
      have hP : va_P D classes [(q, .inr (6, [.int (nI 2), .ref ta, .ref vb, .int (nI n), .ref ba, .int (nI L.length), .int tk, .ref na, .ref nb, .int pl, .int wr, .int fz, .int fb])), (ba, .inl (cB, 400000, .inl by0))] _ := hP
      have hD : va_D A [(q, .inr (6, [.int (nI 2), .ref ta, .ref vb, .int (nI n), .ref ba, .int (nI L.length), .int tk, .ref na, .ref nb, .int pl, .int wr, .int fz, .int fb])), (ba, .inl (cB, 400000, .inl by0))] := hD
      refine lv_aload_n hx hb dd_M_put_70 rfl (lv_at hl 1 rfl) ?_
      refine va_get (D := D) (ci := 6) (C := cn_M) (T := cf_M) (N := 13) hx hb hw in_M hown hK hP 0 rfl rfl 0 (by decide) (hw _ wi_537) (fun _ h9 => h9) rfl dd_M_put_71 ?_
      refine lv_if_le (tgt := 79) hx hb dd_M_put_74 (by decide) (fun c_74 => ?_) (fun c_74 => ?_)
      · skip
        have c_74 : 2 ≤ 0 := (ct_zle (by omega)).mp c_74
        exfalso
        omega
      have c_74 : ¬ (2 ≤ 0) := fun z => c_74 ((ct_zle (by omega)).mpr z)
      refine lv_iconst (v := nI 0) hx hb dd_M_put_77 (by decide) ?_
      refine ct_iret (u := (L.length, by0, nI 2)) hx hb hr hlocks hK hP hD hS rfl ?_ dd_M_put_78
      exact Or.inr (Or.inl ⟨⟨j, hj, rfl, hfit, by omega⟩, rfl⟩)
    have c_44 : 1 = 0 := (ct_zeq (by omega)).mp c_44
    exfalso
    omega
  have c_25 : ¬ (0 < j) := fun z => c_25 ((ct_zgt (by omega)).mpr z)
  refine lv_lload_n hx hb dd_M_put_28 rfl (lv_at hl 1 rfl) ?_
  refine lv_lconst (v := 0) hx hb dd_M_put_29 (by decide) ?_
  refine W.lcmp hx hb dd_M_put_30 ?_
  refine lv_if_ne (tgt := 38) hx hb dd_M_put_31 (by decide) (fun c_31 => ?_) (fun c_31 => ?_)
  · skip
    have c_31 : ¬ (v = 0) := fun z => c_31 ((lg_cmp_eq _ _).mpr z)
    exfalso
    have hf0 := (cp_ushr0 v (by omega)).mp c_21
    rw [show j = 0 by omega] at hf0
    exact c_31 (fit_00 hf0)
  have c_31 : v = 0 := (lg_cmp_eq _ _).mp c_31
  have hfit : cp_fit v j := (cp_ushr0 v (by omega)).mp c_21
  refine lv_iconst (v := nI 1) hx hb dd_M_put_34 (by decide) ?_
  refine lv_goto (tgt := 39) hx hb dd_M_put_35 (by decide) ?_
  refine lv_istore (lv' := [(4, .int (nI 1)), (0, .ref q), (1, .long v), (3, .int (nI j))]) hx hb dd_M_put_39 hl (by decide) rfl (fun ls hl => ?_)
  refine lv_aload_n hx hb dd_M_put_41 rfl (lv_at hl 1 rfl) ?_
  refine lv_iload hx hb dd_M_put_42 (lv_at hl 0 rfl) ?_
  refine lv_if_ne (tgt := 51) hx hb dd_M_put_44 (by decide) (fun c_44 => ?_) (fun c_44 => ?_)
  · skip
    have c_44 : ¬ (1 = 0) := fun z => c_44 ((ct_zeq (by omega)).mpr z)
    refine lv_aload_n hx hb dd_M_put_51 rfl (lv_at hl 1 rfl) ?_
    refine va_get (D := D) (ci := 6) (C := cn_M) (T := cf_M) (N := 13) hx hb hw in_M hown hK hP 0 rfl rfl 5 (by decide) (hw _ wi_542) (fun _ h9 => h9) rfl dd_M_put_52 ?_
    refine lv_iload_n hx hb dd_M_put_55 rfl (lv_at hl 3 rfl) ?_
    refine lv_iadd hx hb dd_M_put_56 ?_
    refine ct_topi (y := nI (L.length + j)) (nI_add _ _) ?_
    refine lv_ldc (v := 400000) hx hb hown (hw _ wi_536) dd_M_put_57 ?_
    refine ct_topi (y := nI 400000) (by decide) ?_
    refine lv_icmp_le (tgt := 66) hx hb dd_M_put_59 (by decide) (fun c_59 => ?_) (fun c_59 => ?_)
    · skip
      have c_59 : (L.length + j) ≤ 400000 := (nI_leI (by omega) (by omega)).mp c_59
      refine lv_iconst (v := nI 0) hx hb dd_M_put_66 (by decide) ?_
      refine va_put (D := D) (ci := 6) (v := .int (nI 0)) (ty := .int) (C := cn_M) (T := cf_M) (N := 13) hx hb hw in_M ty_M to_M nn_M hown hK hP hD hS 0 rfl rfl 0 (by decide) (hw _ wi_537) (fun _ h9 => h9) rfl (by decide +kernel) (rfl) (rfl) (Nat.le_of_ble_eq_true rfl) dd_M_put_67 (fun H locs hP hD hS => ?_)
      have hP : va_P D classes [(q, .inr (6, [.int (nI 0), .ref ta, .ref vb, .int (nI n), .ref ba, .int (nI L.length), .int tk, .ref na, .ref nb, .int pl, .int wr, .int fz, .int fb])), (ba, .inl (cB, 400000, .inl by0))] _ := hP
      have hD : va_D A [(q, .inr (6, [.int (nI 0), .ref ta, .ref vb, .int (nI n), .ref ba, .int (nI L.length), .int tk, .ref na, .ref nb, .int pl, .int wr, .int fz, .int fb])), (ba, .inl (cB, 400000, .inl by0))] := hD
      refine lv_aload_n hx hb dd_M_put_70 rfl (lv_at hl 1 rfl) ?_
      refine va_get (D := D) (ci := 6) (C := cn_M) (T := cf_M) (N := 13) hx hb hw in_M hown hK hP 0 rfl rfl 0 (by decide) (hw _ wi_537) (fun _ h9 => h9) rfl dd_M_put_71 ?_
      refine lv_if_le (tgt := 79) hx hb dd_M_put_74 (by decide) (fun c_74 => ?_) (fun c_74 => ?_)
      · skip
        have c_74 : 0 ≤ 0 := (ct_zle (by omega)).mp c_74
        refine lv_aload_n hx hb dd_M_put_79 rfl (lv_at hl 1 rfl) ?_
        refine lv_lload_n hx hb dd_M_put_80 rfl (lv_at hl 2 rfl) ?_
        refine lv_iload_n hx hb dd_M_put_81 rfl (lv_at hl 3 rfl) ?_
        refine ct_behind_v (wc := [(q, .inr (6, [.int (nI 0), .ref ta, .ref vb, .int (nI n), .ref ba, .int (nI L.length), .int tk, .ref na, .ref nb, .int pl, .int wr, .int fz, .int fb])), (ba, .inl (cB, 400000, .inl by0))]) (wr := []) (av := [.ref q, .long v, .int (nI j)]) (va_runV (As := [.long v, .int (nI j)]) (rest := []) ⟨hx, hb, hml, hown, hw⟩ (cc_M_write l D cJ cB q ta vb ba na nb (nI 0) tk pl wr fz fb n L by0 v j _ (by omega) hB hj) (cwV 2 hw (tb_V wi_594 wi_596 wi_14 wi_25 wi_597) rfl rfl rfl (by decide +kernel) ⟨Nat.le_of_ble_eq_true rfl, Nat.le_of_ble_eq_true rfl⟩) ⟨ct_blind, ct_recv hK hP (q0 := 0) (ci := 6) rfl rfl, ct_pc hZ hK hP hD hS hA [0, 1] rfl (by decide)⟩ rfl rfl hl.1 rfl (lv_room (Nat.le_of_ble_eq_true rfl)) dd_M_put_82 ⟨Nat.le_of_ble_eq_true rfl, Nat.le_of_ble_eq_true rfl⟩) hK hP hD hS hA [0, 1] [] rfl rfl (by decide) (by decide) (fun u_82 H locs hw_82 hP hD hS => ?_)
        have hP : va_P D classes [(q, .inr (6, [.int (nI 0), .ref ta, .ref vb, .int (nI n), .ref ba, .int (nI ((L ++ cp_bl v j).length)), .int tk, .ref na, .ref nb, .int pl, .int wr, .int fz, .int fb])), (ba, .inl (cB, 400000, .inl u_82))] _ := hP
        have hD : va_D A [(q, .inr (6, [.int (nI 0), .ref ta, .ref vb, .int (nI n), .ref ba, .int (nI ((L ++ cp_bl v j).length)), .int tk, .ref na, .ref nb, .int pl, .int wr, .int fz, .int fb])), (ba, .inl (cB, 400000, .inl u_82))] := hD
        refine lv_aload_n hx hb dd_M_put_85 rfl (lv_at hl 1 rfl) ?_
        refine va_get (D := D) (ci := 6) (C := cn_M) (T := cf_M) (N := 13) hx hb hw in_M hown hK hP 0 rfl rfl 5 (by decide) (hw _ wi_542) (fun _ h9 => h9) rfl dd_M_put_86 ?_
        refine ct_iret (u := ((L ++ cp_bl v j).length, u_82, nI 0)) hx hb hr hlocks hK hP hD hS rfl ?_ dd_M_put_89
        exact Or.inr (Or.inr ⟨j, hj, rfl, hfit, by omega, rfl, rfl, hw_82, rfl⟩)
      have c_74 : ¬ (0 ≤ 0) := fun z => c_74 ((ct_zle (by omega)).mpr z)
      exfalso
      omega
    have c_59 : ¬ ((L.length + j) ≤ 400000) := fun z => c_59 ((nI_leI (by omega) (by omega)).mpr z)
    refine lv_iconst (v := nI 2) hx hb dd_M_put_62 (by decide) ?_
    refine lv_goto (tgt := 67) hx hb dd_M_put_63 (by decide) ?_
    refine va_put (D := D) (ci := 6) (v := .int (nI 2)) (ty := .int) (C := cn_M) (T := cf_M) (N := 13) hx hb hw in_M ty_M to_M nn_M hown hK hP hD hS 0 rfl rfl 0 (by decide) (hw _ wi_537) (fun _ h9 => h9) rfl (by decide +kernel) (rfl) (rfl) (Nat.le_of_ble_eq_true rfl) dd_M_put_67 (fun H locs hP hD hS => ?_)
    have hP : va_P D classes [(q, .inr (6, [.int (nI 2), .ref ta, .ref vb, .int (nI n), .ref ba, .int (nI L.length), .int tk, .ref na, .ref nb, .int pl, .int wr, .int fz, .int fb])), (ba, .inl (cB, 400000, .inl by0))] _ := hP
    have hD : va_D A [(q, .inr (6, [.int (nI 2), .ref ta, .ref vb, .int (nI n), .ref ba, .int (nI L.length), .int tk, .ref na, .ref nb, .int pl, .int wr, .int fz, .int fb])), (ba, .inl (cB, 400000, .inl by0))] := hD
    refine lv_aload_n hx hb dd_M_put_70 rfl (lv_at hl 1 rfl) ?_
    refine va_get (D := D) (ci := 6) (C := cn_M) (T := cf_M) (N := 13) hx hb hw in_M hown hK hP 0 rfl rfl 0 (by decide) (hw _ wi_537) (fun _ h9 => h9) rfl dd_M_put_71 ?_
    refine lv_if_le (tgt := 79) hx hb dd_M_put_74 (by decide) (fun c_74 => ?_) (fun c_74 => ?_)
    · skip
      have c_74 : 2 ≤ 0 := (ct_zle (by omega)).mp c_74
      exfalso
      omega
    have c_74 : ¬ (2 ≤ 0) := fun z => c_74 ((ct_zle (by omega)).mpr z)
    refine lv_iconst (v := nI 0) hx hb dd_M_put_77 (by decide) ?_
    refine ct_iret (u := (L.length, by0, nI 2)) hx hb hr hlocks hK hP hD hS rfl ?_ dd_M_put_78
    exact Or.inr (Or.inl ⟨⟨j, hj, rfl, hfit, by omega⟩, rfl⟩)
  have c_44 : 1 = 0 := (ct_zeq (by omega)).mp c_44
  exfalso
  omega

set_option maxHeartbeats 4000000 in
set_option maxRecDepth 100000 in
theorem cc_M_readSigned (l : Launch) (D : va_G) (cJ cB : ClassId) (q ta vb ba na nb : Nat) (cd tk fz fb : Int32) (n : Nat) (L : List Bool) (by0 : Nat → Int32) (po w0 k : Nat) (sz : Nat) (hL : L.length ≤ 400000) (hB : cp_Rb by0 L) (hw0 : w0 ≤ 1) (hpo : po ≤ L.length) (hk0 : 0 < k) (hk : k < 62) : ct_l l my_M_readSigned (Cond.code my_M_readSigned mb_M_readSigned 4 (some .long) :: TB) ({ frames := 1, cells := 0, slots := 0, locals := 24 } : Room) D classes cJ cB [.ref q, .int (nI k)] [(q, .inr (6, [.int cd, .ref ta, .ref vb, .int (nI n), .ref ba, .int (nI L.length), .int tk, .ref na, .ref nb, .int (nI po), .int (nI w0), .int fz, .int fb])), (ba, .inl (cB, 400000, .inl by0))] sz (fun (r : Int64) (u : Nat × Nat) => (w0 = 0 ∧ po + k ≤ L.length → r = cp_sg k (cp_n L po k) ∧ u = (po + k, 0)) ∧ (¬ (w0 = 0 ∧ po + k ≤ L.length) → r = 0 ∧ u = (po, 1))) (fun u => [(q, .inr (6, [.int cd, .ref ta, .ref vb, .int (nI n), .ref ba, .int (nI L.length), .int tk, .ref na, .ref nb, .int (nI u.1), .int (nI u.2), .int fz, .int fb])), (ba, .inl (cB, 400000, .inl by0))]) 0 0 := by
  refine ct_ofW (cc := mb_M_readSigned) (maxL := 4) (ret := some .long) (by decide) rfl (Nat.le_of_ble_eq_true rfl) ?_
  intro p e s m below meth c hx hb hr hml hts hown hlocks hin hsz hK hP hD hA hS hZ ls hl
  have hw : ∀ w ∈ TB, w.before _ s = true := fun w h => hts w (List.mem_cons_of_mem _ h)
  have hown : s.vm.findClass cn_M = some m.cls := hown
  have hin : meth.name = "readSigned" := hin
  generalize hAe : va_A [(q, .inr (6, [.int cd, .ref ta, .ref vb, .int (nI n), .ref ba, .int (nI L.length), .int tk, .ref na, .ref nb, .int (nI po), .int (nI w0), .int fz, .int fb])), (ba, .inl (cB, 400000, .inl by0))] sz = A at hD hA hS hZ ⊢
  clear hAe
  have hl : lv_has ls 4 [(0, .ref q), (1, .int (nI k))] := hl
  have hP : va_P D classes [(q, .inr (6, [.int cd, .ref ta, .ref vb, .int (nI n), .ref ba, .int (nI L.length), .int tk, .ref na, .ref nb, .int (nI po), .int (nI w0), .int fz, .int fb])), (ba, .inl (cB, 400000, .inl by0))] s.heap := hP
  refine lv_aload_n hx hb dd_M_readSigned_0 rfl (lv_at hl 0 rfl) ?_
  refine lv_iload_n hx hb dd_M_readSigned_1 rfl (lv_at hl 1 rfl) ?_
  refine ct_behind_l (wc := [(q, .inr (6, [.int cd, .ref ta, .ref vb, .int (nI n), .ref ba, .int (nI L.length), .int tk, .ref na, .ref nb, .int (nI po), .int (nI w0), .int fz, .int fb])), (ba, .inl (cB, 400000, .inl by0))]) (wr := []) (av := [.ref q, .int (nI k)]) (va_runV (As := [.int (nI k)]) (rest := []) ⟨hx, hb, hml, hown, hw⟩ (cc_M_read l D cJ cB q ta vb ba na nb cd tk fz fb n L by0 po w0 k _ hL hB hw0 hpo (by omega)) (cwV 1 hw (tb_V wi_621 wi_623 wi_17 wi_25 wi_624) rfl rfl rfl (by decide +kernel) ⟨Nat.le_of_ble_eq_true rfl, Nat.le_of_ble_eq_true rfl⟩) ⟨ct_blind, ct_recv hK hP (q0 := 0) (ci := 6) rfl rfl, ct_pc hZ hK hP hD hS hA [0, 1] rfl (by decide)⟩ rfl rfl hl.1 rfl (lv_room (Nat.le_of_ble_eq_true rfl)) dd_M_readSigned_2 ⟨Nat.le_of_ble_eq_true rfl, Nat.le_of_ble_eq_true rfl⟩) hK hP hD hS hA [0, 1] [] rfl rfl (by decide) (by decide) (fun r_2 u_2 H locs hw_2 hP hD hS => ?_)
  obtain ⟨p2, w2⟩ := u_2
  have hP : va_P D classes [(q, .inr (6, [.int cd, .ref ta, .ref vb, .int (nI n), .ref ba, .int (nI L.length), .int tk, .ref na, .ref nb, .int (nI p2), .int (nI w2), .int fz, .int fb])), (ba, .inl (cB, 400000, .inl by0))] _ := hP
  have hD : va_D A [(q, .inr (6, [.int cd, .ref ta, .ref vb, .int (nI n), .ref ba, .int (nI L.length), .int tk, .ref na, .ref nb, .int (nI p2), .int (nI w2), .int fz, .int fb])), (ba, .inl (cB, 400000, .inl by0))] := hD
  by_cases hc : w0 = 0 ∧ po + k ≤ L.length
  · skip
    obtain ⟨hr_2, hu_2⟩ := hw_2.1 hc
    cases hu_2
    subst hr_2
    have hP : va_P D classes [(q, .inr (6, [.int cd, .ref ta, .ref vb, .int (nI n), .ref ba, .int (nI L.length), .int tk, .ref na, .ref nb, .int (nI (po + k)), .int (nI 0), .int fz, .int fb])), (ba, .inl (cB, 400000, .inl by0))] _ := hP
    have hD : va_D A [(q, .inr (6, [.int cd, .ref ta, .ref vb, .int (nI n), .ref ba, .int (nI L.length), .int tk, .ref na, .ref nb, .int (nI (po + k)), .int (nI 0), .int fz, .int fb])), (ba, .inl (cB, 400000, .inl by0))] := hD
    refine lv_lstore_n (lv' := [(2, .long (lN (cp_n L po k))), (0, .ref q), (1, .int (nI k))]) hx hb dd_M_readSigned_5 rfl hl (by decide) rfl (fun ls hl => ?_)
    refine lv_lload_n hx hb dd_M_readSigned_6 rfl (lv_at hl 0 rfl) ?_
    refine lv_iload_n hx hb dd_M_readSigned_7 rfl (lv_at hl 2 rfl) ?_
    refine lv_iconst (v := nI 1) hx hb dd_M_readSigned_8 (by decide) ?_
    refine lv_isub hx hb dd_M_readSigned_9 ?_
    refine ct_topi (y := nI (k - 1)) (pk_sub (by omega)) ?_
    refine lv_lshr (v := (lN (cp_n L po k)) >>> ((nI (k - 1)).toInt64 &&& 63)) hx hb dd_M_readSigned_10 rfl ?_
    refine lv_lconst (v := 1) hx hb dd_M_readSigned_11 (by decide) ?_
    refine W.lcmp hx hb dd_M_readSigned_12 ?_
    refine lv_if_ne (tgt := 24) hx hb dd_M_readSigned_13 (by decide) (fun c_13 => ?_) (fun c_13 => ?_)
    · skip
      have c_13 : ¬ (((lN (cp_n L po k)) >>> ((nI (k - 1)).toInt64 &&& 63)) = 1) := fun z => c_13 ((lg_cmp_eq _ _).mpr z)
      refine lv_lload_n hx hb dd_M_readSigned_24 rfl (lv_at hl 0 rfl) ?_
      refine ct_lret (u := (po + k, 0)) hx hb hr hlocks hK hP hD hS rfl ?_ dd_M_readSigned_25
      refine ⟨fun _ => ⟨?_, rfl⟩, fun z => absurd hc z⟩
      unfold cp_sg
      rw [if_pos (Decidable.not_not.mp (fun z => c_13 ((mr_sg (by omega) (by omega) (cp_n_lt _ _ _)).mpr z)))]
    have c_13 : ((lN (cp_n L po k)) >>> ((nI (k - 1)).toInt64 &&& 63)) = 1 := (lg_cmp_eq _ _).mp c_13
    refine lv_lload_n hx hb dd_M_readSigned_16 rfl (lv_at hl 0 rfl) ?_
    refine lv_lconst (v := 1) hx hb dd_M_readSigned_17 (by decide) ?_
    refine lv_iload_n hx hb dd_M_readSigned_18 rfl (lv_at hl 2 rfl) ?_
    refine lv_lshl (v := 1 <<< ((nI k).toInt64 &&& 63)) hx hb dd_M_readSigned_19 rfl ?_
    refine lv_lsub hx hb dd_M_readSigned_20 ?_
    refine lv_goto (tgt := 25) hx hb dd_M_readSigned_21 (by decide) ?_
    refine ct_lret (u := (po + k, 0)) hx hb hr hlocks hK hP hD hS rfl ?_ dd_M_readSigned_25
    refine ⟨fun _ => ⟨?_, rfl⟩, fun z => absurd hc z⟩
    rw [cp_1shl (by omega)]
    unfold cp_sg
    rw [if_neg ((mr_sg (by omega) (by omega) (cp_n_lt _ _ _)).mp c_13)]
  obtain ⟨hr_2, hu_2⟩ := hw_2.2 hc
  cases hu_2
  subst hr_2
  have hP : va_P D classes [(q, .inr (6, [.int cd, .ref ta, .ref vb, .int (nI n), .ref ba, .int (nI L.length), .int tk, .ref na, .ref nb, .int (nI po), .int (nI 1), .int fz, .int fb])), (ba, .inl (cB, 400000, .inl by0))] _ := hP
  have hD : va_D A [(q, .inr (6, [.int cd, .ref ta, .ref vb, .int (nI n), .ref ba, .int (nI L.length), .int tk, .ref na, .ref nb, .int (nI po), .int (nI 1), .int fz, .int fb])), (ba, .inl (cB, 400000, .inl by0))] := hD
  refine lv_lstore_n (lv' := [(2, .long 0), (0, .ref q), (1, .int (nI k))]) hx hb dd_M_readSigned_5 rfl hl (by decide) rfl (fun ls hl => ?_)
  refine lv_lload_n hx hb dd_M_readSigned_6 rfl (lv_at hl 0 rfl) ?_
  refine lv_iload_n hx hb dd_M_readSigned_7 rfl (lv_at hl 2 rfl) ?_
  refine lv_iconst (v := nI 1) hx hb dd_M_readSigned_8 (by decide) ?_
  refine lv_isub hx hb dd_M_readSigned_9 ?_
  refine ct_topi (y := nI (k - 1)) (pk_sub (by omega)) ?_
  refine lv_lshr (v := 0 >>> ((nI (k - 1)).toInt64 &&& 63)) hx hb dd_M_readSigned_10 rfl ?_
  refine lv_lconst (v := 1) hx hb dd_M_readSigned_11 (by decide) ?_
  refine W.lcmp hx hb dd_M_readSigned_12 ?_
  refine lv_if_ne (tgt := 24) hx hb dd_M_readSigned_13 (by decide) (fun c_13 => ?_) (fun c_13 => ?_)
  · skip
    have c_13 : ¬ ((0 >>> ((nI (k - 1)).toInt64 &&& 63)) = 1) := fun z => c_13 ((lg_cmp_eq _ _).mpr z)
    refine lv_lload_n hx hb dd_M_readSigned_24 rfl (lv_at hl 0 rfl) ?_
    refine ct_lret (u := (po, 1)) hx hb hr hlocks hK hP hD hS rfl ?_ dd_M_readSigned_25
    exact ⟨fun z => absurd z hc, fun _ => ⟨rfl, rfl⟩⟩
  have c_13 : (0 >>> ((nI (k - 1)).toInt64 &&& 63)) = 1 := (lg_cmp_eq _ _).mp c_13
  exfalso
  exact mr_sg0 (k - 1) (by omega) c_13
