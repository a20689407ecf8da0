/-! the law: what holds before each of its steps -/
def lw_I (D : va_G) (cJ cB : ClassId) (A : Nat → Prop) (s : State) (b k : Nat) (H : Heap) (locs : List Loc) (ls : Array Slot) : Prop :=
  ∃ (q : Nat) (qp : Nat) (qt : Nat) (qv : Nat) (qs : Nat) (qs1 : Nat) (qs2 : Nat) (qb : Nat) (qw : Nat) (qc : Nat) (qd : Nat) (tk : Nat) (n : Nat) (n2 : Nat) (n3 : Nat) (f : Nat → Int64) (g : Nat → Int64) (f2 : Nat → Int64) (g2 : Nat → Int64) (w : Nat → Int64) (w2 : Nat → Int64) (L : List Bool) (mq : Nat) (ta : Nat) (vb : Nat) (ba : Nat) (na : Nat) (nb : Nat) (cd : Int32) (pl : Int32) (wr : Int32) (fz : Int32) (fb : Int32) (mf : Nat → Int64) (mg : Nat → Int64) (mf2 : Nat → Int64) (mg2 : Nat → Int64) (by0 : Nat → Int32) (qo : Nat) (fo : Nat → Int64), va_P D classes [(q, .inr (5, [.ref qp, .ref qs, .ref qb, .ref qc, .int (nI tk)])), (qp, .inr (2, [.ref qt, .ref qv, .int (nI n)])), (qt, .inl (cJ, 3000, .inr (.inl f))), (qv, .inl (cJ, 3000, .inr (.inl g))), (qs, .inr (2, [.ref qs1, .ref qs2, .int (nI n2)])), (qs1, .inl (cJ, 3000, .inr (.inl f2))), (qs2, .inl (cJ, 3000, .inr (.inl g2))), (qb, .inr (0, [.ref qw, .int (nI L.length)])), (qw, .inl (cJ, 6250, .inr (.inl w))), (qc, .inr (0, [.ref qd, .int (nI n3)])), (qd, .inl (cJ, 6250, .inr (.inl w2))), (mq, .inr (6, [.int cd, .ref ta, .ref vb, .int (nI n), .ref ba, .int (nI L.length), .int (nI tk), .ref na, .ref nb, .int pl, .int wr, .int fz, .int fb])), (ta, .inl (cJ, 3000, .inr (.inl mf))), (vb, .inl (cJ, 3000, .inr (.inl mg))), (ba, .inl (cB, 400000, .inl by0)), (na, .inl (cJ, 3000, .inr (.inl mf2))), (nb, .inl (cJ, 3000, .inr (.inl mg2))), (qo, .inl (cJ, 1, .inr (.inl fo)))] H ∧ va_D A [(q, .inr (5, [.ref qp, .ref qs, .ref qb, .ref qc, .int (nI tk)])), (qp, .inr (2, [.ref qt, .ref qv, .int (nI n)])), (qt, .inl (cJ, 3000, .inr (.inl f))), (qv, .inl (cJ, 3000, .inr (.inl g))), (qs, .inr (2, [.ref qs1, .ref qs2, .int (nI n2)])), (qs1, .inl (cJ, 3000, .inr (.inl f2))), (qs2, .inl (cJ, 3000, .inr (.inl g2))), (qb, .inr (0, [.ref qw, .int (nI L.length)])), (qw, .inl (cJ, 6250, .inr (.inl w))), (qc, .inr (0, [.ref qd, .int (nI n3)])), (qd, .inl (cJ, 6250, .inr (.inl w2))), (mq, .inr (6, [.int cd, .ref ta, .ref vb, .int (nI n), .ref ba, .int (nI L.length), .int (nI tk), .ref na, .ref nb, .int pl, .int wr, .int fz, .int fb])), (ta, .inl (cJ, 3000, .inr (.inl mf))), (vb, .inl (cJ, 3000, .inr (.inl mg))), (ba, .inl (cB, 400000, .inl by0)), (na, .inl (cJ, 3000, .inr (.inl mf2))), (nb, .inl (cJ, 3000, .inr (.inl mg2))), (qo, .inl (cJ, 1, .inr (.inl fo)))] ∧ va_S A s.heap H locs ∧ lv_has ls 8 [(0, .ref b), (1, .ref q), (2, .ref mq), (3, .ref qo), (4, .int (nI (5 * k)))] ∧ n ≤ 3000 ∧ L.length ≤ 400000 ∧ cp_Rw w L ∧ cp_Rb by0 L ∧ (n ≠ 0 → cp_fit (f 0) 40) ∧ (∀ j, j < n → f j = mf j ∧ g j = mg j)
/-- what stays -/
def lw_C (p : Program) (s : State) (m : MethodId) (args : Array Value) (c : Code) (D : va_G) (cJ cB : ClassId) (A : Nat → Prop) (b NN : Nat) (xs : Nat → Int32) : Prop :=
  p.tables.exec = Jvm.exec ∧ c.code = mb_L_law ∧ c.maxLocals = 8 ∧ s.vm.findClass cn_L = some m.cls ∧ (∀ w ∈ TB, w.before args s = true) ∧ va_K D classes (ct_ty cJ cB) s ∧ (∀ q, s.heap.size ≤ q → A q) ∧ ct_Z A s s.heap ∧ va_X b NN xs s s.heap ∧ b < s.heap.size ∧ ¬ A b ∧ NN ≤ 2560
theorem room_c : room_1.cells = 601024 := rfl
theorem room_s : room_1.slots = 7293034 := rfl
theorem la_okt {n : Nat} {f mf : Nat → Int64} {t : Int64} (h : ∀ j, j < n → f j = mf j) : cp_okt n f t ↔ cp_okt n mf t := by
  unfold cp_okt
  by_cases c : n = 0
  · subst c; exact ⟨fun z => ⟨z.1, Or.inl rfl⟩, fun z => ⟨z.1, Or.inl rfl⟩⟩
  · rw [h (n - 1) (by omega)]
theorem la_t40 {t : Int64} (h1 : 0 ≤ t) (h2 : t ≤ cp_max) : cp_fit t 40 := by
  rw [Int64.le_iff_toInt_le, show (0 : Int64).toInt = 0 by decide] at h1
  rw [Int64.le_iff_toInt_le, show cp_max.toInt = 1099511627775 by decide] at h2
  have e : t = lN t.toInt.toNat := by
    apply Int64.toInt_inj.mp
    rw [pk_lT (by omega)]
    omega
  rw [e]
  exact cp_fit_N (by omega)
theorem la_fit {n : Nat} {f : Nat → Int64} {t : Int64} (h : cp_okt n f t) (hf : n ≠ 0 → cp_fit (f 0) 40) : n + 1 ≠ 0 → cp_fit (vp_updL f n t 0) 40 := by
  intro _
  by_cases c : n = 0
  · subst c; rw [pk_uLs]; exact la_t40 h.1.1 h.1.2
  · rw [pk_uLn (fun z => c z.symm)]; exact hf c
theorem la_ag {n : Nat} {f g mf mg : Nat → Int64} {t v : Int64} (h : ∀ j, j < n → f j = mf j ∧ g j = mg j) : ∀ j, j < n + 1 → vp_updL f n t j = vp_updL mf n t j ∧ vp_updL g n v j = vp_updL mg n v j := by
  intro j hj
  by_cases c : j = n
  · subst c; exact ⟨by rw [pk_uLs, pk_uLs], by rw [pk_uLs, pk_uLs]⟩
  · rw [pk_uLn c, pk_uLn c, pk_uLn c, pk_uLn c]; exact h j (by omega)
theorem la_r1 (L : List Bool) : cp_fit (cp_ru L 1).2.2.1 40 := by
  rw [ru_1]
  unfold cp_r1
  by_cases c : 40 ≤ L.length
  · rw [if_pos c]
    by_cases d : 104 ≤ L.length
    · rw [if_pos d]; exact cp_fit_N (cp_n_lt L 0 40)
    · rw [if_neg d]; exact cp_fit_0 40
  · rw [if_neg c]; exact cp_fit_0 40

set_option maxHeartbeats 4000000 in
set_option maxRecDepth 100000 in
theorem lc_add {p : Program} {l : Launch} {e : Env} {s : State} {m : MethodId} {args : Array Value} {below : List Frame} {meth : Method} {c : Code} {Q : State → Prop} (hlt : l.stackTraces = false) {D : va_G} {cJ cB : ClassId} {A : Nat → Prop} {b NN : Nat} {xs : Nat → Int32} (C : lw_C p s m args c D cJ cB A b NN xs) {k : Nat} (hk : 5 * k + 5 ≤ NN) {H : Heap} {locs : List Loc} {ls : Array Slot} (I : lw_I D cJ cB A s b k H locs ls) (tail : ∀ (H : Heap) (locs : List Loc) (ls : Array Slot), lw_I D cJ cB A s b (k + 1) H locs ls → W p l e room_1 s m args below meth c H locs (18 + 2 * (k + 1)) (436529 + 9 * (k + 1)) Q (F0 m 23 ls [])) : W p l e room_1 s m args below meth c H locs (18 + 2 * k) (436529 + 9 * k) Q (F0 m 100 ls []) := by
  obtain ⟨hx, hb, hml, hown, hw, hK, hA, hZ, hX, hbl, hbA, hN⟩ := C
  obtain ⟨q, qp, qt, qv, qs, qs1, qs2, qb, qw, qc, qd, tk, n, n2, n3, f, g, f2, g2, w, w2, L, mq, ta, vb, ba, na, nb, cd, pl, wr, fz, fb, mf, mg, mf2, mg2, by0, qo, fo, hP, hD, hS, hl, h1, hL, hR, hB, hf0, hag⟩ := I
  refine lv_aload_n hx hb dd_L_law_100 rfl (lv_at hl 1 rfl) ?_
  refine lv_aload_n hx hb dd_L_law_101 rfl (lv_at hl 0 rfl) ?_
  refine lv_iload hx hb dd_L_law_102 (lv_at hl 4 rfl) ?_
  refine lv_iconst (v := nI 1) hx hb dd_L_law_104 (by decide) ?_
  refine lv_iadd hx hb dd_L_law_105 ?_
  refine ct_topi (y := nI (5 * k + 1)) (nI_add _ _) ?_
  refine va_sld hx hb hX hbl hbA hS (vp_in_nI (by omega) (by omega)) dd_L_law_106 ?_
  refine ct_topi (y := xs (5 * k + 1)) (congrArg xs (nI_clamp (by omega))) ?_
  refine lv_i2l (v := (xs (5 * k + 1)).toInt64) hx hb dd_L_law_107 rfl ?_
  refine lv_bipush (v := nI 32) hx hb dd_L_law_108 (by decide) ?_
  refine lv_lshl (v := ((xs (5 * k + 1)).toInt64) <<< ((nI 32).toInt64 &&& 63)) hx hb dd_L_law_110 rfl ?_
  refine lv_aload_n hx hb dd_L_law_111 rfl (lv_at hl 0 rfl) ?_
  refine lv_iload hx hb dd_L_law_112 (lv_at hl 4 rfl) ?_
  refine lv_iconst (v := nI 2) hx hb dd_L_law_114 (by decide) ?_
  refine lv_iadd hx hb dd_L_law_115 ?_
  refine ct_topi (y := nI (5 * k + 2)) (nI_add _ _) ?_
  refine va_sld hx hb hX hbl hbA hS (vp_in_nI (by omega) (by omega)) dd_L_law_116 ?_
  refine ct_topi (y := xs (5 * k + 2)) (congrArg xs (nI_clamp (by omega))) ?_
  refine lv_i2l (v := (xs (5 * k + 2)).toInt64) hx hb dd_L_law_117 rfl ?_
  refine lv_ldc2 (v := 4294967295) hx hb hown (hw _ wi_669) dd_L_law_118 ?_
  refine lv_land hx hb dd_L_law_121 ?_
  refine lv_lor hx hb dd_L_law_122 ?_
  obtain ⟨t, h_t⟩ : ∃ z9, (((xs (5 * k + 1)).toInt64) <<< ((nI 32).toInt64 &&& 63)) ||| (((xs (5 * k + 2)).toInt64) &&& 4294967295) = z9 := ⟨_, rfl⟩
  refine ct_topl (y := t) (h_t) ?_
  refine lv_aload_n hx hb dd_L_law_123 rfl (lv_at hl 0 rfl) ?_
  refine lv_iload hx hb dd_L_law_124 (lv_at hl 4 rfl) ?_
  refine lv_iconst (v := nI 3) hx hb dd_L_law_126 (by decide) ?_
  refine lv_iadd hx hb dd_L_law_127 ?_
  refine ct_topi (y := nI (5 * k + 3)) (nI_add _ _) ?_
  refine va_sld hx hb hX hbl hbA hS (vp_in_nI (by omega) (by omega)) dd_L_law_128 ?_
  refine ct_topi (y := xs (5 * k + 3)) (congrArg xs (nI_clamp (by omega))) ?_
  refine lv_i2l (v := (xs (5 * k + 3)).toInt64) hx hb dd_L_law_129 rfl ?_
  refine lv_bipush (v := nI 32) hx hb dd_L_law_130 (by decide) ?_
  refine lv_lshl (v := ((xs (5 * k + 3)).toInt64) <<< ((nI 32).toInt64 &&& 63)) hx hb dd_L_law_132 rfl ?_
  refine lv_aload_n hx hb dd_L_law_133 rfl (lv_at hl 0 rfl) ?_
  refine lv_iload hx hb dd_L_law_134 (lv_at hl 4 rfl) ?_
  refine lv_iconst (v := nI 4) hx hb dd_L_law_136 (by decide) ?_
  refine lv_iadd hx hb dd_L_law_137 ?_
  refine ct_topi (y := nI (5 * k + 4)) (nI_add _ _) ?_
  refine va_sld hx hb hX hbl hbA hS (vp_in_nI (by omega) (by omega)) dd_L_law_138 ?_
  refine ct_topi (y := xs (5 * k + 4)) (congrArg xs (nI_clamp (by omega))) ?_
  refine lv_i2l (v := (xs (5 * k + 4)).toInt64) hx hb dd_L_law_139 rfl ?_
  refine lv_ldc2 (v := 4294967295) hx hb hown (hw _ wi_669) dd_L_law_140 ?_
  refine lv_land hx hb dd_L_law_143 ?_
  refine lv_lor hx hb dd_L_law_144 ?_
  obtain ⟨v, h_v⟩ : ∃ z9, (((xs (5 * k + 3)).toInt64) <<< ((nI 32).toInt64 &&& 63)) ||| (((xs (5 * k + 4)).toInt64) &&& 4294967295) = z9 := ⟨_, rfl⟩
  refine ct_topl (y := v) (h_v) ?_
  refine lv_aload_n hx hb dd_L_law_145 rfl (lv_at hl 3 rfl) ?_
  refine ct_behind_i (wc := [(q, .inr (5, [.ref qp, .ref qs, .ref qb, .ref qc, .int (nI tk)])), (qp, .inr (2, [.ref qt, .ref qv, .int (nI n)])), (qt, .inl (cJ, 3000, .inr (.inl f))), (qv, .inl (cJ, 3000, .inr (.inl g))), (qo, .inl (cJ, 1, .inr (.inl fo)))]) (wr := [(qs, .inr (2, [.ref qs1, .ref qs2, .int (nI n2)])), (qs1, .inl (cJ, 3000, .inr (.inl f2))), (qs2, .inl (cJ, 3000, .inr (.inl g2))), (qb, .inr (0, [.ref qw, .int (nI L.length)])), (qw, .inl (cJ, 6250, .inr (.inl w))), (qc, .inr (0, [.ref qd, .int (nI n3)])), (qd, .inl (cJ, 6250, .inr (.inl w2))), (mq, .inr (6, [.int cd, .ref ta, .ref vb, .int (nI n), .ref ba, .int (nI L.length), .int (nI tk), .ref na, .ref nb, .int pl, .int wr, .int fz, .int fb])), (ta, .inl (cJ, 3000, .inr (.inl mf))), (vb, .inl (cJ, 3000, .inr (.inl mg))), (ba, .inl (cB, 400000, .inl by0)), (na, .inl (cJ, 3000, .inr (.inl mf2))), (nb, .inl (cJ, 3000, .inr (.inl mg2)))]) (av := [.ref q, .long t, .long v, .ref qo]) (vx_runSW (As := [.ref q, .long t, .long v, .ref qo]) (rest := []) ⟨hx, hb, hml, hown, hw⟩ (cc_L_add l hlt D cJ cB q qp qs qb qc tk qt qv n f g t v qo fo _ h1) (vx_cwSW 4 hw (tb_SW wi_96 wi_97 wi_21 wi_98) rfl rfl rfl (by decide +kernel) ⟨Nat.le_of_ble_eq_true rfl, Nat.le_of_ble_eq_true rfl⟩) ⟨ct_blind, ct_pc hZ hK hP hD hS hA [0, 1, 2, 3, 17] rfl (by decide)⟩ rfl rfl hl.1 rfl (lv_room (Nat.le_of_ble_eq_true rfl)) dd_L_law_146 ⟨by rw [room_c]; omega, by rw [room_s]; omega⟩) hK hP hD hS hA [0, 1, 2, 3, 17] [4, 5, 6, 7, 8, 9, 10, 11, 12, 13, 14, 15, 16] rfl rfl (by decide) (by decide) (fun r_146 u_146 H locs hw_146 hP hD hS => ?_)
  have hP : va_P D classes [(qs, .inr (2, [.ref qs1, .ref qs2, .int (nI n2)])), (qs1, .inl (cJ, 3000, .inr (.inl f2))), (qs2, .inl (cJ, 3000, .inr (.inl g2))), (qb, .inr (0, [.ref qw, .int (nI L.length)])), (qw, .inl (cJ, 6250, .inr (.inl w))), (qc, .inr (0, [.ref qd, .int (nI n3)])), (qd, .inl (cJ, 6250, .inr (.inl w2))), (mq, .inr (6, [.int cd, .ref ta, .ref vb, .int (nI n), .ref ba, .int (nI L.length), .int (nI tk), .ref na, .ref nb, .int pl, .int wr, .int fz, .int fb])), (ta, .inl (cJ, 3000, .inr (.inl mf))), (vb, .inl (cJ, 3000, .inr (.inl mg))), (ba, .inl (cB, 400000, .inl by0)), (na, .inl (cJ, 3000, .inr (.inl mf2))), (nb, .inl (cJ, 3000, .inr (.inl mg2))), (q, .inr (5, [.ref qp, .ref qs, .ref qb, .ref qc, .int (nI tk)])), (qp, .inr (2, [.ref qt, .ref qv, .int (nI u_146.1)])), (qt, .inl (cJ, 3000, .inr (.inl u_146.2.1))), (qv, .inl (cJ, 3000, .inr (.inl u_146.2.2.1))), (qo, .inl (cJ, 1, .inr (.inl u_146.2.2.2)))] _ := hP
  have hD : va_D A [(qs, .inr (2, [.ref qs1, .ref qs2, .int (nI n2)])), (qs1, .inl (cJ, 3000, .inr (.inl f2))), (qs2, .inl (cJ, 3000, .inr (.inl g2))), (qb, .inr (0, [.ref qw, .int (nI L.length)])), (qw, .inl (cJ, 6250, .inr (.inl w))), (qc, .inr (0, [.ref qd, .int (nI n3)])), (qd, .inl (cJ, 6250, .inr (.inl w2))), (mq, .inr (6, [.int cd, .ref ta, .ref vb, .int (nI n), .ref ba, .int (nI L.length), .int (nI tk), .ref na, .ref nb, .int pl, .int wr, .int fz, .int fb])), (ta, .inl (cJ, 3000, .inr (.inl mf))), (vb, .inl (cJ, 3000, .inr (.inl mg))), (ba, .inl (cB, 400000, .inl by0)), (na, .inl (cJ, 3000, .inr (.inl mf2))), (nb, .inl (cJ, 3000, .inr (.inl mg2))), (q, .inr (5, [.ref qp, .ref qs, .ref qb, .ref qc, .int (nI tk)])), (qp, .inr (2, [.ref qt, .ref qv, .int (nI u_146.1)])), (qt, .inl (cJ, 3000, .inr (.inl u_146.2.1))), (qv, .inl (cJ, 3000, .inr (.inl u_146.2.2.1))), (qo, .inl (cJ, 1, .inr (.inl u_146.2.2.2)))] := hD
  refine lv_istore (lv' := [(5, .int r_146), (0, .ref b), (1, .ref q), (2, .ref mq), (3, .ref qo), (4, .int (nI (5 * k)))]) hx hb dd_L_law_149 hl (by decide) rfl (fun ls hl => ?_)
  refine lv_aload_n hx hb dd_L_law_151 rfl (lv_at hl 3 rfl) ?_
  refine lv_aload_n hx hb dd_L_law_152 rfl (lv_at hl 1 rfl) ?_
  refine lv_iload hx hb dd_L_law_153 (lv_at hl 5 rfl) ?_
  refine lv_iconst (v := nI 1) hx hb dd_L_law_155 (by decide) ?_
  refine lv_iadd hx hb dd_L_law_156 ?_
  refine ct_topi (y := nI (5 * k + 1)) (nI_add _ _) ?_
  refine va_sld hx hb hX hbl hbA hS (vp_in_nI (by omega) (by omega)) dd_L_law_157 ?_
  refine ct_topi (y := xs (5 * k + 1)) (congrArg xs (nI_clamp (by omega))) ?_
  refine lv_i2l (v := (xs (5 * k + 1)).toInt64) hx hb dd_L_law_158 rfl ?_
  refine lv_bipush (v := nI 32) hx hb dd_L_law_159 (by decide) ?_
  refine lv_lshl (v := ((xs (5 * k + 1)).toInt64) <<< ((nI 32).toInt64 &&& 63)) hx hb dd_L_law_161 rfl ?_
  refine lv_aload_n hx hb dd_L_law_162 rfl (lv_at hl 1 rfl) ?_
  refine lv_iload hx hb dd_L_law_163 (lv_at hl 5 rfl) ?_
  refine lv_iconst (v := nI 2) hx hb dd_L_law_165 (by decide) ?_
  refine lv_iadd hx hb dd_L_law_166 ?_
  refine ct_topi (y := nI (5 * k + 2)) (nI_add _ _) ?_
  refine va_sld hx hb hX hbl hbA hS (vp_in_nI (by omega) (by omega)) dd_L_law_167 ?_
  refine ct_topi (y := xs (5 * k + 2)) (congrArg xs (nI_clamp (by omega))) ?_
  refine lv_i2l (v := (xs (5 * k + 2)).toInt64) hx hb dd_L_law_168 rfl ?_
  refine lv_ldc2 (v := 4294967295) hx hb hown (hw _ wi_669) dd_L_law_169 ?_
  refine lv_land hx hb dd_L_law_172 ?_
  refine lv_lor hx hb dd_L_law_173 ?_
  refine ct_topl (y := t) (h_t) ?_
  refine lv_aload_n hx hb dd_L_law_174 rfl (lv_at hl 1 rfl) ?_
  refine lv_iload hx hb dd_L_law_175 (lv_at hl 5 rfl) ?_
  refine lv_iconst (v := nI 3) hx hb dd_L_law_177 (by decide) ?_
  refine lv_iadd hx hb dd_L_law_178 ?_
  refine ct_topi (y := nI (5 * k + 3)) (nI_add _ _) ?_
  refine va_sld hx hb hX hbl hbA hS (vp_in_nI (by omega) (by omega)) dd_L_law_179 ?_
  refine ct_topi (y := xs (5 * k + 3)) (congrArg xs (nI_clamp (by omega))) ?_
  refine lv_i2l (v := (xs (5 * k + 3)).toInt64) hx hb dd_L_law_180 rfl ?_
  refine lv_bipush (v := nI 32) hx hb dd_L_law_181 (by decide) ?_
  refine lv_lshl (v := ((xs (5 * k + 3)).toInt64) <<< ((nI 32).toInt64 &&& 63)) hx hb dd_L_law_183 rfl ?_
  refine lv_aload_n hx hb dd_L_law_184 rfl (lv_at hl 1 rfl) ?_
  refine lv_iload hx hb dd_L_law_185 (lv_at hl 5 rfl) ?_
  refine lv_iconst (v := nI 4) hx hb dd_L_law_187 (by decide) ?_
  refine lv_iadd hx hb dd_L_law_188 ?_
  refine ct_topi (y := nI (5 * k + 4)) (nI_add _ _) ?_
  refine va_sld hx hb hX hbl hbA hS (vp_in_nI (by omega) (by omega)) dd_L_law_189 ?_
  refine ct_topi (y := xs (5 * k + 4)) (congrArg xs (nI_clamp (by omega))) ?_
  refine lv_i2l (v := (xs (5 * k + 4)).toInt64) hx hb dd_L_law_190 rfl ?_
  refine lv_ldc2 (v := 4294967295) hx hb hown (hw _ wi_669) dd_L_law_191 ?_
  refine lv_land hx hb dd_L_law_194 ?_
  refine lv_lor hx hb dd_L_law_195 ?_
  refine ct_topl (y := v) (h_v) ?_
  refine ct_behind_i (wc := [(mq, .inr (6, [.int cd, .ref ta, .ref vb, .int (nI n), .ref ba, .int (nI L.length), .int (nI tk), .ref na, .ref nb, .int pl, .int wr, .int fz, .int fb])), (ta, .inl (cJ, 3000, .inr (.inl mf))), (vb, .inl (cJ, 3000, .inr (.inl mg)))]) (wr := [(qs, .inr (2, [.ref qs1, .ref qs2, .int (nI n2)])), (qs1, .inl (cJ, 3000, .inr (.inl f2))), (qs2, .inl (cJ, 3000, .inr (.inl g2))), (qb, .inr (0, [.ref qw, .int (nI L.length)])), (qw, .inl (cJ, 6250, .inr (.inl w))), (qc, .inr (0, [.ref qd, .int (nI n3)])), (qd, .inl (cJ, 6250, .inr (.inl w2))), (ba, .inl (cB, 400000, .inl by0)), (na, .inl (cJ, 3000, .inr (.inl mf2))), (nb, .inl (cJ, 3000, .inr (.inl mg2))), (q, .inr (5, [.ref qp, .ref qs, .ref qb, .ref qc, .int (nI tk)])), (qp, .inr (2, [.ref qt, .ref qv, .int (nI u_146.1)])), (qt, .inl (cJ, 3000, .inr (.inl u_146.2.1))), (qv, .inl (cJ, 3000, .inr (.inl u_146.2.2.1))), (qo, .inl (cJ, 1, .inr (.inl u_146.2.2.2)))]) (av := [.ref mq, .long t, .long v]) (va_runV (As := [.long t, .long v]) (rest := []) ⟨hx, hb, hml, hown, hw⟩ (cc_M_add l D cJ cB mq ta vb ba na nb cd (nI tk) pl wr fz fb n L mf mg t v _ h1) (cwV 2 hw (tb_V wi_581 wi_582 wi_583 wi_25 wi_584) rfl rfl rfl (by decide +kernel) ⟨Nat.le_of_ble_eq_true rfl, Nat.le_of_ble_eq_true rfl⟩) ⟨ct_blind, ct_recv hK hP (q0 := 7) (ci := 6) rfl rfl, ct_pc hZ hK hP hD hS hA [7, 8, 9] rfl (by decide)⟩ rfl rfl hl.1 rfl (lv_room (Nat.le_of_ble_eq_true rfl)) dd_L_law_196 ⟨by rw [room_c]; omega, by rw [room_s]; omega⟩) hK hP hD hS hA [7, 8, 9] [0, 1, 2, 3, 4, 5, 6, 10, 11, 12, 13, 14, 15, 16, 17] rfl rfl (by decide) (by decide) (fun r_196 u_196 H locs hw_196 hP hD hS => ?_)
  have hP : va_P D classes [(qs, .inr (2, [.ref qs1, .ref qs2, .int (nI n2)])), (qs1, .inl (cJ, 3000, .inr (.inl f2))), (qs2, .inl (cJ, 3000, .inr (.inl g2))), (qb, .inr (0, [.ref qw, .int (nI L.length)])), (qw, .inl (cJ, 6250, .inr (.inl w))), (qc, .inr (0, [.ref qd, .int (nI n3)])), (qd, .inl (cJ, 6250, .inr (.inl w2))), (ba, .inl (cB, 400000, .inl by0)), (na, .inl (cJ, 3000, .inr (.inl mf2))), (nb, .inl (cJ, 3000, .inr (.inl mg2))), (q, .inr (5, [.ref qp, .ref qs, .ref qb, .ref qc, .int (nI tk)])), (qp, .inr (2, [.ref qt, .ref qv, .int (nI u_146.1)])), (qt, .inl (cJ, 3000, .inr (.inl u_146.2.1))), (qv, .inl (cJ, 3000, .inr (.inl u_146.2.2.1))), (qo, .inl (cJ, 1, .inr (.inl u_146.2.2.2))), (mq, .inr (6, [.int u_196.2.2.2, .ref ta, .ref vb, .int (nI u_196.1), .ref ba, .int (nI L.length), .int (nI tk), .ref na, .ref nb, .int pl, .int wr, .int fz, .int fb])), (ta, .inl (cJ, 3000, .inr (.inl u_196.2.1))), (vb, .inl (cJ, 3000, .inr (.inl u_196.2.2.1)))] _ := hP
  have hD : va_D A [(qs, .inr (2, [.ref qs1, .ref qs2, .int (nI n2)])), (qs1, .inl (cJ, 3000, .inr (.inl f2))), (qs2, .inl (cJ, 3000, .inr (.inl g2))), (qb, .inr (0, [.ref qw, .int (nI L.length)])), (qw, .inl (cJ, 6250, .inr (.inl w))), (qc, .inr (0, [.ref qd, .int (nI n3)])), (qd, .inl (cJ, 6250, .inr (.inl w2))), (ba, .inl (cB, 400000, .inl by0)), (na, .inl (cJ, 3000, .inr (.inl mf2))), (nb, .inl (cJ, 3000, .inr (.inl mg2))), (q, .inr (5, [.ref qp, .ref qs, .ref qb, .ref qc, .int (nI tk)])), (qp, .inr (2, [.ref qt, .ref qv, .int (nI u_146.1)])), (qt, .inl (cJ, 3000, .inr (.inl u_146.2.1))), (qv, .inl (cJ, 3000, .inr (.inl u_146.2.2.1))), (qo, .inl (cJ, 1, .inr (.inl u_146.2.2.2))), (mq, .inr (6, [.int u_196.2.2.2, .ref ta, .ref vb, .int (nI u_196.1), .ref ba, .int (nI L.length), .int (nI tk), .ref na, .ref nb, .int pl, .int wr, .int fz, .int fb])), (ta, .inl (cJ, 3000, .inr (.inl u_196.2.1))), (vb, .inl (cJ, 3000, .inr (.inl u_196.2.2.1)))] := hD
  have hok := la_okt (t := t) (fun j hj => (hag j hj).1)
  rcases hw_146 with ⟨a1, a2, a3, a4⟩ | ⟨a1, a2, a4⟩ | ⟨a1, a2, a3, a4⟩
  · skip
    obtain ⟨-, -, b1, b2⟩ := (hw_196.resolve_left (fun z => z.1 (hok.mp a2))).resolve_left (fun z => absurd z.2.1 (by omega))
    subst a1 a4 b1 b2
    have hP : va_P D classes [(qs, .inr (2, [.ref qs1, .ref qs2, .int (nI n2)])), (qs1, .inl (cJ, 3000, .inr (.inl f2))), (qs2, .inl (cJ, 3000, .inr (.inl g2))), (qb, .inr (0, [.ref qw, .int (nI L.length)])), (qw, .inl (cJ, 6250, .inr (.inl w))), (qc, .inr (0, [.ref qd, .int (nI n3)])), (qd, .inl (cJ, 6250, .inr (.inl w2))), (ba, .inl (cB, 400000, .inl by0)), (na, .inl (cJ, 3000, .inr (.inl mf2))), (nb, .inl (cJ, 3000, .inr (.inl mg2))), (q, .inr (5, [.ref qp, .ref qs, .ref qb, .ref qc, .int (nI tk)])), (qp, .inr (2, [.ref qt, .ref qv, .int (nI (n + 1))])), (qt, .inl (cJ, 3000, .inr (.inl (vp_updL f n t)))), (qv, .inl (cJ, 3000, .inr (.inl (vp_updL g n v)))), (qo, .inl (cJ, 1, .inr (.inl (vp_updL fo 0 (lN (n + 1)))))), (mq, .inr (6, [.int (nI 0), .ref ta, .ref vb, .int (nI (n + 1)), .ref ba, .int (nI L.length), .int (nI tk), .ref na, .ref nb, .int pl, .int wr, .int fz, .int fb])), (ta, .inl (cJ, 3000, .inr (.inl (vp_updL mf n t)))), (vb, .inl (cJ, 3000, .inr (.inl (vp_updL mg n v))))] _ := hP
    have hD : va_D A [(qs, .inr (2, [.ref qs1, .ref qs2, .int (nI n2)])), (qs1, .inl (cJ, 3000, .inr (.inl f2))), (qs2, .inl (cJ, 3000, .inr (.inl g2))), (qb, .inr (0, [.ref qw, .int (nI L.length)])), (qw, .inl (cJ, 6250, .inr (.inl w))), (qc, .inr (0, [.ref qd, .int (nI n3)])), (qd, .inl (cJ, 6250, .inr (.inl w2))), (ba, .inl (cB, 400000, .inl by0)), (na, .inl (cJ, 3000, .inr (.inl mf2))), (nb, .inl (cJ, 3000, .inr (.inl mg2))), (q, .inr (5, [.ref qp, .ref qs, .ref qb, .ref qc, .int (nI tk)])), (qp, .inr (2, [.ref qt, .ref qv, .int (nI (n + 1))])), (qt, .inl (cJ, 3000, .inr (.inl (vp_updL f n t)))), (qv, .inl (cJ, 3000, .inr (.inl (vp_updL g n v)))), (qo, .inl (cJ, 1, .inr (.inl (vp_updL fo 0 (lN (n + 1)))))), (mq, .inr (6, [.int (nI 0), .ref ta, .ref vb, .int (nI (n + 1)), .ref ba, .int (nI L.length), .int (nI tk), .ref na, .ref nb, .int pl, .int wr, .int fz, .int fb])), (ta, .inl (cJ, 3000, .inr (.inl (vp_updL mf n t)))), (vb, .inl (cJ, 3000, .inr (.inl (vp_updL mg n v))))] := hD
    have hl : lv_has ls 8 [(5, .int (nI 0)), (0, .ref b), (1, .ref q), (2, .ref mq), (3, .ref qo), (4, .int (nI (5 * k)))] := hl
    refine lv_istore (lv' := [(6, .int (nI (n + 1))), (5, .int (nI 0)), (0, .ref b), (1, .ref q), (2, .ref mq), (3, .ref qo), (4, .int (nI (5 * k)))]) hx hb dd_L_law_199 hl (by decide) rfl (fun ls hl => ?_)
    refine lv_aload_n hx hb dd_L_law_201 rfl (lv_at hl 4 rfl) ?_
    refine ct_behind_i (wc := [(mq, .inr (6, [.int (nI 0), .ref ta, .ref vb, .int (nI (n + 1)), .ref ba, .int (nI L.length), .int (nI tk), .ref na, .ref nb, .int pl, .int wr, .int fz, .int fb]))]) (wr := [(qs, .inr (2, [.ref qs1, .ref qs2, .int (nI n2)])), (qs1, .inl (cJ, 3000, .inr (.inl f2))), (qs2, .inl (cJ, 3000, .inr (.inl g2))), (qb, .inr (0, [.ref qw, .int (nI L.length)])), (qw, .inl (cJ, 6250, .inr (.inl w))), (qc, .inr (0, [.ref qd, .int (nI n3)])), (qd, .inl (cJ, 6250, .inr (.inl w2))), (ba, .inl (cB, 400000, .inl by0)), (na, .inl (cJ, 3000, .inr (.inl mf2))), (nb, .inl (cJ, 3000, .inr (.inl mg2))), (q, .inr (5, [.ref qp, .ref qs, .ref qb, .ref qc, .int (nI tk)])), (qp, .inr (2, [.ref qt, .ref qv, .int (nI (n + 1))])), (qt, .inl (cJ, 3000, .inr (.inl (vp_updL f n t)))), (qv, .inl (cJ, 3000, .inr (.inl (vp_updL g n v)))), (qo, .inl (cJ, 1, .inr (.inl (vp_updL fo 0 (lN (n + 1)))))), (ta, .inl (cJ, 3000, .inr (.inl (vp_updL mf n t)))), (vb, .inl (cJ, 3000, .inr (.inl (vp_updL mg n v))))]) (av := [.ref mq]) (va_runV (As := []) (rest := []) ⟨hx, hb, hml, hown, hw⟩ (cc_M_thrown l D cJ cB mq ta vb ba na nb (nI 0) (nI tk) pl wr fz fb (n + 1) L _) (cwV 0 hw (tb_V wi_577 wi_578 wi_579 wi_25 wi_580) rfl rfl rfl (by decide +kernel) ⟨Nat.le_of_ble_eq_true rfl, Nat.le_of_ble_eq_true rfl⟩) ⟨ct_blind, ct_recv hK hP (q0 := 15) (ci := 6) rfl rfl, ct_pc hZ hK hP hD hS hA [15] rfl (by decide)⟩ rfl rfl hl.1 rfl (lv_room (Nat.le_of_ble_eq_true rfl)) dd_L_law_202 ⟨by rw [room_c]; omega, by rw [room_s]; omega⟩) hK hP hD hS hA [15] [0, 1, 2, 3, 4, 5, 6, 7, 8, 9, 10, 11, 12, 13, 14, 16, 17] rfl rfl (by decide) (by decide) (fun r_202 u_202 H locs hw_202 hP hD hS => ?_)
    subst hw_202
    have hP : va_P D classes [(qs, .inr (2, [.ref qs1, .ref qs2, .int (nI n2)])), (qs1, .inl (cJ, 3000, .inr (.inl f2))), (qs2, .inl (cJ, 3000, .inr (.inl g2))), (qb, .inr (0, [.ref qw, .int (nI L.length)])), (qw, .inl (cJ, 6250, .inr (.inl w))), (qc, .inr (0, [.ref qd, .int (nI n3)])), (qd, .inl (cJ, 6250, .inr (.inl w2))), (ba, .inl (cB, 400000, .inl by0)), (na, .inl (cJ, 3000, .inr (.inl mf2))), (nb, .inl (cJ, 3000, .inr (.inl mg2))), (q, .inr (5, [.ref qp, .ref qs, .ref qb, .ref qc, .int (nI tk)])), (qp, .inr (2, [.ref qt, .ref qv, .int (nI (n + 1))])), (qt, .inl (cJ, 3000, .inr (.inl (vp_updL f n t)))), (qv, .inl (cJ, 3000, .inr (.inl (vp_updL g n v)))), (qo, .inl (cJ, 1, .inr (.inl (vp_updL fo 0 (lN (n + 1)))))), (ta, .inl (cJ, 3000, .inr (.inl (vp_updL mf n t)))), (vb, .inl (cJ, 3000, .inr (.inl (vp_updL mg n v)))), (mq, .inr (6, [.int (nI 0), .ref ta, .ref vb, .int (nI (n + 1)), .ref ba, .int (nI L.length), .int (nI tk), .ref na, .ref nb, .int pl, .int wr, .int fz, .int fb]))] _ := hP
    have hD : va_D A [(qs, .inr (2, [.ref qs1, .ref qs2, .int (nI n2)])), (qs1, .inl (cJ, 3000, .inr (.inl f2))), (qs2, .inl (cJ, 3000, .inr (.inl g2))), (qb, .inr (0, [.ref qw, .int (nI L.length)])), (qw, .inl (cJ, 6250, .inr (.inl w))), (qc, .inr (0, [.ref qd, .int (nI n3)])), (qd, .inl (cJ, 6250, .inr (.inl w2))), (ba, .inl (cB, 400000, .inl by0)), (na, .inl (cJ, 3000, .inr (.inl mf2))), (nb, .inl (cJ, 3000, .inr (.inl mg2))), (q, .inr (5, [.ref qp, .ref qs, .ref qb, .ref qc, .int (nI tk)])), (qp, .inr (2, [.ref qt, .ref qv, .int (nI (n + 1))])), (qt, .inl (cJ, 3000, .inr (.inl (vp_updL f n t)))), (qv, .inl (cJ, 3000, .inr (.inl (vp_updL g n v)))), (qo, .inl (cJ, 1, .inr (.inl (vp_updL fo 0 (lN (n + 1)))))), (ta, .inl (cJ, 3000, .inr (.inl (vp_updL mf n t)))), (vb, .inl (cJ, 3000, .inr (.inl (vp_updL mg n v)))), (mq, .inr (6, [.int (nI 0), .ref ta, .ref vb, .int (nI (n + 1)), .ref ba, .int (nI L.length), .int (nI tk), .ref na, .ref nb, .int pl, .int wr, .int fz, .int fb]))] := hD
    refine lv_iload hx hb dd_L_law_205 (lv_at hl 1 rfl) ?_
    refine lv_icmp_eq (tgt := 212) hx hb dd_L_law_207 (by decide) (fun c_207 => ?_) (fun c_207 => ?_)
    · skip
      have c_207 : 0 = 0 := (nI_eq (by omega) (by omega)).mp c_207
      refine lv_iload hx hb dd_L_law_212 (lv_at hl 1 rfl) ?_
      refine lv_if_ne (tgt := 229) hx hb dd_L_law_214 (by decide) (fun c_214 => ?_) (fun c_214 => ?_)
      · skip
        have c_214 : ¬ (0 = 0) := fun z => c_214 ((ct_zeq (by omega)).mpr z)
        exfalso
        omega
      have c_214 : 0 = 0 := (ct_zeq (by omega)).mp c_214
      refine lv_aload_n hx hb dd_L_law_217 rfl (lv_at hl 5 rfl) ?_
      refine lv_iconst (v := nI 0) hx hb dd_L_law_218 (by decide) ?_
      refine va_lald hx hb hK hP 14 0 rfl rfl (vp_in_nI (by omega) (by omega)) dd_L_law_219 ?_
      refine ct_topl (y := (vp_updL fo 0 (lN (n + 1))) 0) (by rw [nI_clamp (by omega)]) ?_
      refine ct_topl (y := lN (n + 1)) (pk_uLs) ?_
      refine lv_iload hx hb dd_L_law_220 (lv_at hl 0 rfl) ?_
      refine lv_i2l (v := (nI (n + 1)).toInt64) hx hb dd_L_law_222 rfl ?_
      refine ct_topl (y := lN (n + 1)) (nI_l (by omega)) ?_
      refine W.lcmp hx hb dd_L_law_223 ?_
      refine lv_if_eq (tgt := 229) hx hb dd_L_law_224 (by decide) (fun c_224 => ?_) (fun c_224 => ?_)
      · skip
        have c_224 : (lN (n + 1)) = (lN (n + 1)) := (lg_cmp_eq _ _).mp c_224
        refine lv_goto (tgt := 802) hx hb dd_L_law_229 (by decide) ?_
        refine lv_iinc (v := nI (5 * k + 5)) (lv' := [(4, .int (nI (5 * k + 5))), (6, .int (nI (n + 1))), (5, .int (nI 0)), (0, .ref b), (1, .ref q), (2, .ref mq), (3, .ref qo)]) hx hb dd_L_law_802 hl (k := 6) rfl (nI_add (5 * k) 5) (by decide) rfl (fun ls hl => ?_)
        refine lv_goto (tgt := 23) hx hb dd_L_law_805 (by decide) ?_
        refine W.widen (k := 18 + 2 * (k + 1)) (n := 436529 + 9 * (k + 1)) (by omega) (by omega) ?_
        exact tail _ _ _ ⟨q, qp, qt, qv, qs, qs1, qs2, qb, qw, qc, qd, tk, n + 1, n2, n3, vp_updL f n t, vp_updL g n v, f2, g2, w, w2, L, mq, ta, vb, ba, na, nb, nI 0, pl, wr, fz, fb, vp_updL mf n t, vp_updL mg n v, mf2, mg2, by0, qo, vp_updL fo 0 (lN (n + 1)), hP.sub [10, 11, 12, 13, 0, 1, 2, 3, 4, 5, 6, 17, 15, 16, 7, 8, 9, 14] rfl, hD.sub [10, 11, 12, 13, 0, 1, 2, 3, 4, 5, 6, 17, 15, 16, 7, 8, 9, 14] (by decide) rfl, hS, lv_sub hl [3, 4, 5, 6, 0] rfl, by omega, hL, hR, hB, la_fit a2 hf0, la_ag hag⟩
      have c_224 : ¬ ((lN (n + 1)) = (lN (n + 1))) := fun z => c_224 ((lg_cmp_eq _ _).mpr z)
      exfalso
      exact c_224 rfl
    have c_207 : ¬ (0 = 0) := fun z => c_207 ((nI_eq (by omega) (by omega)).mpr z)
    exfalso
    omega
  · skip
    have b2 := hw_196.elim (fun z => z.2) (fun z => absurd (hok.mpr (z.elim (fun y => y.1) (fun y => y.1))) a2)
    subst a1 a4 b2
    have hP : va_P D classes [(qs, .inr (2, [.ref qs1, .ref qs2, .int (nI n2)])), (qs1, .inl (cJ, 3000, .inr (.inl f2))), (qs2, .inl (cJ, 3000, .inr (.inl g2))), (qb, .inr (0, [.ref qw, .int (nI L.length)])), (qw, .inl (cJ, 6250, .inr (.inl w))), (qc, .inr (0, [.ref qd, .int (nI n3)])), (qd, .inl (cJ, 6250, .inr (.inl w2))), (ba, .inl (cB, 400000, .inl by0)), (na, .inl (cJ, 3000, .inr (.inl mf2))), (nb, .inl (cJ, 3000, .inr (.inl mg2))), (q, .inr (5, [.ref qp, .ref qs, .ref qb, .ref qc, .int (nI tk)])), (qp, .inr (2, [.ref qt, .ref qv, .int (nI n)])), (qt, .inl (cJ, 3000, .inr (.inl f))), (qv, .inl (cJ, 3000, .inr (.inl g))), (qo, .inl (cJ, 1, .inr (.inl fo))), (mq, .inr (6, [.int (nI 1), .ref ta, .ref vb, .int (nI n), .ref ba, .int (nI L.length), .int (nI tk), .ref na, .ref nb, .int pl, .int wr, .int fz, .int fb])), (ta, .inl (cJ, 3000, .inr (.inl mf))), (vb, .inl (cJ, 3000, .inr (.inl mg)))] _ := hP
    have hD : va_D A [(qs, .inr (2, [.ref qs1, .ref qs2, .int (nI n2)])), (qs1, .inl (cJ, 3000, .inr (.inl f2))), (qs2, .inl (cJ, 3000, .inr (.inl g2))), (qb, .inr (0, [.ref qw, .int (nI L.length)])), (qw, .inl (cJ, 6250, .inr (.inl w))), (qc, .inr (0, [.ref qd, .int (nI n3)])), (qd, .inl (cJ, 6250, .inr (.inl w2))), (ba, .inl (cB, 400000, .inl by0)), (na, .inl (cJ, 3000, .inr (.inl mf2))), (nb, .inl (cJ, 3000, .inr (.inl mg2))), (q, .inr (5, [.ref qp, .ref qs, .ref qb, .ref qc, .int (nI tk)])), (qp, .inr (2, [.ref qt, .ref qv, .int (nI n)])), (qt, .inl (cJ, 3000, .inr (.inl f))), (qv, .inl (cJ, 3000, .inr (.inl g))), (qo, .inl (cJ, 1, .inr (.inl fo))), (mq, .inr (6, [.int (nI 1), .ref ta, .ref vb, .int (nI n), .ref ba, .int (nI L.length), .int (nI tk), .ref na, .ref nb, .int pl, .int wr, .int fz, .int fb])), (ta, .inl (cJ, 3000, .inr (.inl mf))), (vb, .inl (cJ, 3000, .inr (.inl mg)))] := hD
    have hl : lv_has ls 8 [(5, .int (nI 1)), (0, .ref b), (1, .ref q), (2, .ref mq), (3, .ref qo), (4, .int (nI (5 * k)))] := hl
    refine lv_istore (lv' := [(6, .int r_196), (5, .int (nI 1)), (0, .ref b), (1, .ref q), (2, .ref mq), (3, .ref qo), (4, .int (nI (5 * k)))]) hx hb dd_L_law_199 hl (by decide) rfl (fun ls hl => ?_)
    refine lv_aload_n hx hb dd_L_law_201 rfl (lv_at hl 4 rfl) ?_
    refine ct_behind_i (wc := [(mq, .inr (6, [.int (nI 1), .ref ta, .ref vb, .int (nI n), .ref ba, .int (nI L.length), .int (nI tk), .ref na, .ref nb, .int pl, .int wr, .int fz, .int fb]))]) (wr := [(qs, .inr (2, [.ref qs1, .ref qs2, .int (nI n2)])), (qs1, .inl (cJ, 3000, .inr (.inl f2))), (qs2, .inl (cJ, 3000, .inr (.inl g2))), (qb, .inr (0, [.ref qw, .int (nI L.length)])), (qw, .inl (cJ, 6250, .inr (.inl w))), (qc, .inr (0, [.ref qd, .int (nI n3)])), (qd, .inl (cJ, 6250, .inr (.inl w2))), (ba, .inl (cB, 400000, .inl by0)), (na, .inl (cJ, 3000, .inr (.inl mf2))), (nb, .inl (cJ, 3000, .inr (.inl mg2))), (q, .inr (5, [.ref qp, .ref qs, .ref qb, .ref qc, .int (nI tk)])), (qp, .inr (2, [.ref qt, .ref qv, .int (nI n)])), (qt, .inl (cJ, 3000, .inr (.inl f))), (qv, .inl (cJ, 3000, .inr (.inl g))), (qo, .inl (cJ, 1, .inr (.inl fo))), (ta, .inl (cJ, 3000, .inr (.inl mf))), (vb, .inl (cJ, 3000, .inr (.inl mg)))]) (av := [.ref mq]) (va_runV (As := []) (rest := []) ⟨hx, hb, hml, hown, hw⟩ (cc_M_thrown l D cJ cB mq ta vb ba na nb (nI 1) (nI tk) pl wr fz fb n L _) (cwV 0 hw (tb_V wi_577 wi_578 wi_579 wi_25 wi_580) rfl rfl rfl (by decide +kernel) ⟨Nat.le_of_ble_eq_true rfl, Nat.le_of_ble_eq_true rfl⟩) ⟨ct_blind, ct_recv hK hP (q0 := 15) (ci := 6) rfl rfl, ct_pc hZ hK hP hD hS hA [15] rfl (by decide)⟩ rfl rfl hl.1 rfl (lv_room (Nat.le_of_ble_eq_true rfl)) dd_L_law_202 ⟨by rw [room_c]; omega, by rw [room_s]; omega⟩) hK hP hD hS hA [15] [0, 1, 2, 3, 4, 5, 6, 7, 8, 9, 10, 11, 12, 13, 14, 16, 17] rfl rfl (by decide) (by decide) (fun r_202 u_202 H locs hw_202 hP hD hS => ?_)
    subst hw_202
    have hP : va_P D classes [(qs, .inr (2, [.ref qs1, .ref qs2, .int (nI n2)])), (qs1, .inl (cJ, 3000, .inr (.inl f2))), (qs2, .inl (cJ, 3000, .inr (.inl g2))), (qb, .inr (0, [.ref qw, .int (nI L.length)])), (qw, .inl (cJ, 6250, .inr (.inl w))), (qc, .inr (0, [.ref qd, .int (nI n3)])), (qd, .inl (cJ, 6250, .inr (.inl w2))), (ba, .inl (cB, 400000, .inl by0)), (na, .inl (cJ, 3000, .inr (.inl mf2))), (nb, .inl (cJ, 3000, .inr (.inl mg2))), (q, .inr (5, [.ref qp, .ref qs, .ref qb, .ref qc, .int (nI tk)])), (qp, .inr (2, [.ref qt, .ref qv, .int (nI n)])), (qt, .inl (cJ, 3000, .inr (.inl f))), (qv, .inl (cJ, 3000, .inr (.inl g))), (qo, .inl (cJ, 1, .inr (.inl fo))), (ta, .inl (cJ, 3000, .inr (.inl mf))), (vb, .inl (cJ, 3000, .inr (.inl mg))), (mq, .inr (6, [.int (nI 1), .ref ta, .ref vb, .int (nI n), .ref ba, .int (nI L.length), .int (nI tk), .ref na, .ref nb, .int pl, .int wr, .int fz, .int fb]))] _ := hP
    have hD : va_D A [(qs, .inr (2, [.ref qs1, .ref qs2, .int (nI n2)])), (qs1, .inl (cJ, 3000, .inr (.inl f2))), (qs2, .inl (cJ, 3000, .inr (.inl g2))), (qb, .inr (0, [.ref qw, .int (nI L.length)])), (qw, .inl (cJ, 6250, .inr (.inl w))), (qc, .inr (0, [.ref qd, .int (nI n3)])), (qd, .inl (cJ, 6250, .inr (.inl w2))), (ba, .inl (cB, 400000, .inl by0)), (na, .inl (cJ, 3000, .inr (.inl mf2))), (nb, .inl (cJ, 3000, .inr (.inl mg2))), (q, .inr (5, [.ref qp, .ref qs, .ref qb, .ref qc, .int (nI tk)])), (qp, .inr (2, [.ref qt, .ref qv, .int (nI n)])), (qt, .inl (cJ, 3000, .inr (.inl f))), (qv, .inl (cJ, 3000, .inr (.inl g))), (qo, .inl (cJ, 1, .inr (.inl fo))), (ta, .inl (cJ, 3000, .inr (.inl mf))), (vb, .inl (cJ, 3000, .inr (.inl mg))), (mq, .inr (6, [.int (nI 1), .ref ta, .ref vb, .int (nI n), .ref ba, .int (nI L.length), .int (nI tk), .ref na, .ref nb, .int pl, .int wr, .int fz, .int fb]))] := hD
    refine lv_iload hx hb dd_L_law_205 (lv_at hl 1 rfl) ?_
    refine lv_icmp_eq (tgt := 212) hx hb dd_L_law_207 (by decide) (fun c_207 => ?_) (fun c_207 => ?_)
    · skip
      have c_207 : 1 = 1 := (nI_eq (by omega) (by omega)).mp c_207
      refine lv_iload hx hb dd_L_law_212 (lv_at hl 1 rfl) ?_
      refine lv_if_ne (tgt := 229) hx hb dd_L_law_214 (by decide) (fun c_214 => ?_) (fun c_214 => ?_)
      · skip
        have c_214 : ¬ (1 = 0) := fun z => c_214 ((ct_zeq (by omega)).mpr z)
        refine lv_goto (tgt := 802) hx hb dd_L_law_229 (by decide) ?_
        refine lv_iinc (v := nI (5 * k + 5)) (lv' := [(4, .int (nI (5 * k + 5))), (6, .int r_196), (5, .int (nI 1)), (0, .ref b), (1, .ref q), (2, .ref mq), (3, .ref qo)]) hx hb dd_L_law_802 hl (k := 6) rfl (nI_add (5 * k) 5) (by decide) rfl (fun ls hl => ?_)
        refine lv_goto (tgt := 23) hx hb dd_L_law_805 (by decide) ?_
        refine W.widen (k := 18 + 2 * (k + 1)) (n := 436529 + 9 * (k + 1)) (by omega) (by omega) ?_
        exact tail _ _ _ ⟨q, qp, qt, qv, qs, qs1, qs2, qb, qw, qc, qd, tk, n, n2, n3, f, g, f2, g2, w, w2, L, mq, ta, vb, ba, na, nb, nI 1, pl, wr, fz, fb, mf, mg, mf2, mg2, by0, qo, fo, hP.sub [10, 11, 12, 13, 0, 1, 2, 3, 4, 5, 6, 17, 15, 16, 7, 8, 9, 14] rfl, hD.sub [10, 11, 12, 13, 0, 1, 2, 3, 4, 5, 6, 17, 15, 16, 7, 8, 9, 14] (by decide) rfl, hS, lv_sub hl [3, 4, 5, 6, 0] rfl, h1, hL, hR, hB, hf0, hag⟩
      have c_214 : 1 = 0 := (ct_zeq (by omega)).mp c_214
      exfalso
      omega
    have c_207 : ¬ (1 = 1) := fun z => c_207 ((nI_eq (by omega) (by omega)).mpr z)
    exfalso
    omega
  · skip
    have b2 := (hw_196.resolve_left (fun z => z.1 (hok.mp a2))).elim (fun z => z.2.2) (fun z => absurd z.2.1 (by omega))
    subst a1 a4 b2
    have hP : va_P D classes [(qs, .inr (2, [.ref qs1, .ref qs2, .int (nI n2)])), (qs1, .inl (cJ, 3000, .inr (.inl f2))), (qs2, .inl (cJ, 3000, .inr (.inl g2))), (qb, .inr (0, [.ref qw, .int (nI L.length)])), (qw, .inl (cJ, 6250, .inr (.inl w))), (qc, .inr (0, [.ref qd, .int (nI n3)])), (qd, .inl (cJ, 6250, .inr (.inl w2))), (ba, .inl (cB, 400000, .inl by0)), (na, .inl (cJ, 3000, .inr (.inl mf2))), (nb, .inl (cJ, 3000, .inr (.inl mg2))), (q, .inr (5, [.ref qp, .ref qs, .ref qb, .ref qc, .int (nI tk)])), (qp, .inr (2, [.ref qt, .ref qv, .int (nI n)])), (qt, .inl (cJ, 3000, .inr (.inl f))), (qv, .inl (cJ, 3000, .inr (.inl g))), (qo, .inl (cJ, 1, .inr (.inl fo))), (mq, .inr (6, [.int (nI 2), .ref ta, .ref vb, .int (nI n), .ref ba, .int (nI L.length), .int (nI tk), .ref na, .ref nb, .int pl, .int wr, .int fz, .int fb])), (ta, .inl (cJ, 3000, .inr (.inl mf))), (vb, .inl (cJ, 3000, .inr (.inl mg)))] _ := hP
    have hD : va_D A [(qs, .inr (2, [.ref qs1, .ref qs2, .int (nI n2)])), (qs1, .inl (cJ, 3000, .inr (.inl f2))), (qs2, .inl (cJ, 3000, .inr (.inl g2))), (qb, .inr (0, [.ref qw, .int (nI L.length)])), (qw, .inl (cJ, 6250, .inr (.inl w))), (qc, .inr (0, [.ref qd, .int (nI n3)])), (qd, .inl (cJ, 6250, .inr (.inl w2))), (ba, .inl (cB, 400000, .inl by0)), (na, .inl (cJ, 3000, .inr (.inl mf2))), (nb, .inl (cJ, 3000, .inr (.inl mg2))), (q, .inr (5, [.ref qp, .ref qs, .ref qb, .ref qc, .int (nI tk)])), (qp, .inr (2, [.ref qt, .ref qv, .int (nI n)])), (qt, .inl (cJ, 3000, .inr (.inl f))), (qv, .inl (cJ, 3000, .inr (.inl g))), (qo, .inl (cJ, 1, .inr (.inl fo))), (mq, .inr (6, [.int (nI 2), .ref ta, .ref vb, .int (nI n), .ref ba, .int (nI L.length), .int (nI tk), .ref na, .ref nb, .int pl, .int wr, .int fz, .int fb])), (ta, .inl (cJ, 3000, .inr (.inl mf))), (vb, .inl (cJ, 3000, .inr (.inl mg)))] := hD
    have hl : lv_has ls 8 [(5, .int (nI 2)), (0, .ref b), (1, .ref q), (2, .ref mq), (3, .ref qo), (4, .int (nI (5 * k)))] := hl
    refine lv_istore (lv' := [(6, .int r_196), (5, .int (nI 2)), (0, .ref b), (1, .ref q), (2, .ref mq), (3, .ref qo), (4, .int (nI (5 * k)))]) hx hb dd_L_law_199 hl (by decide) rfl (fun ls hl => ?_)
    refine lv_aload_n hx hb dd_L_law_201 rfl (lv_at hl 4 rfl) ?_
    refine ct_behind_i (wc := [(mq, .inr (6, [.int (nI 2), .ref ta, .ref vb, .int (nI n), .ref ba, .int (nI L.length), .int (nI tk), .ref na, .ref nb, .int pl, .int wr, .int fz, .int fb]))]) (wr := [(qs, .inr (2, [.ref qs1, .ref qs2, .int (nI n2)])), (qs1, .inl (cJ, 3000, .inr (.inl f2))), (qs2, .inl (cJ, 3000, .inr (.inl g2))), (qb, .inr (0, [.ref qw, .int (nI L.length)])), (qw, .inl (cJ, 6250, .inr (.inl w))), (qc, .inr (0, [.ref qd, .int (nI n3)])), (qd, .inl (cJ, 6250, .inr (.inl w2))), (ba, .inl (cB, 400000, .inl by0)), (na, .inl (cJ, 3000, .inr (.inl mf2))), (nb, .inl (cJ, 3000, .inr (.inl mg2))), (q, .inr (5, [.ref qp, .ref qs, .ref qb, .ref qc, .int (nI tk)])), (qp, .inr (2, [.ref qt, .ref qv, .int (nI n)])), (qt, .inl (cJ, 3000, .inr (.inl f))), (qv, .inl (cJ, 3000, .inr (.inl g))), (qo, .inl (cJ, 1, .inr (.inl fo))), (ta, .inl (cJ, 3000, .inr (.inl mf))), (vb, .inl (cJ, 3000, .inr (.inl mg)))]) (av := [.ref mq]) (va_runV (As := []) (rest := []) ⟨hx, hb, hml, hown, hw⟩ (cc_M_thrown l D cJ cB mq ta vb ba na nb (nI 2) (nI tk) pl wr fz fb n L _) (cwV 0 hw (tb_V wi_577 wi_578 wi_579 wi_25 wi_580) rfl rfl rfl (by decide +kernel) ⟨Nat.le_of_ble_eq_true rfl, Nat.le_of_ble_eq_true rfl⟩) ⟨ct_blind, ct_recv hK hP (q0 := 15) (ci := 6) rfl rfl, ct_pc hZ hK hP hD hS hA [15] rfl (by decide)⟩ rfl rfl hl.1 rfl (lv_room (Nat.le_of_ble_eq_true rfl)) dd_L_law_202 ⟨by rw [room_c]; omega, by rw [room_s]; omega⟩) hK hP hD hS hA [15] [0, 1, 2, 3, 4, 5, 6, 7, 8, 9, 10, 11, 12, 13, 14, 16, 17] rfl rfl (by decide) (by decide) (fun r_202 u_202 H locs hw_202 hP hD hS => ?_)
    subst hw_202
    have hP : va_P D classes [(qs, .inr (2, [.ref qs1, .ref qs2, .int (nI n2)])), (qs1, .inl (cJ, 3000, .inr (.inl f2))), (qs2, .inl (cJ, 3000, .inr (.inl g2))), (qb, .inr (0, [.ref qw, .int (nI L.length)])), (qw, .inl (cJ, 6250, .inr (.inl w))), (qc, .inr (0, [.ref qd, .int (nI n3)])), (qd, .inl (cJ, 6250, .inr (.inl w2))), (ba, .inl (cB, 400000, .inl by0)), (na, .inl (cJ, 3000, .inr (.inl mf2))), (nb, .inl (cJ, 3000, .inr (.inl mg2))), (q, .inr (5, [.ref qp, .ref qs, .ref qb, .ref qc, .int (nI tk)])), (qp, .inr (2, [.ref qt, .ref qv, .int (nI n)])), (qt, .inl (cJ, 3000, .inr (.inl f))), (qv, .inl (cJ, 3000, .inr (.inl g))), (qo, .inl (cJ, 1, .inr (.inl fo))), (ta, .inl (cJ, 3000, .inr (.inl mf))), (vb, .inl (cJ, 3000, .inr (.inl mg))), (mq, .inr (6, [.int (nI 2), .ref ta, .ref vb, .int (nI n), .ref ba, .int (nI L.length), .int (nI tk), .ref na, .ref nb, .int pl, .int wr, .int fz, .int fb]))] _ := hP
    have hD : va_D A [(qs, .inr (2, [.ref qs1, .ref qs2, .int (nI n2)])), (qs1, .inl (cJ, 3000, .inr (.inl f2))), (qs2, .inl (cJ, 3000, .inr (.inl g2))), (qb, .inr (0, [.ref qw, .int (nI L.length)])), (qw, .inl (cJ, 6250, .inr (.inl w))), (qc, .inr (0, [.ref qd, .int (nI n3)])), (qd, .inl (cJ, 6250, .inr (.inl w2))), (ba, .inl (cB, 400000, .inl by0)), (na, .inl (cJ, 3000, .inr (.inl mf2))), (nb, .inl (cJ, 3000, .inr (.inl mg2))), (q, .inr (5, [.ref qp, .ref qs, .ref qb, .ref qc, .int (nI tk)])), (qp, .inr (2, [.ref qt, .ref qv, .int (nI n)])), (qt, .inl (cJ, 3000, .inr (.inl f))), (qv, .inl (cJ, 3000, .inr (.inl g))), (qo, .inl (cJ, 1, .inr (.inl fo))), (ta, .inl (cJ, 3000, .inr (.inl mf))), (vb, .inl (cJ, 3000, .inr (.inl mg))), (mq, .inr (6, [.int (nI 2), .ref ta, .ref vb, .int (nI n), .ref ba, .int (nI L.length), .int (nI tk), .ref na, .ref nb, .int pl, .int wr, .int fz, .int fb]))] := hD
    refine lv_iload hx hb dd_L_law_205 (lv_at hl 1 rfl) ?_
    refine lv_icmp_eq (tgt := 212) hx hb dd_L_law_207 (by decide) (fun c_207 => ?_) (fun c_207 => ?_)
    · skip
      have c_207 : 2 = 2 := (nI_eq (by omega) (by omega)).mp c_207
      refine lv_iload hx hb dd_L_law_212 (lv_at hl 1 rfl) ?_
      refine lv_if_ne (tgt := 229) hx hb dd_L_law_214 (by decide) (fun c_214 => ?_) (fun c_214 => ?_)
      · skip
        have c_214 : ¬ (2 = 0) := fun z => c_214 ((ct_zeq (by omega)).mpr z)
        refine lv_goto (tgt := 802) hx hb dd_L_law_229 (by decide) ?_
        refine lv_iinc (v := nI (5 * k + 5)) (lv' := [(4, .int (nI (5 * k + 5))), (6, .int r_196), (5, .int (nI 2)), (0, .ref b), (1, .ref q), (2, .ref mq), (3, .ref qo)]) hx hb dd_L_law_802 hl (k := 6) rfl (nI_add (5 * k) 5) (by decide) rfl (fun ls hl => ?_)
        refine lv_goto (tgt := 23) hx hb dd_L_law_805 (by decide) ?_
        refine W.widen (k := 18 + 2 * (k + 1)) (n := 436529 + 9 * (k + 1)) (by omega) (by omega) ?_
        exact tail _ _ _ ⟨q, qp, qt, qv, qs, qs1, qs2, qb, qw, qc, qd, tk, n, n2, n3, f, g, f2, g2, w, w2, L, mq, ta, vb, ba, na, nb, nI 2, pl, wr, fz, fb, mf, mg, mf2, mg2, by0, qo, fo, hP.sub [10, 11, 12, 13, 0, 1, 2, 3, 4, 5, 6, 17, 15, 16, 7, 8, 9, 14] rfl, hD.sub [10, 11, 12, 13, 0, 1, 2, 3, 4, 5, 6, 17, 15, 16, 7, 8, 9, 14] (by decide) rfl, hS, lv_sub hl [3, 4, 5, 6, 0] rfl, h1, hL, hR, hB, hf0, hag⟩
      have c_214 : 2 = 0 := (ct_zeq (by omega)).mp c_214
      exfalso
      omega
    have c_207 : ¬ (2 = 2) := fun z => c_207 ((nI_eq (by omega) (by omega)).mpr z)
    exfalso
    omega

set_option maxHeartbeats 4000000 in
set_option maxRecDepth 100000 in
theorem lc_keep {p : Program} {l : Launch} {e : Env} {s : State} {m : MethodId} {args : Array Value} {below : List Frame} {meth : Method} {c : Code} {Q : State → Prop} (hlt : l.stackTraces = false) {D : va_G} {cJ cB : ClassId} {A : Nat → Prop} {b NN : Nat} {xs : Nat → Int32} (C : lw_C p s m args c D cJ cB A b NN xs) {k : Nat} (hk : 5 * k + 5 ≤ NN) {H : Heap} {locs : List Loc} {ls : Array Slot} (I : lw_I D cJ cB A s b k H locs ls) (tail : ∀ (H : Heap) (locs : List Loc) (ls : Array Slot), lw_I D cJ cB A s b (k + 1) H locs ls → W p l e room_1 s m args below meth c H locs (18 + 2 * (k + 1)) (436529 + 9 * (k + 1)) Q (F0 m 23 ls [])) : W p l e room_1 s m args below meth c H locs (18 + 2 * k) (436529 + 9 * k) Q (F0 m 232 ls []) := by
  obtain ⟨hx, hb, hml, hown, hw, hK, hA, hZ, hX, hbl, hbA, hN⟩ := C
  obtain ⟨q, qp, qt, qv, qs, qs1, qs2, qb, qw, qc, qd, tk, n, n2, n3, f, g, f2, g2, w, w2, L, mq, ta, vb, ba, na, nb, cd, pl, wr, fz, fb, mf, mg, mf2, mg2, by0, qo, fo, hP, hD, hS, hl, h1, hL, hR, hB, hf0, hag⟩ := I
  refine lv_aload_n hx hb dd_L_law_232 rfl (lv_at hl 1 rfl) ?_
  refine lv_aload_n hx hb dd_L_law_233 rfl (lv_at hl 0 rfl) ?_
  refine lv_iload hx hb dd_L_law_234 (lv_at hl 4 rfl) ?_
  refine lv_iconst (v := nI 1) hx hb dd_L_law_236 (by decide) ?_
  refine lv_iadd hx hb dd_L_law_237 ?_
  refine ct_topi (y := nI (5 * k + 1)) (nI_add _ _) ?_
  refine va_sld hx hb hX hbl hbA hS (vp_in_nI (by omega) (by omega)) dd_L_law_238 ?_
  refine ct_topi (y := xs (5 * k + 1)) (congrArg xs (nI_clamp (by omega))) ?_
  refine lv_aload_n hx hb dd_L_law_239 rfl (lv_at hl 3 rfl) ?_
  refine ct_behind_i (wc := [(q, .inr (5, [.ref qp, .ref qs, .ref qb, .ref qc, .int (nI tk)])), (qp, .inr (2, [.ref qt, .ref qv, .int (nI n)])), (qt, .inl (cJ, 3000, .inr (.inl f))), (qv, .inl (cJ, 3000, .inr (.inl g))), (qo, .inl (cJ, 1, .inr (.inl fo)))]) (wr := [(qs, .inr (2, [.ref qs1, .ref qs2, .int (nI n2)])), (qs1, .inl (cJ, 3000, .inr (.inl f2))), (qs2, .inl (cJ, 3000, .inr (.inl g2))), (qb, .inr (0, [.ref qw, .int (nI L.length)])), (qw, .inl (cJ, 6250, .inr (.inl w))), (qc, .inr (0, [.ref qd, .int (nI n3)])), (qd, .inl (cJ, 6250, .inr (.inl w2))), (mq, .inr (6, [.int cd, .ref ta, .ref vb, .int (nI n), .ref ba, .int (nI L.length), .int (nI tk), .ref na, .ref nb, .int pl, .int wr, .int fz, .int fb])), (ta, .inl (cJ, 3000, .inr (.inl mf))), (vb, .inl (cJ, 3000, .inr (.inl mg))), (ba, .inl (cB, 400000, .inl by0)), (na, .inl (cJ, 3000, .inr (.inl mf2))), (nb, .inl (cJ, 3000, .inr (.inl mg2)))]) (av := [.ref q, .int (xs (5 * k + 1)), .ref qo]) (vx_runSW (As := [.ref q, .int (xs (5 * k + 1)), .ref qo]) (rest := []) ⟨hx, hb, hml, hown, hw⟩ (cc_L_keep l hlt D cJ cB q qp qs qb qc tk qt qv n f g (xs (5 * k + 1)) qo fo _ h1) (vx_cwSW 3 hw (tb_SW wi_204 wi_205 wi_21 wi_206) rfl rfl rfl (by decide +kernel) ⟨Nat.le_of_ble_eq_true rfl, Nat.le_of_ble_eq_true rfl⟩) ⟨ct_blind, ct_pc hZ hK hP hD hS hA [0, 1, 2, 3, 17] rfl (by decide)⟩ rfl rfl hl.1 rfl (lv_room (Nat.le_of_ble_eq_true rfl)) dd_L_law_240 ⟨by rw [room_c]; omega, by rw [room_s]; omega⟩) hK hP hD hS hA [0, 1, 2, 3, 17] [4, 5, 6, 7, 8, 9, 10, 11, 12, 13, 14, 15, 16] rfl rfl (by decide) (by decide) (fun r_240 u_240 H locs hw_240 hP hD hS => ?_)
  have hP : va_P D classes [(qs, .inr (2, [.ref qs1, .ref qs2, .int (nI n2)])), (qs1, .inl (cJ, 3000, .inr (.inl f2))), (qs2, .inl (cJ, 3000, .inr (.inl g2))), (qb, .inr (0, [.ref qw, .int (nI L.length)])), (qw, .inl (cJ, 6250, .inr (.inl w))), (qc, .inr (0, [.ref qd, .int (nI n3)])), (qd, .inl (cJ, 6250, .inr (.inl w2))), (mq, .inr (6, [.int cd, .ref ta, .ref vb, .int (nI n), .ref ba, .int (nI L.length), .int (nI tk), .ref na, .ref nb, .int pl, .int wr, .int fz, .int fb])), (ta, .inl (cJ, 3000, .inr (.inl mf))), (vb, .inl (cJ, 3000, .inr (.inl mg))), (ba, .inl (cB, 400000, .inl by0)), (na, .inl (cJ, 3000, .inr (.inl mf2))), (nb, .inl (cJ, 3000, .inr (.inl mg2))), (q, .inr (5, [.ref qp, .ref qs, .ref qb, .ref qc, .int (nI tk)])), (qp, .inr (2, [.ref qt, .ref qv, .int (nI u_240.1)])), (qt, .inl (cJ, 3000, .inr (.inl f))), (qv, .inl (cJ, 3000, .inr (.inl g))), (qo, .inl (cJ, 1, .inr (.inl u_240.2)))] _ := hP
  have hD : va_D A [(qs, .inr (2, [.ref qs1, .ref qs2, .int (nI n2)])), (qs1, .inl (cJ, 3000, .inr (.inl f2))), (qs2, .inl (cJ, 3000, .inr (.inl g2))), (qb, .inr (0, [.ref qw, .int (nI L.length)])), (qw, .inl (cJ, 6250, .inr (.inl w))), (qc, .inr (0, [.ref qd, .int (nI n3)])), (qd, .inl (cJ, 6250, .inr (.inl w2))), (mq, .inr (6, [.int cd, .ref ta, .ref vb, .int (nI n), .ref ba, .int (nI L.length), .int (nI tk), .ref na, .ref nb, .int pl, .int wr, .int fz, .int fb])), (ta, .inl (cJ, 3000, .inr (.inl mf))), (vb, .inl (cJ, 3000, .inr (.inl mg))), (ba, .inl (cB, 400000, .inl by0)), (na, .inl (cJ, 3000, .inr (.inl mf2))), (nb, .inl (cJ, 3000, .inr (.inl mg2))), (q, .inr (5, [.ref qp, .ref qs, .ref qb, .ref qc, .int (nI tk)])), (qp, .inr (2, [.ref qt, .ref qv, .int (nI u_240.1)])), (qt, .inl (cJ, 3000, .inr (.inl f))), (qv, .inl (cJ, 3000, .inr (.inl g))), (qo, .inl (cJ, 1, .inr (.inl u_240.2)))] := hD
  refine lv_istore (lv' := [(5, .int r_240), (0, .ref b), (1, .ref q), (2, .ref mq), (3, .ref qo), (4, .int (nI (5 * k)))]) hx hb dd_L_law_243 hl (by decide) rfl (fun ls hl => ?_)
  refine lv_aload_n hx hb dd_L_law_245 rfl (lv_at hl 3 rfl) ?_
  refine lv_aload_n hx hb dd_L_law_246 rfl (lv_at hl 1 rfl) ?_
  refine lv_iload hx hb dd_L_law_247 (lv_at hl 5 rfl) ?_
  refine lv_iconst (v := nI 1) hx hb dd_L_law_249 (by decide) ?_
  refine lv_iadd hx hb dd_L_law_250 ?_
  refine ct_topi (y := nI (5 * k + 1)) (nI_add _ _) ?_
  refine va_sld hx hb hX hbl hbA hS (vp_in_nI (by omega) (by omega)) dd_L_law_251 ?_
  refine ct_topi (y := xs (5 * k + 1)) (congrArg xs (nI_clamp (by omega))) ?_
  refine ct_behind_i (wc := [(mq, .inr (6, [.int cd, .ref ta, .ref vb, .int (nI n), .ref ba, .int (nI L.length), .int (nI tk), .ref na, .ref nb, .int pl, .int wr, .int fz, .int fb]))]) (wr := [(qs, .inr (2, [.ref qs1, .ref qs2, .int (nI n2)])), (qs1, .inl (cJ, 3000, .inr (.inl f2))), (qs2, .inl (cJ, 3000, .inr (.inl g2))), (qb, .inr (0, [.ref qw, .int (nI L.length)])), (qw, .inl (cJ, 6250, .inr (.inl w))), (qc, .inr (0, [.ref qd, .int (nI n3)])), (qd, .inl (cJ, 6250, .inr (.inl w2))), (ta, .inl (cJ, 3000, .inr (.inl mf))), (vb, .inl (cJ, 3000, .inr (.inl mg))), (ba, .inl (cB, 400000, .inl by0)), (na, .inl (cJ, 3000, .inr (.inl mf2))), (nb, .inl (cJ, 3000, .inr (.inl mg2))), (q, .inr (5, [.ref qp, .ref qs, .ref qb, .ref qc, .int (nI tk)])), (qp, .inr (2, [.ref qt, .ref qv, .int (nI u_240.1)])), (qt, .inl (cJ, 3000, .inr (.inl f))), (qv, .inl (cJ, 3000, .inr (.inl g))), (qo, .inl (cJ, 1, .inr (.inl u_240.2)))]) (av := [.ref mq, .int (xs (5 * k + 1))]) (va_runV (As := [.int (xs (5 * k + 1))]) (rest := []) ⟨hx, hb, hml, hown, hw⟩ (cc_M_keep l D cJ cB mq ta vb ba na nb cd (nI tk) pl wr fz fb n L (xs (5 * k + 1)) _ h1) (cwV 1 hw (tb_V wi_586 wi_587 wi_588 wi_25 wi_589) rfl rfl rfl (by decide +kernel) ⟨Nat.le_of_ble_eq_true rfl, Nat.le_of_ble_eq_true rfl⟩) ⟨ct_blind, ct_recv hK hP (q0 := 7) (ci := 6) rfl rfl, ct_pc hZ hK hP hD hS hA [7] rfl (by decide)⟩ rfl rfl hl.1 rfl (lv_room (Nat.le_of_ble_eq_true rfl)) dd_L_law_252 ⟨by rw [room_c]; omega, by rw [room_s]; omega⟩) hK hP hD hS hA [7] [0, 1, 2, 3, 4, 5, 6, 8, 9, 10, 11, 12, 13, 14, 15, 16, 17] rfl rfl (by decide) (by decide) (fun r_252 u_252 H locs hw_252 hP hD hS => ?_)
  have hP : va_P D classes [(qs, .inr (2, [.ref qs1, .ref qs2, .int (nI n2)])), (qs1, .inl (cJ, 3000, .inr (.inl f2))), (qs2, .inl (cJ, 3000, .inr (.inl g2))), (qb, .inr (0, [.ref qw, .int (nI L.length)])), (qw, .inl (cJ, 6250, .inr (.inl w))), (qc, .inr (0, [.ref qd, .int (nI n3)])), (qd, .inl (cJ, 6250, .inr (.inl w2))), (ta, .inl (cJ, 3000, .inr (.inl mf))), (vb, .inl (cJ, 3000, .inr (.inl mg))), (ba, .inl (cB, 400000, .inl by0)), (na, .inl (cJ, 3000, .inr (.inl mf2))), (nb, .inl (cJ, 3000, .inr (.inl mg2))), (q, .inr (5, [.ref qp, .ref qs, .ref qb, .ref qc, .int (nI tk)])), (qp, .inr (2, [.ref qt, .ref qv, .int (nI u_240.1)])), (qt, .inl (cJ, 3000, .inr (.inl f))), (qv, .inl (cJ, 3000, .inr (.inl g))), (qo, .inl (cJ, 1, .inr (.inl u_240.2))), (mq, .inr (6, [.int u_252.2, .ref ta, .ref vb, .int (nI u_252.1), .ref ba, .int (nI L.length), .int (nI tk), .ref na, .ref nb, .int pl, .int wr, .int fz, .int fb]))] _ := hP
  have hD : va_D A [(qs, .inr (2, [.ref qs1, .ref qs2, .int (nI n2)])), (qs1, .inl (cJ, 3000, .inr (.inl f2))), (qs2, .inl (cJ, 3000, .inr (.inl g2))), (qb, .inr (0, [.ref qw, .int (nI L.length)])), (qw, .inl (cJ, 6250, .inr (.inl w))), (qc, .inr (0, [.ref qd, .int (nI n3)])), (qd, .inl (cJ, 6250, .inr (.inl w2))), (ta, .inl (cJ, 3000, .inr (.inl mf))), (vb, .inl (cJ, 3000, .inr (.inl mg))), (ba, .inl (cB, 400000, .inl by0)), (na, .inl (cJ, 3000, .inr (.inl mf2))), (nb, .inl (cJ, 3000, .inr (.inl mg2))), (q, .inr (5, [.ref qp, .ref qs, .ref qb, .ref qc, .int (nI tk)])), (qp, .inr (2, [.ref qt, .ref qv, .int (nI u_240.1)])), (qt, .inl (cJ, 3000, .inr (.inl f))), (qv, .inl (cJ, 3000, .inr (.inl g))), (qo, .inl (cJ, 1, .inr (.inl u_240.2))), (mq, .inr (6, [.int u_252.2, .ref ta, .ref vb, .int (nI u_252.1), .ref ba, .int (nI L.length), .int (nI tk), .ref na, .ref nb, .int pl, .int wr, .int fz, .int fb]))] := hD
  rcases hw_240 with ⟨a1, a2, a3, a4⟩ | ⟨a1, a2, a4⟩
  · skip
    obtain ⟨y1, y2, y3, y4⟩ := hw_252.resolve_left (fun z => z.1 ⟨_, Nat.lt_succ_of_le a2, a3⟩)
    obtain ⟨j, o9⟩ := u_240
    have a2 : j ≤ n := a2
    have a3 : _ = nI j := a3
    have a4 : o9 = vp_updL fo 0 (lN (n - j)) := a4
    subst a1 a4
    obtain ⟨j2, c2⟩ := u_252
    have y1 : j2 ≤ n := y1
    have y5 : j = j2 := nI_inj (by omega) (by omega) (a3.symm.trans y2)
    subst y5
    have y4 : c2 = nI 0 := y4
    have y3 : r_252 = nI (n - j) := y3
    subst y4 y3
    have hP : va_P D classes [(qs, .inr (2, [.ref qs1, .ref qs2, .int (nI n2)])), (qs1, .inl (cJ, 3000, .inr (.inl f2))), (qs2, .inl (cJ, 3000, .inr (.inl g2))), (qb, .inr (0, [.ref qw, .int (nI L.length)])), (qw, .inl (cJ, 6250, .inr (.inl w))), (qc, .inr (0, [.ref qd, .int (nI n3)])), (qd, .inl (cJ, 6250, .inr (.inl w2))), (ta, .inl (cJ, 3000, .inr (.inl mf))), (vb, .inl (cJ, 3000, .inr (.inl mg))), (ba, .inl (cB, 400000, .inl by0)), (na, .inl (cJ, 3000, .inr (.inl mf2))), (nb, .inl (cJ, 3000, .inr (.inl mg2))), (q, .inr (5, [.ref qp, .ref qs, .ref qb, .ref qc, .int (nI tk)])), (qp, .inr (2, [.ref qt, .ref qv, .int (nI j)])), (qt, .inl (cJ, 3000, .inr (.inl f))), (qv, .inl (cJ, 3000, .inr (.inl g))), (qo, .inl (cJ, 1, .inr (.inl (vp_updL fo 0 (lN (n - j)))))), (mq, .inr (6, [.int (nI 0), .ref ta, .ref vb, .int (nI j), .ref ba, .int (nI L.length), .int (nI tk), .ref na, .ref nb, .int pl, .int wr, .int fz, .int fb]))] _ := hP
    have hD : va_D A [(qs, .inr (2, [.ref qs1, .ref qs2, .int (nI n2)])), (qs1, .inl (cJ, 3000, .inr (.inl f2))), (qs2, .inl (cJ, 3000, .inr (.inl g2))), (qb, .inr (0, [.ref qw, .int (nI L.length)])), (qw, .inl (cJ, 6250, .inr (.inl w))), (qc, .inr (0, [.ref qd, .int (nI n3)])), (qd, .inl (cJ, 6250, .inr (.inl w2))), (ta, .inl (cJ, 3000, .inr (.inl mf))), (vb, .inl (cJ, 3000, .inr (.inl mg))), (ba, .inl (cB, 400000, .inl by0)), (na, .inl (cJ, 3000, .inr (.inl mf2))), (nb, .inl (cJ, 3000, .inr (.inl mg2))), (q, .inr (5, [.ref qp, .ref qs, .ref qb, .ref qc, .int (nI tk)])), (qp, .inr (2, [.ref qt, .ref qv, .int (nI j)])), (qt, .inl (cJ, 3000, .inr (.inl f))), (qv, .inl (cJ, 3000, .inr (.inl g))), (qo, .inl (cJ, 1, .inr (.inl (vp_updL fo 0 (lN (n - j)))))), (mq, .inr (6, [.int (nI 0), .ref ta, .ref vb, .int (nI j), .ref ba, .int (nI L.length), .int (nI tk), .ref na, .ref nb, .int pl, .int wr, .int fz, .int fb]))] := hD
    have hl : lv_has ls 8 [(5, .int (nI 0)), (0, .ref b), (1, .ref q), (2, .ref mq), (3, .ref qo), (4, .int (nI (5 * k)))] := hl
    refine lv_istore (lv' := [(6, .int (nI (n - j))), (5, .int (nI 0)), (0, .ref b), (1, .ref q), (2, .ref mq), (3, .ref qo), (4, .int (nI (5 * k)))]) hx hb dd_L_law_255 hl (by decide) rfl (fun ls hl => ?_)
    refine lv_aload_n hx hb dd_L_law_257 rfl (lv_at hl 4 rfl) ?_
    refine ct_behind_i (wc := [(mq, .inr (6, [.int (nI 0), .ref ta, .ref vb, .int (nI j), .ref ba, .int (nI L.length), .int (nI tk), .ref na, .ref nb, .int pl, .int wr, .int fz, .int fb]))]) (wr := [(qs, .inr (2, [.ref qs1, .ref qs2, .int (nI n2)])), (qs1, .inl (cJ, 3000, .inr (.inl f2))), (qs2, .inl (cJ, 3000, .inr (.inl g2))), (qb, .inr (0, [.ref qw, .int (nI L.length)])), (qw, .inl (cJ, 6250, .inr (.inl w))), (qc, .inr (0, [.ref qd, .int (nI n3)])), (qd, .inl (cJ, 6250, .inr (.inl w2))), (ta, .inl (cJ, 3000, .inr (.inl mf))), (vb, .inl (cJ, 3000, .inr (.inl mg))), (ba, .inl (cB, 400000, .inl by0)), (na, .inl (cJ, 3000, .inr (.inl mf2))), (nb, .inl (cJ, 3000, .inr (.inl mg2))), (q, .inr (5, [.ref qp, .ref qs, .ref qb, .ref qc, .int (nI tk)])), (qp, .inr (2, [.ref qt, .ref qv, .int (nI j)])), (qt, .inl (cJ, 3000, .inr (.inl f))), (qv, .inl (cJ, 3000, .inr (.inl g))), (qo, .inl (cJ, 1, .inr (.inl (vp_updL fo 0 (lN (n - j))))))]) (av := [.ref mq]) (va_runV (As := []) (rest := []) ⟨hx, hb, hml, hown, hw⟩ (cc_M_thrown l D cJ cB mq ta vb ba na nb (nI 0) (nI tk) pl wr fz fb j L _) (cwV 0 hw (tb_V wi_577 wi_578 wi_579 wi_25 wi_580) rfl rfl rfl (by decide +kernel) ⟨Nat.le_of_ble_eq_true rfl, Nat.le_of_ble_eq_true rfl⟩) ⟨ct_blind, ct_recv hK hP (q0 := 17) (ci := 6) rfl rfl, ct_pc hZ hK hP hD hS hA [17] rfl (by decide)⟩ rfl rfl hl.1 rfl (lv_room (Nat.le_of_ble_eq_true rfl)) dd_L_law_258 ⟨by rw [room_c]; omega, by rw [room_s]; omega⟩) hK hP hD hS hA [17] [0, 1, 2, 3, 4, 5, 6, 7, 8, 9, 10, 11, 12, 13, 14, 15, 16] rfl rfl (by decide) (by decide) (fun r_258 u_258 H locs hw_258 hP hD hS => ?_)
    subst hw_258
    have hP : va_P D classes [(qs, .inr (2, [.ref qs1, .ref qs2, .int (nI n2)])), (qs1, .inl (cJ, 3000, .inr (.inl f2))), (qs2, .inl (cJ, 3000, .inr (.inl g2))), (qb, .inr (0, [.ref qw, .int (nI L.length)])), (qw, .inl (cJ, 6250, .inr (.inl w))), (qc, .inr (0, [.ref qd, .int (nI n3)])), (qd, .inl (cJ, 6250, .inr (.inl w2))), (ta, .inl (cJ, 3000, .inr (.inl mf))), (vb, .inl (cJ, 3000, .inr (.inl mg))), (ba, .inl (cB, 400000, .inl by0)), (na, .inl (cJ, 3000, .inr (.inl mf2))), (nb, .inl (cJ, 3000, .inr (.inl mg2))), (q, .inr (5, [.ref qp, .ref qs, .ref qb, .ref qc, .int (nI tk)])), (qp, .inr (2, [.ref qt, .ref qv, .int (nI j)])), (qt, .inl (cJ, 3000, .inr (.inl f))), (qv, .inl (cJ, 3000, .inr (.inl g))), (qo, .inl (cJ, 1, .inr (.inl (vp_updL fo 0 (lN (n - j)))))), (mq, .inr (6, [.int (nI 0), .ref ta, .ref vb, .int (nI j), .ref ba, .int (nI L.length), .int (nI tk), .ref na, .ref nb, .int pl, .int wr, .int fz, .int fb]))] _ := hP
    have hD : va_D A [(qs, .inr (2, [.ref qs1, .ref qs2, .int (nI n2)])), (qs1, .inl (cJ, 3000, .inr (.inl f2))), (qs2, .inl (cJ, 3000, .inr (.inl g2))), (qb, .inr (0, [.ref qw, .int (nI L.length)])), (qw, .inl (cJ, 6250, .inr (.inl w))), (qc, .inr (0, [.ref qd, .int (nI n3)])), (qd, .inl (cJ, 6250, .inr (.inl w2))), (ta, .inl (cJ, 3000, .inr (.inl mf))), (vb, .inl (cJ, 3000, .inr (.inl mg))), (ba, .inl (cB, 400000, .inl by0)), (na, .inl (cJ, 3000, .inr (.inl mf2))), (nb, .inl (cJ, 3000, .inr (.inl mg2))), (q, .inr (5, [.ref qp, .ref qs, .ref qb, .ref qc, .int (nI tk)])), (qp, .inr (2, [.ref qt, .ref qv, .int (nI j)])), (qt, .inl (cJ, 3000, .inr (.inl f))), (qv, .inl (cJ, 3000, .inr (.inl g))), (qo, .inl (cJ, 1, .inr (.inl (vp_updL fo 0 (lN (n - j)))))), (mq, .inr (6, [.int (nI 0), .ref ta, .ref vb, .int (nI j), .ref ba, .int (nI L.length), .int (nI tk), .ref na, .ref nb, .int pl, .int wr, .int fz, .int fb]))] := hD
    refine lv_iload hx hb dd_L_law_261 (lv_at hl 1 rfl) ?_
    refine lv_icmp_eq (tgt := 268) hx hb dd_L_law_263 (by decide) (fun c_263 => ?_) (fun c_263 => ?_)
    · skip
      have c_263 : 0 = 0 := (nI_eq (by omega) (by omega)).mp c_263
      refine lv_iload hx hb dd_L_law_268 (lv_at hl 1 rfl) ?_
      refine lv_if_ne (tgt := 285) hx hb dd_L_law_270 (by decide) (fun c_270 => ?_) (fun c_270 => ?_)
      · skip
        have c_270 : ¬ (0 = 0) := fun z => c_270 ((ct_zeq (by omega)).mpr z)
        exfalso
        omega
      have c_270 : 0 = 0 := (ct_zeq (by omega)).mp c_270
      refine lv_aload_n hx hb dd_L_law_273 rfl (lv_at hl 5 rfl) ?_
      refine lv_iconst (v := nI 0) hx hb dd_L_law_274 (by decide) ?_
      refine va_lald hx hb hK hP 16 0 rfl rfl (vp_in_nI (by omega) (by omega)) dd_L_law_275 ?_
      refine ct_topl (y := (vp_updL fo 0 (lN (n - j))) 0) (by rw [nI_clamp (by omega)]) ?_
      refine ct_topl (y := lN (n - j)) (pk_uLs) ?_
      refine lv_iload hx hb dd_L_law_276 (lv_at hl 0 rfl) ?_
      refine lv_i2l (v := (nI (n - j)).toInt64) hx hb dd_L_law_278 rfl ?_
      refine ct_topl (y := lN (n - j)) (nI_l (by omega)) ?_
      refine W.lcmp hx hb dd_L_law_279 ?_
      refine lv_if_eq (tgt := 285) hx hb dd_L_law_280 (by decide) (fun c_280 => ?_) (fun c_280 => ?_)
      · skip
        have c_280 : (lN (n - j)) = (lN (n - j)) := (lg_cmp_eq _ _).mp c_280
        refine lv_goto (tgt := 802) hx hb dd_L_law_285 (by decide) ?_
        refine lv_iinc (v := nI (5 * k + 5)) (lv' := [(4, .int (nI (5 * k + 5))), (6, .int (nI (n - j))), (5, .int (nI 0)), (0, .ref b), (1, .ref q), (2, .ref mq), (3, .ref qo)]) hx hb dd_L_law_802 hl (k := 6) rfl (nI_add (5 * k) 5) (by decide) rfl (fun ls hl => ?_)
        refine lv_goto (tgt := 23) hx hb dd_L_law_805 (by decide) ?_
        refine W.widen (k := 18 + 2 * (k + 1)) (n := 436529 + 9 * (k + 1)) (by omega) (by omega) ?_
        exact tail _ _ _ ⟨q, qp, qt, qv, qs, qs1, qs2, qb, qw, qc, qd, tk, j, n2, n3, f, g, f2, g2, w, w2, L, mq, ta, vb, ba, na, nb, nI 0, pl, wr, fz, fb, mf, mg, mf2, mg2, by0, qo, vp_updL fo 0 (lN (n - j)), hP.sub [12, 13, 14, 15, 0, 1, 2, 3, 4, 5, 6, 17, 7, 8, 9, 10, 11, 16] rfl, hD.sub [12, 13, 14, 15, 0, 1, 2, 3, 4, 5, 6, 17, 7, 8, 9, 10, 11, 16] (by decide) rfl, hS, lv_sub hl [3, 4, 5, 6, 0] rfl, by omega, hL, hR, hB, fun h => hf0 (by omega), fun i hi => hag i (by omega)⟩
      have c_280 : ¬ ((lN (n - j)) = (lN (n - j))) := fun z => c_280 ((lg_cmp_eq _ _).mpr z)
      exfalso
      exact c_280 rfl
    have c_263 : ¬ (0 = 0) := fun z => c_263 ((nI_eq (by omega) (by omega)).mpr z)
    exfalso
    omega
  · skip
    have b2 := hw_252.elim (fun z => z.2) (fun z => absurd ⟨_, Nat.lt_succ_of_le z.1, z.2.1⟩ a2)
    subst a1 a4 b2
    have hP : va_P D classes [(qs, .inr (2, [.ref qs1, .ref qs2, .int (nI n2)])), (qs1, .inl (cJ, 3000, .inr (.inl f2))), (qs2, .inl (cJ, 3000, .inr (.inl g2))), (qb, .inr (0, [.ref qw, .int (nI L.length)])), (qw, .inl (cJ, 6250, .inr (.inl w))), (qc, .inr (0, [.ref qd, .int (nI n3)])), (qd, .inl (cJ, 6250, .inr (.inl w2))), (ta, .inl (cJ, 3000, .inr (.inl mf))), (vb, .inl (cJ, 3000, .inr (.inl mg))), (ba, .inl (cB, 400000, .inl by0)), (na, .inl (cJ, 3000, .inr (.inl mf2))), (nb, .inl (cJ, 3000, .inr (.inl mg2))), (q, .inr (5, [.ref qp, .ref qs, .ref qb, .ref qc, .int (nI tk)])), (qp, .inr (2, [.ref qt, .ref qv, .int (nI n)])), (qt, .inl (cJ, 3000, .inr (.inl f))), (qv, .inl (cJ, 3000, .inr (.inl g))), (qo, .inl (cJ, 1, .inr (.inl fo))), (mq, .inr (6, [.int (nI 1), .ref ta, .ref vb, .int (nI n), .ref ba, .int (nI L.length), .int (nI tk), .ref na, .ref nb, .int pl, .int wr, .int fz, .int fb]))] _ := hP
    have hD : va_D A [(qs, .inr (2, [.ref qs1, .ref qs2, .int (nI n2)])), (qs1, .inl (cJ, 3000, .inr (.inl f2))), (qs2, .inl (cJ, 3000, .inr (.inl g2))), (qb, .inr (0, [.ref qw, .int (nI L.length)])), (qw, .inl (cJ, 6250, .inr (.inl w))), (qc, .inr (0, [.ref qd, .int (nI n3)])), (qd, .inl (cJ, 6250, .inr (.inl w2))), (ta, .inl (cJ, 3000, .inr (.inl mf))), (vb, .inl (cJ, 3000, .inr (.inl mg))), (ba, .inl (cB, 400000, .inl by0)), (na, .inl (cJ, 3000, .inr (.inl mf2))), (nb, .inl (cJ, 3000, .inr (.inl mg2))), (q, .inr (5, [.ref qp, .ref qs, .ref qb, .ref qc, .int (nI tk)])), (qp, .inr (2, [.ref qt, .ref qv, .int (nI n)])), (qt, .inl (cJ, 3000, .inr (.inl f))), (qv, .inl (cJ, 3000, .inr (.inl g))), (qo, .inl (cJ, 1, .inr (.inl fo))), (mq, .inr (6, [.int (nI 1), .ref ta, .ref vb, .int (nI n), .ref ba, .int (nI L.length), .int (nI tk), .ref na, .ref nb, .int pl, .int wr, .int fz, .int fb]))] := hD
    have hl : lv_has ls 8 [(5, .int (nI 1)), (0, .ref b), (1, .ref q), (2, .ref mq), (3, .ref qo), (4, .int (nI (5 * k)))] := hl
    refine lv_istore (lv' := [(6, .int r_252), (5, .int (nI 1)), (0, .ref b), (1, .ref q), (2, .ref mq), (3, .ref qo), (4, .int (nI (5 * k)))]) hx hb dd_L_law_255 hl (by decide) rfl (fun ls hl => ?_)
    refine lv_aload_n hx hb dd_L_law_257 rfl (lv_at hl 4 rfl) ?_
    refine ct_behind_i (wc := [(mq, .inr (6, [.int (nI 1), .ref ta, .ref vb, .int (nI n), .ref ba, .int (nI L.length), .int (nI tk), .ref na, .ref nb, .int pl, .int wr, .int fz, .int fb]))]) (wr := [(qs, .inr (2, [.ref qs1, .ref qs2, .int (nI n2)])), (qs1, .inl (cJ, 3000, .inr (.inl f2))), (qs2, .inl (cJ, 3000, .inr (.inl g2))), (qb, .inr (0, [.ref qw, .int (nI L.length)])), (qw, .inl (cJ, 6250, .inr (.inl w))), (qc, .inr (0, [.ref qd, .int (nI n3)])), (qd, .inl (cJ, 6250, .inr (.inl w2))), (ta, .inl (cJ, 3000, .inr (.inl mf))), (vb, .inl (cJ, 3000, .inr (.inl mg))), (ba, .inl (cB, 400000, .inl by0)), (na, .inl (cJ, 3000, .inr (.inl mf2))), (nb, .inl (cJ, 3000, .inr (.inl mg2))), (q, .inr (5, [.ref qp, .ref qs, .ref qb, .ref qc, .int (nI tk)])), (qp, .inr (2, [.ref qt, .ref qv, .int (nI n)])), (qt, .inl (cJ, 3000, .inr (.inl f))), (qv, .inl (cJ, 3000, .inr (.inl g))), (qo, .inl (cJ, 1, .inr (.inl fo)))]) (av := [.ref mq]) (va_runV (As := []) (rest := []) ⟨hx, hb, hml, hown, hw⟩ (cc_M_thrown l D cJ cB mq ta vb ba na nb (nI 1) (nI tk) pl wr fz fb n L _) (cwV 0 hw (tb_V wi_577 wi_578 wi_579 wi_25 wi_580) rfl rfl rfl (by decide +kernel) ⟨Nat.le_of_ble_eq_true rfl, Nat.le_of_ble_eq_true rfl⟩) ⟨ct_blind, ct_recv hK hP (q0 := 17) (ci := 6) rfl rfl, ct_pc hZ hK hP hD hS hA [17] rfl (by decide)⟩ rfl rfl hl.1 rfl (lv_room (Nat.le_of_ble_eq_true rfl)) dd_L_law_258 ⟨by rw [room_c]; omega, by rw [room_s]; omega⟩) hK hP hD hS hA [17] [0, 1, 2, 3, 4, 5, 6, 7, 8, 9, 10, 11, 12, 13, 14, 15, 16] rfl rfl (by decide) (by decide) (fun r_258 u_258 H locs hw_258 hP hD hS => ?_)
    subst hw_258
    have hP : va_P D classes [(qs, .inr (2, [.ref qs1, .ref qs2, .int (nI n2)])), (qs1, .inl (cJ, 3000, .inr (.inl f2))), (qs2, .inl (cJ, 3000, .inr (.inl g2))), (qb, .inr (0, [.ref qw, .int (nI L.length)])), (qw, .inl (cJ, 6250, .inr (.inl w))), (qc, .inr (0, [.ref qd, .int (nI n3)])), (qd, .inl (cJ, 6250, .inr (.inl w2))), (ta, .inl (cJ, 3000, .inr (.inl mf))), (vb, .inl (cJ, 3000, .inr (.inl mg))), (ba, .inl (cB, 400000, .inl by0)), (na, .inl (cJ, 3000, .inr (.inl mf2))), (nb, .inl (cJ, 3000, .inr (.inl mg2))), (q, .inr (5, [.ref qp, .ref qs, .ref qb, .ref qc, .int (nI tk)])), (qp, .inr (2, [.ref qt, .ref qv, .int (nI n)])), (qt, .inl (cJ, 3000, .inr (.inl f))), (qv, .inl (cJ, 3000, .inr (.inl g))), (qo, .inl (cJ, 1, .inr (.inl fo))), (mq, .inr (6, [.int (nI 1), .ref ta, .ref vb, .int (nI n), .ref ba, .int (nI L.length), .int (nI tk), .ref na, .ref nb, .int pl, .int wr, .int fz, .int fb]))] _ := hP
    have hD : va_D A [(qs, .inr (2, [.ref qs1, .ref qs2, .int (nI n2)])), (qs1, .inl (cJ, 3000, .inr (.inl f2))), (qs2, .inl (cJ, 3000, .inr (.inl g2))), (qb, .inr (0, [.ref qw, .int (nI L.length)])), (qw, .inl (cJ, 6250, .inr (.inl w))), (qc, .inr (0, [.ref qd, .int (nI n3)])), (qd, .inl (cJ, 6250, .inr (.inl w2))), (ta, .inl (cJ, 3000, .inr (.inl mf))), (vb, .inl (cJ, 3000, .inr (.inl mg))), (ba, .inl (cB, 400000, .inl by0)), (na, .inl (cJ, 3000, .inr (.inl mf2))), (nb, .inl (cJ, 3000, .inr (.inl mg2))), (q, .inr (5, [.ref qp, .ref qs, .ref qb, .ref qc, .int (nI tk)])), (qp, .inr (2, [.ref qt, .ref qv, .int (nI n)])), (qt, .inl (cJ, 3000, .inr (.inl f))), (qv, .inl (cJ, 3000, .inr (.inl g))), (qo, .inl (cJ, 1, .inr (.inl fo))), (mq, .inr (6, [.int (nI 1), .ref ta, .ref vb, .int (nI n), .ref ba, .int (nI L.length), .int (nI tk), .ref na, .ref nb, .int pl, .int wr, .int fz, .int fb]))] := hD
    refine lv_iload hx hb dd_L_law_261 (lv_at hl 1 rfl) ?_
    refine lv_icmp_eq (tgt := 268) hx hb dd_L_law_263 (by decide) (fun c_263 => ?_) (fun c_263 => ?_)
    · skip
      have c_263 : 1 = 1 := (nI_eq (by omega) (by omega)).mp c_263
      refine lv_iload hx hb dd_L_law_268 (lv_at hl 1 rfl) ?_
      refine lv_if_ne (tgt := 285) hx hb dd_L_law_270 (by decide) (fun c_270 => ?_) (fun c_270 => ?_)
      · skip
        have c_270 : ¬ (1 = 0) := fun z => c_270 ((ct_zeq (by omega)).mpr z)
        refine lv_goto (tgt := 802) hx hb dd_L_law_285 (by decide) ?_
        refine lv_iinc (v := nI (5 * k + 5)) (lv' := [(4, .int (nI (5 * k + 5))), (6, .int r_252), (5, .int (nI 1)), (0, .ref b), (1, .ref q), (2, .ref mq), (3, .ref qo)]) hx hb dd_L_law_802 hl (k := 6) rfl (nI_add (5 * k) 5) (by decide) rfl (fun ls hl => ?_)
        refine lv_goto (tgt := 23) hx hb dd_L_law_805 (by decide) ?_
        refine W.widen (k := 18 + 2 * (k + 1)) (n := 436529 + 9 * (k + 1)) (by omega) (by omega) ?_
        exact tail _ _ _ ⟨q, qp, qt, qv, qs, qs1, qs2, qb, qw, qc, qd, tk, n, n2, n3, f, g, f2, g2, w, w2, L, mq, ta, vb, ba, na, nb, nI 1, pl, wr, fz, fb, mf, mg, mf2, mg2, by0, qo, fo, hP.sub [12, 13, 14, 15, 0, 1, 2, 3, 4, 5, 6, 17, 7, 8, 9, 10, 11, 16] rfl, hD.sub [12, 13, 14, 15, 0, 1, 2, 3, 4, 5, 6, 17, 7, 8, 9, 10, 11, 16] (by decide) rfl, hS, lv_sub hl [3, 4, 5, 6, 0] rfl, h1, hL, hR, hB, hf0, hag⟩
      have c_270 : 1 = 0 := (ct_zeq (by omega)).mp c_270
      exfalso
      omega
    have c_263 : ¬ (1 = 1) := fun z => c_263 ((nI_eq (by omega) (by omega)).mpr z)
    exfalso
    omega

set_option maxHeartbeats 4000000 in
set_option maxRecDepth 100000 in
theorem lc_pack {p : Program} {l : Launch} {e : Env} {s : State} {m : MethodId} {args : Array Value} {below : List Frame} {meth : Method} {c : Code} {Q : State → Prop} (hlt : l.stackTraces = false) {D : va_G} {cJ cB : ClassId} {A : Nat → Prop} {b NN : Nat} {xs : Nat → Int32} (C : lw_C p s m args c D cJ cB A b NN xs) {k : Nat} (hk : 5 * k + 5 ≤ NN) {H : Heap} {locs : List Loc} {ls : Array Slot} (I : lw_I D cJ cB A s b k H locs ls) (tail : ∀ (H : Heap) (locs : List Loc) (ls : Array Slot), lw_I D cJ cB A s b (k + 1) H locs ls → W p l e room_1 s m args below meth c H locs (18 + 2 * (k + 1)) (436529 + 9 * (k + 1)) Q (F0 m 23 ls [])) : W p l e room_1 s m args below meth c H locs (18 + 2 * k) (436529 + 9 * k) Q (F0 m 288 ls []) := by
  obtain ⟨hx, hb, hml, hown, hw, hK, hA, hZ, hX, hbl, hbA, hN⟩ := C
  obtain ⟨q, qp, qt, qv, qs, qs1, qs2, qb, qw, qc, qd, tk, n, n2, n3, f, g, f2, g2, w, w2, L, mq, ta, vb, ba, na, nb, cd, pl, wr, fz, fb, mf, mg, mf2, mg2, by0, qo, fo, hP, hD, hS, hl, h1, hL, hR, hB, hf0, hag⟩ := I
  refine lv_aload_n hx hb dd_L_law_288 rfl (lv_at hl 1 rfl) ?_
  refine lv_aload_n hx hb dd_L_law_289 rfl (lv_at hl 3 rfl) ?_
  refine ct_behind_i (wc := [(q, .inr (5, [.ref qp, .ref qs, .ref qb, .ref qc, .int (nI tk)])), (qp, .inr (2, [.ref qt, .ref qv, .int (nI n)])), (qt, .inl (cJ, 3000, .inr (.inl f))), (qv, .inl (cJ, 3000, .inr (.inl g))), (qc, .inr (0, [.ref qd, .int (nI n3)])), (qd, .inl (cJ, 6250, .inr (.inl w2))), (qo, .inl (cJ, 1, .inr (.inl fo)))]) (wr := [(qs, .inr (2, [.ref qs1, .ref qs2, .int (nI n2)])), (qs1, .inl (cJ, 3000, .inr (.inl f2))), (qs2, .inl (cJ, 3000, .inr (.inl g2))), (qb, .inr (0, [.ref qw, .int (nI L.length)])), (qw, .inl (cJ, 6250, .inr (.inl w))), (mq, .inr (6, [.int cd, .ref ta, .ref vb, .int (nI n), .ref ba, .int (nI L.length), .int (nI tk), .ref na, .ref nb, .int pl, .int wr, .int fz, .int fb])), (ta, .inl (cJ, 3000, .inr (.inl mf))), (vb, .inl (cJ, 3000, .inr (.inl mg))), (ba, .inl (cB, 400000, .inl by0)), (na, .inl (cJ, 3000, .inr (.inl mf2))), (nb, .inl (cJ, 3000, .inr (.inl mg2)))]) (av := [.ref q, .ref qo]) (vx_runSW (As := [.ref q, .ref qo]) (rest := []) ⟨hx, hb, hml, hown, hw⟩ (cc_L_pack l hlt D cJ cB q qp qs qb qc tk qt qv n f g qd n3 w2 qo fo _ h1 hf0) (vx_cwSW 2 hw (tb_SW wi_216 wi_217 wi_21 wi_218) rfl rfl rfl (by decide +kernel) ⟨Nat.le_of_ble_eq_true rfl, Nat.le_of_ble_eq_true rfl⟩) ⟨ct_blind, ct_pc hZ hK hP hD hS hA [0, 1, 2, 3, 9, 10, 17] rfl (by decide)⟩ rfl rfl hl.1 rfl (lv_room (Nat.le_of_ble_eq_true rfl)) dd_L_law_290 ⟨by rw [room_c]; omega, by rw [room_s]; omega⟩) hK hP hD hS hA [0, 1, 2, 3, 9, 10, 17] [4, 5, 6, 7, 8, 11, 12, 13, 14, 15, 16] rfl rfl (by decide) (by decide) (fun r_290 u_290 H locs hw_290 hP hD hS => ?_)
  have hP : va_P D classes [(qs, .inr (2, [.ref qs1, .ref qs2, .int (nI n2)])), (qs1, .inl (cJ, 3000, .inr (.inl f2))), (qs2, .inl (cJ, 3000, .inr (.inl g2))), (qb, .inr (0, [.ref qw, .int (nI L.length)])), (qw, .inl (cJ, 6250, .inr (.inl w))), (mq, .inr (6, [.int cd, .ref ta, .ref vb, .int (nI n), .ref ba, .int (nI L.length), .int (nI tk), .ref na, .ref nb, .int pl, .int wr, .int fz, .int fb])), (ta, .inl (cJ, 3000, .inr (.inl mf))), (vb, .inl (cJ, 3000, .inr (.inl mg))), (ba, .inl (cB, 400000, .inl by0)), (na, .inl (cJ, 3000, .inr (.inl mf2))), (nb, .inl (cJ, 3000, .inr (.inl mg2))), (q, .inr (5, [.ref qp, .ref qs, .ref qc, .ref qb, .int (nI tk)])), (qp, .inr (2, [.ref qt, .ref qv, .int (nI n)])), (qt, .inl (cJ, 3000, .inr (.inl f))), (qv, .inl (cJ, 3000, .inr (.inl g))), (qc, .inr (0, [.ref qd, .int (nI ((cp_pk f g n).1.length))])), (qd, .inl (cJ, 6250, .inr (.inl u_290))), (qo, .inl (cJ, 1, .inr (.inl (vp_updL fo 0 (lN (cp_pk f g n).1.length)))))] _ := hP
  have hD : va_D A [(qs, .inr (2, [.ref qs1, .ref qs2, .int (nI n2)])), (qs1, .inl (cJ, 3000, .inr (.inl f2))), (qs2, .inl (cJ, 3000, .inr (.inl g2))), (qb, .inr (0, [.ref qw, .int (nI L.length)])), (qw, .inl (cJ, 6250, .inr (.inl w))), (mq, .inr (6, [.int cd, .ref ta, .ref vb, .int (nI n), .ref ba, .int (nI L.length), .int (nI tk), .ref na, .ref nb, .int pl, .int wr, .int fz, .int fb])), (ta, .inl (cJ, 3000, .inr (.inl mf))), (vb, .inl (cJ, 3000, .inr (.inl mg))), (ba, .inl (cB, 400000, .inl by0)), (na, .inl (cJ, 3000, .inr (.inl mf2))), (nb, .inl (cJ, 3000, .inr (.inl mg2))), (q, .inr (5, [.ref qp, .ref qs, .ref qc, .ref qb, .int (nI tk)])), (qp, .inr (2, [.ref qt, .ref qv, .int (nI n)])), (qt, .inl (cJ, 3000, .inr (.inl f))), (qv, .inl (cJ, 3000, .inr (.inl g))), (qc, .inr (0, [.ref qd, .int (nI ((cp_pk f g n).1.length))])), (qd, .inl (cJ, 6250, .inr (.inl u_290))), (qo, .inl (cJ, 1, .inr (.inl (vp_updL fo 0 (lN (cp_pk f g n).1.length)))))] := hD
  refine lv_istore (lv' := [(5, .int r_290), (0, .ref b), (1, .ref q), (2, .ref mq), (3, .ref qo), (4, .int (nI (5 * k)))]) hx hb dd_L_law_293 hl (by decide) rfl (fun ls hl => ?_)
  refine lv_aload_n hx hb dd_L_law_295 rfl (lv_at hl 3 rfl) ?_
  refine ct_behind_i (wc := [(mq, .inr (6, [.int cd, .ref ta, .ref vb, .int (nI n), .ref ba, .int (nI L.length), .int (nI tk), .ref na, .ref nb, .int pl, .int wr, .int fz, .int fb])), (ta, .inl (cJ, 3000, .inr (.inl mf))), (vb, .inl (cJ, 3000, .inr (.inl mg))), (ba, .inl (cB, 400000, .inl by0))]) (wr := [(qs, .inr (2, [.ref qs1, .ref qs2, .int (nI n2)])), (qs1, .inl (cJ, 3000, .inr (.inl f2))), (qs2, .inl (cJ, 3000, .inr (.inl g2))), (qb, .inr (0, [.ref qw, .int (nI L.length)])), (qw, .inl (cJ, 6250, .inr (.inl w))), (na, .inl (cJ, 3000, .inr (.inl mf2))), (nb, .inl (cJ, 3000, .inr (.inl mg2))), (q, .inr (5, [.ref qp, .ref qs, .ref qc, .ref qb, .int (nI tk)])), (qp, .inr (2, [.ref qt, .ref qv, .int (nI n)])), (qt, .inl (cJ, 3000, .inr (.inl f))), (qv, .inl (cJ, 3000, .inr (.inl g))), (qc, .inr (0, [.ref qd, .int (nI ((cp_pk f g n).1.length))])), (qd, .inl (cJ, 6250, .inr (.inl u_290))), (qo, .inl (cJ, 1, .inr (.inl (vp_updL fo 0 (lN (cp_pk f g n).1.length)))))]) (av := [.ref mq]) (va_runV (As := []) (rest := []) ⟨hx, hb, hml, hown, hw⟩ (cc_M_pack l D cJ cB mq ta vb ba na nb cd (nI tk) pl wr fz fb n L mf mg by0 _ h1) (cwV 0 hw (tb_V wi_590 wi_591 wi_592 wi_25 wi_593) rfl rfl rfl (by decide +kernel) ⟨Nat.le_of_ble_eq_true rfl, Nat.le_of_ble_eq_true rfl⟩) ⟨ct_blind, ct_recv hK hP (q0 := 5) (ci := 6) rfl rfl, ct_pc hZ hK hP hD hS hA [5, 6, 7, 8] rfl (by decide)⟩ rfl rfl hl.1 rfl (lv_room (Nat.le_of_ble_eq_true rfl)) dd_L_law_296 ⟨by rw [room_c]; omega, by rw [room_s]; omega⟩) hK hP hD hS hA [5, 6, 7, 8] [0, 1, 2, 3, 4, 9, 10, 11, 12, 13, 14, 15, 16, 17] rfl rfl (by decide) (by decide) (fun r_296 u_296 H locs hw_296 hP hD hS => ?_)
  have ep := cp_pk_congr hag n (Nat.le_refl n)
  rw [← ep] at hP hD hw_296
  obtain ⟨a1, a2⟩ := hw_290
  subst a1
  obtain ⟨b1, b2⟩ := hw_296
  subst b1
  have hpk := cp_pk_inv f g n
  have hP : va_P D classes [(qs, .inr (2, [.ref qs1, .ref qs2, .int (nI n2)])), (qs1, .inl (cJ, 3000, .inr (.inl f2))), (qs2, .inl (cJ, 3000, .inr (.inl g2))), (qb, .inr (0, [.ref qw, .int (nI L.length)])), (qw, .inl (cJ, 6250, .inr (.inl w))), (na, .inl (cJ, 3000, .inr (.inl mf2))), (nb, .inl (cJ, 3000, .inr (.inl mg2))), (q, .inr (5, [.ref qp, .ref qs, .ref qc, .ref qb, .int (nI tk)])), (qp, .inr (2, [.ref qt, .ref qv, .int (nI n)])), (qt, .inl (cJ, 3000, .inr (.inl f))), (qv, .inl (cJ, 3000, .inr (.inl g))), (qc, .inr (0, [.ref qd, .int (nI ((cp_pk f g n).1.length))])), (qd, .inl (cJ, 6250, .inr (.inl u_290))), (qo, .inl (cJ, 1, .inr (.inl (vp_updL fo 0 (lN (cp_pk f g n).1.length))))), (mq, .inr (6, [.int (nI 0), .ref ta, .ref vb, .int (nI n), .ref ba, .int (nI ((cp_pk f g n).1.length)), .int (nI tk), .ref na, .ref nb, .int pl, .int wr, .int u_296.2, .int (nI ((cp_pk f g n).2.2))])), (ta, .inl (cJ, 3000, .inr (.inl mf))), (vb, .inl (cJ, 3000, .inr (.inl mg))), (ba, .inl (cB, 400000, .inl u_296.1))] _ := hP
  have hD : va_D A [(qs, .inr (2, [.ref qs1, .ref qs2, .int (nI n2)])), (qs1, .inl (cJ, 3000, .inr (.inl f2))), (qs2, .inl (cJ, 3000, .inr (.inl g2))), (qb, .inr (0, [.ref qw, .int (nI L.length)])), (qw, .inl (cJ, 6250, .inr (.inl w))), (na, .inl (cJ, 3000, .inr (.inl mf2))), (nb, .inl (cJ, 3000, .inr (.inl mg2))), (q, .inr (5, [.ref qp, .ref qs, .ref qc, .ref qb, .int (nI tk)])), (qp, .inr (2, [.ref qt, .ref qv, .int (nI n)])), (qt, .inl (cJ, 3000, .inr (.inl f))), (qv, .inl (cJ, 3000, .inr (.inl g))), (qc, .inr (0, [.ref qd, .int (nI ((cp_pk f g n).1.length))])), (qd, .inl (cJ, 6250, .inr (.inl u_290))), (qo, .inl (cJ, 1, .inr (.inl (vp_updL fo 0 (lN (cp_pk f g n).1.length))))), (mq, .inr (6, [.int (nI 0), .ref ta, .ref vb, .int (nI n), .ref ba, .int (nI ((cp_pk f g n).1.length)), .int (nI tk), .ref na, .ref nb, .int pl, .int wr, .int u_296.2, .int (nI ((cp_pk f g n).2.2))])), (ta, .inl (cJ, 3000, .inr (.inl mf))), (vb, .inl (cJ, 3000, .inr (.inl mg))), (ba, .inl (cB, 400000, .inl u_296.1))] := hD
  have hl : lv_has ls 8 [(5, .int (nI 0)), (0, .ref b), (1, .ref q), (2, .ref mq), (3, .ref qo), (4, .int (nI (5 * k)))] := hl
  refine lv_istore (lv' := [(6, .int (nI ((cp_pk f g n).1.length))), (5, .int (nI 0)), (0, .ref b), (1, .ref q), (2, .ref mq), (3, .ref qo), (4, .int (nI (5 * k)))]) hx hb dd_L_law_299 hl (by decide) rfl (fun ls hl => ?_)
  refine lv_aload_n hx hb dd_L_law_301 rfl (lv_at hl 4 rfl) ?_
  refine ct_behind_i (wc := [(mq, .inr (6, [.int (nI 0), .ref ta, .ref vb, .int (nI n), .ref ba, .int (nI ((cp_pk f g n).1.length)), .int (nI tk), .ref na, .ref nb, .int pl, .int wr, .int u_296.2, .int (nI ((cp_pk f g n).2.2))]))]) (wr := [(qs, .inr (2, [.ref qs1, .ref qs2, .int (nI n2)])), (qs1, .inl (cJ, 3000, .inr (.inl f2))), (qs2, .inl (cJ, 3000, .inr (.inl g2))), (qb, .inr (0, [.ref qw, .int (nI L.length)])), (qw, .inl (cJ, 6250, .inr (.inl w))), (na, .inl (cJ, 3000, .inr (.inl mf2))), (nb, .inl (cJ, 3000, .inr (.inl mg2))), (q, .inr (5, [.ref qp, .ref qs, .ref qc, .ref qb, .int (nI tk)])), (qp, .inr (2, [.ref qt, .ref qv, .int (nI n)])), (qt, .inl (cJ, 3000, .inr (.inl f))), (qv, .inl (cJ, 3000, .inr (.inl g))), (qc, .inr (0, [.ref qd, .int (nI ((cp_pk f g n).1.length))])), (qd, .inl (cJ, 6250, .inr (.inl u_290))), (qo, .inl (cJ, 1, .inr (.inl (vp_updL fo 0 (lN (cp_pk f g n).1.length))))), (ta, .inl (cJ, 3000, .inr (.inl mf))), (vb, .inl (cJ, 3000, .inr (.inl mg))), (ba, .inl (cB, 400000, .inl u_296.1))]) (av := [.ref mq]) (va_runV (As := []) (rest := []) ⟨hx, hb, hml, hown, hw⟩ (cc_M_thrown l D cJ cB mq ta vb ba na nb (nI 0) (nI tk) pl wr u_296.2 (nI ((cp_pk f g n).2.2)) n ((cp_pk f g n).1) _) (cwV 0 hw (tb_V wi_577 wi_578 wi_579 wi_25 wi_580) rfl rfl rfl (by decide +kernel) ⟨Nat.le_of_ble_eq_true rfl, Nat.le_of_ble_eq_true rfl⟩) ⟨ct_blind, ct_recv hK hP (q0 := 14) (ci := 6) rfl rfl, ct_pc hZ hK hP hD hS hA [14] rfl (by decide)⟩ rfl rfl hl.1 rfl (lv_room (Nat.le_of_ble_eq_true rfl)) dd_L_law_302 ⟨by rw [room_c]; omega, by rw [room_s]; omega⟩) hK hP hD hS hA [14] [0, 1, 2, 3, 4, 5, 6, 7, 8, 9, 10, 11, 12, 13, 15, 16, 17] rfl rfl (by decide) (by decide) (fun r_302 u_302 H locs hw_302 hP hD hS => ?_)
  subst hw_302
  have hP : va_P D classes [(qs, .inr (2, [.ref qs1, .ref qs2, .int (nI n2)])), (qs1, .inl (cJ, 3000, .inr (.inl f2))), (qs2, .inl (cJ, 3000, .inr (.inl g2))), (qb, .inr (0, [.ref qw, .int (nI L.length)])), (qw, .inl (cJ, 6250, .inr (.inl w))), (na, .inl (cJ, 3000, .inr (.inl mf2))), (nb, .inl (cJ, 3000, .inr (.inl mg2))), (q, .inr (5, [.ref qp, .ref qs, .ref qc, .ref qb, .int (nI tk)])), (qp, .inr (2, [.ref qt, .ref qv, .int (nI n)])), (qt, .inl (cJ, 3000, .inr (.inl f))), (qv, .inl (cJ, 3000, .inr (.inl g))), (qc, .inr (0, [.ref qd, .int (nI ((cp_pk f g n).1.length))])), (qd, .inl (cJ, 6250, .inr (.inl u_290))), (qo, .inl (cJ, 1, .inr (.inl (vp_updL fo 0 (lN (cp_pk f g n).1.length))))), (ta, .inl (cJ, 3000, .inr (.inl mf))), (vb, .inl (cJ, 3000, .inr (.inl mg))), (ba, .inl (cB, 400000, .inl u_296.1)), (mq, .inr (6, [.int (nI 0), .ref ta, .ref vb, .int (nI n), .ref ba, .int (nI ((cp_pk f g n).1.length)), .int (nI tk), .ref na, .ref nb, .int pl, .int wr, .int u_296.2, .int (nI ((cp_pk f g n).2.2))]))] _ := hP
  have hD : va_D A [(qs, .inr (2, [.ref qs1, .ref qs2, .int (nI n2)])), (qs1, .inl (cJ, 3000, .inr (.inl f2))), (qs2, .inl (cJ, 3000, .inr (.inl g2))), (qb, .inr (0, [.ref qw, .int (nI L.length)])), (qw, .inl (cJ, 6250, .inr (.inl w))), (na, .inl (cJ, 3000, .inr (.inl mf2))), (nb, .inl (cJ, 3000, .inr (.inl mg2))), (q, .inr (5, [.ref qp, .ref qs, .ref qc, .ref qb, .int (nI tk)])), (qp, .inr (2, [.ref qt, .ref qv, .int (nI n)])), (qt, .inl (cJ, 3000, .inr (.inl f))), (qv, .inl (cJ, 3000, .inr (.inl g))), (qc, .inr (0, [.ref qd, .int (nI ((cp_pk f g n).1.length))])), (qd, .inl (cJ, 6250, .inr (.inl u_290))), (qo, .inl (cJ, 1, .inr (.inl (vp_updL fo 0 (lN (cp_pk f g n).1.length))))), (ta, .inl (cJ, 3000, .inr (.inl mf))), (vb, .inl (cJ, 3000, .inr (.inl mg))), (ba, .inl (cB, 400000, .inl u_296.1)), (mq, .inr (6, [.int (nI 0), .ref ta, .ref vb, .int (nI n), .ref ba, .int (nI ((cp_pk f g n).1.length)), .int (nI tk), .ref na, .ref nb, .int pl, .int wr, .int u_296.2, .int (nI ((cp_pk f g n).2.2))]))] := hD
  refine lv_iload hx hb dd_L_law_305 (lv_at hl 1 rfl) ?_
  refine lv_icmp_eq (tgt := 312) hx hb dd_L_law_307 (by decide) (fun c_307 => ?_) (fun c_307 => ?_)
  · skip
    have c_307 : 0 = 0 := (nI_eq (by omega) (by omega)).mp c_307
    refine lv_iload hx hb dd_L_law_312 (lv_at hl 1 rfl) ?_
    refine lv_if_ne (tgt := 329) hx hb dd_L_law_314 (by decide) (fun c_314 => ?_) (fun c_314 => ?_)
    · skip
      have c_314 : ¬ (0 = 0) := fun z => c_314 ((ct_zeq (by omega)).mpr z)
      exfalso
      omega
    have c_314 : 0 = 0 := (ct_zeq (by omega)).mp c_314
    refine lv_aload_n hx hb dd_L_law_317 rfl (lv_at hl 5 rfl) ?_
    refine lv_iconst (v := nI 0) hx hb dd_L_law_318 (by decide) ?_
    refine va_lald hx hb hK hP 13 0 rfl rfl (vp_in_nI (by omega) (by omega)) dd_L_law_319 ?_
    refine ct_topl (y := (vp_updL fo 0 (lN (cp_pk f g n).1.length)) 0) (by rw [nI_clamp (by omega)]) ?_
    refine ct_topl (y := lN (cp_pk f g n).1.length) (pk_uLs) ?_
    refine lv_iload hx hb dd_L_law_320 (lv_at hl 0 rfl) ?_
    refine lv_i2l (v := (nI ((cp_pk f g n).1.length)).toInt64) hx hb dd_L_law_322 rfl ?_
    refine ct_topl (y := lN ((cp_pk f g n).1.length)) (nI_l (by omega)) ?_
    refine W.lcmp hx hb dd_L_law_323 ?_
    refine lv_if_eq (tgt := 329) hx hb dd_L_law_324 (by decide) (fun c_324 => ?_) (fun c_324 => ?_)
    · skip
      have c_324 : (lN (cp_pk f g n).1.length) = (lN ((cp_pk f g n).1.length)) := (lg_cmp_eq _ _).mp c_324
      refine lv_goto (tgt := 802) hx hb dd_L_law_329 (by decide) ?_
      refine lv_iinc (v := nI (5 * k + 5)) (lv' := [(4, .int (nI (5 * k + 5))), (6, .int (nI ((cp_pk f g n).1.length))), (5, .int (nI 0)), (0, .ref b), (1, .ref q), (2, .ref mq), (3, .ref qo)]) hx hb dd_L_law_802 hl (k := 6) rfl (nI_add (5 * k) 5) (by decide) rfl (fun ls hl => ?_)
      refine lv_goto (tgt := 23) hx hb dd_L_law_805 (by decide) ?_
      refine W.widen (k := 18 + 2 * (k + 1)) (n := 436529 + 9 * (k + 1)) (by omega) (by omega) ?_
      exact tail _ _ _ ⟨q, qp, qt, qv, qs, qs1, qs2, qc, qd, qb, qw, tk, n, n2, L.length, f, g, f2, g2, u_290, w, (cp_pk f g n).1, mq, ta, vb, ba, na, nb, nI 0, pl, wr, u_296.2, nI ((cp_pk f g n).2.2), mf, mg, mf2, mg2, u_296.1, qo, vp_updL fo 0 (lN (cp_pk f g n).1.length), hP.sub [7, 8, 9, 10, 0, 1, 2, 11, 12, 3, 4, 17, 14, 15, 16, 5, 6, 13] rfl, hD.sub [7, 8, 9, 10, 0, 1, 2, 11, 12, 3, 4, 17, 14, 15, 16, 5, 6, 13] (by decide) rfl, hS, lv_sub hl [3, 4, 5, 6, 0] rfl, h1, by omega, a2, b2, hf0, hag⟩
    have c_324 : ¬ ((lN (cp_pk f g n).1.length) = (lN ((cp_pk f g n).1.length))) := fun z => c_324 ((lg_cmp_eq _ _).mpr z)
    exfalso
    exact c_324 rfl
  have c_307 : ¬ (0 = 0) := fun z => c_307 ((nI_eq (by omega) (by omega)).mpr z)
  exfalso
  omega

set_option maxHeartbeats 4000000 in
set_option maxRecDepth 100000 in
theorem lc_unpack {p : Program} {l : Launch} {e : Env} {s : State} {m : MethodId} {args : Array Value} {below : List Frame} {meth : Method} {c : Code} {Q : State → Prop} (hlt : l.stackTraces = false) {D : va_G} {cJ cB : ClassId} {A : Nat → Prop} {b NN : Nat} {xs : Nat → Int32} (C : lw_C p s m args c D cJ cB A b NN xs) {k : Nat} (hk : 5 * k + 5 ≤ NN) {H : Heap} {locs : List Loc} {ls : Array Slot} (I : lw_I D cJ cB A s b k H locs ls) (tail : ∀ (H : Heap) (locs : List Loc) (ls : Array Slot), lw_I D cJ cB A s b (k + 1) H locs ls → W p l e room_1 s m args below meth c H locs (18 + 2 * (k + 1)) (436529 + 9 * (k + 1)) Q (F0 m 23 ls [])) : W p l e room_1 s m args below meth c H locs (18 + 2 * k) (436529 + 9 * k) Q (F0 m 332 ls []) := by
  obtain ⟨hx, hb, hml, hown, hw, hK, hA, hZ, hX, hbl, hbA, hN⟩ := C
  obtain ⟨q, qp, qt, qv, qs, qs1, qs2, qb, qw, qc, qd, tk, n, n2, n3, f, g, f2, g2, w, w2, L, mq, ta, vb, ba, na, nb, cd, pl, wr, fz, fb, mf, mg, mf2, mg2, by0, qo, fo, hP, hD, hS, hl, h1, hL, hR, hB, hf0, hag⟩ := I
  refine lv_aload_n hx hb dd_L_law_332 rfl (lv_at hl 1 rfl) ?_
  refine lv_aload_n hx hb dd_L_law_333 rfl (lv_at hl 0 rfl) ?_
  refine lv_iload hx hb dd_L_law_334 (lv_at hl 4 rfl) ?_
  refine lv_iconst (v := nI 1) hx hb dd_L_law_336 (by decide) ?_
  refine lv_iadd hx hb dd_L_law_337 ?_
  refine ct_topi (y := nI (5 * k + 1)) (nI_add _ _) ?_
  refine va_sld hx hb hX hbl hbA hS (vp_in_nI (by omega) (by omega)) dd_L_law_338 ?_
  refine ct_topi (y := xs (5 * k + 1)) (congrArg xs (nI_clamp (by omega))) ?_
  refine lv_aload_n hx hb dd_L_law_339 rfl (lv_at hl 3 rfl) ?_
  refine ct_behind_i (wc := [(q, .inr (5, [.ref qp, .ref qs, .ref qb, .ref qc, .int (nI tk)])), (qb, .inr (0, [.ref qw, .int (nI L.length)])), (qw, .inl (cJ, 6250, .inr (.inl w))), (qs, .inr (2, [.ref qs1, .ref qs2, .int (nI n2)])), (qs1, .inl (cJ, 3000, .inr (.inl f2))), (qs2, .inl (cJ, 3000, .inr (.inl g2))), (qo, .inl (cJ, 1, .inr (.inl fo)))]) (wr := [(qp, .inr (2, [.ref qt, .ref qv, .int (nI n)])), (qt, .inl (cJ, 3000, .inr (.inl f))), (qv, .inl (cJ, 3000, .inr (.inl g))), (qc, .inr (0, [.ref qd, .int (nI n3)])), (qd, .inl (cJ, 6250, .inr (.inl w2))), (mq, .inr (6, [.int cd, .ref ta, .ref vb, .int (nI n), .ref ba, .int (nI L.length), .int (nI tk), .ref na, .ref nb, .int pl, .int wr, .int fz, .int fb])), (ta, .inl (cJ, 3000, .inr (.inl mf))), (vb, .inl (cJ, 3000, .inr (.inl mg))), (ba, .inl (cB, 400000, .inl by0)), (na, .inl (cJ, 3000, .inr (.inl mf2))), (nb, .inl (cJ, 3000, .inr (.inl mg2)))]) (av := [.ref q, .int (xs (5 * k + 1)), .ref qo]) (vx_runSW (As := [.ref q, .int (xs (5 * k + 1)), .ref qo]) (rest := []) ⟨hx, hb, hml, hown, hw⟩ (cc_L_unpack l hlt D cJ cB q qp qs qb qc tk qw w L qs1 qs2 n2 f2 g2 (xs (5 * k + 1)) qo fo _ hL hR) (vx_cwSW 3 hw (tb_SW wi_369 wi_370 wi_21 wi_371) rfl rfl rfl (by decide +kernel) ⟨Nat.le_of_ble_eq_true rfl, Nat.le_of_ble_eq_true rfl⟩) ⟨ct_blind, ct_pc hZ hK hP hD hS hA [0, 7, 8, 4, 5, 6, 17] rfl (by decide)⟩ rfl rfl hl.1 rfl (lv_room (Nat.le_of_ble_eq_true rfl)) dd_L_law_340 ⟨by rw [room_c]; omega, by rw [room_s]; omega⟩) hK hP hD hS hA [0, 7, 8, 4, 5, 6, 17] [1, 2, 3, 9, 10, 11, 12, 13, 14, 15, 16] rfl rfl (by decide) (by decide) (fun r_340 u_340 H locs hw_340 hP hD hS => ?_)
  obtain ⟨u1, u2, u3, u4, u5, u6, u7, o9⟩ := u_340
  have hP : va_P D classes [(qp, .inr (2, [.ref qt, .ref qv, .int (nI n)])), (qt, .inl (cJ, 3000, .inr (.inl f))), (qv, .inl (cJ, 3000, .inr (.inl g))), (qc, .inr (0, [.ref qd, .int (nI n3)])), (qd, .inl (cJ, 6250, .inr (.inl w2))), (mq, .inr (6, [.int cd, .ref ta, .ref vb, .int (nI n), .ref ba, .int (nI L.length), .int (nI tk), .ref na, .ref nb, .int pl, .int wr, .int fz, .int fb])), (ta, .inl (cJ, 3000, .inr (.inl mf))), (vb, .inl (cJ, 3000, .inr (.inl mg))), (ba, .inl (cB, 400000, .inl by0)), (na, .inl (cJ, 3000, .inr (.inl mf2))), (nb, .inl (cJ, 3000, .inr (.inl mg2))), (q, .inr (5, [.ref u1, .ref u2, .ref qb, .ref qc, .int (nI u3)])), (qb, .inr (0, [.ref qw, .int (nI L.length)])), (qw, .inl (cJ, 6250, .inr (.inl w))), (qs, .inr (2, [.ref qs1, .ref qs2, .int (nI u5)])), (qs1, .inl (cJ, 3000, .inr (.inl u6))), (qs2, .inl (cJ, 3000, .inr (.inl u7))), (qo, .inl (cJ, 1, .inr (.inl o9)))] _ := hP
  have hD : va_D A [(qp, .inr (2, [.ref qt, .ref qv, .int (nI n)])), (qt, .inl (cJ, 3000, .inr (.inl f))), (qv, .inl (cJ, 3000, .inr (.inl g))), (qc, .inr (0, [.ref qd, .int (nI n3)])), (qd, .inl (cJ, 6250, .inr (.inl w2))), (mq, .inr (6, [.int cd, .ref ta, .ref vb, .int (nI n), .ref ba, .int (nI L.length), .int (nI tk), .ref na, .ref nb, .int pl, .int wr, .int fz, .int fb])), (ta, .inl (cJ, 3000, .inr (.inl mf))), (vb, .inl (cJ, 3000, .inr (.inl mg))), (ba, .inl (cB, 400000, .inl by0)), (na, .inl (cJ, 3000, .inr (.inl mf2))), (nb, .inl (cJ, 3000, .inr (.inl mg2))), (q, .inr (5, [.ref u1, .ref u2, .ref qb, .ref qc, .int (nI u3)])), (qb, .inr (0, [.ref qw, .int (nI L.length)])), (qw, .inl (cJ, 6250, .inr (.inl w))), (qs, .inr (2, [.ref qs1, .ref qs2, .int (nI u5)])), (qs1, .inl (cJ, 3000, .inr (.inl u6))), (qs2, .inl (cJ, 3000, .inr (.inl u7))), (qo, .inl (cJ, 1, .inr (.inl o9)))] := hD
  refine lv_istore (lv' := [(5, .int r_340), (0, .ref b), (1, .ref q), (2, .ref mq), (3, .ref qo), (4, .int (nI (5 * k)))]) hx hb dd_L_law_343 hl (by decide) rfl (fun ls hl => ?_)
  refine lv_aload_n hx hb dd_L_law_345 rfl (lv_at hl 3 rfl) ?_
  refine lv_aload_n hx hb dd_L_law_346 rfl (lv_at hl 1 rfl) ?_
  refine lv_iload hx hb dd_L_law_347 (lv_at hl 5 rfl) ?_
  refine lv_iconst (v := nI 1) hx hb dd_L_law_349 (by decide) ?_
  refine lv_iadd hx hb dd_L_law_350 ?_
  refine ct_topi (y := nI (5 * k + 1)) (nI_add _ _) ?_
  refine va_sld hx hb hX hbl hbA hS (vp_in_nI (by omega) (by omega)) dd_L_law_351 ?_
  refine ct_topi (y := xs (5 * k + 1)) (congrArg xs (nI_clamp (by omega))) ?_
  refine ct_behind_i (wc := [(mq, .inr (6, [.int cd, .ref ta, .ref vb, .int (nI n), .ref ba, .int (nI L.length), .int (nI tk), .ref na, .ref nb, .int pl, .int wr, .int fz, .int fb])), (ta, .inl (cJ, 3000, .inr (.inl mf))), (vb, .inl (cJ, 3000, .inr (.inl mg))), (na, .inl (cJ, 3000, .inr (.inl mf2))), (nb, .inl (cJ, 3000, .inr (.inl mg2))), (ba, .inl (cB, 400000, .inl by0))]) (wr := [(qp, .inr (2, [.ref qt, .ref qv, .int (nI n)])), (qt, .inl (cJ, 3000, .inr (.inl f))), (qv, .inl (cJ, 3000, .inr (.inl g))), (qc, .inr (0, [.ref qd, .int (nI n3)])), (qd, .inl (cJ, 6250, .inr (.inl w2))), (q, .inr (5, [.ref u1, .ref u2, .ref qb, .ref qc, .int (nI u3)])), (qb, .inr (0, [.ref qw, .int (nI L.length)])), (qw, .inl (cJ, 6250, .inr (.inl w))), (qs, .inr (2, [.ref qs1, .ref qs2, .int (nI u5)])), (qs1, .inl (cJ, 3000, .inr (.inl u6))), (qs2, .inl (cJ, 3000, .inr (.inl u7))), (qo, .inl (cJ, 1, .inr (.inl o9)))]) (av := [.ref mq, .int (xs (5 * k + 1))]) (va_runV (As := [.int (xs (5 * k + 1))]) (rest := []) ⟨hx, hb, hml, hown, hw⟩ (cc_M_unpack l D cJ cB mq ta vb ba na nb cd (nI tk) pl wr fz fb n L mf mg mf2 mg2 by0 (xs (5 * k + 1)) _ hL hB) (cwV 1 hw (tb_V wi_617 wi_618 wi_619 wi_25 wi_620) rfl rfl rfl (by decide +kernel) ⟨Nat.le_of_ble_eq_true rfl, Nat.le_of_ble_eq_true rfl⟩) ⟨ct_blind, ct_recv hK hP (q0 := 5) (ci := 6) rfl rfl, ct_pc hZ hK hP hD hS hA [5, 6, 7, 9, 10, 8] rfl (by decide)⟩ rfl rfl hl.1 rfl (lv_room (Nat.le_of_ble_eq_true rfl)) dd_L_law_352 ⟨by rw [room_c]; omega, by rw [room_s]; omega⟩) hK hP hD hS hA [5, 6, 7, 9, 10, 8] [0, 1, 2, 3, 4, 11, 12, 13, 14, 15, 16, 17] rfl rfl (by decide) (by decide) (fun r_352 u_352 H locs hw_352 hP hD hS => ?_)
  obtain ⟨c1, c2, c3, c4, c5, c6, c7, c8, c9, c10, c11⟩ := u_352
  have hP : va_P D classes [(qp, .inr (2, [.ref qt, .ref qv, .int (nI n)])), (qt, .inl (cJ, 3000, .inr (.inl f))), (qv, .inl (cJ, 3000, .inr (.inl g))), (qc, .inr (0, [.ref qd, .int (nI n3)])), (qd, .inl (cJ, 6250, .inr (.inl w2))), (q, .inr (5, [.ref u1, .ref u2, .ref qb, .ref qc, .int (nI u3)])), (qb, .inr (0, [.ref qw, .int (nI L.length)])), (qw, .inl (cJ, 6250, .inr (.inl w))), (qs, .inr (2, [.ref qs1, .ref qs2, .int (nI u5)])), (qs1, .inl (cJ, 3000, .inr (.inl u6))), (qs2, .inl (cJ, 3000, .inr (.inl u7))), (qo, .inl (cJ, 1, .inr (.inl o9))), (mq, .inr (6, [.int c1, .ref ta, .ref vb, .int (nI c2), .ref ba, .int (nI L.length), .int c5, .ref na, .ref nb, .int c8, .int c9, .int c10, .int c11])), (ta, .inl (cJ, 3000, .inr (.inl c3))), (vb, .inl (cJ, 3000, .inr (.inl c4))), (na, .inl (cJ, 3000, .inr (.inl c6))), (nb, .inl (cJ, 3000, .inr (.inl c7))), (ba, .inl (cB, 400000, .inl by0))] _ := hP
  have hD : va_D A [(qp, .inr (2, [.ref qt, .ref qv, .int (nI n)])), (qt, .inl (cJ, 3000, .inr (.inl f))), (qv, .inl (cJ, 3000, .inr (.inl g))), (qc, .inr (0, [.ref qd, .int (nI n3)])), (qd, .inl (cJ, 6250, .inr (.inl w2))), (q, .inr (5, [.ref u1, .ref u2, .ref qb, .ref qc, .int (nI u3)])), (qb, .inr (0, [.ref qw, .int (nI L.length)])), (qw, .inl (cJ, 6250, .inr (.inl w))), (qs, .inr (2, [.ref qs1, .ref qs2, .int (nI u5)])), (qs1, .inl (cJ, 3000, .inr (.inl u6))), (qs2, .inl (cJ, 3000, .inr (.inl u7))), (qo, .inl (cJ, 1, .inr (.inl o9))), (mq, .inr (6, [.int c1, .ref ta, .ref vb, .int (nI c2), .ref ba, .int (nI L.length), .int c5, .ref na, .ref nb, .int c8, .int c9, .int c10, .int c11])), (ta, .inl (cJ, 3000, .inr (.inl c3))), (vb, .inl (cJ, 3000, .inr (.inl c4))), (na, .inl (cJ, 3000, .inr (.inl c6))), (nb, .inl (cJ, 3000, .inr (.inl c7))), (ba, .inl (cB, 400000, .inl by0))] := hD
  rcases hw_340 with ⟨a1, a2, a3, a4, ⟨g1, g2, g3, g4, g5, g6⟩ | ⟨g1, g2, g3, g4⟩⟩ | ⟨a1, a2, a3⟩
  · skip
    obtain ⟨kn, x1, x2, x3, x4, x5, x6⟩ := hw_352.resolve_left (fun z => z.1 ⟨u4, Nat.lt_succ_of_le a2, a3⟩)
    have y5 : u4 = kn := nI_inj (by have a2 : u4 ≤ 3000 := a2; omega) (by omega) (a3.symm.trans x2)
    subst y5
    have Ea4 : u3 = (cp_ru L u4).2.1 := a4
    have Ex3 : c1 = nI 0 := x3
    have Ex4 : c5 = nI (cp_ru L u4).2.1 := x4
    subst a1 Ea4 Ex3 Ex4
    have hru := (ru_inv L u4).1
    obtain ⟨z1, z2, z3⟩ := x5 g1
    have Eg2 : o9 = vp_updL fo 0 (lN (cp_ru L u4).2.1) := g2
    have Eg3 : qs = u1 := Eq.symm g3
    have Eg4 : qp = u2 := Eq.symm g4
    have Eg5 : u4 = u5 := Eq.symm g5
    have Ez2 : u4 = c2 := Eq.symm z2
    subst Eg2 Eg3 Eg4 Eg5 z1 Ez2
    have hP : va_P D classes [(qp, .inr (2, [.ref qt, .ref qv, .int (nI n)])), (qt, .inl (cJ, 3000, .inr (.inl f))), (qv, .inl (cJ, 3000, .inr (.inl g))), (qc, .inr (0, [.ref qd, .int (nI n3)])), (qd, .inl (cJ, 6250, .inr (.inl w2))), (q, .inr (5, [.ref qs, .ref qp, .ref qb, .ref qc, .int (nI ((cp_ru L u4).2.1))])), (qb, .inr (0, [.ref qw, .int (nI L.length)])), (qw, .inl (cJ, 6250, .inr (.inl w))), (qs, .inr (2, [.ref qs1, .ref qs2, .int (nI u4)])), (qs1, .inl (cJ, 3000, .inr (.inl u6))), (qs2, .inl (cJ, 3000, .inr (.inl u7))), (qo, .inl (cJ, 1, .inr (.inl (vp_updL fo 0 (lN (cp_ru L u4).2.1))))), (mq, .inr (6, [.int (nI 0), .ref ta, .ref vb, .int (nI u4), .ref ba, .int (nI L.length), .int (nI ((cp_ru L u4).2.1)), .ref na, .ref nb, .int c8, .int c9, .int c10, .int c11])), (ta, .inl (cJ, 3000, .inr (.inl c3))), (vb, .inl (cJ, 3000, .inr (.inl c4))), (na, .inl (cJ, 3000, .inr (.inl c6))), (nb, .inl (cJ, 3000, .inr (.inl c7))), (ba, .inl (cB, 400000, .inl by0))] _ := hP
    have hD : va_D A [(qp, .inr (2, [.ref qt, .ref qv, .int (nI n)])), (qt, .inl (cJ, 3000, .inr (.inl f))), (qv, .inl (cJ, 3000, .inr (.inl g))), (qc, .inr (0, [.ref qd, .int (nI n3)])), (qd, .inl (cJ, 6250, .inr (.inl w2))), (q, .inr (5, [.ref qs, .ref qp, .ref qb, .ref qc, .int (nI ((cp_ru L u4).2.1))])), (qb, .inr (0, [.ref qw, .int (nI L.length)])), (qw, .inl (cJ, 6250, .inr (.inl w))), (qs, .inr (2, [.ref qs1, .ref qs2, .int (nI u4)])), (qs1, .inl (cJ, 3000, .inr (.inl u6))), (qs2, .inl (cJ, 3000, .inr (.inl u7))), (qo, .inl (cJ, 1, .inr (.inl (vp_updL fo 0 (lN (cp_ru L u4).2.1))))), (mq, .inr (6, [.int (nI 0), .ref ta, .ref vb, .int (nI u4), .ref ba, .int (nI L.length), .int (nI ((cp_ru L u4).2.1)), .ref na, .ref nb, .int c8, .int c9, .int c10, .int c11])), (ta, .inl (cJ, 3000, .inr (.inl c3))), (vb, .inl (cJ, 3000, .inr (.inl c4))), (na, .inl (cJ, 3000, .inr (.inl c6))), (nb, .inl (cJ, 3000, .inr (.inl c7))), (ba, .inl (cB, 400000, .inl by0))] := hD
    have hl : lv_has ls 8 [(5, .int (nI 0)), (0, .ref b), (1, .ref q), (2, .ref mq), (3, .ref qo), (4, .int (nI (5 * k)))] := hl
    refine lv_istore (lv' := [(6, .int (nI ((cp_ru L u4).2.1))), (5, .int (nI 0)), (0, .ref b), (1, .ref q), (2, .ref mq), (3, .ref qo), (4, .int (nI (5 * k)))]) hx hb dd_L_law_355 hl (by decide) rfl (fun ls hl => ?_)
    refine lv_aload_n hx hb dd_L_law_357 rfl (lv_at hl 4 rfl) ?_
    refine ct_behind_i (wc := [(mq, .inr (6, [.int (nI 0), .ref ta, .ref vb, .int (nI u4), .ref ba, .int (nI L.length), .int (nI ((cp_ru L u4).2.1)), .ref na, .ref nb, .int c8, .int c9, .int c10, .int c11]))]) (wr := [(qp, .inr (2, [.ref qt, .ref qv, .int (nI n)])), (qt, .inl (cJ, 3000, .inr (.inl f))), (qv, .inl (cJ, 3000, .inr (.inl g))), (qc, .inr (0, [.ref qd, .int (nI n3)])), (qd, .inl (cJ, 6250, .inr (.inl w2))), (q, .inr (5, [.ref qs, .ref qp, .ref qb, .ref qc, .int (nI ((cp_ru L u4).2.1))])), (qb, .inr (0, [.ref qw, .int (nI L.length)])), (qw, .inl (cJ, 6250, .inr (.inl w))), (qs, .inr (2, [.ref qs1, .ref qs2, .int (nI u4)])), (qs1, .inl (cJ, 3000, .inr (.inl u6))), (qs2, .inl (cJ, 3000, .inr (.inl u7))), (qo, .inl (cJ, 1, .inr (.inl (vp_updL fo 0 (lN (cp_ru L u4).2.1))))), (ta, .inl (cJ, 3000, .inr (.inl c3))), (vb, .inl (cJ, 3000, .inr (.inl c4))), (na, .inl (cJ, 3000, .inr (.inl c6))), (nb, .inl (cJ, 3000, .inr (.inl c7))), (ba, .inl (cB, 400000, .inl by0))]) (av := [.ref mq]) (va_runV (As := []) (rest := []) ⟨hx, hb, hml, hown, hw⟩ (cc_M_thrown l D cJ cB mq ta vb ba na nb (nI 0) (nI ((cp_ru L u4).2.1)) c8 c9 c10 c11 u4 L _) (cwV 0 hw (tb_V wi_577 wi_578 wi_579 wi_25 wi_580) rfl rfl rfl (by decide +kernel) ⟨Nat.le_of_ble_eq_true rfl, Nat.le_of_ble_eq_true rfl⟩) ⟨ct_blind, ct_recv hK hP (q0 := 12) (ci := 6) rfl rfl, ct_pc hZ hK hP hD hS hA [12] rfl (by decide)⟩ rfl rfl hl.1 rfl (lv_room (Nat.le_of_ble_eq_true rfl)) dd_L_law_358 ⟨by rw [room_c]; omega, by rw [room_s]; omega⟩) hK hP hD hS hA [12] [0, 1, 2, 3, 4, 5, 6, 7, 8, 9, 10, 11, 13, 14, 15, 16, 17] rfl rfl (by decide) (by decide) (fun r_358 u_358 H locs hw_358 hP hD hS => ?_)
    subst hw_358
    have hP : va_P D classes [(qp, .inr (2, [.ref qt, .ref qv, .int (nI n)])), (qt, .inl (cJ, 3000, .inr (.inl f))), (qv, .inl (cJ, 3000, .inr (.inl g))), (qc, .inr (0, [.ref qd, .int (nI n3)])), (qd, .inl (cJ, 6250, .inr (.inl w2))), (q, .inr (5, [.ref qs, .ref qp, .ref qb, .ref qc, .int (nI ((cp_ru L u4).2.1))])), (qb, .inr (0, [.ref qw, .int (nI L.length)])), (qw, .inl (cJ, 6250, .inr (.inl w))), (qs, .inr (2, [.ref qs1, .ref qs2, .int (nI u4)])), (qs1, .inl (cJ, 3000, .inr (.inl u6))), (qs2, .inl (cJ, 3000, .inr (.inl u7))), (qo, .inl (cJ, 1, .inr (.inl (vp_updL fo 0 (lN (cp_ru L u4).2.1))))), (ta, .inl (cJ, 3000, .inr (.inl c3))), (vb, .inl (cJ, 3000, .inr (.inl c4))), (na, .inl (cJ, 3000, .inr (.inl c6))), (nb, .inl (cJ, 3000, .inr (.inl c7))), (ba, .inl (cB, 400000, .inl by0)), (mq, .inr (6, [.int (nI 0), .ref ta, .ref vb, .int (nI u4), .ref ba, .int (nI L.length), .int (nI ((cp_ru L u4).2.1)), .ref na, .ref nb, .int c8, .int c9, .int c10, .int c11]))] _ := hP
    have hD : va_D A [(qp, .inr (2, [.ref qt, .ref qv, .int (nI n)])), (qt, .inl (cJ, 3000, .inr (.inl f))), (qv, .inl (cJ, 3000, .inr (.inl g))), (qc, .inr (0, [.ref qd, .int (nI n3)])), (qd, .inl (cJ, 6250, .inr (.inl w2))), (q, .inr (5, [.ref qs, .ref qp, .ref qb, .ref qc, .int (nI ((cp_ru L u4).2.1))])), (qb, .inr (0, [.ref qw, .int (nI L.length)])), (qw, .inl (cJ, 6250, .inr (.inl w))), (qs, .inr (2, [.ref qs1, .ref qs2, .int (nI u4)])), (qs1, .inl (cJ, 3000, .inr (.inl u6))), (qs2, .inl (cJ, 3000, .inr (.inl u7))), (qo, .inl (cJ, 1, .inr (.inl (vp_updL fo 0 (lN (cp_ru L u4).2.1))))), (ta, .inl (cJ, 3000, .inr (.inl c3))), (vb, .inl (cJ, 3000, .inr (.inl c4))), (na, .inl (cJ, 3000, .inr (.inl c6))), (nb, .inl (cJ, 3000, .inr (.inl c7))), (ba, .inl (cB, 400000, .inl by0)), (mq, .inr (6, [.int (nI 0), .ref ta, .ref vb, .int (nI u4), .ref ba, .int (nI L.length), .int (nI ((cp_ru L u4).2.1)), .ref na, .ref nb, .int c8, .int c9, .int c10, .int c11]))] := hD
    refine lv_iload hx hb dd_L_law_361 (lv_at hl 1 rfl) ?_
    refine lv_icmp_eq (tgt := 368) hx hb dd_L_law_363 (by decide) (fun c_363 => ?_) (fun c_363 => ?_)
    · skip
      have c_363 : 0 = 0 := (nI_eq (by omega) (by omega)).mp c_363
      refine lv_iload hx hb dd_L_law_368 (lv_at hl 1 rfl) ?_
      refine lv_if_ne (tgt := 385) hx hb dd_L_law_370 (by decide) (fun c_370 => ?_) (fun c_370 => ?_)
      · skip
        have c_370 : ¬ (0 = 0) := fun z => c_370 ((ct_zeq (by omega)).mpr z)
        exfalso
        omega
      have c_370 : 0 = 0 := (ct_zeq (by omega)).mp c_370
      refine lv_aload_n hx hb dd_L_law_373 rfl (lv_at hl 5 rfl) ?_
      refine lv_iconst (v := nI 0) hx hb dd_L_law_374 (by decide) ?_
      refine va_lald hx hb hK hP 11 0 rfl rfl (vp_in_nI (by omega) (by omega)) dd_L_law_375 ?_
      refine ct_topl (y := (vp_updL fo 0 (lN (cp_ru L u4).2.1)) 0) (by rw [nI_clamp (by omega)]) ?_
      refine ct_topl (y := lN (cp_ru L u4).2.1) (pk_uLs) ?_
      refine lv_iload hx hb dd_L_law_376 (lv_at hl 0 rfl) ?_
      refine lv_i2l (v := (nI ((cp_ru L u4).2.1)).toInt64) hx hb dd_L_law_378 rfl ?_
      refine ct_topl (y := lN (cp_ru L u4).2.1) (nI_l (by omega)) ?_
      refine W.lcmp hx hb dd_L_law_379 ?_
      refine lv_if_eq (tgt := 385) hx hb dd_L_law_380 (by decide) (fun c_380 => ?_) (fun c_380 => ?_)
      · skip
        have c_380 : (lN (cp_ru L u4).2.1) = (lN (cp_ru L u4).2.1) := (lg_cmp_eq _ _).mp c_380
        refine lv_goto (tgt := 802) hx hb dd_L_law_385 (by decide) ?_
        refine lv_iinc (v := nI (5 * k + 5)) (lv' := [(4, .int (nI (5 * k + 5))), (6, .int (nI ((cp_ru L u4).2.1))), (5, .int (nI 0)), (0, .ref b), (1, .ref q), (2, .ref mq), (3, .ref qo)]) hx hb dd_L_law_802 hl (k := 6) rfl (nI_add (5 * k) 5) (by decide) rfl (fun ls hl => ?_)
        refine lv_goto (tgt := 23) hx hb dd_L_law_805 (by decide) ?_
        refine W.widen (k := 18 + 2 * (k + 1)) (n := 436529 + 9 * (k + 1)) (by omega) (by omega) ?_
        exact tail _ _ _ ⟨q, qs, qs1, qs2, qp, qt, qv, qb, qw, qc, qd, (cp_ru L u4).2.1, u4, n, n3, u6, u7, f, g, w, w2, L, mq, ta, vb, ba, na, nb, nI 0, c8, c9, c10, c11, c3, c4, c6, c7, by0, qo, vp_updL fo 0 (lN (cp_ru L u4).2.1), hP.sub [5, 8, 9, 10, 0, 1, 2, 6, 7, 3, 4, 17, 12, 13, 16, 14, 15, 11] rfl, hD.sub [5, 8, 9, 10, 0, 1, 2, 6, 7, 3, 4, 17, 12, 13, 16, 14, 15, 11] (by decide) rfl, hS, lv_sub hl [3, 4, 5, 6, 0] rfl, a2, hL, hR, hB, fun h => by rw [show u6 0 = _ from (g6 0 (Nat.pos_of_ne_zero h)).1]; exact la_r1 L, fun j hj => ⟨(g6 j hj).1.trans (z3 j hj).1.symm, (g6 j hj).2.trans (z3 j hj).2.symm⟩⟩
      have c_380 : ¬ ((lN (cp_ru L u4).2.1) = (lN (cp_ru L u4).2.1)) := fun z => c_380 ((lg_cmp_eq _ _).mpr z)
      exfalso
      exact c_380 rfl
    have c_363 : ¬ (0 = 0) := fun z => c_363 ((nI_eq (by omega) (by omega)).mpr z)
    exfalso
    omega
  · skip
    obtain ⟨kn, x1, x2, x3, x4, x5, x6⟩ := hw_352.resolve_left (fun z => z.1 ⟨u4, Nat.lt_succ_of_le a2, a3⟩)
    have y5 : u4 = kn := nI_inj (by have a2 : u4 ≤ 3000 := a2; omega) (by omega) (a3.symm.trans x2)
    subst y5
    have Ea4 : u3 = (cp_ru L u4).2.1 := a4
    have Ex3 : c1 = nI 0 := x3
    have Ex4 : c5 = nI (cp_ru L u4).2.1 := x4
    subst a1 Ea4 Ex3 Ex4
    have hru := (ru_inv L u4).1
    obtain ⟨z1, z2, z3, z4⟩ := x6 (Bool.eq_false_iff.mpr g1)
    have Eg2 : o9 = vp_updL fo 0 (-1) := g2
    have Eg3 : qp = u1 := Eq.symm g3
    have Eg4 : qs = u2 := Eq.symm g4
    have Ez2 : n = c2 := Eq.symm z2
    have Ez3 : mf = c3 := Eq.symm z3
    have Ez4 : mg = c4 := Eq.symm z4
    subst Eg2 Eg3 Eg4 z1 Ez2 Ez3 Ez4
    have hP : va_P D classes [(qp, .inr (2, [.ref qt, .ref qv, .int (nI n)])), (qt, .inl (cJ, 3000, .inr (.inl f))), (qv, .inl (cJ, 3000, .inr (.inl g))), (qc, .inr (0, [.ref qd, .int (nI n3)])), (qd, .inl (cJ, 6250, .inr (.inl w2))), (q, .inr (5, [.ref qp, .ref qs, .ref qb, .ref qc, .int (nI ((cp_ru L u4).2.1))])), (qb, .inr (0, [.ref qw, .int (nI L.length)])), (qw, .inl (cJ, 6250, .inr (.inl w))), (qs, .inr (2, [.ref qs1, .ref qs2, .int (nI u5)])), (qs1, .inl (cJ, 3000, .inr (.inl u6))), (qs2, .inl (cJ, 3000, .inr (.inl u7))), (qo, .inl (cJ, 1, .inr (.inl (vp_updL fo 0 (-1))))), (mq, .inr (6, [.int (nI 0), .ref ta, .ref vb, .int (nI n), .ref ba, .int (nI L.length), .int (nI ((cp_ru L u4).2.1)), .ref na, .ref nb, .int c8, .int c9, .int c10, .int c11])), (ta, .inl (cJ, 3000, .inr (.inl mf))), (vb, .inl (cJ, 3000, .inr (.inl mg))), (na, .inl (cJ, 3000, .inr (.inl c6))), (nb, .inl (cJ, 3000, .inr (.inl c7))), (ba, .inl (cB, 400000, .inl by0))] _ := hP
    have hD : va_D A [(qp, .inr (2, [.ref qt, .ref qv, .int (nI n)])), (qt, .inl (cJ, 3000, .inr (.inl f))), (qv, .inl (cJ, 3000, .inr (.inl g))), (qc, .inr (0, [.ref qd, .int (nI n3)])), (qd, .inl (cJ, 6250, .inr (.inl w2))), (q, .inr (5, [.ref qp, .ref qs, .ref qb, .ref qc, .int (nI ((cp_ru L u4).2.1))])), (qb, .inr (0, [.ref qw, .int (nI L.length)])), (qw, .inl (cJ, 6250, .inr (.inl w))), (qs, .inr (2, [.ref qs1, .ref qs2, .int (nI u5)])), (qs1, .inl (cJ, 3000, .inr (.inl u6))), (qs2, .inl (cJ, 3000, .inr (.inl u7))), (qo, .inl (cJ, 1, .inr (.inl (vp_updL fo 0 (-1))))), (mq, .inr (6, [.int (nI 0), .ref ta, .ref vb, .int (nI n), .ref ba, .int (nI L.length), .int (nI ((cp_ru L u4).2.1)), .ref na, .ref nb, .int c8, .int c9, .int c10, .int c11])), (ta, .inl (cJ, 3000, .inr (.inl mf))), (vb, .inl (cJ, 3000, .inr (.inl mg))), (na, .inl (cJ, 3000, .inr (.inl c6))), (nb, .inl (cJ, 3000, .inr (.inl c7))), (ba, .inl (cB, 400000, .inl by0))] := hD
    have hl : lv_has ls 8 [(5, .int (nI 0)), (0, .ref b), (1, .ref q), (2, .ref mq), (3, .ref qo), (4, .int (nI (5 * k)))] := hl
    refine lv_istore (lv' := [(6, .int (-1)), (5, .int (nI 0)), (0, .ref b), (1, .ref q), (2, .ref mq), (3, .ref qo), (4, .int (nI (5 * k)))]) hx hb dd_L_law_355 hl (by decide) rfl (fun ls hl => ?_)
    refine lv_aload_n hx hb dd_L_law_357 rfl (lv_at hl 4 rfl) ?_
    refine ct_behind_i (wc := [(mq, .inr (6, [.int (nI 0), .ref ta, .ref vb, .int (nI n), .ref ba, .int (nI L.length), .int (nI ((cp_ru L u4).2.1)), .ref na, .ref nb, .int c8, .int c9, .int c10, .int c11]))]) (wr := [(qp, .inr (2, [.ref qt, .ref qv, .int (nI n)])), (qt, .inl (cJ, 3000, .inr (.inl f))), (qv, .inl (cJ, 3000, .inr (.inl g))), (qc, .inr (0, [.ref qd, .int (nI n3)])), (qd, .inl (cJ, 6250, .inr (.inl w2))), (q, .inr (5, [.ref qp, .ref qs, .ref qb, .ref qc, .int (nI ((cp_ru L u4).2.1))])), (qb, .inr (0, [.ref qw, .int (nI L.length)])), (qw, .inl (cJ, 6250, .inr (.inl w))), (qs, .inr (2, [.ref qs1, .ref qs2, .int (nI u5)])), (qs1, .inl (cJ, 3000, .inr (.inl u6))), (qs2, .inl (cJ, 3000, .inr (.inl u7))), (qo, .inl (cJ, 1, .inr (.inl (vp_updL fo 0 (-1))))), (ta, .inl (cJ, 3000, .inr (.inl mf))), (vb, .inl (cJ, 3000, .inr (.inl mg))), (na, .inl (cJ, 3000, .inr (.inl c6))), (nb, .inl (cJ, 3000, .inr (.inl c7))), (ba, .inl (cB, 400000, .inl by0))]) (av := [.ref mq]) (va_runV (As := []) (rest := []) ⟨hx, hb, hml, hown, hw⟩ (cc_M_thrown l D cJ cB mq ta vb ba na nb (nI 0) (nI ((cp_ru L u4).2.1)) c8 c9 c10 c11 n L _) (cwV 0 hw (tb_V wi_577 wi_578 wi_579 wi_25 wi_580) rfl rfl rfl (by decide +kernel) ⟨Nat.le_of_ble_eq_true rfl, Nat.le_of_ble_eq_true rfl⟩) ⟨ct_blind, ct_recv hK hP (q0 := 12) (ci := 6) rfl rfl, ct_pc hZ hK hP hD hS hA [12] rfl (by decide)⟩ rfl rfl hl.1 rfl (lv_room (Nat.le_of_ble_eq_true rfl)) dd_L_law_358 ⟨by rw [room_c]; omega, by rw [room_s]; omega⟩) hK hP hD hS hA [12] [0, 1, 2, 3, 4, 5, 6, 7, 8, 9, 10, 11, 13, 14, 15, 16, 17] rfl rfl (by decide) (by decide) (fun r_358 u_358 H locs hw_358 hP hD hS => ?_)
    subst hw_358
    have hP : va_P D classes [(qp, .inr (2, [.ref qt, .ref qv, .int (nI n)])), (qt, .inl (cJ, 3000, .inr (.inl f))), (qv, .inl (cJ, 3000, .inr (.inl g))), (qc, .inr (0, [.ref qd, .int (nI n3)])), (qd, .inl (cJ, 6250, .inr (.inl w2))), (q, .inr (5, [.ref qp, .ref qs, .ref qb, .ref qc, .int (nI ((cp_ru L u4).2.1))])), (qb, .inr (0, [.ref qw, .int (nI L.length)])), (qw, .inl (cJ, 6250, .inr (.inl w))), (qs, .inr (2, [.ref qs1, .ref qs2, .int (nI u5)])), (qs1, .inl (cJ, 3000, .inr (.inl u6))), (qs2, .inl (cJ, 3000, .inr (.inl u7))), (qo, .inl (cJ, 1, .inr (.inl (vp_updL fo 0 (-1))))), (ta, .inl (cJ, 3000, .inr (.inl mf))), (vb, .inl (cJ, 3000, .inr (.inl mg))), (na, .inl (cJ, 3000, .inr (.inl c6))), (nb, .inl (cJ, 3000, .inr (.inl c7))), (ba, .inl (cB, 400000, .inl by0)), (mq, .inr (6, [.int (nI 0), .ref ta, .ref vb, .int (nI n), .ref ba, .int (nI L.length), .int (nI ((cp_ru L u4).2.1)), .ref na, .ref nb, .int c8, .int c9, .int c10, .int c11]))] _ := hP
    have hD : va_D A [(qp, .inr (2, [.ref qt, .ref qv, .int (nI n)])), (qt, .inl (cJ, 3000, .inr (.inl f))), (qv, .inl (cJ, 3000, .inr (.inl g))), (qc, .inr (0, [.ref qd, .int (nI n3)])), (qd, .inl (cJ, 6250, .inr (.inl w2))), (q, .inr (5, [.ref qp, .ref qs, .ref qb, .ref qc, .int (nI ((cp_ru L u4).2.1))])), (qb, .inr (0, [.ref qw, .int (nI L.length)])), (qw, .inl (cJ, 6250, .inr (.inl w))), (qs, .inr (2, [.ref qs1, .ref qs2, .int (nI u5)])), (qs1, .inl (cJ, 3000, .inr (.inl u6))), (qs2, .inl (cJ, 3000, .inr (.inl u7))), (qo, .inl (cJ, 1, .inr (.inl (vp_updL fo 0 (-1))))), (ta, .inl (cJ, 3000, .inr (.inl mf))), (vb, .inl (cJ, 3000, .inr (.inl mg))), (na, .inl (cJ, 3000, .inr (.inl c6))), (nb, .inl (cJ, 3000, .inr (.inl c7))), (ba, .inl (cB, 400000, .inl by0)), (mq, .inr (6, [.int (nI 0), .ref ta, .ref vb, .int (nI n), .ref ba, .int (nI L.length), .int (nI ((cp_ru L u4).2.1)), .ref na, .ref nb, .int c8, .int c9, .int c10, .int c11]))] := hD
    refine lv_iload hx hb dd_L_law_361 (lv_at hl 1 rfl) ?_
    refine lv_icmp_eq (tgt := 368) hx hb dd_L_law_363 (by decide) (fun c_363 => ?_) (fun c_363 => ?_)
    · skip
      have c_363 : 0 = 0 := (nI_eq (by omega) (by omega)).mp c_363
      refine lv_iload hx hb dd_L_law_368 (lv_at hl 1 rfl) ?_
      refine lv_if_ne (tgt := 385) hx hb dd_L_law_370 (by decide) (fun c_370 => ?_) (fun c_370 => ?_)
      · skip
        have c_370 : ¬ (0 = 0) := fun z => c_370 ((ct_zeq (by omega)).mpr z)
        exfalso
        omega
      have c_370 : 0 = 0 := (ct_zeq (by omega)).mp c_370
      refine lv_aload_n hx hb dd_L_law_373 rfl (lv_at hl 5 rfl) ?_
      refine lv_iconst (v := nI 0) hx hb dd_L_law_374 (by decide) ?_
      refine va_lald hx hb hK hP 11 0 rfl rfl (vp_in_nI (by omega) (by omega)) dd_L_law_375 ?_
      refine ct_topl (y := (vp_updL fo 0 (-1)) 0) (by rw [nI_clamp (by omega)]) ?_
      refine ct_topl (y := (-1 : Int64)) (pk_uLs) ?_
      refine lv_iload hx hb dd_L_law_376 (lv_at hl 0 rfl) ?_
      refine lv_i2l (v := (-1).toInt64) hx hb dd_L_law_378 rfl ?_
      refine ct_topl (y := (-1 : Int64)) (by decide) ?_
      refine W.lcmp hx hb dd_L_law_379 ?_
      refine lv_if_eq (tgt := 385) hx hb dd_L_law_380 (by decide) (fun c_380 => ?_) (fun c_380 => ?_)
      · skip
        have c_380 : (-1 : Int64) = (-1 : Int64) := (lg_cmp_eq _ _).mp c_380
        refine lv_goto (tgt := 802) hx hb dd_L_law_385 (by decide) ?_
        refine lv_iinc (v := nI (5 * k + 5)) (lv' := [(4, .int (nI (5 * k + 5))), (6, .int (-1)), (5, .int (nI 0)), (0, .ref b), (1, .ref q), (2, .ref mq), (3, .ref qo)]) hx hb dd_L_law_802 hl (k := 6) rfl (nI_add (5 * k) 5) (by decide) rfl (fun ls hl => ?_)
        refine lv_goto (tgt := 23) hx hb dd_L_law_805 (by decide) ?_
        refine W.widen (k := 18 + 2 * (k + 1)) (n := 436529 + 9 * (k + 1)) (by omega) (by omega) ?_
        exact tail _ _ _ ⟨q, qp, qt, qv, qs, qs1, qs2, qb, qw, qc, qd, (cp_ru L u4).2.1, n, u5, n3, f, g, u6, u7, w, w2, L, mq, ta, vb, ba, na, nb, nI 0, c8, c9, c10, c11, mf, mg, c6, c7, by0, qo, vp_updL fo 0 (-1), hP.sub [5, 0, 1, 2, 8, 9, 10, 6, 7, 3, 4, 17, 12, 13, 16, 14, 15, 11] rfl, hD.sub [5, 0, 1, 2, 8, 9, 10, 6, 7, 3, 4, 17, 12, 13, 16, 14, 15, 11] (by decide) rfl, hS, lv_sub hl [3, 4, 5, 6, 0] rfl, h1, hL, hR, hB, hf0, hag⟩
      have c_380 : ¬ ((-1 : Int64) = (-1 : Int64)) := fun z => c_380 ((lg_cmp_eq _ _).mpr z)
      exfalso
      exact c_380 rfl
    have c_363 : ¬ (0 = 0) := fun z => c_363 ((nI_eq (by omega) (by omega)).mpr z)
    exfalso
    omega
  · skip
    obtain ⟨-, z1, z2, z3, z4, z5⟩ := hw_352.resolve_right (fun ⟨kn, x1, x2, _⟩ => a2 ⟨kn, Nat.lt_succ_of_le x1, x2⟩)
    have Ez1 : c1 = nI 1 := z1
    have Ez2 : n = c2 := Eq.symm z2
    have Ez3 : mf = c3 := Eq.symm z3
    have Ez4 : mg = c4 := Eq.symm z4
    have Ez5 : c5 = nI tk := z5
    have Ee1 : qp = u1 := (congrArg (fun z => z.1) a3).symm
    have Ee2 : qs = u2 := (congrArg (fun z => z.2.1) a3).symm
    have Ee3 : tk = u3 := (congrArg (fun z => z.2.2.1) a3).symm
    have Ee5 : n2 = u5 := (congrArg (fun z => z.2.2.2.2.1) a3).symm
    have Ee6 : f2 = u6 := (congrArg (fun z => z.2.2.2.2.2.1) a3).symm
    have Ee7 : g2 = u7 := (congrArg (fun z => z.2.2.2.2.2.2.1) a3).symm
    have Ee8 : fo = o9 := (congrArg (fun z => z.2.2.2.2.2.2.2) a3).symm
    subst Ee1 Ee2 Ee3 Ee5 Ee6 Ee7 Ee8
    subst a1 Ez1 Ez2 Ez3 Ez4 Ez5
    have hP : va_P D classes [(qp, .inr (2, [.ref qt, .ref qv, .int (nI n)])), (qt, .inl (cJ, 3000, .inr (.inl f))), (qv, .inl (cJ, 3000, .inr (.inl g))), (qc, .inr (0, [.ref qd, .int (nI n3)])), (qd, .inl (cJ, 6250, .inr (.inl w2))), (q, .inr (5, [.ref qp, .ref qs, .ref qb, .ref qc, .int (nI tk)])), (qb, .inr (0, [.ref qw, .int (nI L.length)])), (qw, .inl (cJ, 6250, .inr (.inl w))), (qs, .inr (2, [.ref qs1, .ref qs2, .int (nI n2)])), (qs1, .inl (cJ, 3000, .inr (.inl f2))), (qs2, .inl (cJ, 3000, .inr (.inl g2))), (qo, .inl (cJ, 1, .inr (.inl fo))), (mq, .inr (6, [.int (nI 1), .ref ta, .ref vb, .int (nI n), .ref ba, .int (nI L.length), .int (nI tk), .ref na, .ref nb, .int c8, .int c9, .int c10, .int c11])), (ta, .inl (cJ, 3000, .inr (.inl mf))), (vb, .inl (cJ, 3000, .inr (.inl mg))), (na, .inl (cJ, 3000, .inr (.inl c6))), (nb, .inl (cJ, 3000, .inr (.inl c7))), (ba, .inl (cB, 400000, .inl by0))] _ := hP
    have hD : va_D A [(qp, .inr (2, [.ref qt, .ref qv, .int (nI n)])), (qt, .inl (cJ, 3000, .inr (.inl f))), (qv, .inl (cJ, 3000, .inr (.inl g))), (qc, .inr (0, [.ref qd, .int (nI n3)])), (qd, .inl (cJ, 6250, .inr (.inl w2))), (q, .inr (5, [.ref qp, .ref qs, .ref qb, .ref qc, .int (nI tk)])), (qb, .inr (0, [.ref qw, .int (nI L.length)])), (qw, .inl (cJ, 6250, .inr (.inl w))), (qs, .inr (2, [.ref qs1, .ref qs2, .int (nI n2)])), (qs1, .inl (cJ, 3000, .inr (.inl f2))), (qs2, .inl (cJ, 3000, .inr (.inl g2))), (qo, .inl (cJ, 1, .inr (.inl fo))), (mq, .inr (6, [.int (nI 1), .ref ta, .ref vb, .int (nI n), .ref ba, .int (nI L.length), .int (nI tk), .ref na, .ref nb, .int c8, .int c9, .int c10, .int c11])), (ta, .inl (cJ, 3000, .inr (.inl mf))), (vb, .inl (cJ, 3000, .inr (.inl mg))), (na, .inl (cJ, 3000, .inr (.inl c6))), (nb, .inl (cJ, 3000, .inr (.inl c7))), (ba, .inl (cB, 400000, .inl by0))] := hD
    have hl : lv_has ls 8 [(5, .int (nI 1)), (0, .ref b), (1, .ref q), (2, .ref mq), (3, .ref qo), (4, .int (nI (5 * k)))] := hl
    refine lv_istore (lv' := [(6, .int r_352), (5, .int (nI 1)), (0, .ref b), (1, .ref q), (2, .ref mq), (3, .ref qo), (4, .int (nI (5 * k)))]) hx hb dd_L_law_355 hl (by decide) rfl (fun ls hl => ?_)
    refine lv_aload_n hx hb dd_L_law_357 rfl (lv_at hl 4 rfl) ?_
    refine ct_behind_i (wc := [(mq, .inr (6, [.int (nI 1), .ref ta, .ref vb, .int (nI n), .ref ba, .int (nI L.length), .int (nI tk), .ref na, .ref nb, .int c8, .int c9, .int c10, .int c11]))]) (wr := [(qp, .inr (2, [.ref qt, .ref qv, .int (nI n)])), (qt, .inl (cJ, 3000, .inr (.inl f))), (qv, .inl (cJ, 3000, .inr (.inl g))), (qc, .inr (0, [.ref qd, .int (nI n3)])), (qd, .inl (cJ, 6250, .inr (.inl w2))), (q, .inr (5, [.ref qp, .ref qs, .ref qb, .ref qc, .int (nI tk)])), (qb, .inr (0, [.ref qw, .int (nI L.length)])), (qw, .inl (cJ, 6250, .inr (.inl w))), (qs, .inr (2, [.ref qs1, .ref qs2, .int (nI n2)])), (qs1, .inl (cJ, 3000, .inr (.inl f2))), (qs2, .inl (cJ, 3000, .inr (.inl g2))), (qo, .inl (cJ, 1, .inr (.inl fo))), (ta, .inl (cJ, 3000, .inr (.inl mf))), (vb, .inl (cJ, 3000, .inr (.inl mg))), (na, .inl (cJ, 3000, .inr (.inl c6))), (nb, .inl (cJ, 3000, .inr (.inl c7))), (ba, .inl (cB, 400000, .inl by0))]) (av := [.ref mq]) (va_runV (As := []) (rest := []) ⟨hx, hb, hml, hown, hw⟩ (cc_M_thrown l D cJ cB mq ta vb ba na nb (nI 1) (nI tk) c8 c9 c10 c11 n L _) (cwV 0 hw (tb_V wi_577 wi_578 wi_579 wi_25 wi_580) rfl rfl rfl (by decide +kernel) ⟨Nat.le_of_ble_eq_true rfl, Nat.le_of_ble_eq_true rfl⟩) ⟨ct_blind, ct_recv hK hP (q0 := 12) (ci := 6) rfl rfl, ct_pc hZ hK hP hD hS hA [12] rfl (by decide)⟩ rfl rfl hl.1 rfl (lv_room (Nat.le_of_ble_eq_true rfl)) dd_L_law_358 ⟨by rw [room_c]; omega, by rw [room_s]; omega⟩) hK hP hD hS hA [12] [0, 1, 2, 3, 4, 5, 6, 7, 8, 9, 10, 11, 13, 14, 15, 16, 17] rfl rfl (by decide) (by decide) (fun r_358 u_358 H locs hw_358 hP hD hS => ?_)
    subst hw_358
    have hP : va_P D classes [(qp, .inr (2, [.ref qt, .ref qv, .int (nI n)])), (qt, .inl (cJ, 3000, .inr (.inl f))), (qv, .inl (cJ, 3000, .inr (.inl g))), (qc, .inr (0, [.ref qd, .int (nI n3)])), (qd, .inl (cJ, 6250, .inr (.inl w2))), (q, .inr (5, [.ref qp, .ref qs, .ref qb, .ref qc, .int (nI tk)])), (qb, .inr (0, [.ref qw, .int (nI L.length)])), (qw, .inl (cJ, 6250, .inr (.inl w))), (qs, .inr (2, [.ref qs1, .ref qs2, .int (nI n2)])), (qs1, .inl (cJ, 3000, .inr (.inl f2))), (qs2, .inl (cJ, 3000, .inr (.inl g2))), (qo, .inl (cJ, 1, .inr (.inl fo))), (ta, .inl (cJ, 3000, .inr (.inl mf))), (vb, .inl (cJ, 3000, .inr (.inl mg))), (na, .inl (cJ, 3000, .inr (.inl c6))), (nb, .inl (cJ, 3000, .inr (.inl c7))), (ba, .inl (cB, 400000, .inl by0)), (mq, .inr (6, [.int (nI 1), .ref ta, .ref vb, .int (nI n), .ref ba, .int (nI L.length), .int (nI tk), .ref na, .ref nb, .int c8, .int c9, .int c10, .int c11]))] _ := hP
    have hD : va_D A [(qp, .inr (2, [.ref qt, .ref qv, .int (nI n)])), (qt, .inl (cJ, 3000, .inr (.inl f))), (qv, .inl (cJ, 3000, .inr (.inl g))), (qc, .inr (0, [.ref qd, .int (nI n3)])), (qd, .inl (cJ, 6250, .inr (.inl w2))), (q, .inr (5, [.ref qp, .ref qs, .ref qb, .ref qc, .int (nI tk)])), (qb, .inr (0, [.ref qw, .int (nI L.length)])), (qw, .inl (cJ, 6250, .inr (.inl w))), (qs, .inr (2, [.ref qs1, .ref qs2, .int (nI n2)])), (qs1, .inl (cJ, 3000, .inr (.inl f2))), (qs2, .inl (cJ, 3000, .inr (.inl g2))), (qo, .inl (cJ, 1, .inr (.inl fo))), (ta, .inl (cJ, 3000, .inr (.inl mf))), (vb, .inl (cJ, 3000, .inr (.inl mg))), (na, .inl (cJ, 3000, .inr (.inl c6))), (nb, .inl (cJ, 3000, .inr (.inl c7))), (ba, .inl (cB, 400000, .inl by0)), (mq, .inr (6, [.int (nI 1), .ref ta, .ref vb, .int (nI n), .ref ba, .int (nI L.length), .int (nI tk), .ref na, .ref nb, .int c8, .int c9, .int c10, .int c11]))] := hD
    refine lv_iload hx hb dd_L_law_361 (lv_at hl 1 rfl) ?_
    refine lv_icmp_eq (tgt := 368) hx hb dd_L_law_363 (by decide) (fun c_363 => ?_) (fun c_363 => ?_)
    · skip
      have c_363 : 1 = 1 := (nI_eq (by omega) (by omega)).mp c_363
      refine lv_iload hx hb dd_L_law_368 (lv_at hl 1 rfl) ?_
      refine lv_if_ne (tgt := 385) hx hb dd_L_law_370 (by decide) (fun c_370 => ?_) (fun c_370 => ?_)
      · skip
        have c_370 : ¬ (1 = 0) := fun z => c_370 ((ct_zeq (by omega)).mpr z)
        refine lv_goto (tgt := 802) hx hb dd_L_law_385 (by decide) ?_
        refine lv_iinc (v := nI (5 * k + 5)) (lv' := [(4, .int (nI (5 * k + 5))), (6, .int r_352), (5, .int (nI 1)), (0, .ref b), (1, .ref q), (2, .ref mq), (3, .ref qo)]) hx hb dd_L_law_802 hl (k := 6) rfl (nI_add (5 * k) 5) (by decide) rfl (fun ls hl => ?_)
        refine lv_goto (tgt := 23) hx hb dd_L_law_805 (by decide) ?_
        refine W.widen (k := 18 + 2 * (k + 1)) (n := 436529 + 9 * (k + 1)) (by omega) (by omega) ?_
        exact tail _ _ _ ⟨q, qp, qt, qv, qs, qs1, qs2, qb, qw, qc, qd, tk, n, n2, n3, f, g, f2, g2, w, w2, L, mq, ta, vb, ba, na, nb, nI 1, c8, c9, c10, c11, mf, mg, c6, c7, by0, qo, fo, hP.sub [5, 0, 1, 2, 8, 9, 10, 6, 7, 3, 4, 17, 12, 13, 16, 14, 15, 11] rfl, hD.sub [5, 0, 1, 2, 8, 9, 10, 6, 7, 3, 4, 17, 12, 13, 16, 14, 15, 11] (by decide) rfl, hS, lv_sub hl [3, 4, 5, 6, 0] rfl, h1, hL, hR, hB, hf0, hag⟩
      have c_370 : 1 = 0 := (ct_zeq (by omega)).mp c_370
      exfalso
      omega
    have c_363 : ¬ (1 = 1) := fun z => c_363 ((nI_eq (by omega) (by omega)).mpr z)
    exfalso
    omega
