/-! writing: helps -/
theorem cp_one (t : Nat) : cp_b 1 t = decide (t = 0) := by
  show cp_b (lN 1) t = _
  rw [cp_N]
  cases t with
  | zero => decide
  | succ t => rw [Nat.testBit_succ, show 1 / 2 = 0 by decide, Nat.zero_testBit, Bool.and_false, decide_eq_false (by omega)]
theorem cp_1shl {n : Nat} (hn : n < 64) : (1 : Int64) <<< ((nI n).toInt64 &&& 63) = lN (2 ^ n) := by
  apply cp_ext
  intro j hj
  rw [cp_shl _ hn hj, cp_one, cp_N, Nat.testBit_two_pow, decide_eq_true hj, Bool.true_and]
  by_cases c : n = j
  · rw [decide_eq_true c, decide_eq_true (by omega), decide_eq_true (by omega)]; rfl
  · rw [decide_eq_false c]
    by_cases d : n ≤ j
    · rw [decide_eq_false (show ¬ j - n = 0 by omega), Bool.and_false]
    · rw [decide_eq_false d, Bool.false_and]
theorem cp_ones {n : Nat} (hn : n < 64) : (1 : Int64) <<< ((nI n).toInt64 &&& 63) - 1 = lN (2 ^ n - 1) := by
  rw [cp_1shl hn, show (1 : Int64) = lN 1 by decide, lN_sub (Nat.two_pow_pos n)]
theorem cp_mask {t : Int64} {n : Nat} (hn : n < 64) (j : Nat) : cp_b (t &&& ((1 : Int64) <<< ((nI n).toInt64 &&& 63) - 1)) j = (decide (j < n) && cp_b t j) := by
  rw [cp_ones hn, cp_and, cp_N, Nat.testBit_two_pow_sub_one]
  by_cases c : j < n
  · rw [decide_eq_true c, decide_eq_true (show j < 64 by omega), Bool.and_true, Bool.true_and, Bool.and_true]
  · rw [decide_eq_false c, Bool.and_false, Bool.and_false, Bool.false_and]
theorem cp_mask_fit {t : Int64} {n : Nat} (hn : n < 64) : cp_fit (t &&& ((1 : Int64) <<< ((nI n).toInt64 &&& 63) - 1)) n := fun j hj => by rw [cp_mask hn, decide_eq_false (by omega), Bool.false_and]
theorem cp_mask_bl {t : Int64} {n : Nat} (hn : n < 64) : cp_bl (t &&& ((1 : Int64) <<< ((nI n).toInt64 &&& 63) - 1)) n = cp_bl t n := cp_bl_congr (fun j hj => by rw [cp_mask hn, decide_eq_true hj, Bool.true_and])
theorem kd_1s : ∀ k, k < 5 → (lN (2 ^ k - 1)) <<< ((nI 1).toInt64 &&& 63) = lN (2 ^ (k + 1) - 2) := by decide +kernel
theorem kd_kb : ∀ k, k < 4 → cp_bl (lN (2 ^ (k + 1) - 2)) (k + 1) = cp_kb k := by decide +kernel
theorem kd_4 : cp_bl (lN (2 ^ 4 - 1)) 4 = cp_kb 4 := by decide +kernel
theorem cp_tb_le (k : Nat) : cp_tb k ≤ 41 := by
  unfold cp_tb
  split
  · decide
  · split
    · decide
    · split
      · decide
      · split <;> decide
theorem cp_kb_len (k : Nat) : (cp_kb k).length ≤ 4 := by
  unfold cp_kb
  split
  · simp [cp_bl_len]
  · split
    · simp [cp_bl_len]
    · split
      · simp [cp_bl_len]
      · split <;> simp [cp_bl_len]
theorem kd_le {t a b : Int64} (h : a.toInt = b.toInt + 1) : ¬ a ≤ t ↔ t ≤ b := by
  rw [Int64.le_iff_toInt_le, Int64.le_iff_toInt_le, h]; omega
theorem kd_1 {t : Int64} (h0 : ¬ t = 0) (h1 : ¬ t < -64) (h2 : ¬ 64 ≤ t) : cp_kd t = 1 := by
  unfold cp_kd
  rw [if_neg h0, if_pos ⟨Int64.not_lt.mp h1, (kd_le (by decide)).mp h2⟩]
theorem kd_o {t a b c : Int64} (h : c.toInt = b.toInt + 1) (hk : t < a ∨ c ≤ t) : ¬ (a ≤ t ∧ t ≤ b) := by
  rintro ⟨h1, h2⟩
  rcases hk with z | z
  · exact absurd h1 (Int64.not_le.mpr z)
  · exact absurd z ((kd_le h).mpr h2)
theorem kd_2 {t : Int64} (h0 : ¬ t = 0) (k1 : t < -64 ∨ 64 ≤ t) (h1 : ¬ t < -512) (h2 : ¬ 512 ≤ t) : cp_kd t = 2 := by
  unfold cp_kd
  rw [if_neg h0, if_neg (kd_o (by decide) k1), if_pos ⟨Int64.not_lt.mp h1, (kd_le (by decide)).mp h2⟩]
theorem kd_3 {t : Int64} (h0 : ¬ t = 0) (k1 : t < -64 ∨ 64 ≤ t) (k2 : t < -512 ∨ 512 ≤ t) (h1 : ¬ t < -4096) (h2 : ¬ 4096 ≤ t) : cp_kd t = 3 := by
  unfold cp_kd
  rw [if_neg h0, if_neg (kd_o (by decide) k1), if_neg (kd_o (by decide) k2), if_pos ⟨Int64.not_lt.mp h1, (kd_le (by decide)).mp h2⟩]
theorem kd_5 {t : Int64} (h0 : ¬ t = 0) (k1 : t < -64 ∨ 64 ≤ t) (k2 : t < -512 ∨ 512 ≤ t) (k3 : t < -4096 ∨ 4096 ≤ t) : cp_kd t = 4 := by
  unfold cp_kd
  rw [if_neg h0, if_neg (kd_o (by decide) k1), if_neg (kd_o (by decide) k2), if_neg (kd_o (by decide) k3)]
theorem kd_0 {t : Int64} (h0 : t = 0) : cp_kd t = 0 := by unfold cp_kd; rw [if_pos h0]
/-- a long that isn't 0 by its highest and its lowest 1 -/
theorem cz_ex {x : Int64} (h : x ≠ 0) : ∃ a mm t b : Nat, x = lN a ∧ a < 18446744073709551616 ∧ 2 ^ mm ≤ a ∧ a < 2 ^ (mm + 1) ∧ cp_lz x = 63 - mm ∧ mm < 64 ∧ t < 64 ∧ a = 2 ^ (t + 1) * b + 2 ^ t ∧ cp_tz x = t := by
  obtain ⟨a, ha, hxa⟩ : ∃ n, n < 2 ^ 64 ∧ x = lN n := ⟨x.toBitVec.toNat, x.toBitVec.isLt, Int64.toBitVec_inj.mp (by rw [wb_tb]; simp)⟩
  have ha0 : a ≠ 0 := by
    intro z; subst z; exact h hxa
  have h1 := Nat.log2_self_le ha0
  have h2 : a < 2 ^ (a.log2 + 1) := Nat.lt_log2_self
  have hm : a.log2 < 64 := cz_pw h1 ha
  have ht := cp_tz_lt h
  have hlow := cp_tz_low h
  have hbel : ∀ j, j < cp_tz x → cp_b x j = false := fun j hj => cp_tz_below x hj
  generalize htt : cp_tz x = t at ht hlow hbel
  have hmod : a % 2 ^ t = 0 := by
    apply Nat.eq_of_testBit_eq
    intro j
    rw [Nat.testBit_mod_two_pow, Nat.zero_testBit]
    by_cases c : j < t
    · have e := hbel j c
      rw [hxa, cp_N, decide_eq_true (show j < 64 by omega), Bool.true_and] at e
      rw [e, Bool.and_false]
    · rw [decide_eq_false c, Bool.false_and]
  have hodd : a / 2 ^ t % 2 = 1 := by
    rw [hxa, cp_N, decide_eq_true ht, Bool.true_and, Nat.testBit_eq_decide_div_mod_eq, decide_eq_true_eq] at hlow
    exact hlow
  have e1 := Nat.div_add_mod a (2 ^ t)
  have e2 := Nat.div_add_mod (a / 2 ^ t) 2
  refine ⟨a, a.log2, t, a / 2 ^ t / 2, hxa, ha, h1, h2, cz_lz hxa ha h1 h2, hm, ht, ?_, rfl⟩
  have e3 : a = 2 ^ t * (a / 2 ^ t) := by omega
  have e4 : a / 2 ^ t = 2 * (a / 2 ^ t / 2) + 1 := by omega
  calc a = 2 ^ t * (a / 2 ^ t) := e3
    _ = 2 ^ t * (2 * (a / 2 ^ t / 2) + 1) := by rw [← e4]
    _ = 2 ^ (t + 1) * (a / 2 ^ t / 2) + 2 ^ t := by rw [Nat.mul_add, Nat.mul_one, Nat.pow_succ, Nat.mul_assoc]
theorem cp_sr_fit {x : Int64} {k n : Nat} (hk : k < 64) (h : 64 ≤ n + k + cp_lz x) : cp_fit (cp_sr x k) n := fun j hj => by
  unfold cp_sr
  rw [cp_ushr x hk]
  exact cp_lz_above x (by omega)
theorem ct_loop {p : Program} {l : Launch} {e : Env} {R : Room} {s : State} {m : MethodId} {args : Array Value} {below : List Frame} {meth : Method} {c : Code} {cells slots : Nat} {Q : State → Prop} {pc : Nat} {stk : List Value} {σ : Type} (I : σ → Heap → List Loc → Array Slot → Prop) (μ : σ → Nat)
    (hs : ∀ (a : σ) (H : Heap) (locs : List Loc) (ls : Array Slot), I a H locs ls → (∀ (b : σ) (H' : Heap) (locs' : List Loc) (ls' : Array Slot), μ b < μ a → I b H' locs' ls' → W p l e R s m args below meth c H' locs' cells slots Q (F0 m pc ls' stk)) → W p l e R s m args below meth c H locs cells slots Q (F0 m pc ls stk)) :
    ∀ (a : σ) {H : Heap} {locs : List Loc} {ls : Array Slot}, I a H locs ls → W p l e R s m args below meth c H locs cells slots Q (F0 m pc ls stk) := by
  have key : ∀ (n : Nat) (a : σ), μ a < n → ∀ (H : Heap) (locs : List Loc) (ls : Array Slot), I a H locs ls → W p l e R s m args below meth c H locs cells slots Q (F0 m pc ls stk) := by
    intro n
    induction n with
    | zero => intro a h; exact absurd h (Nat.not_lt_zero _)
    | succ n ih => intro a h H locs ls hI; exact hs a H locs ls hI (fun b H' locs' ls' hb hI' => ih b (by omega) H' locs' ls' hI')
  intro a H locs ls h
  exact key (μ a + 1) a (by omega) H locs ls h

set_option maxHeartbeats 4000000 in
set_option maxRecDepth 100000 in
theorem cs_B_append (l : Launch) (D : va_G) (cJ cB : ClassId) (q qw : Nat) (w : Nat → Int64) (L : List Bool) (v : Int64) (k : Nat) (sz : Nat) (hL : L.length + k ≤ 400000) (hR : cp_Rw w L) (hk : k ≤ 64) (hf : cp_fit v k) : ct_i l my_B_append (Cond.code my_B_append mb_B_append 10 (some .boolean) :: TB) ({ frames := 0, cells := 0, slots := 0, locals := 0 } : Room) D classes cJ cB [.ref q, .long v, .int (nI k)] [(q, .inr (0, [.ref qw, .int (nI L.length)])), (qw, .inl (cJ, 6250, .inr (.inl w)))] sz (fun (r : Int32) (u : Nat → Int64) => r = nI 1 ∧ cp_Rw u (L ++ cp_bl v k)) (fun u => [(q, .inr (0, [.ref qw, .int (nI ((L ++ cp_bl v k).length))])), (qw, .inl (cJ, 6250, .inr (.inl u)))]) 0 0 := by
  refine ct_ofW (cc := mb_B_append) (maxL := 10) (ret := some .boolean) (by decide) rfl (Nat.le_of_ble_eq_true rfl) ?_
  intro p e s m below meth c hx hb hr hml hts hown hlocks hin hsz hK hP hD hA hS hZ ls hl
  have hw : ∀ w ∈ TB, w.before _ s = true := fun w h => hts w (List.mem_cons_of_mem _ h)
  have hown : s.vm.findClass cn_B = some m.cls := hown
  have hin : meth.name = "append" := hin
  generalize hAe : va_A [(q, .inr (0, [.ref qw, .int (nI L.length)])), (qw, .inl (cJ, 6250, .inr (.inl w)))] sz = A at hD hA hS hZ ⊢
  clear hAe
  have hl : lv_has ls 10 [(0, .ref q), (1, .long v), (3, .int (nI k))] := hl
  have hP : va_P D classes [(q, .inr (0, [.ref qw, .int (nI L.length)])), (qw, .inl (cJ, 6250, .inr (.inl w)))] s.heap := hP
  refine lv_iload_n hx hb dd_B_append_0 rfl (lv_at hl 2 rfl) ?_
  refine lv_ldc (v := 400000) hx hb hown (hw _ wi_299) dd_B_append_1 ?_
  refine ct_topi (y := nI 400000) (by decide) ?_
  refine lv_aload_n hx hb dd_B_append_3 rfl (lv_at hl 0 rfl) ?_
  refine va_get (D := D) (ci := 0) (C := cn_B) (T := cf_B) (N := 2) hx hb hw in_B hown hK hP 0 rfl rfl 1 (by decide) (hw _ wi_70) (fun _ h9 => h9) rfl dd_B_append_4 ?_
  refine lv_isub hx hb dd_B_append_7 ?_
  refine ct_topi (y := nI (400000 - L.length)) (pk_sub (by omega)) ?_
  refine lv_icmp_le (tgt := 13) hx hb dd_B_append_8 (by decide) (fun c_8 => ?_) (fun c_8 => ?_)
  · skip
    have c_8 : k ≤ (400000 - L.length) := (nI_leI (by omega) (by omega)).mp c_8
    refine lv_iload_n hx hb dd_B_append_13 rfl (lv_at hl 2 rfl) ?_
    refine lv_if_ne (tgt := 19) hx hb dd_B_append_14 (by decide) (fun c_14 => ?_) (fun c_14 => ?_)
    · skip
      have c_14 : ¬ (k = 0) := fun z => c_14 ((ct_zeq (by omega)).mpr z)
      refine lv_aload_n hx hb dd_B_append_19 rfl (lv_at hl 0 rfl) ?_
      refine va_get (D := D) (ci := 0) (C := cn_B) (T := cf_B) (N := 2) hx hb hw in_B hown hK hP 0 rfl rfl 1 (by decide) (hw _ wi_70) (fun _ h9 => h9) rfl dd_B_append_20 ?_
      refine lv_bipush (v := nI 64) hx hb dd_B_append_23 (by decide) ?_
      refine lv_idiv hx hb dd_B_append_25 (by decide) ?_
      refine ct_topi (y := nI (L.length / 64)) (pk_div (by omega) (by decide) (by decide)) ?_
      refine lv_istore (lv' := [(4, .int (nI (L.length / 64))), (0, .ref q), (1, .long v), (3, .int (nI k))]) hx hb dd_B_append_26 hl (by decide) rfl (fun ls hl => ?_)
      refine lv_aload_n hx hb dd_B_append_28 rfl (lv_at hl 1 rfl) ?_
      refine va_get (D := D) (ci := 0) (C := cn_B) (T := cf_B) (N := 2) hx hb hw in_B hown hK hP 0 rfl rfl 1 (by decide) (hw _ wi_70) (fun _ h9 => h9) rfl dd_B_append_29 ?_
      refine lv_bipush (v := nI 64) hx hb dd_B_append_32 (by decide) ?_
      refine lv_irem hx hb dd_B_append_34 (by decide) ?_
      refine ct_topi (y := nI (L.length % 64)) (pk_rem (by omega) (by decide) (by decide)) ?_
      refine lv_istore (lv' := [(5, .int (nI (L.length % 64))), (4, .int (nI (L.length / 64))), (0, .ref q), (1, .long v), (3, .int (nI k))]) hx hb dd_B_append_35 hl (by decide) rfl (fun ls hl => ?_)
      refine lv_bipush (v := nI 64) hx hb dd_B_append_37 (by decide) ?_
      refine lv_iload hx hb dd_B_append_39 (lv_at hl 0 rfl) ?_
      refine lv_isub hx hb dd_B_append_41 ?_
      refine ct_topi (y := nI (64 - (L.length % 64))) (pk_sub (by omega)) ?_
      refine lv_istore (lv' := [(6, .int (nI (64 - (L.length % 64)))), (5, .int (nI (L.length % 64))), (4, .int (nI (L.length / 64))), (0, .ref q), (1, .long v), (3, .int (nI k))]) hx hb dd_B_append_42 hl (by decide) rfl (fun ls hl => ?_)
      refine lv_iload hx hb dd_B_append_44 (lv_at hl 1 rfl) ?_
      refine lv_if_ne (tgt := 53) hx hb dd_B_append_46 (by decide) (fun c_46 => ?_) (fun c_46 => ?_)
      · skip
        have c_46 : ¬ ((L.length % 64) = 0) := fun z => c_46 ((ct_zeq (by omega)).mpr z)
        refine lv_aload_n hx hb dd_B_append_53 rfl (lv_at hl 3 rfl) ?_
        refine va_get (D := D) (ci := 0) (C := cn_B) (T := cf_B) (N := 2) hx hb hw in_B hown hK hP 0 rfl rfl 0 (by decide) (hw _ wi_69) (fun _ h9 => h9) rfl dd_B_append_54 ?_
        refine lv_iload hx hb dd_B_append_57 (lv_at hl 2 rfl) ?_
        refine va_lald hx hb hK hP 1 0 rfl rfl (vp_in_nI (by omega) (by omega)) dd_B_append_59 ?_
        refine ct_topl (y := w (L.length / 64)) (by rw [nI_clamp (by omega)]) ?_
        refine lv_iload hx hb dd_B_append_60 (lv_at hl 0 rfl) ?_
        refine lv_lushr (v := ((w (L.length / 64)).toUInt64 >>> ((nI (64 - (L.length % 64))).toInt64.toUInt64 &&& Int64.toUInt64 63)).toInt64) hx hb dd_B_append_62 rfl ?_
        refine lv_iload hx hb dd_B_append_63 (lv_at hl 0 rfl) ?_
        refine lv_lshl (v := (((w (L.length / 64)).toUInt64 >>> ((nI (64 - (L.length % 64))).toInt64.toUInt64 &&& Int64.toUInt64 63)).toInt64) <<< ((nI (64 - (L.length % 64))).toInt64 &&& 63)) hx hb dd_B_append_65 rfl ?_
        refine ct_topl (y := cp_hd w L.length) ((if_neg c_46).symm) ?_
        refine lv_lstore (lv' := [(7, .long (cp_hd w L.length)), (6, .int (nI (64 - (L.length % 64)))), (5, .int (nI (L.length % 64))), (4, .int (nI (L.length / 64))), (0, .ref q), (1, .long v), (3, .int (nI k))]) hx hb dd_B_append_66 hl (by decide) rfl (fun ls hl => ?_)
        refine lv_iload_n hx hb dd_B_append_68 rfl (lv_at hl 6 rfl) ?_
        refine lv_iload hx hb dd_B_append_69 (lv_at hl 1 rfl) ?_
        refine lv_icmp_gt (tgt := 93) hx hb dd_B_append_71 (by decide) (fun c_71 => ?_) (fun c_71 => ?_)
        · skip
          have c_71 : (64 - (L.length % 64)) < k := (nI_ltI (by omega) (by omega)).mp c_71
          refine lv_iload_n hx hb dd_B_append_93 rfl (lv_at hl 6 rfl) ?_
          refine lv_iload hx hb dd_B_append_94 (lv_at hl 1 rfl) ?_
          refine lv_isub hx hb dd_B_append_96 ?_
          refine ct_topi (y := nI (k - (64 - (L.length % 64)))) (pk_sub (by omega)) ?_
          refine lv_istore (lv' := [(9, .int (nI (k - (64 - (L.length % 64))))), (7, .long (cp_hd w L.length)), (6, .int (nI (64 - (L.length % 64)))), (5, .int (nI (L.length % 64))), (4, .int (nI (L.length / 64))), (0, .ref q), (1, .long v), (3, .int (nI k))]) hx hb dd_B_append_97 hl (by decide) rfl (fun ls hl => ?_)
          refine lv_aload_n hx hb dd_B_append_99 rfl (lv_at hl 5 rfl) ?_
          refine va_get (D := D) (ci := 0) (C := cn_B) (T := cf_B) (N := 2) hx hb hw in_B hown hK hP 0 rfl rfl 0 (by decide) (hw _ wi_69) (fun _ h9 => h9) rfl dd_B_append_100 ?_
          refine lv_iload hx hb dd_B_append_103 (lv_at hl 4 rfl) ?_
          refine lv_lload hx hb dd_B_append_105 (lv_at hl 1 rfl) ?_
          refine lv_lload_n hx hb dd_B_append_107 rfl (lv_at hl 6 rfl) ?_
          refine lv_iload hx hb dd_B_append_108 (lv_at hl 0 rfl) ?_
          refine lv_lushr (v := (v.toUInt64 >>> ((nI (k - (64 - (L.length % 64)))).toInt64.toUInt64 &&& Int64.toUInt64 63)).toInt64) hx hb dd_B_append_110 rfl ?_
          refine lv_lor hx hb dd_B_append_111 ?_
          refine va_last hx hb hK hP hD hS 1 0 rfl rfl (vp_in_nI (by omega) (by omega)) dd_B_append_112 (fun H locs hP hD hS => ?_)
          rw [show (nI (L.length / 64)).toNatClampNeg = L.length / 64 from nI_clamp (by omega)] at hP hD
          have hP : va_P D classes [(q, .inr (0, [.ref qw, .int (nI L.length)])), (qw, .inl (cJ, 6250, .inr (.inl (vp_updL w (L.length / 64) ((cp_hd w L.length) ||| ((v.toUInt64 >>> ((nI (k - (64 - (L.length % 64)))).toInt64.toUInt64 &&& Int64.toUInt64 63)).toInt64))))))] _ := hP
          have hD : va_D A [(q, .inr (0, [.ref qw, .int (nI L.length)])), (qw, .inl (cJ, 6250, .inr (.inl (vp_updL w (L.length / 64) ((cp_hd w L.length) ||| ((v.toUInt64 >>> ((nI (k - (64 - (L.length % 64)))).toInt64.toUInt64 &&& Int64.toUInt64 63)).toInt64))))))] := hD
          refine lv_aload_n hx hb dd_B_append_113 rfl (lv_at hl 5 rfl) ?_
          refine va_get (D := D) (ci := 0) (C := cn_B) (T := cf_B) (N := 2) hx hb hw in_B hown hK hP 0 rfl rfl 0 (by decide) (hw _ wi_69) (fun _ h9 => h9) rfl dd_B_append_114 ?_
          refine lv_iload hx hb dd_B_append_117 (lv_at hl 4 rfl) ?_
          refine lv_iconst (v := nI 1) hx hb dd_B_append_119 (by decide) ?_
          refine lv_iadd hx hb dd_B_append_120 ?_
          refine ct_topi (y := nI (L.length / 64 + 1)) (nI_add _ _) ?_
          refine lv_lload_n hx hb dd_B_append_121 rfl (lv_at hl 6 rfl) ?_
          refine lv_bipush (v := nI 64) hx hb dd_B_append_122 (by decide) ?_
          refine lv_iload hx hb dd_B_append_124 (lv_at hl 0 rfl) ?_
          refine lv_isub hx hb dd_B_append_126 ?_
          refine ct_topi (y := nI (64 - (k - (64 - (L.length % 64))))) (pk_sub (by omega)) ?_
          refine lv_lshl (v := v <<< ((nI (64 - (k - (64 - (L.length % 64))))).toInt64 &&& 63)) hx hb dd_B_append_127 rfl ?_
          refine va_last hx hb hK hP hD hS 1 0 rfl rfl (vp_in_nI (by omega) (by omega)) dd_B_append_128 (fun H locs hP hD hS => ?_)
          rw [show (nI (L.length / 64 + 1)).toNatClampNeg = L.length / 64 + 1 from nI_clamp (by omega)] at hP hD
          have hP : va_P D classes [(q, .inr (0, [.ref qw, .int (nI L.length)])), (qw, .inl (cJ, 6250, .inr (.inl (vp_updL (vp_updL w (L.length / 64) ((cp_hd w L.length) ||| ((v.toUInt64 >>> ((nI (k - (64 - (L.length % 64)))).toInt64.toUInt64 &&& Int64.toUInt64 63)).toInt64))) (L.length / 64 + 1) (v <<< ((nI (64 - (k - (64 - (L.length % 64))))).toInt64 &&& 63))))))] _ := hP
          have hD : va_D A [(q, .inr (0, [.ref qw, .int (nI L.length)])), (qw, .inl (cJ, 6250, .inr (.inl (vp_updL (vp_updL w (L.length / 64) ((cp_hd w L.length) ||| ((v.toUInt64 >>> ((nI (k - (64 - (L.length % 64)))).toInt64.toUInt64 &&& Int64.toUInt64 63)).toInt64))) (L.length / 64 + 1) (v <<< ((nI (64 - (k - (64 - (L.length % 64))))).toInt64 &&& 63))))))] := hD
          refine lv_aload_n hx hb dd_B_append_129 rfl (lv_at hl 5 rfl) ?_
          refine lv_dup hx hb dd_B_append_130 rfl ?_
          refine va_get (D := D) (ci := 0) (C := cn_B) (T := cf_B) (N := 2) hx hb hw in_B hown hK hP 0 rfl rfl 1 (by decide) (hw _ wi_70) (fun _ h9 => h9) rfl dd_B_append_131 ?_
          refine lv_iload_n hx hb dd_B_append_134 rfl (lv_at hl 7 rfl) ?_
          refine lv_iadd hx hb dd_B_append_135 ?_
          refine ct_topi (y := nI (L.length + k)) (nI_add _ _) ?_
          refine va_put (D := D) (ci := 0) (v := .int (nI (L.length + k))) (ty := .int) (C := cn_B) (T := cf_B) (N := 2) hx hb hw in_B ty_B to_B nn_B hown hK hP hD hS 0 rfl rfl 1 (by decide) (hw _ wi_70) (fun _ h9 => h9) rfl (by decide +kernel) (rfl) (rfl) (Nat.le_of_ble_eq_true rfl) dd_B_append_136 (fun H locs hP hD hS => ?_)
          have hP : va_P D classes [(q, .inr (0, [.ref qw, .int (nI (L.length + k))])), (qw, .inl (cJ, 6250, .inr (.inl (vp_updL (vp_updL w (L.length / 64) ((cp_hd w L.length) ||| ((v.toUInt64 >>> ((nI (k - (64 - (L.length % 64)))).toInt64.toUInt64 &&& Int64.toUInt64 63)).toInt64))) (L.length / 64 + 1) (v <<< ((nI (64 - (k - (64 - (L.length % 64))))).toInt64 &&& 63))))))] _ := hP
          have hD : va_D A [(q, .inr (0, [.ref qw, .int (nI (L.length + k))])), (qw, .inl (cJ, 6250, .inr (.inl (vp_updL (vp_updL w (L.length / 64) ((cp_hd w L.length) ||| ((v.toUInt64 >>> ((nI (k - (64 - (L.length % 64)))).toInt64.toUInt64 &&& Int64.toUInt64 63)).toInt64))) (L.length / 64 + 1) (v <<< ((nI (64 - (k - (64 - (L.length % 64))))).toInt64 &&& 63))))))] := hD
          refine lv_iconst (v := nI 1) hx hb dd_B_append_139 (by decide) ?_
          rw [show L.length + k = (L ++ cp_bl v k).length by rw [List.length_append, cp_bl_len]] at hP hD
          refine ct_zret (u := vp_updL (vp_updL w (L.length / 64) ((cp_hd w L.length) ||| ((v.toUInt64 >>> ((nI (k - (64 - (L.length % 64)))).toInt64.toUInt64 &&& Int64.toUInt64 63)).toInt64))) (L.length / 64 + 1) (v <<< ((nI (64 - (k - (64 - (L.length % 64))))).toInt64 &&& 63))) hx hb hr hlocks (by decide) hK hP hD hS rfl ?_ dd_B_append_140
          exact ⟨rfl, cp_app2 hR (by omega) hf (by omega)⟩
        have c_71 : ¬ ((64 - (L.length % 64)) < k) := fun z => c_71 ((nI_ltI (by omega) (by omega)).mpr z)
        refine lv_aload_n hx hb dd_B_append_74 rfl (lv_at hl 4 rfl) ?_
        refine va_get (D := D) (ci := 0) (C := cn_B) (T := cf_B) (N := 2) hx hb hw in_B hown hK hP 0 rfl rfl 0 (by decide) (hw _ wi_69) (fun _ h9 => h9) rfl dd_B_append_75 ?_
        refine lv_iload hx hb dd_B_append_78 (lv_at hl 3 rfl) ?_
        refine lv_lload hx hb dd_B_append_80 (lv_at hl 0 rfl) ?_
        refine lv_lload_n hx hb dd_B_append_82 rfl (lv_at hl 5 rfl) ?_
        refine lv_iload hx hb dd_B_append_83 (lv_at hl 1 rfl) ?_
        refine lv_iload_n hx hb dd_B_append_85 rfl (lv_at hl 6 rfl) ?_
        refine lv_isub hx hb dd_B_append_86 ?_
        refine ct_topi (y := nI (64 - (L.length % 64) - k)) (pk_sub (by omega)) ?_
        refine lv_lshl (v := v <<< ((nI (64 - (L.length % 64) - k)).toInt64 &&& 63)) hx hb dd_B_append_87 rfl ?_
        refine lv_lor hx hb dd_B_append_88 ?_
        refine va_last hx hb hK hP hD hS 1 0 rfl rfl (vp_in_nI (by omega) (by omega)) dd_B_append_89 (fun H locs hP hD hS => ?_)
        rw [show (nI (L.length / 64)).toNatClampNeg = L.length / 64 from nI_clamp (by omega)] at hP hD
        have hP : va_P D classes [(q, .inr (0, [.ref qw, .int (nI L.length)])), (qw, .inl (cJ, 6250, .inr (.inl (vp_updL w (L.length / 64) ((cp_hd w L.length) ||| (v <<< ((nI (64 - (L.length % 64) - k)).toInt64 &&& 63)))))))] _ := hP
        have hD : va_D A [(q, .inr (0, [.ref qw, .int (nI L.length)])), (qw, .inl (cJ, 6250, .inr (.inl (vp_updL w (L.length / 64) ((cp_hd w L.length) ||| (v <<< ((nI (64 - (L.length % 64) - k)).toInt64 &&& 63)))))))] := hD
        refine lv_goto (tgt := 129) hx hb dd_B_append_90 (by decide) ?_
        refine lv_aload_n hx hb dd_B_append_129 rfl (lv_at hl 4 rfl) ?_
        refine lv_dup hx hb dd_B_append_130 rfl ?_
        refine va_get (D := D) (ci := 0) (C := cn_B) (T := cf_B) (N := 2) hx hb hw in_B hown hK hP 0 rfl rfl 1 (by decide) (hw _ wi_70) (fun _ h9 => h9) rfl dd_B_append_131 ?_
        refine lv_iload_n hx hb dd_B_append_134 rfl (lv_at hl 6 rfl) ?_
        refine lv_iadd hx hb dd_B_append_135 ?_
        refine ct_topi (y := nI (L.length + k)) (nI_add _ _) ?_
        refine va_put (D := D) (ci := 0) (v := .int (nI (L.length + k))) (ty := .int) (C := cn_B) (T := cf_B) (N := 2) hx hb hw in_B ty_B to_B nn_B hown hK hP hD hS 0 rfl rfl 1 (by decide) (hw _ wi_70) (fun _ h9 => h9) rfl (by decide +kernel) (rfl) (rfl) (Nat.le_of_ble_eq_true rfl) dd_B_append_136 (fun H locs hP hD hS => ?_)
        have hP : va_P D classes [(q, .inr (0, [.ref qw, .int (nI (L.length + k))])), (qw, .inl (cJ, 6250, .inr (.inl (vp_updL w (L.length / 64) ((cp_hd w L.length) ||| (v <<< ((nI (64 - (L.length % 64) - k)).toInt64 &&& 63)))))))] _ := hP
        have hD : va_D A [(q, .inr (0, [.ref qw, .int (nI (L.length + k))])), (qw, .inl (cJ, 6250, .inr (.inl (vp_updL w (L.length / 64) ((cp_hd w L.length) ||| (v <<< ((nI (64 - (L.length % 64) - k)).toInt64 &&& 63)))))))] := hD
        refine lv_iconst (v := nI 1) hx hb dd_B_append_139 (by decide) ?_
        rw [show L.length + k = (L ++ cp_bl v k).length by rw [List.length_append, cp_bl_len]] at hP hD
        refine ct_zret (u := vp_updL w (L.length / 64) ((cp_hd w L.length) ||| (v <<< ((nI (64 - (L.length % 64) - k)).toInt64 &&& 63)))) hx hb hr hlocks (by decide) hK hP hD hS rfl ?_ dd_B_append_140
        exact ⟨rfl, cp_app1 hR (by omega) hf (by omega)⟩
      have c_46 : (L.length % 64) = 0 := (ct_zeq (by omega)).mp c_46
      refine lv_lconst (v := 0) hx hb dd_B_append_49 (by decide) ?_
      refine ct_topl (y := cp_hd w L.length) ((if_pos c_46).symm) ?_
      refine lv_goto (tgt := 66) hx hb dd_B_append_50 (by decide) ?_
      refine lv_lstore (lv' := [(7, .long (cp_hd w L.length)), (6, .int (nI (64 - (L.length % 64)))), (5, .int (nI (L.length % 64))), (4, .int (nI (L.length / 64))), (0, .ref q), (1, .long v), (3, .int (nI k))]) hx hb dd_B_append_66 hl (by decide) rfl (fun ls hl => ?_)
      refine lv_iload_n hx hb dd_B_append_68 rfl (lv_at hl 6 rfl) ?_
      refine lv_iload hx hb dd_B_append_69 (lv_at hl 1 rfl) ?_
      refine lv_icmp_gt (tgt := 93) hx hb dd_B_append_71 (by decide) (fun c_71 => ?_) (fun c_71 => ?_)
      · skip
        have c_71 : (64 - (L.length % 64)) < k := (nI_ltI (by omega) (by omega)).mp c_71
        refine lv_iload_n hx hb dd_B_append_93 rfl (lv_at hl 6 rfl) ?_
        refine lv_iload hx hb dd_B_append_94 (lv_at hl 1 rfl) ?_
        refine lv_isub hx hb dd_B_append_96 ?_
        refine ct_topi (y := nI (k - (64 - (L.length % 64)))) (pk_sub (by omega)) ?_
        refine lv_istore (lv' := [(9, .int (nI (k - (64 - (L.length % 64))))), (7, .long (cp_hd w L.length)), (6, .int (nI (64 - (L.length % 64)))), (5, .int (nI (L.length % 64))), (4, .int (nI (L.length / 64))), (0, .ref q), (1, .long v), (3, .int (nI k))]) hx hb dd_B_append_97 hl (by decide) rfl (fun ls hl => ?_)
        refine lv_aload_n hx hb dd_B_append_99 rfl (lv_at hl 5 rfl) ?_
        refine va_get (D := D) (ci := 0) (C := cn_B) (T := cf_B) (N := 2) hx hb hw in_B hown hK hP 0 rfl rfl 0 (by decide) (hw _ wi_69) (fun _ h9 => h9) rfl dd_B_append_100 ?_
        refine lv_iload hx hb dd_B_append_103 (lv_at hl 4 rfl) ?_
        refine lv_lload hx hb dd_B_append_105 (lv_at hl 1 rfl) ?_
        refine lv_lload_n hx hb dd_B_append_107 rfl (lv_at hl 6 rfl) ?_
        refine lv_iload hx hb dd_B_append_108 (lv_at hl 0 rfl) ?_
        refine lv_lushr (v := (v.toUInt64 >>> ((nI (k - (64 - (L.length % 64)))).toInt64.toUInt64 &&& Int64.toUInt64 63)).toInt64) hx hb dd_B_append_110 rfl ?_
        refine lv_lor hx hb dd_B_append_111 ?_
        refine va_last hx hb hK hP hD hS 1 0 rfl rfl (vp_in_nI (by omega) (by omega)) dd_B_append_112 (fun H locs hP hD hS => ?_)
        rw [show (nI (L.length / 64)).toNatClampNeg = L.length / 64 from nI_clamp (by omega)] at hP hD
        have hP : va_P D classes [(q, .inr (0, [.ref qw, .int (nI L.length)])), (qw, .inl (cJ, 6250, .inr (.inl (vp_updL w (L.length / 64) ((cp_hd w L.length) ||| ((v.toUInt64 >>> ((nI (k - (64 - (L.length % 64)))).toInt64.toUInt64 &&& Int64.toUInt64 63)).toInt64))))))] _ := hP
        have hD : va_D A [(q, .inr (0, [.ref qw, .int (nI L.length)])), (qw, .inl (cJ, 6250, .inr (.inl (vp_updL w (L.length / 64) ((cp_hd w L.length) ||| ((v.toUInt64 >>> ((nI (k - (64 - (L.length % 64)))).toInt64.toUInt64 &&& Int64.toUInt64 63)).toInt64))))))] := hD
        refine lv_aload_n hx hb dd_B_append_113 rfl (lv_at hl 5 rfl) ?_
        refine va_get (D := D) (ci := 0) (C := cn_B) (T := cf_B) (N := 2) hx hb hw in_B hown hK hP 0 rfl rfl 0 (by decide) (hw _ wi_69) (fun _ h9 => h9) rfl dd_B_append_114 ?_
        refine lv_iload hx hb dd_B_append_117 (lv_at hl 4 rfl) ?_
        refine lv_iconst (v := nI 1) hx hb dd_B_append_119 (by decide) ?_
        refine lv_iadd hx hb dd_B_append_120 ?_
        refine ct_topi (y := nI (L.length / 64 + 1)) (nI_add _ _) ?_
        refine lv_lload_n hx hb dd_B_append_121 rfl (lv_at hl 6 rfl) ?_
        refine lv_bipush (v := nI 64) hx hb dd_B_append_122 (by decide) ?_
        refine lv_iload hx hb dd_B_append_124 (lv_at hl 0 rfl) ?_
        refine lv_isub hx hb dd_B_append_126 ?_
        refine ct_topi (y := nI (64 - (k - (64 - (L.length % 64))))) (pk_sub (by omega)) ?_
        refine lv_lshl (v := v <<< ((nI (64 - (k - (64 - (L.length % 64))))).toInt64 &&& 63)) hx hb dd_B_append_127 rfl ?_
        refine va_last hx hb hK hP hD hS 1 0 rfl rfl (vp_in_nI (by omega) (by omega)) dd_B_append_128 (fun H locs hP hD hS => ?_)
        rw [show (nI (L.length / 64 + 1)).toNatClampNeg = L.length / 64 + 1 from nI_clamp (by omega)] at hP hD
        have hP : va_P D classes [(q, .inr (0, [.ref qw, .int (nI L.length)])), (qw, .inl (cJ, 6250, .inr (.inl (vp_updL (vp_updL w (L.length / 64) ((cp_hd w L.length) ||| ((v.toUInt64 >>> ((nI (k - (64 - (L.length % 64)))).toInt64.toUInt64 &&& Int64.toUInt64 63)).toInt64))) (L.length / 64 + 1) (v <<< ((nI (64 - (k - (64 - (L.length % 64))))).toInt64 &&& 63))))))] _ := hP
        have hD : va_D A [(q, .inr (0, [.ref qw, .int (nI L.length)])), (qw, .inl (cJ, 6250, .inr (.inl (vp_updL (vp_updL w (L.length / 64) ((cp_hd w L.length) ||| ((v.toUInt64 >>> ((nI (k - (64 - (L.length % 64)))).toInt64.toUInt64 &&& Int64.toUInt64 63)).toInt64))) (L.length / 64 + 1) (v <<< ((nI (64 - (k - (64 - (L.length % 64))))).toInt64 &&& 63))))))] := hD
        refine lv_aload_n hx hb dd_B_append_129 rfl (lv_at hl 5 rfl) ?_
        refine lv_dup hx hb dd_B_append_130 rfl ?_
        refine va_get (D := D) (ci := 0) (C := cn_B) (T := cf_B) (N := 2) hx hb hw in_B hown hK hP 0 rfl rfl 1 (by decide) (hw _ wi_70) (fun _ h9 => h9) rfl dd_B_append_131 ?_
        refine lv_iload_n hx hb dd_B_append_134 rfl (lv_at hl 7 rfl) ?_
        refine lv_iadd hx hb dd_B_append_135 ?_
        refine ct_topi (y := nI (L.length + k)) (nI_add _ _) ?_
        refine va_put (D := D) (ci := 0) (v := .int (nI (L.length + k))) (ty := .int) (C := cn_B) (T := cf_B) (N := 2) hx hb hw in_B ty_B to_B nn_B hown hK hP hD hS 0 rfl rfl 1 (by decide) (hw _ wi_70) (fun _ h9 => h9) rfl (by decide +kernel) (rfl) (rfl) (Nat.le_of_ble_eq_true rfl) dd_B_append_136 (fun H locs hP hD hS => ?_)
        have hP : va_P D classes [(q, .inr (0, [.ref qw, .int (nI (L.length + k))])), (qw, .inl (cJ, 6250, .inr (.inl (vp_updL (vp_updL w (L.length / 64) ((cp_hd w L.length) ||| ((v.toUInt64 >>> ((nI (k - (64 - (L.length % 64)))).toInt64.toUInt64 &&& Int64.toUInt64 63)).toInt64))) (L.length / 64 + 1) (v <<< ((nI (64 - (k - (64 - (L.length % 64))))).toInt64 &&& 63))))))] _ := hP
        have hD : va_D A [(q, .inr (0, [.ref qw, .int (nI (L.length + k))])), (qw, .inl (cJ, 6250, .inr (.inl (vp_updL (vp_updL w (L.length / 64) ((cp_hd w L.length) ||| ((v.toUInt64 >>> ((nI (k - (64 - (L.length % 64)))).toInt64.toUInt64 &&& Int64.toUInt64 63)).toInt64))) (L.length / 64 + 1) (v <<< ((nI (64 - (k - (64 - (L.length % 64))))).toInt64 &&& 63))))))] := hD
        refine lv_iconst (v := nI 1) hx hb dd_B_append_139 (by decide) ?_
        rw [show L.length + k = (L ++ cp_bl v k).length by rw [List.length_append, cp_bl_len]] at hP hD
        refine ct_zret (u := vp_updL (vp_updL w (L.length / 64) ((cp_hd w L.length) ||| ((v.toUInt64 >>> ((nI (k - (64 - (L.length % 64)))).toInt64.toUInt64 &&& Int64.toUInt64 63)).toInt64))) (L.length / 64 + 1) (v <<< ((nI (64 - (k - (64 - (L.length % 64))))).toInt64 &&& 63))) hx hb hr hlocks (by decide) hK hP hD hS rfl ?_ dd_B_append_140
        exact ⟨rfl, cp_app2 hR (by omega) hf (by omega)⟩
      have c_71 : ¬ ((64 - (L.length % 64)) < k) := fun z => c_71 ((nI_ltI (by omega) (by omega)).mpr z)
      refine lv_aload_n hx hb dd_B_append_74 rfl (lv_at hl 4 rfl) ?_
      refine va_get (D := D) (ci := 0) (C := cn_B) (T := cf_B) (N := 2) hx hb hw in_B hown hK hP 0 rfl rfl 0 (by decide) (hw _ wi_69) (fun _ h9 => h9) rfl dd_B_append_75 ?_
      refine lv_iload hx hb dd_B_append_78 (lv_at hl 3 rfl) ?_
      refine lv_lload hx hb dd_B_append_80 (lv_at hl 0 rfl) ?_
      refine lv_lload_n hx hb dd_B_append_82 rfl (lv_at hl 5 rfl) ?_
      refine lv_iload hx hb dd_B_append_83 (lv_at hl 1 rfl) ?_
      refine lv_iload_n hx hb dd_B_append_85 rfl (lv_at hl 6 rfl) ?_
      refine lv_isub hx hb dd_B_append_86 ?_
      refine ct_topi (y := nI (64 - (L.length % 64) - k)) (pk_sub (by omega)) ?_
      refine lv_lshl (v := v <<< ((nI (64 - (L.length % 64) - k)).toInt64 &&& 63)) hx hb dd_B_append_87 rfl ?_
      refine lv_lor hx hb dd_B_append_88 ?_
      refine va_last hx hb hK hP hD hS 1 0 rfl rfl (vp_in_nI (by omega) (by omega)) dd_B_append_89 (fun H locs hP hD hS => ?_)
      rw [show (nI (L.length / 64)).toNatClampNeg = L.length / 64 from nI_clamp (by omega)] at hP hD
      have hP : va_P D classes [(q, .inr (0, [.ref qw, .int (nI L.length)])), (qw, .inl (cJ, 6250, .inr (.inl (vp_updL w (L.length / 64) ((cp_hd w L.length) ||| (v <<< ((nI (64 - (L.length % 64) - k)).toInt64 &&& 63)))))))] _ := hP
      have hD : va_D A [(q, .inr (0, [.ref qw, .int (nI L.length)])), (qw, .inl (cJ, 6250, .inr (.inl (vp_updL w (L.length / 64) ((cp_hd w L.length) ||| (v <<< ((nI (64 - (L.length % 64) - k)).toInt64 &&& 63)))))))] := hD
      refine lv_goto (tgt := 129) hx hb dd_B_append_90 (by decide) ?_
      refine lv_aload_n hx hb dd_B_append_129 rfl (lv_at hl 4 rfl) ?_
      refine lv_dup hx hb dd_B_append_130 rfl ?_
      refine va_get (D := D) (ci := 0) (C := cn_B) (T := cf_B) (N := 2) hx hb hw in_B hown hK hP 0 rfl rfl 1 (by decide) (hw _ wi_70) (fun _ h9 => h9) rfl dd_B_append_131 ?_
      refine lv_iload_n hx hb dd_B_append_134 rfl (lv_at hl 6 rfl) ?_
      refine lv_iadd hx hb dd_B_append_135 ?_
      refine ct_topi (y := nI (L.length + k)) (nI_add _ _) ?_
      refine va_put (D := D) (ci := 0) (v := .int (nI (L.length + k))) (ty := .int) (C := cn_B) (T := cf_B) (N := 2) hx hb hw in_B ty_B to_B nn_B hown hK hP hD hS 0 rfl rfl 1 (by decide) (hw _ wi_70) (fun _ h9 => h9) rfl (by decide +kernel) (rfl) (rfl) (Nat.le_of_ble_eq_true rfl) dd_B_append_136 (fun H locs hP hD hS => ?_)
      have hP : va_P D classes [(q, .inr (0, [.ref qw, .int (nI (L.length + k))])), (qw, .inl (cJ, 6250, .inr (.inl (vp_updL w (L.length / 64) ((cp_hd w L.length) ||| (v <<< ((nI (64 - (L.length % 64) - k)).toInt64 &&& 63)))))))] _ := hP
      have hD : va_D A [(q, .inr (0, [.ref qw, .int (nI (L.length + k))])), (qw, .inl (cJ, 6250, .inr (.inl (vp_updL w (L.length / 64) ((cp_hd w L.length) ||| (v <<< ((nI (64 - (L.length % 64) - k)).toInt64 &&& 63)))))))] := hD
      refine lv_iconst (v := nI 1) hx hb dd_B_append_139 (by decide) ?_
      rw [show L.length + k = (L ++ cp_bl v k).length by rw [List.length_append, cp_bl_len]] at hP hD
      refine ct_zret (u := vp_updL w (L.length / 64) ((cp_hd w L.length) ||| (v <<< ((nI (64 - (L.length % 64) - k)).toInt64 &&& 63)))) hx hb hr hlocks (by decide) hK hP hD hS rfl ?_ dd_B_append_140
      exact ⟨rfl, cp_app1 hR (by omega) hf (by omega)⟩
    have c_14 : k = 0 := (ct_zeq (by omega)).mp c_14
    refine lv_iconst (v := nI 1) hx hb dd_B_append_17 (by decide) ?_
    rw [show L.length = (L ++ cp_bl v k).length by rw [List.length_append, cp_bl_len]; omega] at hP hD
    refine ct_zret (u := w) hx hb hr hlocks (by decide) hK hP hD hS rfl ?_ dd_B_append_18
    refine ⟨rfl, ?_⟩
    subst c_14
    rw [cp_bl, List.append_nil]
    exact hR
  have c_8 : ¬ (k ≤ (400000 - L.length)) := fun z => c_8 ((nI_leI (by omega) (by omega)).mpr z)
  exfalso
  omega

set_option maxHeartbeats 4000000 in
set_option maxRecDepth 100000 in
theorem cc_W_init (l : Launch) (D : va_G) (cJ cB : ClassId) (q qb : Nat) (sz : Nat) : ct_v l my_W_init (Cond.code my_W_init mb_W_init 2 none :: TB) ({ frames := 2, cells := 1, slots := 2, locals := 32 } : Room) D classes cJ cB [.ref q, .ref qb] [(q, .inr (4, [.null, .null, .long 0, .long 0, .long 0]))] sz (fun (u : Nat) => True) (fun u => [(q, .inr (4, [.ref qb, .ref u, .long 0, .long 0, .long 0])), (u, .inr (1, [.int (nI 0), .int (nI 0)]))]) 1 2 := by
  refine ct_ofW (cc := mb_W_init) (maxL := 2) (ret := none) (by decide) rfl (Nat.le_of_ble_eq_true rfl) ?_
  intro p e s m below meth c hx hb hr hml hts hown hlocks hin hsz hK hP hD hA hS hZ ls hl
  have hw : ∀ w ∈ TB, w.before _ s = true := fun w h => hts w (List.mem_cons_of_mem _ h)
  have hown : s.vm.findClass cn_W = some m.cls := hown
  have hin : meth.name = "<init>" := hin
  generalize hAe : va_A [(q, .inr (4, [.null, .null, .long 0, .long 0, .long 0]))] sz = A at hD hA hS hZ ⊢
  clear hAe
  have hl : lv_has ls 2 [(0, .ref q), (1, .ref qb)] := hl
  have hP : va_P D classes [(q, .inr (4, [.null, .null, .long 0, .long 0, .long 0]))] s.heap := hP
  refine lv_aload_n hx hb dd_W_init_0 rfl (lv_at hl 0 rfl) ?_
  refine W.objInit hx hb hown (hw _ wi_232) (hw _ wi_44) (hw _ wi_obj) rfl (by rw [hml]; exact hl.1) rfl dd_W_init_1 (Nat.le_of_ble_eq_true rfl) (Nat.le_of_ble_eq_true rfl) ?_
  refine W.eq (g2 := F0 m 4 ls []) rfl ?_
  refine lv_aload_n hx hb dd_W_init_4 rfl (lv_at hl 0 rfl) ?_
  refine lv_aload_n hx hb dd_W_init_5 rfl (lv_at hl 1 rfl) ?_
  refine va_putF (D := D) (ci := 4) (v := .ref qb) (ty := .object "ChunkPacker$BitRow") (C := cn_W) (T := cf_W) (N := 5) hx hb hw in_W ty_W to_W nn_W hown hK hP hD hS 0 rfl rfl 0 (by decide) (hw _ wi_246) (fun _ h9 => h9) rfl hin rfl (by decide +kernel) (rfl) (rfl) (Nat.le_of_ble_eq_true rfl) dd_W_init_6 (fun H locs hP hD hS => ?_)
  have hP : va_P D classes [(q, .inr (4, [.ref qb, .null, .long 0, .long 0, .long 0]))] _ := hP
  have hD : va_D A [(q, .inr (4, [.ref qb, .null, .long 0, .long 0, .long 0]))] := hD
  refine lv_aload_n hx hb dd_W_init_9 rfl (lv_at hl 0 rfl) ?_
  refine va_new (ci := 1) (fs := [.int 0, .int 0]) (C := cn_F) (T := cf_F) (N := 2) hx hb hw in_F ty_F to_F hown (hw _ wi_233) (hw _ wi_234) (hw _ wi_32) hK hP hD hS hA rfl (fun j hj => by rcases (show j = 0 ∨ j = 1 by omega) with rfl | rfl <;> rfl) (Nat.le_of_ble_eq_true rfl) (Nat.le_of_ble_eq_true rfl) dd_W_init_10 (fun qf H hP hD hS => ?_)
  have hP : va_P D classes [(q, .inr (4, [.ref qb, .null, .long 0, .long 0, .long 0])), (qf, .inr (1, [.int 0, .int 0]))] _ := hP
  have hD : va_D A [(q, .inr (4, [.ref qb, .null, .long 0, .long 0, .long 0])), (qf, .inr (1, [.int 0, .int 0]))] := hD
  refine lv_dup hx hb dd_W_init_13 rfl ?_
  refine ct_behind_v (wc := [(qf, .inr (1, [.int 0, .int 0]))]) (wr := [(q, .inr (4, [.ref qb, .null, .long 0, .long 0, .long 0]))]) (av := [.ref qf]) (va_runI (As := []) (rest := [.ref qf, .ref q]) ⟨hx, hb, hml, hown, hw⟩ (cc_F_init l D cJ cB qf _) (cwI 0 hw (tb_I wi_237) rfl rfl rfl (hw _ wi_32) (hw _ wi_235) (hw _ wi_236) rfl (by decide +kernel) ⟨Nat.le_of_ble_eq_true rfl, Nat.le_of_ble_eq_true rfl⟩) ⟨ct_blind, ct_pc hZ hK hP hD hS hA [1] rfl (by decide)⟩ rfl rfl hl.1 rfl (lv_room (Nat.le_of_ble_eq_true rfl)) dd_W_init_14 ⟨Nat.le_of_ble_eq_true rfl, Nat.le_of_ble_eq_true rfl⟩) hK hP hD hS hA [1] [0] rfl rfl (by decide) (by decide) (fun u_14 H locs hw_14 hP hD hS => ?_)
  have hP : va_P D classes [(q, .inr (4, [.ref qb, .null, .long 0, .long 0, .long 0])), (qf, .inr (1, [.int (nI 0), .int (nI 0)]))] _ := hP
  have hD : va_D A [(q, .inr (4, [.ref qb, .null, .long 0, .long 0, .long 0])), (qf, .inr (1, [.int (nI 0), .int (nI 0)]))] := hD
  refine va_putF (D := D) (ci := 4) (v := .ref qf) (ty := .object "ChunkPacker$Frame") (C := cn_W) (T := cf_W) (N := 5) hx hb hw in_W ty_W to_W nn_W hown hK hP hD hS 0 rfl rfl 1 (by decide) (hw _ wi_247) (fun _ h9 => h9) rfl hin rfl (by decide +kernel) (rfl) (rfl) (Nat.le_of_ble_eq_true rfl) dd_W_init_17 (fun H locs hP hD hS => ?_)
  have hP : va_P D classes [(q, .inr (4, [.ref qb, .ref qf, .long 0, .long 0, .long 0])), (qf, .inr (1, [.int (nI 0), .int (nI 0)]))] _ := hP
  have hD : va_D A [(q, .inr (4, [.ref qb, .ref qf, .long 0, .long 0, .long 0])), (qf, .inr (1, [.int (nI 0), .int (nI 0)]))] := hD
  refine lv_aload_n hx hb dd_W_init_20 rfl (lv_at hl 0 rfl) ?_
  refine lv_lconst (v := 0) hx hb dd_W_init_21 (by decide) ?_
  refine va_put (D := D) (ci := 4) (v := .long 0) (ty := .long) (C := cn_W) (T := cf_W) (N := 5) hx hb hw in_W ty_W to_W nn_W hown hK hP hD hS 0 rfl rfl 2 (by decide) (hw _ wi_248) (fun _ h9 => h9) rfl (by decide +kernel) (rfl) (rfl) (Nat.le_of_ble_eq_true rfl) dd_W_init_22 (fun H locs hP hD hS => ?_)
  have hP : va_P D classes [(q, .inr (4, [.ref qb, .ref qf, .long 0, .long 0, .long 0])), (qf, .inr (1, [.int (nI 0), .int (nI 0)]))] _ := hP
  have hD : va_D A [(q, .inr (4, [.ref qb, .ref qf, .long 0, .long 0, .long 0])), (qf, .inr (1, [.int (nI 0), .int (nI 0)]))] := hD
  refine lv_aload_n hx hb dd_W_init_25 rfl (lv_at hl 0 rfl) ?_
  refine lv_lconst (v := 0) hx hb dd_W_init_26 (by decide) ?_
  refine va_put (D := D) (ci := 4) (v := .long 0) (ty := .long) (C := cn_W) (T := cf_W) (N := 5) hx hb hw in_W ty_W to_W nn_W hown hK hP hD hS 0 rfl rfl 3 (by decide) (hw _ wi_249) (fun _ h9 => h9) rfl (by decide +kernel) (rfl) (rfl) (Nat.le_of_ble_eq_true rfl) dd_W_init_27 (fun H locs hP hD hS => ?_)
  have hP : va_P D classes [(q, .inr (4, [.ref qb, .ref qf, .long 0, .long 0, .long 0])), (qf, .inr (1, [.int (nI 0), .int (nI 0)]))] _ := hP
  have hD : va_D A [(q, .inr (4, [.ref qb, .ref qf, .long 0, .long 0, .long 0])), (qf, .inr (1, [.int (nI 0), .int (nI 0)]))] := hD
  refine lv_aload_n hx hb dd_W_init_30 rfl (lv_at hl 0 rfl) ?_
  refine lv_lconst (v := 0) hx hb dd_W_init_31 (by decide) ?_
  refine va_put (D := D) (ci := 4) (v := .long 0) (ty := .long) (C := cn_W) (T := cf_W) (N := 5) hx hb hw in_W ty_W to_W nn_W hown hK hP hD hS 0 rfl rfl 4 (by decide) (hw _ wi_250) (fun _ h9 => h9) rfl (by decide +kernel) (rfl) (rfl) (Nat.le_of_ble_eq_true rfl) dd_W_init_32 (fun H locs hP hD hS => ?_)
  have hP : va_P D classes [(q, .inr (4, [.ref qb, .ref qf, .long 0, .long 0, .long 0])), (qf, .inr (1, [.int (nI 0), .int (nI 0)]))] _ := hP
  have hD : va_D A [(q, .inr (4, [.ref qb, .ref qf, .long 0, .long 0, .long 0])), (qf, .inr (1, [.int (nI 0), .int (nI 0)]))] := hD
  refine ct_vret (u := qf) hx hb hr hlocks hK hP hD hS rfl ?_ dd_W_init_35
  trivial

set_option maxHeartbeats 4000000 in
set_option maxRecDepth 100000 in
theorem cc_W_writeFirst (l : Launch) (D : va_G) (cJ cB : ClassId) (q qb qw qf : Nat) (lt ls0 lv0 : Int64) (w : Nat → Int64) (L : List Bool) (t v : Int64) (sz : Nat) (hL : L.length + 104 ≤ 400000) (hR : cp_Rw w L) (hf : cp_fit t 40) : ct_i l my_W_writeFirst (Cond.code my_W_writeFirst mb_W_writeFirst 5 (some .boolean) :: TB) ({ frames := 1, cells := 0, slots := 0, locals := 29 } : Room) D classes cJ cB [.ref q, .long t, .long v] [(q, .inr (4, [.ref qb, .ref qf, .long lt, .long ls0, .long lv0])), (qb, .inr (0, [.ref qw, .int (nI L.length)])), (qw, .inl (cJ, 6250, .inr (.inl w)))] sz (fun (r : Int32) (u : Nat → Int64) => r = nI 1 ∧ cp_Rw u ((L ++ cp_bl t 40) ++ cp_bl v 64)) (fun u => [(q, .inr (4, [.ref qb, .ref qf, .long lt, .long ls0, .long lv0])), (qb, .inr (0, [.ref qw, .int (nI (((L ++ cp_bl t 40) ++ cp_bl v 64).length))])), (qw, .inl (cJ, 6250, .inr (.inl u)))]) 0 0 := by
  refine ct_ofW (cc := mb_W_writeFirst) (maxL := 5) (ret := some .boolean) (by decide) rfl (Nat.le_of_ble_eq_true rfl) ?_
  intro p e s m below meth c hx hb hr hml hts hown hlocks hin hsz hK hP hD hA hS hZ ls hl
  have hw : ∀ w ∈ TB, w.before _ s = true := fun w h => hts w (List.mem_cons_of_mem _ h)
  have hown : s.vm.findClass cn_W = some m.cls := hown
  have hin : meth.name = "writeFirst" := hin
  generalize hAe : va_A [(q, .inr (4, [.ref qb, .ref qf, .long lt, .long ls0, .long lv0])), (qb, .inr (0, [.ref qw, .int (nI L.length)])), (qw, .inl (cJ, 6250, .inr (.inl w)))] sz = A at hD hA hS hZ ⊢
  clear hAe
  have hl : lv_has ls 5 [(0, .ref q), (1, .long t), (3, .long v)] := hl
  have hP : va_P D classes [(q, .inr (4, [.ref qb, .ref qf, .long lt, .long ls0, .long lv0])), (qb, .inr (0, [.ref qw, .int (nI L.length)])), (qw, .inl (cJ, 6250, .inr (.inl w)))] s.heap := hP
  refine lv_aload_n hx hb dd_W_writeFirst_0 rfl (lv_at hl 0 rfl) ?_
  refine va_get (D := D) (ci := 4) (C := cn_W) (T := cf_W) (N := 5) hx hb hw in_W hown hK hP 0 rfl rfl 0 (by decide) (hw _ wi_246) (fun _ h9 => h9) rfl dd_W_writeFirst_1 ?_
  refine lv_lload_n hx hb dd_W_writeFirst_4 rfl (lv_at hl 1 rfl) ?_
  refine lv_bipush (v := nI 40) hx hb dd_W_writeFirst_5 (by decide) ?_
  refine ct_behind_i (wc := [(qb, .inr (0, [.ref qw, .int (nI L.length)])), (qw, .inl (cJ, 6250, .inr (.inl w)))]) (wr := [(q, .inr (4, [.ref qb, .ref qf, .long lt, .long ls0, .long lv0]))]) (av := [.ref qb, .long t, .int (nI 40)]) (va_runV (As := [.long t, .int (nI 40)]) (rest := []) ⟨hx, hb, hml, hown, hw⟩ (cs_B_append l D cJ cB qb qw w L t 40 _ (by omega) hR (by omega) (hf)) (cwV 2 hw (tb_V wi_295 wi_296 wi_297 wi_24 wi_298) rfl rfl rfl (by decide +kernel) ⟨Nat.le_of_ble_eq_true rfl, Nat.le_of_ble_eq_true rfl⟩) ⟨ct_blind, ct_recv hK hP (q0 := 1) (ci := 0) rfl rfl, ct_pc hZ hK hP hD hS hA [1, 2] rfl (by decide)⟩ rfl rfl hl.1 rfl (lv_room (Nat.le_of_ble_eq_true rfl)) dd_W_writeFirst_7 ⟨Nat.le_of_ble_eq_true rfl, Nat.le_of_ble_eq_true rfl⟩) hK hP hD hS hA [1, 2] [0] rfl rfl (by decide) (by decide) (fun r_7 u_7 H locs hw_7 hP hD hS => ?_)
  obtain ⟨hr_7, hR_w1⟩ := hw_7
  subst hr_7
  obtain ⟨w1, h9_7⟩ : ∃ z, z = u_7 := ⟨_, rfl⟩
  rw [← h9_7] at hP hD hR_w1
  clear h9_7
  have hP : va_P D classes [(q, .inr (4, [.ref qb, .ref qf, .long lt, .long ls0, .long lv0])), (qb, .inr (0, [.ref qw, .int (nI ((L ++ cp_bl t 40).length))])), (qw, .inl (cJ, 6250, .inr (.inl w1)))] _ := hP
  have hD : va_D A [(q, .inr (4, [.ref qb, .ref qf, .long lt, .long ls0, .long lv0])), (qb, .inr (0, [.ref qw, .int (nI ((L ++ cp_bl t 40).length))])), (qw, .inl (cJ, 6250, .inr (.inl w1)))] := hD
  refine lv_if_eq (tgt := 30) hx hb dd_W_writeFirst_10 (by decide) (fun c_10 => ?_) (fun c_10 => ?_)
  · skip
    have c_10 : 1 = 0 := (ct_zeq (by omega)).mp c_10
    exfalso
    omega
  have c_10 : ¬ (1 = 0) := fun z => c_10 ((ct_zeq (by omega)).mpr z)
  refine lv_aload_n hx hb dd_W_writeFirst_13 rfl (lv_at hl 0 rfl) ?_
  refine va_get (D := D) (ci := 4) (C := cn_W) (T := cf_W) (N := 5) hx hb hw in_W hown hK hP 0 rfl rfl 0 (by decide) (hw _ wi_246) (fun _ h9 => h9) rfl dd_W_writeFirst_14 ?_
  refine lv_lload_n hx hb dd_W_writeFirst_17 rfl (lv_at hl 2 rfl) ?_
  refine lv_bipush (v := nI 64) hx hb dd_W_writeFirst_18 (by decide) ?_
  refine ct_behind_i (wc := [(qb, .inr (0, [.ref qw, .int (nI ((L ++ cp_bl t 40).length))])), (qw, .inl (cJ, 6250, .inr (.inl w1)))]) (wr := [(q, .inr (4, [.ref qb, .ref qf, .long lt, .long ls0, .long lv0]))]) (av := [.ref qb, .long v, .int (nI 64)]) (va_runV (As := [.long v, .int (nI 64)]) (rest := []) ⟨hx, hb, hml, hown, hw⟩ (cs_B_append l D cJ cB qb qw w1 (L ++ cp_bl t 40) v 64 _ (by simp only [List.length_append, cp_bl_len]; omega) hR_w1 (by omega) (cp_fit_64 v)) (cwV 2 hw (tb_V wi_295 wi_296 wi_297 wi_24 wi_298) rfl rfl rfl (by decide +kernel) ⟨Nat.le_of_ble_eq_true rfl, Nat.le_of_ble_eq_true rfl⟩) ⟨ct_blind, ct_recv hK hP (q0 := 1) (ci := 0) rfl rfl, ct_pc hZ hK hP hD hS hA [1, 2] rfl (by decide)⟩ rfl rfl hl.1 rfl (lv_room (Nat.le_of_ble_eq_true rfl)) dd_W_writeFirst_20 ⟨Nat.le_of_ble_eq_true rfl, Nat.le_of_ble_eq_true rfl⟩) hK hP hD hS hA [1, 2] [0] rfl rfl (by decide) (by decide) (fun r_20 u_20 H locs hw_20 hP hD hS => ?_)
  obtain ⟨hr_20, hR_w2⟩ := hw_20
  subst hr_20
  obtain ⟨w2, h9_20⟩ : ∃ z, z = u_20 := ⟨_, rfl⟩
  rw [← h9_20] at hP hD hR_w2
  clear h9_20
  have hP : va_P D classes [(q, .inr (4, [.ref qb, .ref qf, .long lt, .long ls0, .long lv0])), (qb, .inr (0, [.ref qw, .int (nI (((L ++ cp_bl t 40) ++ cp_bl v 64).length))])), (qw, .inl (cJ, 6250, .inr (.inl w2)))] _ := hP
  have hD : va_D A [(q, .inr (4, [.ref qb, .ref qf, .long lt, .long ls0, .long lv0])), (qb, .inr (0, [.ref qw, .int (nI (((L ++ cp_bl t 40) ++ cp_bl v 64).length))])), (qw, .inl (cJ, 6250, .inr (.inl w2)))] := hD
  refine lv_if_eq (tgt := 30) hx hb dd_W_writeFirst_23 (by decide) (fun c_23 => ?_) (fun c_23 => ?_)
  · skip
    have c_23 : 1 = 0 := (ct_zeq (by omega)).mp c_23
    exfalso
    omega
  have c_23 : ¬ (1 = 0) := fun z => c_23 ((ct_zeq (by omega)).mpr z)
  refine lv_iconst (v := nI 1) hx hb dd_W_writeFirst_26 (by decide) ?_
  refine lv_goto (tgt := 31) hx hb dd_W_writeFirst_27 (by decide) ?_
  refine ct_zret (u := w2) hx hb hr hlocks (by decide) hK hP hD hS rfl ?_ dd_W_writeFirst_31
  exact ⟨rfl, hR_w2⟩

set_option maxHeartbeats 4000000 in
set_option maxRecDepth 100000 in
theorem cc_W_writeKind (l : Launch) (D : va_G) (cJ cB : ClassId) (q qb qw qf : Nat) (lt ls0 lv0 : Int64) (w : Nat → Int64) (L : List Bool) (k : Nat) (sz : Nat) (hL : L.length + 5 ≤ 400000) (hR : cp_Rw w L) (hk : k ≤ 4) : ct_i l my_W_writeKind (Cond.code my_W_writeKind mb_W_writeKind 4 (some .boolean) :: TB) ({ frames := 1, cells := 0, slots := 0, locals := 29 } : Room) D classes cJ cB [.ref q, .int (nI k)] [(q, .inr (4, [.ref qb, .ref qf, .long lt, .long ls0, .long lv0])), (qb, .inr (0, [.ref qw, .int (nI L.length)])), (qw, .inl (cJ, 6250, .inr (.inl w)))] sz (fun (r : Int32) (u : Nat → Int64) => r = nI 1 ∧ cp_Rw u (L ++ cp_kb k)) (fun u => [(q, .inr (4, [.ref qb, .ref qf, .long lt, .long ls0, .long lv0])), (qb, .inr (0, [.ref qw, .int (nI ((L ++ cp_kb k).length))])), (qw, .inl (cJ, 6250, .inr (.inl u)))]) 0 0 := by
  refine ct_ofW (cc := mb_W_writeKind) (maxL := 4) (ret := some .boolean) (by decide) rfl (Nat.le_of_ble_eq_true rfl) ?_
  intro p e s m below meth c hx hb hr hml hts hown hlocks hin hsz hK hP hD hA hS hZ ls hl
  have hw : ∀ w ∈ TB, w.before _ s = true := fun w h => hts w (List.mem_cons_of_mem _ h)
  have hown : s.vm.findClass cn_W = some m.cls := hown
  have hin : meth.name = "writeKind" := hin
  generalize hAe : va_A [(q, .inr (4, [.ref qb, .ref qf, .long lt, .long ls0, .long lv0])), (qb, .inr (0, [.ref qw, .int (nI L.length)])), (qw, .inl (cJ, 6250, .inr (.inl w)))] sz = A at hD hA hS hZ ⊢
  clear hAe
  have hl : lv_has ls 4 [(0, .ref q), (1, .int (nI k))] := hl
  have hP : va_P D classes [(q, .inr (4, [.ref qb, .ref qf, .long lt, .long ls0, .long lv0])), (qb, .inr (0, [.ref qw, .int (nI L.length)])), (qw, .inl (cJ, 6250, .inr (.inl w)))] s.heap := hP
  refine lv_lconst (v := 1) hx hb dd_W_writeKind_0 (by decide) ?_
  refine lv_iload_n hx hb dd_W_writeKind_1 rfl (lv_at hl 1 rfl) ?_
  refine lv_lshl (v := 1 <<< ((nI k).toInt64 &&& 63)) hx hb dd_W_writeKind_2 rfl ?_
  refine lv_lconst (v := 1) hx hb dd_W_writeKind_3 (by decide) ?_
  refine lv_lsub hx hb dd_W_writeKind_4 ?_
  refine ct_topl (y := lN (2 ^ k - 1)) (cp_ones (by omega)) ?_
  refine lv_lstore_n (lv' := [(2, .long (lN (2 ^ k - 1))), (0, .ref q), (1, .int (nI k))]) hx hb dd_W_writeKind_5 rfl hl (by decide) rfl (fun ls hl => ?_)
  refine lv_iload_n hx hb dd_W_writeKind_6 rfl (lv_at hl 2 rfl) ?_
  refine lv_iconst (v := nI 4) hx hb dd_W_writeKind_7 (by decide) ?_
  refine lv_icmp_ne (tgt := 23) hx hb dd_W_writeKind_8 (by decide) (fun c_8 => ?_) (fun c_8 => ?_)
  · skip
    have c_8 : ¬ (k = 4) := fun z => c_8 ((nI_eq (by omega) (by omega)).mpr z)
    refine lv_aload_n hx hb dd_W_writeKind_23 rfl (lv_at hl 1 rfl) ?_
    refine va_get (D := D) (ci := 4) (C := cn_W) (T := cf_W) (N := 5) hx hb hw in_W hown hK hP 0 rfl rfl 0 (by decide) (hw _ wi_246) (fun _ h9 => h9) rfl dd_W_writeKind_24 ?_
    refine lv_lload_n hx hb dd_W_writeKind_27 rfl (lv_at hl 0 rfl) ?_
    refine lv_iconst (v := nI 1) hx hb dd_W_writeKind_28 (by decide) ?_
    refine lv_lshl (v := (lN (2 ^ k - 1)) <<< ((nI 1).toInt64 &&& 63)) hx hb dd_W_writeKind_29 rfl ?_
    refine ct_topl (y := lN (2 ^ (k + 1) - 2)) (kd_1s k (by omega)) ?_
    refine lv_iload_n hx hb dd_W_writeKind_30 rfl (lv_at hl 2 rfl) ?_
    refine lv_iconst (v := nI 1) hx hb dd_W_writeKind_31 (by decide) ?_
    refine lv_iadd hx hb dd_W_writeKind_32 ?_
    refine ct_topi (y := nI (k + 1)) (nI_add _ _) ?_
    refine ct_behind_i (wc := [(qb, .inr (0, [.ref qw, .int (nI L.length)])), (qw, .inl (cJ, 6250, .inr (.inl w)))]) (wr := [(q, .inr (4, [.ref qb, .ref qf, .long lt, .long ls0, .long lv0]))]) (av := [.ref qb, .long (lN (2 ^ (k + 1) - 2)), .int (nI (k + 1))]) (va_runV (As := [.long (lN (2 ^ (k + 1) - 2)), .int (nI (k + 1))]) (rest := []) ⟨hx, hb, hml, hown, hw⟩ (cs_B_append l D cJ cB qb qw w L (lN (2 ^ (k + 1) - 2)) (k + 1) _ (by omega) hR (by omega) (cp_fit_N (by have := Nat.two_pow_pos (k + 1); omega))) (cwV 2 hw (tb_V wi_295 wi_296 wi_297 wi_24 wi_298) rfl rfl rfl (by decide +kernel) ⟨Nat.le_of_ble_eq_true rfl, Nat.le_of_ble_eq_true rfl⟩) ⟨ct_blind, ct_recv hK hP (q0 := 1) (ci := 0) rfl rfl, ct_pc hZ hK hP hD hS hA [1, 2] rfl (by decide)⟩ rfl rfl hl.1 rfl (lv_room (Nat.le_of_ble_eq_true rfl)) dd_W_writeKind_33 ⟨Nat.le_of_ble_eq_true rfl, Nat.le_of_ble_eq_true rfl⟩) hK hP hD hS hA [1, 2] [0] rfl rfl (by decide) (by decide) (fun r_33 u_33 H locs hw_33 hP hD hS => ?_)
    obtain ⟨hr_33, hR_w1⟩ := hw_33
    subst hr_33
    obtain ⟨w1, h9_33⟩ : ∃ z, z = u_33 := ⟨_, rfl⟩
    rw [← h9_33] at hP hD hR_w1
    clear h9_33
    have hP : va_P D classes [(q, .inr (4, [.ref qb, .ref qf, .long lt, .long ls0, .long lv0])), (qb, .inr (0, [.ref qw, .int (nI ((L ++ cp_bl (lN (2 ^ (k + 1) - 2)) (k + 1)).length))])), (qw, .inl (cJ, 6250, .inr (.inl w1)))] _ := hP
    have hD : va_D A [(q, .inr (4, [.ref qb, .ref qf, .long lt, .long ls0, .long lv0])), (qb, .inr (0, [.ref qw, .int (nI ((L ++ cp_bl (lN (2 ^ (k + 1) - 2)) (k + 1)).length))])), (qw, .inl (cJ, 6250, .inr (.inl w1)))] := hD
    rw [show cp_bl (lN (2 ^ (k + 1) - 2)) (k + 1) = cp_kb k from kd_kb k (by omega)] at hP hD hR_w1
    refine ct_zret (u := w1) hx hb hr hlocks (by decide) hK hP hD hS rfl ?_ dd_W_writeKind_36
    exact ⟨rfl, hR_w1⟩
  have c_8 : k = 4 := (nI_eq (by omega) (by omega)).mp c_8
  refine lv_aload_n hx hb dd_W_writeKind_11 rfl (lv_at hl 1 rfl) ?_
  refine va_get (D := D) (ci := 4) (C := cn_W) (T := cf_W) (N := 5) hx hb hw in_W hown hK hP 0 rfl rfl 0 (by decide) (hw _ wi_246) (fun _ h9 => h9) rfl dd_W_writeKind_12 ?_
  refine lv_lload_n hx hb dd_W_writeKind_15 rfl (lv_at hl 0 rfl) ?_
  refine lv_iload_n hx hb dd_W_writeKind_16 rfl (lv_at hl 2 rfl) ?_
  refine ct_behind_i (wc := [(qb, .inr (0, [.ref qw, .int (nI L.length)])), (qw, .inl (cJ, 6250, .inr (.inl w)))]) (wr := [(q, .inr (4, [.ref qb, .ref qf, .long lt, .long ls0, .long lv0]))]) (av := [.ref qb, .long (lN (2 ^ k - 1)), .int (nI k)]) (va_runV (As := [.long (lN (2 ^ k - 1)), .int (nI k)]) (rest := []) ⟨hx, hb, hml, hown, hw⟩ (cs_B_append l D cJ cB qb qw w L (lN (2 ^ k - 1)) k _ (by omega) hR (by omega) (cp_fit_N (by have := Nat.two_pow_pos k; omega))) (cwV 2 hw (tb_V wi_295 wi_296 wi_297 wi_24 wi_298) rfl rfl rfl (by decide +kernel) ⟨Nat.le_of_ble_eq_true rfl, Nat.le_of_ble_eq_true rfl⟩) ⟨ct_blind, ct_recv hK hP (q0 := 1) (ci := 0) rfl rfl, ct_pc hZ hK hP hD hS hA [1, 2] rfl (by decide)⟩ rfl rfl hl.1 rfl (lv_room (Nat.le_of_ble_eq_true rfl)) dd_W_writeKind_17 ⟨Nat.le_of_ble_eq_true rfl, Nat.le_of_ble_eq_true rfl⟩) hK hP hD hS hA [1, 2] [0] rfl rfl (by decide) (by decide) (fun r_17 u_17 H locs hw_17 hP hD hS => ?_)
  obtain ⟨hr_17, hR_w1⟩ := hw_17
  subst hr_17
  obtain ⟨w1, h9_17⟩ : ∃ z, z = u_17 := ⟨_, rfl⟩
  rw [← h9_17] at hP hD hR_w1
  clear h9_17
  have hP : va_P D classes [(q, .inr (4, [.ref qb, .ref qf, .long lt, .long ls0, .long lv0])), (qb, .inr (0, [.ref qw, .int (nI ((L ++ cp_bl (lN (2 ^ k - 1)) k).length))])), (qw, .inl (cJ, 6250, .inr (.inl w1)))] _ := hP
  have hD : va_D A [(q, .inr (4, [.ref qb, .ref qf, .long lt, .long ls0, .long lv0])), (qb, .inr (0, [.ref qw, .int (nI ((L ++ cp_bl (lN (2 ^ k - 1)) k).length))])), (qw, .inl (cJ, 6250, .inr (.inl w1)))] := hD
  refine lv_goto (tgt := 36) hx hb dd_W_writeKind_20 (by decide) ?_
  subst c_8
  rw [kd_4] at hP hD hR_w1
  refine ct_zret (u := w1) hx hb hr hlocks (by decide) hK hP hD hS rfl ?_ dd_W_writeKind_36
  exact ⟨rfl, hR_w1⟩

set_option maxHeartbeats 4000000 in
set_option maxRecDepth 100000 in
theorem cc_W_kindOf (l : Launch) (D : va_G) (cJ cB : ClassId) (t : Int64) (sz : Nat) : ct_i l my_W_kindOf (Cond.code my_W_kindOf mb_W_kindOf 5 (some .int) :: TB) ({ frames := 0, cells := 0, slots := 0, locals := 0 } : Room) D classes cJ cB [.long t] [] sz (fun (r : Int32) (u : Unit) => r = nI (cp_kd t)) (fun u => ([] : va_W)) 0 0 := by
  refine ct_ofW (cc := mb_W_kindOf) (maxL := 5) (ret := some .int) (by decide) rfl (Nat.le_of_ble_eq_true rfl) ?_
  intro p e s m below meth c hx hb hr hml hts hown hlocks hin hsz hK hP hD hA hS hZ ls hl
  have hw : ∀ w ∈ TB, w.before _ s = true := fun w h => hts w (List.mem_cons_of_mem _ h)
  have hown : s.vm.findClass cn_W = some m.cls := hown
  have hin : meth.name = "kindOf" := hin
  generalize hAe : va_A [] sz = A at hD hA hS hZ ⊢
  clear hAe
  have hl : lv_has ls 5 [(0, .long t)] := hl
  have hP : va_P D classes [] s.heap := hP
  refine lv_lload_n hx hb dd_W_kindOf_0 rfl (lv_at hl 0 rfl) ?_
  refine lv_lconst (v := 0) hx hb dd_W_kindOf_1 (by decide) ?_
  refine W.lcmp hx hb dd_W_kindOf_2 ?_
  refine lv_if_ne (tgt := 8) hx hb dd_W_kindOf_3 (by decide) (fun c_3 => ?_) (fun c_3 => ?_)
  · skip
    have c_3 : ¬ (t = 0) := fun z => c_3 ((lg_cmp_eq _ _).mpr z)
    refine lv_iconst (v := nI 1) hx hb dd_W_kindOf_8 (by decide) ?_
    refine lv_istore_n (lv' := [(2, .int (nI 1)), (0, .long t)]) hx hb dd_W_kindOf_9 rfl hl (by decide) rfl (fun ls hl => ?_)
    refine lv_iload_n hx hb dd_W_kindOf_10 rfl (lv_at hl 0 rfl) ?_
    refine lv_iconst (v := nI 4) hx hb dd_W_kindOf_11 (by decide) ?_
    refine lv_icmp_ge (tgt := 46) hx hb dd_W_kindOf_12 (by decide) (fun c_12 => ?_) (fun c_12 => ?_)
    · skip
      have c_12 : 4 ≤ 1 := (nI_leI (by omega) (by omega)).mp c_12
      exfalso
      omega
    have c_12 : ¬ (4 ≤ 1) := fun z => c_12 ((nI_leI (by omega) (by omega)).mpr z)
    refine lv_lconst (v := 1) hx hb dd_W_kindOf_15 (by decide) ?_
    obtain ⟨tq, hTz, hTt⟩ := id hZ.2.1
    refine va_getsN (C := cn_X) (v := .ref tq) hx hb hTz hS hown (va_Nw.use rfl (hZ.2.2.1 (.fieldLinkNest cn_W 69 cn_X "TURN_BITS" "[I" cn_X) (by decide +kernel))) (fun _ h9 => h9) dd_W_kindOf_16 ?_
    refine lv_iload_n hx hb dd_W_kindOf_19 rfl (lv_at hl 0 rfl) ?_
    refine va_ti (v := .int (nI (cp_tb 1))) hx hb hTt hS (vp_in_nI (by omega) (by decide)) (congrArg (fun z => Value.int (nI (cp_tb z))) (nI_clamp (by omega))) dd_W_kindOf_20 ?_
    refine ct_topi (y := nI 7) (by decide) ?_
    refine lv_iconst (v := nI 1) hx hb dd_W_kindOf_21 (by decide) ?_
    refine lv_isub hx hb dd_W_kindOf_22 ?_
    refine ct_topi (y := nI (7 - 1)) (pk_sub (by omega)) ?_
    refine lv_lshl (v := 1 <<< ((nI (7 - 1)).toInt64 &&& 63)) hx hb dd_W_kindOf_23 rfl ?_
    refine ct_topl (y := 64) (by decide) ?_
    refine lv_lstore_n (lv' := [(3, .long 64), (2, .int (nI 1)), (0, .long t)]) hx hb dd_W_kindOf_24 rfl hl (by decide) rfl (fun ls hl => ?_)
    refine lv_lload_n hx hb dd_W_kindOf_25 rfl (lv_at hl 2 rfl) ?_
    refine lv_lload_n hx hb dd_W_kindOf_26 rfl (lv_at hl 0 rfl) ?_
    refine lv_lneg hx hb dd_W_kindOf_27 ?_
    refine W.lcmp hx hb dd_W_kindOf_28 ?_
    refine lv_if_lt (tgt := 40) hx hb dd_W_kindOf_29 (by decide) (fun c_29 => ?_) (fun c_29 => ?_)
    · skip
      have c_29 : t < (-64) := (lg_cmp_lt _ _).mp c_29
      refine lv_iinc (v := nI 2) (lv' := [(2, .int (nI 2)), (3, .long 64), (0, .long t)]) hx hb dd_W_kindOf_40 hl (k := 1) rfl (nI_1 1) (by decide) rfl (fun ls hl => ?_)
      refine lv_goto (tgt := 10) hx hb dd_W_kindOf_43 (by decide) ?_
      refine lv_iload_n hx hb dd_W_kindOf_10 rfl (lv_at hl 0 rfl) ?_
      refine lv_iconst (v := nI 4) hx hb dd_W_kindOf_11 (by decide) ?_
      refine lv_icmp_ge (tgt := 46) hx hb dd_W_kindOf_12 (by decide) (fun c_12_1 => ?_) (fun c_12_1 => ?_)
      · skip
        have c_12_1 : 4 ≤ 2 := (nI_leI (by omega) (by omega)).mp c_12_1
        exfalso
        omega
      have c_12_1 : ¬ (4 ≤ 2) := fun z => c_12_1 ((nI_leI (by omega) (by omega)).mpr z)
      refine lv_lconst (v := 1) hx hb dd_W_kindOf_15 (by decide) ?_
      obtain ⟨tq, hTz, hTt⟩ := id hZ.2.1
      refine va_getsN (C := cn_X) (v := .ref tq) hx hb hTz hS hown (va_Nw.use rfl (hZ.2.2.1 (.fieldLinkNest cn_W 69 cn_X "TURN_BITS" "[I" cn_X) (by decide +kernel))) (fun _ h9 => h9) dd_W_kindOf_16 ?_
      refine lv_iload_n hx hb dd_W_kindOf_19 rfl (lv_at hl 0 rfl) ?_
      refine va_ti (v := .int (nI (cp_tb 2))) hx hb hTt hS (vp_in_nI (by omega) (by decide)) (congrArg (fun z => Value.int (nI (cp_tb z))) (nI_clamp (by omega))) dd_W_kindOf_20 ?_
      refine ct_topi (y := nI 10) (by decide) ?_
      refine lv_iconst (v := nI 1) hx hb dd_W_kindOf_21 (by decide) ?_
      refine lv_isub hx hb dd_W_kindOf_22 ?_
      refine ct_topi (y := nI (10 - 1)) (pk_sub (by omega)) ?_
      refine lv_lshl (v := 1 <<< ((nI (10 - 1)).toInt64 &&& 63)) hx hb dd_W_kindOf_23 rfl ?_
      refine ct_topl (y := 512) (by decide) ?_
      refine lv_lstore_n (lv' := [(3, .long 512), (2, .int (nI 2)), (0, .long t)]) hx hb dd_W_kindOf_24 rfl hl (by decide) rfl (fun ls hl => ?_)
      refine lv_lload_n hx hb dd_W_kindOf_25 rfl (lv_at hl 2 rfl) ?_
      refine lv_lload_n hx hb dd_W_kindOf_26 rfl (lv_at hl 0 rfl) ?_
      refine lv_lneg hx hb dd_W_kindOf_27 ?_
      refine W.lcmp hx hb dd_W_kindOf_28 ?_
      refine lv_if_lt (tgt := 40) hx hb dd_W_kindOf_29 (by decide) (fun c_29_1 => ?_) (fun c_29_1 => ?_)
      · skip
        have c_29_1 : t < (-512) := (lg_cmp_lt _ _).mp c_29_1
        refine lv_iinc (v := nI 3) (lv' := [(2, .int (nI 3)), (3, .long 512), (0, .long t)]) hx hb dd_W_kindOf_40 hl (k := 1) rfl (nI_1 2) (by decide) rfl (fun ls hl => ?_)
        refine lv_goto (tgt := 10) hx hb dd_W_kindOf_43 (by decide) ?_
        refine lv_iload_n hx hb dd_W_kindOf_10 rfl (lv_at hl 0 rfl) ?_
        refine lv_iconst (v := nI 4) hx hb dd_W_kindOf_11 (by decide) ?_
        refine lv_icmp_ge (tgt := 46) hx hb dd_W_kindOf_12 (by decide) (fun c_12_2 => ?_) (fun c_12_2 => ?_)
        · skip
          have c_12_2 : 4 ≤ 3 := (nI_leI (by omega) (by omega)).mp c_12_2
          exfalso
          omega
        have c_12_2 : ¬ (4 ≤ 3) := fun z => c_12_2 ((nI_leI (by omega) (by omega)).mpr z)
        refine lv_lconst (v := 1) hx hb dd_W_kindOf_15 (by decide) ?_
        obtain ⟨tq, hTz, hTt⟩ := id hZ.2.1
        refine va_getsN (C := cn_X) (v := .ref tq) hx hb hTz hS hown (va_Nw.use rfl (hZ.2.2.1 (.fieldLinkNest cn_W 69 cn_X "TURN_BITS" "[I" cn_X) (by decide +kernel))) (fun _ h9 => h9) dd_W_kindOf_16 ?_
        refine lv_iload_n hx hb dd_W_kindOf_19 rfl (lv_at hl 0 rfl) ?_
        refine va_ti (v := .int (nI (cp_tb 3))) hx hb hTt hS (vp_in_nI (by omega) (by decide)) (congrArg (fun z => Value.int (nI (cp_tb z))) (nI_clamp (by omega))) dd_W_kindOf_20 ?_
        refine ct_topi (y := nI 13) (by decide) ?_
        refine lv_iconst (v := nI 1) hx hb dd_W_kindOf_21 (by decide) ?_
        refine lv_isub hx hb dd_W_kindOf_22 ?_
        refine ct_topi (y := nI (13 - 1)) (pk_sub (by omega)) ?_
        refine lv_lshl (v := 1 <<< ((nI (13 - 1)).toInt64 &&& 63)) hx hb dd_W_kindOf_23 rfl ?_
        refine ct_topl (y := 4096) (by decide) ?_
        refine lv_lstore_n (lv' := [(3, .long 4096), (2, .int (nI 3)), (0, .long t)]) hx hb dd_W_kindOf_24 rfl hl (by decide) rfl (fun ls hl => ?_)
        refine lv_lload_n hx hb dd_W_kindOf_25 rfl (lv_at hl 2 rfl) ?_
        refine lv_lload_n hx hb dd_W_kindOf_26 rfl (lv_at hl 0 rfl) ?_
        refine lv_lneg hx hb dd_W_kindOf_27 ?_
        refine W.lcmp hx hb dd_W_kindOf_28 ?_
        refine lv_if_lt (tgt := 40) hx hb dd_W_kindOf_29 (by decide) (fun c_29_2 => ?_) (fun c_29_2 => ?_)
        · skip
          have c_29_2 : t < (-4096) := (lg_cmp_lt _ _).mp c_29_2
          refine lv_iinc (v := nI 4) (lv' := [(2, .int (nI 4)), (3, .long 4096), (0, .long t)]) hx hb dd_W_kindOf_40 hl (k := 1) rfl (nI_1 3) (by decide) rfl (fun ls hl => ?_)
          refine lv_goto (tgt := 10) hx hb dd_W_kindOf_43 (by decide) ?_
          refine lv_iload_n hx hb dd_W_kindOf_10 rfl (lv_at hl 0 rfl) ?_
          refine lv_iconst (v := nI 4) hx hb dd_W_kindOf_11 (by decide) ?_
          refine lv_icmp_ge (tgt := 46) hx hb dd_W_kindOf_12 (by decide) (fun c_12_3 => ?_) (fun c_12_3 => ?_)
          · skip
            have c_12_3 : 4 ≤ 4 := (nI_leI (by omega) (by omega)).mp c_12_3
            refine lv_iconst (v := nI 4) hx hb dd_W_kindOf_46 (by decide) ?_
            refine ct_iret (u := ()) hx hb hr hlocks hK hP hD hS rfl ?_ dd_W_kindOf_47
            exact congrArg nI (kd_5 c_3 (Or.inl c_29) (Or.inl c_29_1) (Or.inl c_29_2)).symm
          have c_12_3 : ¬ (4 ≤ 4) := fun z => c_12_3 ((nI_leI (by omega) (by omega)).mpr z)
          exfalso
          omega
        have c_29_2 : ¬ (t < (-4096)) := fun z => c_29_2 ((lg_cmp_lt _ _).mpr z)
        refine lv_lload_n hx hb dd_W_kindOf_32 rfl (lv_at hl 2 rfl) ?_
        refine lv_lload_n hx hb dd_W_kindOf_33 rfl (lv_at hl 0 rfl) ?_
        refine W.lcmp hx hb dd_W_kindOf_34 ?_
        refine lv_if_ge (tgt := 40) hx hb dd_W_kindOf_35 (by decide) (fun c_35 => ?_) (fun c_35 => ?_)
        · skip
          have c_35 : 4096 ≤ t := (lg_cmp_ge _ _).mp c_35
          refine lv_iinc (v := nI 4) (lv' := [(2, .int (nI 4)), (3, .long 4096), (0, .long t)]) hx hb dd_W_kindOf_40 hl (k := 1) rfl (nI_1 3) (by decide) rfl (fun ls hl => ?_)
          refine lv_goto (tgt := 10) hx hb dd_W_kindOf_43 (by decide) ?_
          refine lv_iload_n hx hb dd_W_kindOf_10 rfl (lv_at hl 0 rfl) ?_
          refine lv_iconst (v := nI 4) hx hb dd_W_kindOf_11 (by decide) ?_
          refine lv_icmp_ge (tgt := 46) hx hb dd_W_kindOf_12 (by decide) (fun c_12_3 => ?_) (fun c_12_3 => ?_)
          · skip
            have c_12_3 : 4 ≤ 4 := (nI_leI (by omega) (by omega)).mp c_12_3
            refine lv_iconst (v := nI 4) hx hb dd_W_kindOf_46 (by decide) ?_
            refine ct_iret (u := ()) hx hb hr hlocks hK hP hD hS rfl ?_ dd_W_kindOf_47
            exact congrArg nI (kd_5 c_3 (Or.inl c_29) (Or.inl c_29_1) (Or.inr c_35)).symm
          have c_12_3 : ¬ (4 ≤ 4) := fun z => c_12_3 ((nI_leI (by omega) (by omega)).mpr z)
          exfalso
          omega
        have c_35 : ¬ (4096 ≤ t) := fun z => c_35 ((lg_cmp_ge _ _).mpr z)
        refine lv_iload_n hx hb dd_W_kindOf_38 rfl (lv_at hl 1 rfl) ?_
        refine ct_iret (u := ()) hx hb hr hlocks hK hP hD hS rfl ?_ dd_W_kindOf_39
        exact congrArg nI (kd_3 c_3 (Or.inl c_29) (Or.inl c_29_1) c_29_2 c_35).symm
      have c_29_1 : ¬ (t < (-512)) := fun z => c_29_1 ((lg_cmp_lt _ _).mpr z)
      refine lv_lload_n hx hb dd_W_kindOf_32 rfl (lv_at hl 2 rfl) ?_
      refine lv_lload_n hx hb dd_W_kindOf_33 rfl (lv_at hl 0 rfl) ?_
      refine W.lcmp hx hb dd_W_kindOf_34 ?_
      refine lv_if_ge (tgt := 40) hx hb dd_W_kindOf_35 (by decide) (fun c_35 => ?_) (fun c_35 => ?_)
      · skip
        have c_35 : 512 ≤ t := (lg_cmp_ge _ _).mp c_35
        refine lv_iinc (v := nI 3) (lv' := [(2, .int (nI 3)), (3, .long 512), (0, .long t)]) hx hb dd_W_kindOf_40 hl (k := 1) rfl (nI_1 2) (by decide) rfl (fun ls hl => ?_)
        refine lv_goto (tgt := 10) hx hb dd_W_kindOf_43 (by decide) ?_
        refine lv_iload_n hx hb dd_W_kindOf_10 rfl (lv_at hl 0 rfl) ?_
        refine lv_iconst (v := nI 4) hx hb dd_W_kindOf_11 (by decide) ?_
        refine lv_icmp_ge (tgt := 46) hx hb dd_W_kindOf_12 (by decide) (fun c_12_2 => ?_) (fun c_12_2 => ?_)
        · skip
          have c_12_2 : 4 ≤ 3 := (nI_leI (by omega) (by omega)).mp c_12_2
          exfalso
          omega
        have c_12_2 : ¬ (4 ≤ 3) := fun z => c_12_2 ((nI_leI (by omega) (by omega)).mpr z)
        refine lv_lconst (v := 1) hx hb dd_W_kindOf_15 (by decide) ?_
        obtain ⟨tq, hTz, hTt⟩ := id hZ.2.1
        refine va_getsN (C := cn_X) (v := .ref tq) hx hb hTz hS hown (va_Nw.use rfl (hZ.2.2.1 (.fieldLinkNest cn_W 69 cn_X "TURN_BITS" "[I" cn_X) (by decide +kernel))) (fun _ h9 => h9) dd_W_kindOf_16 ?_
        refine lv_iload_n hx hb dd_W_kindOf_19 rfl (lv_at hl 0 rfl) ?_
        refine va_ti (v := .int (nI (cp_tb 3))) hx hb hTt hS (vp_in_nI (by omega) (by decide)) (congrArg (fun z => Value.int (nI (cp_tb z))) (nI_clamp (by omega))) dd_W_kindOf_20 ?_
        refine ct_topi (y := nI 13) (by decide) ?_
        refine lv_iconst (v := nI 1) hx hb dd_W_kindOf_21 (by decide) ?_
        refine lv_isub hx hb dd_W_kindOf_22 ?_
        refine ct_topi (y := nI (13 - 1)) (pk_sub (by omega)) ?_
        refine lv_lshl (v := 1 <<< ((nI (13 - 1)).toInt64 &&& 63)) hx hb dd_W_kindOf_23 rfl ?_
        refine ct_topl (y := 4096) (by decide) ?_
        refine lv_lstore_n (lv' := [(3, .long 4096), (2, .int (nI 3)), (0, .long t)]) hx hb dd_W_kindOf_24 rfl hl (by decide) rfl (fun ls hl => ?_)
        refine lv_lload_n hx hb dd_W_kindOf_25 rfl (lv_at hl 2 rfl) ?_
        refine lv_lload_n hx hb dd_W_kindOf_26 rfl (lv_at hl 0 rfl) ?_
        refine lv_lneg hx hb dd_W_kindOf_27 ?_
        refine W.lcmp hx hb dd_W_kindOf_28 ?_
        refine lv_if_lt (tgt := 40) hx hb dd_W_kindOf_29 (by decide) (fun c_29_2 => ?_) (fun c_29_2 => ?_)
        · skip
          have c_29_2 : t < (-4096) := (lg_cmp_lt _ _).mp c_29_2
          refine lv_iinc (v := nI 4) (lv' := [(2, .int (nI 4)), (3, .long 4096), (0, .long t)]) hx hb dd_W_kindOf_40 hl (k := 1) rfl (nI_1 3) (by decide) rfl (fun ls hl => ?_)
          refine lv_goto (tgt := 10) hx hb dd_W_kindOf_43 (by decide) ?_
          refine lv_iload_n hx hb dd_W_kindOf_10 rfl (lv_at hl 0 rfl) ?_
          refine lv_iconst (v := nI 4) hx hb dd_W_kindOf_11 (by decide) ?_
          refine lv_icmp_ge (tgt := 46) hx hb dd_W_kindOf_12 (by decide) (fun c_12_3 => ?_) (fun c_12_3 => ?_)
          · skip
            have c_12_3 : 4 ≤ 4 := (nI_leI (by omega) (by omega)).mp c_12_3
            refine lv_iconst (v := nI 4) hx hb dd_W_kindOf_46 (by decide) ?_
            refine ct_iret (u := ()) hx hb hr hlocks hK hP hD hS rfl ?_ dd_W_kindOf_47
            exact congrArg nI (kd_5 c_3 (Or.inl c_29) (Or.inr c_35) (Or.inl c_29_2)).symm
          have c_12_3 : ¬ (4 ≤ 4) := fun z => c_12_3 ((nI_leI (by omega) (by omega)).mpr z)
          exfalso
          omega
        have c_29_2 : ¬ (t < (-4096)) := fun z => c_29_2 ((lg_cmp_lt _ _).mpr z)
        refine lv_lload_n hx hb dd_W_kindOf_32 rfl (lv_at hl 2 rfl) ?_
        refine lv_lload_n hx hb dd_W_kindOf_33 rfl (lv_at hl 0 rfl) ?_
        refine W.lcmp hx hb dd_W_kindOf_34 ?_
        refine lv_if_ge (tgt := 40) hx hb dd_W_kindOf_35 (by decide) (fun c_35_1 => ?_) (fun c_35_1 => ?_)
        · skip
          have c_35_1 : 4096 ≤ t := (lg_cmp_ge _ _).mp c_35_1
          refine lv_iinc (v := nI 4) (lv' := [(2, .int (nI 4)), (3, .long 4096), (0, .long t)]) hx hb dd_W_kindOf_40 hl (k := 1) rfl (nI_1 3) (by decide) rfl (fun ls hl => ?_)
          refine lv_goto (tgt := 10) hx hb dd_W_kindOf_43 (by decide) ?_
          refine lv_iload_n hx hb dd_W_kindOf_10 rfl (lv_at hl 0 rfl) ?_
          refine lv_iconst (v := nI 4) hx hb dd_W_kindOf_11 (by decide) ?_
          refine lv_icmp_ge (tgt := 46) hx hb dd_W_kindOf_12 (by decide) (fun c_12_3 => ?_) (fun c_12_3 => ?_)
          · skip
            have c_12_3 : 4 ≤ 4 := (nI_leI (by omega) (by omega)).mp c_12_3
            refine lv_iconst (v := nI 4) hx hb dd_W_kindOf_46 (by decide) ?_
            refine ct_iret (u := ()) hx hb hr hlocks hK hP hD hS rfl ?_ dd_W_kindOf_47
            exact congrArg nI (kd_5 c_3 (Or.inl c_29) (Or.inr c_35) (Or.inr c_35_1)).symm
          have c_12_3 : ¬ (4 ≤ 4) := fun z => c_12_3 ((nI_leI (by omega) (by omega)).mpr z)
          exfalso
          omega
        have c_35_1 : ¬ (4096 ≤ t) := fun z => c_35_1 ((lg_cmp_ge _ _).mpr z)
        refine lv_iload_n hx hb dd_W_kindOf_38 rfl (lv_at hl 1 rfl) ?_
        refine ct_iret (u := ()) hx hb hr hlocks hK hP hD hS rfl ?_ dd_W_kindOf_39
        exact congrArg nI (kd_3 c_3 (Or.inl c_29) (Or.inr c_35) c_29_2 c_35_1).symm
      have c_35 : ¬ (512 ≤ t) := fun z => c_35 ((lg_cmp_ge _ _).mpr z)
      refine lv_iload_n hx hb dd_W_kindOf_38 rfl (lv_at hl 1 rfl) ?_
      refine ct_iret (u := ()) hx hb hr hlocks hK hP hD hS rfl ?_ dd_W_kindOf_39
      exact congrArg nI (kd_2 c_3 (Or.inl c_29) c_29_1 c_35).symm
    have c_29 : ¬ (t < (-64)) := fun z => c_29 ((lg_cmp_lt _ _).mpr z)
    refine lv_lload_n hx hb dd_W_kindOf_32 rfl (lv_at hl 2 rfl) ?_
    refine lv_lload_n hx hb dd_W_kindOf_33 rfl (lv_at hl 0 rfl) ?_
    refine W.lcmp hx hb dd_W_kindOf_34 ?_
    refine lv_if_ge (tgt := 40) hx hb dd_W_kindOf_35 (by decide) (fun c_35 => ?_) (fun c_35 => ?_)
    · skip
      have c_35 : 64 ≤ t := (lg_cmp_ge _ _).mp c_35
      refine lv_iinc (v := nI 2) (lv' := [(2, .int (nI 2)), (3, .long 64), (0, .long t)]) hx hb dd_W_kindOf_40 hl (k := 1) rfl (nI_1 1) (by decide) rfl (fun ls hl => ?_)
      refine lv_goto (tgt := 10) hx hb dd_W_kindOf_43 (by decide) ?_
      refine lv_iload_n hx hb dd_W_kindOf_10 rfl (lv_at hl 0 rfl) ?_
      refine lv_iconst (v := nI 4) hx hb dd_W_kindOf_11 (by decide) ?_
      refine lv_icmp_ge (tgt := 46) hx hb dd_W_kindOf_12 (by decide) (fun c_12_1 => ?_) (fun c_12_1 => ?_)
      · skip
        have c_12_1 : 4 ≤ 2 := (nI_leI (by omega) (by omega)).mp c_12_1
        exfalso
        omega
      have c_12_1 : ¬ (4 ≤ 2) := fun z => c_12_1 ((nI_leI (by omega) (by omega)).mpr z)
      refine lv_lconst (v := 1) hx hb dd_W_kindOf_15 (by decide) ?_
      obtain ⟨tq, hTz, hTt⟩ := id hZ.2.1
      refine va_getsN (C := cn_X) (v := .ref tq) hx hb hTz hS hown (va_Nw.use rfl (hZ.2.2.1 (.fieldLinkNest cn_W 69 cn_X "TURN_BITS" "[I" cn_X) (by decide +kernel))) (fun _ h9 => h9) dd_W_kindOf_16 ?_
      refine lv_iload_n hx hb dd_W_kindOf_19 rfl (lv_at hl 0 rfl) ?_
      refine va_ti (v := .int (nI (cp_tb 2))) hx hb hTt hS (vp_in_nI (by omega) (by decide)) (congrArg (fun z => Value.int (nI (cp_tb z))) (nI_clamp (by omega))) dd_W_kindOf_20 ?_
      refine ct_topi (y := nI 10) (by decide) ?_
      refine lv_iconst (v := nI 1) hx hb dd_W_kindOf_21 (by decide) ?_
      refine lv_isub hx hb dd_W_kindOf_22 ?_
      refine ct_topi (y := nI (10 - 1)) (pk_sub (by omega)) ?_
      refine lv_lshl (v := 1 <<< ((nI (10 - 1)).toInt64 &&& 63)) hx hb dd_W_kindOf_23 rfl ?_
      refine ct_topl (y := 512) (by decide) ?_
      refine lv_lstore_n (lv' := [(3, .long 512), (2, .int (nI 2)), (0, .long t)]) hx hb dd_W_kindOf_24 rfl hl (by decide) rfl (fun ls hl => ?_)
      refine lv_lload_n hx hb dd_W_kindOf_25 rfl (lv_at hl 2 rfl) ?_
      refine lv_lload_n hx hb dd_W_kindOf_26 rfl (lv_at hl 0 rfl) ?_
      refine lv_lneg hx hb dd_W_kindOf_27 ?_
      refine W.lcmp hx hb dd_W_kindOf_28 ?_
      refine lv_if_lt (tgt := 40) hx hb dd_W_kindOf_29 (by decide) (fun c_29_1 => ?_) (fun c_29_1 => ?_)
      · skip
        have c_29_1 : t < (-512) := (lg_cmp_lt _ _).mp c_29_1
        refine lv_iinc (v := nI 3) (lv' := [(2, .int (nI 3)), (3, .long 512), (0, .long t)]) hx hb dd_W_kindOf_40 hl (k := 1) rfl (nI_1 2) (by decide) rfl (fun ls hl => ?_)
        refine lv_goto (tgt := 10) hx hb dd_W_kindOf_43 (by decide) ?_
        refine lv_iload_n hx hb dd_W_kindOf_10 rfl (lv_at hl 0 rfl) ?_
        refine lv_iconst (v := nI 4) hx hb dd_W_kindOf_11 (by decide) ?_
        refine lv_icmp_ge (tgt := 46) hx hb dd_W_kindOf_12 (by decide) (fun c_12_2 => ?_) (fun c_12_2 => ?_)
        · skip
          have c_12_2 : 4 ≤ 3 := (nI_leI (by omega) (by omega)).mp c_12_2
          exfalso
          omega
        have c_12_2 : ¬ (4 ≤ 3) := fun z => c_12_2 ((nI_leI (by omega) (by omega)).mpr z)
        refine lv_lconst (v := 1) hx hb dd_W_kindOf_15 (by decide) ?_
        obtain ⟨tq, hTz, hTt⟩ := id hZ.2.1
        refine va_getsN (C := cn_X) (v := .ref tq) hx hb hTz hS hown (va_Nw.use rfl (hZ.2.2.1 (.fieldLinkNest cn_W 69 cn_X "TURN_BITS" "[I" cn_X) (by decide +kernel))) (fun _ h9 => h9) dd_W_kindOf_16 ?_
        refine lv_iload_n hx hb dd_W_kindOf_19 rfl (lv_at hl 0 rfl) ?_
        refine va_ti (v := .int (nI (cp_tb 3))) hx hb hTt hS (vp_in_nI (by omega) (by decide)) (congrArg (fun z => Value.int (nI (cp_tb z))) (nI_clamp (by omega))) dd_W_kindOf_20 ?_
        refine ct_topi (y := nI 13) (by decide) ?_
        refine lv_iconst (v := nI 1) hx hb dd_W_kindOf_21 (by decide) ?_
        refine lv_isub hx hb dd_W_kindOf_22 ?_
        refine ct_topi (y := nI (13 - 1)) (pk_sub (by omega)) ?_
        refine lv_lshl (v := 1 <<< ((nI (13 - 1)).toInt64 &&& 63)) hx hb dd_W_kindOf_23 rfl ?_
        refine ct_topl (y := 4096) (by decide) ?_
        refine lv_lstore_n (lv' := [(3, .long 4096), (2, .int (nI 3)), (0, .long t)]) hx hb dd_W_kindOf_24 rfl hl (by decide) rfl (fun ls hl => ?_)
        refine lv_lload_n hx hb dd_W_kindOf_25 rfl (lv_at hl 2 rfl) ?_
        refine lv_lload_n hx hb dd_W_kindOf_26 rfl (lv_at hl 0 rfl) ?_
        refine lv_lneg hx hb dd_W_kindOf_27 ?_
        refine W.lcmp hx hb dd_W_kindOf_28 ?_
        refine lv_if_lt (tgt := 40) hx hb dd_W_kindOf_29 (by decide) (fun c_29_2 => ?_) (fun c_29_2 => ?_)
        · skip
          have c_29_2 : t < (-4096) := (lg_cmp_lt _ _).mp c_29_2
          refine lv_iinc (v := nI 4) (lv' := [(2, .int (nI 4)), (3, .long 4096), (0, .long t)]) hx hb dd_W_kindOf_40 hl (k := 1) rfl (nI_1 3) (by decide) rfl (fun ls hl => ?_)
          refine lv_goto (tgt := 10) hx hb dd_W_kindOf_43 (by decide) ?_
          refine lv_iload_n hx hb dd_W_kindOf_10 rfl (lv_at hl 0 rfl) ?_
          refine lv_iconst (v := nI 4) hx hb dd_W_kindOf_11 (by decide) ?_
          refine lv_icmp_ge (tgt := 46) hx hb dd_W_kindOf_12 (by decide) (fun c_12_3 => ?_) (fun c_12_3 => ?_)
          · skip
            have c_12_3 : 4 ≤ 4 := (nI_leI (by omega) (by omega)).mp c_12_3
            refine lv_iconst (v := nI 4) hx hb dd_W_kindOf_46 (by decide) ?_
            refine ct_iret (u := ()) hx hb hr hlocks hK hP hD hS rfl ?_ dd_W_kindOf_47
            exact congrArg nI (kd_5 c_3 (Or.inr c_35) (Or.inl c_29_1) (Or.inl c_29_2)).symm
          have c_12_3 : ¬ (4 ≤ 4) := fun z => c_12_3 ((nI_leI (by omega) (by omega)).mpr z)
          exfalso
          omega
        have c_29_2 : ¬ (t < (-4096)) := fun z => c_29_2 ((lg_cmp_lt _ _).mpr z)
        refine lv_lload_n hx hb dd_W_kindOf_32 rfl (lv_at hl 2 rfl) ?_
        refine lv_lload_n hx hb dd_W_kindOf_33 rfl (lv_at hl 0 rfl) ?_
        refine W.lcmp hx hb dd_W_kindOf_34 ?_
        refine lv_if_ge (tgt := 40) hx hb dd_W_kindOf_35 (by decide) (fun c_35_1 => ?_) (fun c_35_1 => ?_)
        · skip
          have c_35_1 : 4096 ≤ t := (lg_cmp_ge _ _).mp c_35_1
          refine lv_iinc (v := nI 4) (lv' := [(2, .int (nI 4)), (3, .long 4096), (0, .long t)]) hx hb dd_W_kindOf_40 hl (k := 1) rfl (nI_1 3) (by decide) rfl (fun ls hl => ?_)
          refine lv_goto (tgt := 10) hx hb dd_W_kindOf_43 (by decide) ?_
          refine lv_iload_n hx hb dd_W_kindOf_10 rfl (lv_at hl 0 rfl) ?_
          refine lv_iconst (v := nI 4) hx hb dd_W_kindOf_11 (by decide) ?_
          refine lv_icmp_ge (tgt := 46) hx hb dd_W_kindOf_12 (by decide) (fun c_12_3 => ?_) (fun c_12_3 => ?_)
          · skip
            have c_12_3 : 4 ≤ 4 := (nI_leI (by omega) (by omega)).mp c_12_3
            refine lv_iconst (v := nI 4) hx hb dd_W_kindOf_46 (by decide) ?_
            refine ct_iret (u := ()) hx hb hr hlocks hK hP hD hS rfl ?_ dd_W_kindOf_47
            exact congrArg nI (kd_5 c_3 (Or.inr c_35) (Or.inl c_29_1) (Or.inr c_35_1)).symm
          have c_12_3 : ¬ (4 ≤ 4) := fun z => c_12_3 ((nI_leI (by omega) (by omega)).mpr z)
          exfalso
          omega
        have c_35_1 : ¬ (4096 ≤ t) := fun z => c_35_1 ((lg_cmp_ge _ _).mpr z)
        refine lv_iload_n hx hb dd_W_kindOf_38 rfl (lv_at hl 1 rfl) ?_
        refine ct_iret (u := ()) hx hb hr hlocks hK hP hD hS rfl ?_ dd_W_kindOf_39
        exact congrArg nI (kd_3 c_3 (Or.inr c_35) (Or.inl c_29_1) c_29_2 c_35_1).symm
      have c_29_1 : ¬ (t < (-512)) := fun z => c_29_1 ((lg_cmp_lt _ _).mpr z)
      refine lv_lload_n hx hb dd_W_kindOf_32 rfl (lv_at hl 2 rfl) ?_
      refine lv_lload_n hx hb dd_W_kindOf_33 rfl (lv_at hl 0 rfl) ?_
      refine W.lcmp hx hb dd_W_kindOf_34 ?_
      refine lv_if_ge (tgt := 40) hx hb dd_W_kindOf_35 (by decide) (fun c_35_1 => ?_) (fun c_35_1 => ?_)
      · skip
        have c_35_1 : 512 ≤ t := (lg_cmp_ge _ _).mp c_35_1
        refine lv_iinc (v := nI 3) (lv' := [(2, .int (nI 3)), (3, .long 512), (0, .long t)]) hx hb dd_W_kindOf_40 hl (k := 1) rfl (nI_1 2) (by decide) rfl (fun ls hl => ?_)
        refine lv_goto (tgt := 10) hx hb dd_W_kindOf_43 (by decide) ?_
        refine lv_iload_n hx hb dd_W_kindOf_10 rfl (lv_at hl 0 rfl) ?_
        refine lv_iconst (v := nI 4) hx hb dd_W_kindOf_11 (by decide) ?_
        refine lv_icmp_ge (tgt := 46) hx hb dd_W_kindOf_12 (by decide) (fun c_12_2 => ?_) (fun c_12_2 => ?_)
        · skip
          have c_12_2 : 4 ≤ 3 := (nI_leI (by omega) (by omega)).mp c_12_2
          exfalso
          omega
        have c_12_2 : ¬ (4 ≤ 3) := fun z => c_12_2 ((nI_leI (by omega) (by omega)).mpr z)
        refine lv_lconst (v := 1) hx hb dd_W_kindOf_15 (by decide) ?_
        obtain ⟨tq, hTz, hTt⟩ := id hZ.2.1
        refine va_getsN (C := cn_X) (v := .ref tq) hx hb hTz hS hown (va_Nw.use rfl (hZ.2.2.1 (.fieldLinkNest cn_W 69 cn_X "TURN_BITS" "[I" cn_X) (by decide +kernel))) (fun _ h9 => h9) dd_W_kindOf_16 ?_
        refine lv_iload_n hx hb dd_W_kindOf_19 rfl (lv_at hl 0 rfl) ?_
        refine va_ti (v := .int (nI (cp_tb 3))) hx hb hTt hS (vp_in_nI (by omega) (by decide)) (congrArg (fun z => Value.int (nI (cp_tb z))) (nI_clamp (by omega))) dd_W_kindOf_20 ?_
        refine ct_topi (y := nI 13) (by decide) ?_
        refine lv_iconst (v := nI 1) hx hb dd_W_kindOf_21 (by decide) ?_
        refine lv_isub hx hb dd_W_kindOf_22 ?_
        refine ct_topi (y := nI (13 - 1)) (pk_sub (by omega)) ?_
        refine lv_lshl (v := 1 <<< ((nI (13 - 1)).toInt64 &&& 63)) hx hb dd_W_kindOf_23 rfl ?_
        refine ct_topl (y := 4096) (by decide) ?_
        refine lv_lstore_n (lv' := [(3, .long 4096), (2, .int (nI 3)), (0, .long t)]) hx hb dd_W_kindOf_24 rfl hl (by decide) rfl (fun ls hl => ?_)
        refine lv_lload_n hx hb dd_W_kindOf_25 rfl (lv_at hl 2 rfl) ?_
        refine lv_lload_n hx hb dd_W_kindOf_26 rfl (lv_at hl 0 rfl) ?_
        refine lv_lneg hx hb dd_W_kindOf_27 ?_
        refine W.lcmp hx hb dd_W_kindOf_28 ?_
        refine lv_if_lt (tgt := 40) hx hb dd_W_kindOf_29 (by decide) (fun c_29_2 => ?_) (fun c_29_2 => ?_)
        · skip
          have c_29_2 : t < (-4096) := (lg_cmp_lt _ _).mp c_29_2
          refine lv_iinc (v := nI 4) (lv' := [(2, .int (nI 4)), (3, .long 4096), (0, .long t)]) hx hb dd_W_kindOf_40 hl (k := 1) rfl (nI_1 3) (by decide) rfl (fun ls hl => ?_)
          refine lv_goto (tgt := 10) hx hb dd_W_kindOf_43 (by decide) ?_
          refine lv_iload_n hx hb dd_W_kindOf_10 rfl (lv_at hl 0 rfl) ?_
          refine lv_iconst (v := nI 4) hx hb dd_W_kindOf_11 (by decide) ?_
          refine lv_icmp_ge (tgt := 46) hx hb dd_W_kindOf_12 (by decide) (fun c_12_3 => ?_) (fun c_12_3 => ?_)
          · skip
            have c_12_3 : 4 ≤ 4 := (nI_leI (by omega) (by omega)).mp c_12_3
            refine lv_iconst (v := nI 4) hx hb dd_W_kindOf_46 (by decide) ?_
            refine ct_iret (u := ()) hx hb hr hlocks hK hP hD hS rfl ?_ dd_W_kindOf_47
            exact congrArg nI (kd_5 c_3 (Or.inr c_35) (Or.inr c_35_1) (Or.inl c_29_2)).symm
          have c_12_3 : ¬ (4 ≤ 4) := fun z => c_12_3 ((nI_leI (by omega) (by omega)).mpr z)
          exfalso
          omega
        have c_29_2 : ¬ (t < (-4096)) := fun z => c_29_2 ((lg_cmp_lt _ _).mpr z)
        refine lv_lload_n hx hb dd_W_kindOf_32 rfl (lv_at hl 2 rfl) ?_
        refine lv_lload_n hx hb dd_W_kindOf_33 rfl (lv_at hl 0 rfl) ?_
        refine W.lcmp hx hb dd_W_kindOf_34 ?_
        refine lv_if_ge (tgt := 40) hx hb dd_W_kindOf_35 (by decide) (fun c_35_2 => ?_) (fun c_35_2 => ?_)
        · skip
          have c_35_2 : 4096 ≤ t := (lg_cmp_ge _ _).mp c_35_2
          refine lv_iinc (v := nI 4) (lv' := [(2, .int (nI 4)), (3, .long 4096), (0, .long t)]) hx hb dd_W_kindOf_40 hl (k := 1) rfl (nI_1 3) (by decide) rfl (fun ls hl => ?_)
          refine lv_goto (tgt := 10) hx hb dd_W_kindOf_43 (by decide) ?_
          refine lv_iload_n hx hb dd_W_kindOf_10 rfl (lv_at hl 0 rfl) ?_
          refine lv_iconst (v := nI 4) hx hb dd_W_kindOf_11 (by decide) ?_
          refine lv_icmp_ge (tgt := 46) hx hb dd_W_kindOf_12 (by decide) (fun c_12_3 => ?_) (fun c_12_3 => ?_)
          · skip
            have c_12_3 : 4 ≤ 4 := (nI_leI (by omega) (by omega)).mp c_12_3
            refine lv_iconst (v := nI 4) hx hb dd_W_kindOf_46 (by decide) ?_
            refine ct_iret (u := ()) hx hb hr hlocks hK hP hD hS rfl ?_ dd_W_kindOf_47
            exact congrArg nI (kd_5 c_3 (Or.inr c_35) (Or.inr c_35_1) (Or.inr c_35_2)).symm
          have c_12_3 : ¬ (4 ≤ 4) := fun z => c_12_3 ((nI_leI (by omega) (by omega)).mpr z)
          exfalso
          omega
        have c_35_2 : ¬ (4096 ≤ t) := fun z => c_35_2 ((lg_cmp_ge _ _).mpr z)
        refine lv_iload_n hx hb dd_W_kindOf_38 rfl (lv_at hl 1 rfl) ?_
        refine ct_iret (u := ()) hx hb hr hlocks hK hP hD hS rfl ?_ dd_W_kindOf_39
        exact congrArg nI (kd_3 c_3 (Or.inr c_35) (Or.inr c_35_1) c_29_2 c_35_2).symm
      have c_35_1 : ¬ (512 ≤ t) := fun z => c_35_1 ((lg_cmp_ge _ _).mpr z)
      refine lv_iload_n hx hb dd_W_kindOf_38 rfl (lv_at hl 1 rfl) ?_
      refine ct_iret (u := ()) hx hb hr hlocks hK hP hD hS rfl ?_ dd_W_kindOf_39
      exact congrArg nI (kd_2 c_3 (Or.inr c_35) c_29_1 c_35_1).symm
    have c_35 : ¬ (64 ≤ t) := fun z => c_35 ((lg_cmp_ge _ _).mpr z)
    refine lv_iload_n hx hb dd_W_kindOf_38 rfl (lv_at hl 1 rfl) ?_
    refine ct_iret (u := ()) hx hb hr hlocks hK hP hD hS rfl ?_ dd_W_kindOf_39
    exact congrArg nI (kd_1 c_3  c_29 c_35).symm
  have c_3 : t = 0 := (lg_cmp_eq _ _).mp c_3
  refine lv_iconst (v := nI 0) hx hb dd_W_kindOf_6 (by decide) ?_
  refine ct_iret (u := ()) hx hb hr hlocks hK hP hD hS rfl ?_ dd_W_kindOf_7
  exact congrArg nI (kd_0 c_3).symm

set_option maxHeartbeats 4000000 in
set_option maxRecDepth 100000 in
theorem cc_W_writeTurn (l : Launch) (D : va_G) (cJ cB : ClassId) (q qb qw qf : Nat) (lt ls0 lv0 : Int64) (w : Nat → Int64) (L : List Bool) (t : Int64) (sz : Nat) (hL : L.length + 45 ≤ 400000) (hR : cp_Rw w L) : ct_i l my_W_writeTurn (Cond.code my_W_writeTurn mb_W_writeTurn 5 (some .boolean) :: TB) ({ frames := 2, cells := 0, slots := 0, locals := 52 } : Room) D classes cJ cB [.ref q, .long t] [(q, .inr (4, [.ref qb, .ref qf, .long lt, .long ls0, .long lv0])), (qb, .inr (0, [.ref qw, .int (nI L.length)])), (qw, .inl (cJ, 6250, .inr (.inl w)))] sz (fun (r : Int32) (u : Nat → Int64) => r = nI 1 ∧ cp_Rw u (L ++ cp_wt t)) (fun u => [(q, .inr (4, [.ref qb, .ref qf, .long lt, .long ls0, .long lv0])), (qb, .inr (0, [.ref qw, .int (nI ((L ++ cp_wt t).length))])), (qw, .inl (cJ, 6250, .inr (.inl u)))]) 0 0 := by
  refine ct_ofW (cc := mb_W_writeTurn) (maxL := 5) (ret := some .boolean) (by decide) rfl (Nat.le_of_ble_eq_true rfl) ?_
  intro p e s m below meth c hx hb hr hml hts hown hlocks hin hsz hK hP hD hA hS hZ ls hl
  have hw : ∀ w ∈ TB, w.before _ s = true := fun w h => hts w (List.mem_cons_of_mem _ h)
  have hown : s.vm.findClass cn_W = some m.cls := hown
  have hin : meth.name = "writeTurn" := hin
  generalize hAe : va_A [(q, .inr (4, [.ref qb, .ref qf, .long lt, .long ls0, .long lv0])), (qb, .inr (0, [.ref qw, .int (nI L.length)])), (qw, .inl (cJ, 6250, .inr (.inl w)))] sz = A at hD hA hS hZ ⊢
  clear hAe
  have hkd := cp_kd_le t
  have htb := cp_tb_le (cp_kd t)
  have hkb := cp_kb_len (cp_kd t)
  have hl : lv_has ls 5 [(0, .ref q), (1, .long t)] := hl
  have hP : va_P D classes [(q, .inr (4, [.ref qb, .ref qf, .long lt, .long ls0, .long lv0])), (qb, .inr (0, [.ref qw, .int (nI L.length)])), (qw, .inl (cJ, 6250, .inr (.inl w)))] s.heap := hP
  refine lv_lload_n hx hb dd_W_writeTurn_0 rfl (lv_at hl 1 rfl) ?_
  refine ct_behind_i (wc := []) (wr := [(q, .inr (4, [.ref qb, .ref qf, .long lt, .long ls0, .long lv0])), (qb, .inr (0, [.ref qw, .int (nI L.length)])), (qw, .inl (cJ, 6250, .inr (.inl w)))]) (av := [.long t]) (va_runS (As := [.long t]) (rest := []) ⟨hx, hb, hml, hown, hw⟩ (cc_W_kindOf l D cJ cB t _) (va_cwS 1 hw (tb_S wi_308 wi_309 wi_31 wi_310) rfl rfl rfl (by decide +kernel) ⟨Nat.le_of_ble_eq_true rfl, Nat.le_of_ble_eq_true rfl⟩) ⟨ct_blind, ct_pc hZ hK hP hD hS hA [] rfl (by decide)⟩ rfl rfl hl.1 rfl (lv_room (Nat.le_of_ble_eq_true rfl)) dd_W_writeTurn_1 ⟨Nat.le_of_ble_eq_true rfl, Nat.le_of_ble_eq_true rfl⟩) hK hP hD hS hA [] [0, 1, 2] rfl rfl (by decide) (by decide) (fun r_1 u_1 H locs hw_1 hP hD hS => ?_)
  subst hw_1
  have hP : va_P D classes [(q, .inr (4, [.ref qb, .ref qf, .long lt, .long ls0, .long lv0])), (qb, .inr (0, [.ref qw, .int (nI L.length)])), (qw, .inl (cJ, 6250, .inr (.inl w)))] _ := hP
  have hD : va_D A [(q, .inr (4, [.ref qb, .ref qf, .long lt, .long ls0, .long lv0])), (qb, .inr (0, [.ref qw, .int (nI L.length)])), (qw, .inl (cJ, 6250, .inr (.inl w)))] := hD
  refine lv_istore_n (lv' := [(3, .int (nI (cp_kd t))), (0, .ref q), (1, .long t)]) hx hb dd_W_writeTurn_4 rfl hl (by decide) rfl (fun ls hl => ?_)
  obtain ⟨tq, hTz, hTt⟩ := id hZ.2.1
  refine va_getsN (C := cn_X) (v := .ref tq) hx hb hTz hS hown (va_Nw.use rfl (hZ.2.2.1 (.fieldLinkNest cn_W 69 cn_X "TURN_BITS" "[I" cn_X) (by decide +kernel))) (fun _ h9 => h9) dd_W_writeTurn_5 ?_
  refine lv_iload_n hx hb dd_W_writeTurn_8 rfl (lv_at hl 0 rfl) ?_
  refine va_ti (v := .int (nI (cp_tb (cp_kd t)))) hx hb hTt hS (vp_in_nI (by omega) (by decide)) (congrArg (fun z => Value.int (nI (cp_tb z))) (nI_clamp (by omega))) dd_W_writeTurn_9 ?_
  refine lv_istore (lv' := [(4, .int (nI (cp_tb (cp_kd t)))), (3, .int (nI (cp_kd t))), (0, .ref q), (1, .long t)]) hx hb dd_W_writeTurn_10 hl (by decide) rfl (fun ls hl => ?_)
  refine lv_aload_n hx hb dd_W_writeTurn_12 rfl (lv_at hl 2 rfl) ?_
  refine lv_iload_n hx hb dd_W_writeTurn_13 rfl (lv_at hl 1 rfl) ?_
  refine ct_behind_i (wc := [(q, .inr (4, [.ref qb, .ref qf, .long lt, .long ls0, .long lv0])), (qb, .inr (0, [.ref qw, .int (nI L.length)])), (qw, .inl (cJ, 6250, .inr (.inl w)))]) (wr := []) (av := [.ref q, .int (nI (cp_kd t))]) (va_runV (As := [.int (nI (cp_kd t))]) (rest := []) ⟨hx, hb, hml, hown, hw⟩ (cc_W_writeKind l D cJ cB q qb qw qf lt ls0 lv0 w L (cp_kd t) _ (by omega) hR (by omega)) (cwV 1 hw (tb_V wi_313 wi_315 wi_4 wi_31 wi_316) rfl rfl rfl (by decide +kernel) ⟨Nat.le_of_ble_eq_true rfl, Nat.le_of_ble_eq_true rfl⟩) ⟨ct_blind, ct_recv hK hP (q0 := 0) (ci := 4) rfl rfl, ct_pc hZ hK hP hD hS hA [0, 1, 2] rfl (by decide)⟩ rfl rfl hl.1 rfl (lv_room (Nat.le_of_ble_eq_true rfl)) dd_W_writeTurn_14 ⟨Nat.le_of_ble_eq_true rfl, Nat.le_of_ble_eq_true rfl⟩) hK hP hD hS hA [0, 1, 2] [] rfl rfl (by decide) (by decide) (fun r_14 u_14 H locs hw_14 hP hD hS => ?_)
  obtain ⟨hr_14, hR_w1⟩ := hw_14
  subst hr_14
  obtain ⟨w1, h9⟩ : ∃ z, z = u_14 := ⟨_, rfl⟩
  rw [← h9] at hP hD hR_w1
  clear h9
  have hP : va_P D classes [(q, .inr (4, [.ref qb, .ref qf, .long lt, .long ls0, .long lv0])), (qb, .inr (0, [.ref qw, .int (nI ((L ++ cp_kb (cp_kd t)).length))])), (qw, .inl (cJ, 6250, .inr (.inl w1)))] _ := hP
  have hD : va_D A [(q, .inr (4, [.ref qb, .ref qf, .long lt, .long ls0, .long lv0])), (qb, .inr (0, [.ref qw, .int (nI ((L ++ cp_kb (cp_kd t)).length))])), (qw, .inl (cJ, 6250, .inr (.inl w1)))] := hD
  refine lv_if_eq (tgt := 44) hx hb dd_W_writeTurn_17 (by decide) (fun c_17 => ?_) (fun c_17 => ?_)
  · skip
    have c_17 : 1 = 0 := (ct_zeq (by omega)).mp c_17
    exfalso
    omega
  have c_17 : ¬ (1 = 0) := fun z => c_17 ((ct_zeq (by omega)).mpr z)
  refine lv_aload_n hx hb dd_W_writeTurn_20 rfl (lv_at hl 2 rfl) ?_
  refine va_get (D := D) (ci := 4) (C := cn_W) (T := cf_W) (N := 5) hx hb hw in_W hown hK hP 0 rfl rfl 0 (by decide) (hw _ wi_246) (fun _ h9 => h9) rfl dd_W_writeTurn_21 ?_
  refine lv_lload_n hx hb dd_W_writeTurn_24 rfl (lv_at hl 3 rfl) ?_
  refine lv_lconst (v := 1) hx hb dd_W_writeTurn_25 (by decide) ?_
  refine lv_iload hx hb dd_W_writeTurn_26 (lv_at hl 0 rfl) ?_
  refine lv_lshl (v := 1 <<< ((nI (cp_tb (cp_kd t))).toInt64 &&& 63)) hx hb dd_W_writeTurn_28 rfl ?_
  refine lv_lconst (v := 1) hx hb dd_W_writeTurn_29 (by decide) ?_
  refine lv_lsub hx hb dd_W_writeTurn_30 ?_
  refine lv_land hx hb dd_W_writeTurn_31 ?_
  refine lv_iload hx hb dd_W_writeTurn_32 (lv_at hl 0 rfl) ?_
  refine ct_behind_i (wc := [(qb, .inr (0, [.ref qw, .int (nI ((L ++ cp_kb (cp_kd t)).length))])), (qw, .inl (cJ, 6250, .inr (.inl w1)))]) (wr := [(q, .inr (4, [.ref qb, .ref qf, .long lt, .long ls0, .long lv0]))]) (av := [.ref qb, .long (t &&& ((1 <<< ((nI (cp_tb (cp_kd t))).toInt64 &&& 63)) - 1)), .int (nI (cp_tb (cp_kd t)))]) (va_runV (As := [.long (t &&& ((1 <<< ((nI (cp_tb (cp_kd t))).toInt64 &&& 63)) - 1)), .int (nI (cp_tb (cp_kd t)))]) (rest := []) ⟨hx, hb, hml, hown, hw⟩ (cs_B_append l D cJ cB qb qw w1 (L ++ cp_kb (cp_kd t)) (t &&& (1 <<< ((nI (cp_tb (cp_kd t))).toInt64 &&& 63) - 1)) (cp_tb (cp_kd t)) _ (by rw [List.length_append]; omega) hR_w1 (by omega) (cp_mask_fit (by omega))) (cwV 2 hw (tb_V wi_295 wi_296 wi_297 wi_24 wi_298) rfl rfl rfl (by decide +kernel) ⟨Nat.le_of_ble_eq_true rfl, Nat.le_of_ble_eq_true rfl⟩) ⟨ct_blind, ct_recv hK hP (q0 := 1) (ci := 0) rfl rfl, ct_pc hZ hK hP hD hS hA [1, 2] rfl (by decide)⟩ rfl rfl hl.1 rfl (lv_room (Nat.le_of_ble_eq_true rfl)) dd_W_writeTurn_34 ⟨Nat.le_of_ble_eq_true rfl, Nat.le_of_ble_eq_true rfl⟩) hK hP hD hS hA [1, 2] [0] rfl rfl (by decide) (by decide) (fun r_34 u_34 H locs hw_34 hP hD hS => ?_)
  obtain ⟨hr_34, hR_w2⟩ := hw_34
  subst hr_34
  obtain ⟨w2, h9_34⟩ : ∃ z, z = u_34 := ⟨_, rfl⟩
  rw [← h9_34] at hP hD hR_w2
  clear h9_34
  have hP : va_P D classes [(q, .inr (4, [.ref qb, .ref qf, .long lt, .long ls0, .long lv0])), (qb, .inr (0, [.ref qw, .int (nI (((L ++ cp_kb (cp_kd t)) ++ cp_bl (t &&& (1 <<< ((nI (cp_tb (cp_kd t))).toInt64 &&& 63) - 1)) (cp_tb (cp_kd t))).length))])), (qw, .inl (cJ, 6250, .inr (.inl w2)))] _ := hP
  have hD : va_D A [(q, .inr (4, [.ref qb, .ref qf, .long lt, .long ls0, .long lv0])), (qb, .inr (0, [.ref qw, .int (nI (((L ++ cp_kb (cp_kd t)) ++ cp_bl (t &&& (1 <<< ((nI (cp_tb (cp_kd t))).toInt64 &&& 63) - 1)) (cp_tb (cp_kd t))).length))])), (qw, .inl (cJ, 6250, .inr (.inl w2)))] := hD
  refine lv_if_eq (tgt := 44) hx hb dd_W_writeTurn_37 (by decide) (fun c_37 => ?_) (fun c_37 => ?_)
  · skip
    have c_37 : 1 = 0 := (ct_zeq (by omega)).mp c_37
    exfalso
    omega
  have c_37 : ¬ (1 = 0) := fun z => c_37 ((ct_zeq (by omega)).mpr z)
  refine lv_iconst (v := nI 1) hx hb dd_W_writeTurn_40 (by decide) ?_
  refine lv_goto (tgt := 45) hx hb dd_W_writeTurn_41 (by decide) ?_
  rw [show (L ++ cp_kb (cp_kd t)) ++ cp_bl (t &&& (1 <<< ((nI (cp_tb (cp_kd t))).toInt64 &&& 63) - 1)) (cp_tb (cp_kd t)) = L ++ cp_wt t by unfold cp_wt; rw [cp_mask_bl (by omega), List.append_assoc]] at hP hD hR_w2
  refine ct_zret (u := w2) hx hb hr hlocks (by decide) hK hP hD hS rfl ?_ dd_W_writeTurn_45
  exact ⟨rfl, hR_w2⟩
