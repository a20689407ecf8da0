/-! the reference: helps -/
def cp_Rb (b : Nat → Int32) (L : List Bool) : Prop := ∀ i, i < L.length → b i = nI (cp_g L i).toNat
theorem mw_neg {c : Nat} (h : c ≤ 64) : nI c - nI 1 < 0 ↔ c = 0 := by
  constructor
  · intro z
    by_cases e : c = 0
    · exact e
    · rw [pk_sub (show 1 ≤ c by omega)] at z
      exact absurd z (nI_pos (by omega))
  · intro z; subst z; decide
theorem mw_dec (x : Int32) : x + Int32.ofInt (-1) = x - nI 1 := by
  rw [Int32.sub_eq_add_neg]; congr 1
theorem mw_bit (v : Int64) {k : Nat} (hk : k < 64) : (v.toUInt64 >>> ((nI k).toInt64.toUInt64 &&& Int64.toUInt64 63)).toInt64 &&& 1 = lN (cp_b v k).toNat := by
  apply cp_ext
  intro j hj
  rw [cp_and, cp_ushr v hk, cp_one, cp_N, decide_eq_true hj, Bool.true_and]
  cases j with
  | zero =>
    rw [Nat.add_zero, decide_eq_true rfl, Bool.and_true]
    cases cp_b v k <;> rfl
  | succ j =>
    rw [decide_eq_false (by omega), Bool.and_false]
    cases cp_b v k
    · exact (Nat.zero_testBit _).symm
    · rw [Bool.toNat_true, Nat.testBit_succ, show 1 / 2 = 0 by decide, Nat.zero_testBit]
theorem mw_b8 (b : Bool) : (nI b.toNat).toInt8.toInt32 = nI b.toNat := by cases b <;> decide
theorem mw_nar (b : Bool) : vp_nar .byte (nI b.toNat) = nI b.toNat := by rw [vp_nar_byte, mw_b8]
theorem mw_app {b : Nat → Int32} {M : List Bool} (h : cp_Rb b M) (x : Bool) : cp_Rb (upd b M.length (nI x.toNat)) (M ++ [x]) := by
  intro i hi
  rw [List.length_append, List.length_singleton] at hi
  by_cases c : i = M.length
  · subst c
    rw [pk_us, cp_g_r (Nat.le_refl _), Nat.sub_self]; rfl
  · rw [pk_un c, cp_g_l (by omega)]; exact h i (by omega)
theorem mw_bl {M N : List Bool} {v : Int64} {c : Nat} (hc : ¬ c = 0) (h : M ++ cp_bl v c = N) : (M ++ [cp_b v (c - 1)]) ++ cp_bl v (c - 1) = N := by
  obtain ⟨d, rfl⟩ : ∃ d, c = d + 1 := ⟨c - 1, by omega⟩
  rw [← h, List.append_assoc]; rfl
theorem rb_cut {b : Nat → Int32} {L : List Bool} (h : cp_Rb b L) (n : Nat) : cp_Rb b (L.take n) := by
  intro i hi
  rw [List.length_take] at hi
  rw [cp_g_take (by omega)]
  exact h i (by omega)
theorem rb_flip {b : Nat → Int32} {L : List Bool} (h : cp_Rb b L) {j : Nat} (hj : j < L.length) : cp_Rb (upd b j (vp_nar .byte (nI 1 - b j).toInt8.toInt32)) (L.set j (!cp_g L j)) := by
  intro i hi
  rw [List.length_set] at hi
  rw [cp_g_set]
  by_cases c : j = i
  · subst c
    rw [if_pos ⟨rfl, hi⟩, pk_us, h j hj]
    cases cp_g L j <;> decide
  · rw [if_neg (fun z => c z.1), pk_un (fun z => c z.symm)]; exact h i hi
theorem rb_1 {b : Nat → Int32} {L : List Bool} (h : cp_Rb b L) {j : Nat} (hj : j < L.length) : b j = nI 1 ↔ cp_g L j = true := by
  rw [h j hj]
  cases cp_g L j
  · exact ⟨fun z => absurd z (by decide), fun z => absurd z (by decide)⟩
  · exact ⟨fun _ => rfl, fun _ => rfl⟩
theorem mr_acc {b : Nat → Int32} {L : List Bool} (h : cp_Rb b L) {p i : Nat} (hp : p + i < L.length) (hi : i < 64) : (lN (cp_n L p i) <<< ((nI 1).toInt64 &&& 63)) ||| (b (p + i)).toInt64 = lN (cp_n L p (i + 1)) := by
  have hlt := cp_n_lt L p i
  have h63 : 2 ^ i ≤ 2 ^ 63 := Nat.pow_le_pow_right (by decide) (by omega)
  rw [h _ hp, nI_l (n := (cp_g L (p + i)).toNat) (by cases cp_g L (p + i) <;> decide), cp_acc _ (by omega), cp_n]
theorem mr_sg0 : ∀ n, n < 64 → ¬ (0 : Int64) >>> ((nI n).toInt64 &&& 63) = 1 := by decide +kernel
theorem mr_sg {n a : Nat} (h0 : 0 < n) (hn : n < 62) (ha : a < 2 ^ n) : lN a >>> ((nI (n - 1)).toInt64 &&& 63) = 1 ↔ ¬ a < 2 ^ (n - 1) := by
  have h62 : 2 ^ n ≤ 2 ^ 62 := Nat.pow_le_pow_right (by decide) (by omega)
  have hq : 2 ^ n = 2 ^ (n - 1) * 2 := by rw [← Nat.pow_succ]; congr 1; omega
  have e : lN a >>> ((nI (n - 1)).toInt64 &&& 63) = lN (a / 2 ^ (n - 1)) := by
    have q : (((nI (n - 1)).toInt64 &&& 63).toBitVec.smod 64).toNat = n - 1 := by
      rw [wb_c _ (by omega), wb_tb, wb_sm _ (by omega), BitVec.toNat_ofNat]; exact Nat.mod_eq_of_lt (by omega)
    apply Int64.toInt_inj.mp
    generalize ((nI (n - 1)).toInt64 &&& 63) = D at q ⊢
    have z : (lN a >>> D).toInt = (lN a).toInt >>> (n - 1) := by
      rw [← q]
      exact BitVec.toInt_sshiftRight ..
    have hd : a / 2 ^ (n - 1) ≤ a := Nat.div_le_self _ _
    rw [z, Int.shiftRight_eq_div_pow, pk_lT (by omega), pk_lT (by omega)]
    rfl
  rw [e]
  have hd : a / 2 ^ (n - 1) < 2 := (Nat.div_lt_iff_lt_mul (Nat.two_pow_pos _)).mpr (by omega)
  rw [show (1 : Int64) = lN 1 by decide, pk_lEQ (by omega) (by decide)]
  constructor
  · intro z h
    rw [Nat.div_eq_of_lt h] at z
    omega
  · intro h
    have : 1 ≤ a / 2 ^ (n - 1) := (Nat.le_div_iff_mul_le (Nat.two_pow_pos _)).mpr (by omega)
    omega
theorem ct_cut {p : Program} {l : Launch} {e : Env} {R : Room} {s : State} {m : MethodId} {args : Array Value} {below : List Frame} {meth : Method} {c : Code} {cells slots : Nat} {Q : State → Prop} {pc pc2 : Nat} {ls : Array Slot} {H : Heap} {locs : List Loc} {stk stk2 : List Value} (I : Heap → List Loc → Array Slot → Prop)
    (tail : ∀ (H : Heap) (locs : List Loc) (ls : Array Slot), I H locs ls → W p l e R s m args below meth c H locs cells slots Q (F0 m pc2 ls stk2))
    (k : (∀ (H : Heap) (locs : List Loc) (ls : Array Slot), I H locs ls → W p l e R s m args below meth c H locs cells slots Q (F0 m pc2 ls stk2)) → W p l e R s m args below meth c H locs cells slots Q (F0 m pc ls stk)) : W p l e R s m args below meth c H locs cells slots Q (F0 m pc ls stk) := k tail

set_option maxHeartbeats 4000000 in
set_option maxRecDepth 100000 in
theorem cc_M_init (l : Launch) (D : va_G) (cJ cB : ClassId) (q : Nat) (sz : Nat) : ct_v l my_M_init (Cond.code my_M_init mb_M_init 1 none :: TB) ({ frames := 1, cells := 5, slots := 412000, locals := 12 } : Room) D classes cJ cB [.ref q] [(q, .inr (6, [.int 0, .null, .null, .int 0, .null, .int 0, .int 0, .null, .null, .int 0, .int 0, .int 0, .int 0]))] sz (fun (u : Nat × Nat × Nat × Nat × Nat) => True) (fun u => [(q, .inr (6, [.int 0, .ref u.1, .ref u.2.1, .int 0, .ref u.2.2.1, .int 0, .int 0, .ref u.2.2.2.1, .ref u.2.2.2.2, .int 0, .int 0, .int 0, .int 0])), (u.1, .inl (cJ, 3000, .inr (.inl (fun _ => 0)))), (u.2.1, .inl (cJ, 3000, .inr (.inl (fun _ => 0)))), (u.2.2.1, .inl (cB, 400000, .inl (fun _ => 0))), (u.2.2.2.1, .inl (cJ, 3000, .inr (.inl (fun _ => 0)))), (u.2.2.2.2, .inl (cJ, 3000, .inr (.inl (fun _ => 0))))]) 5 412000 := by
  refine ct_ofW (cc := mb_M_init) (maxL := 1) (ret := none) (by decide) rfl (Nat.le_of_ble_eq_true rfl) ?_
  intro p e s m below meth c hx hb hr hml hts hown hlocks hin hsz hK hP hD hA hS hZ ls hl
  have hw : ∀ w ∈ TB, w.before _ s = true := fun w h => hts w (List.mem_cons_of_mem _ h)
  have hown : s.vm.findClass cn_M = some m.cls := hown
  have hin : meth.name = "<init>" := hin
  generalize hAe : va_A [(q, .inr (6, [.int 0, .null, .null, .int 0, .null, .int 0, .int 0, .null, .null, .int 0, .int 0, .int 0, .int 0]))] sz = A at hD hA hS hZ ⊢
  clear hAe
  have hl : lv_has ls 1 [(0, .ref q)] := hl
  have hP : va_P D classes [(q, .inr (6, [.int 0, .null, .null, .int 0, .null, .int 0, .int 0, .null, .null, .int 0, .int 0, .int 0, .int 0]))] s.heap := hP
  refine lv_aload_n hx hb dd_M_init_0 rfl (lv_at hl 0 rfl) ?_
  refine W.objInit hx hb hown (hw _ wi_535) (hw _ wi_44) (hw _ wi_obj) rfl (by rw [hml]; exact hl.1) rfl dd_M_init_1 (Nat.le_of_ble_eq_true rfl) (Nat.le_of_ble_eq_true rfl) ?_
  refine W.eq (g2 := F0 m 4 ls []) rfl ?_
  refine lv_aload_n hx hb dd_M_init_4 rfl (lv_at hl 0 rfl) ?_
  refine lv_sipush (v := nI 3000) hx hb dd_M_init_5 (by decide) ?_
  refine ct_newa (atype := .long) (ty := .long) (N' := 3000) (a0 := (3000, .inr (.inl (fun _ => 0)))) hx hb (hw _ wi_62) rfl hK hP hD hS hA (ct_J hK) (fun cA => vp_cell_l cA _ _) (nI_pos (by decide)) (nI_clamp (by decide)) (by decide) (Nat.le_of_ble_eq_true rfl) (Nat.le_of_ble_eq_true rfl) dd_M_init_8 (fun a1 H hP hD hS => ?_)
  have hP : va_P D classes [(q, .inr (6, [.int 0, .null, .null, .int 0, .null, .int 0, .int 0, .null, .null, .int 0, .int 0, .int 0, .int 0])), (a1, .inl (cJ, 3000, .inr (.inl (fun _ => 0))))] _ := hP
  have hD : va_D A [(q, .inr (6, [.int 0, .null, .null, .int 0, .null, .int 0, .int 0, .null, .null, .int 0, .int 0, .int 0, .int 0])), (a1, .inl (cJ, 3000, .inr (.inl (fun _ => 0))))] := hD
  refine va_putF (D := D) (ci := 6) (v := .ref a1) (ty := .array .long) (C := cn_M) (T := cf_M) (N := 13) hx hb hw in_M ty_M to_M nn_M hown hK hP hD hS 0 rfl rfl 1 (by decide) (hw _ wi_538) (fun _ h9 => h9) rfl hin rfl (by decide +kernel) (rfl) (rfl) (Nat.le_of_ble_eq_true rfl) dd_M_init_10 (fun H locs hP hD hS => ?_)
  have hP : va_P D classes [(q, .inr (6, [.int 0, .ref a1, .null, .int 0, .null, .int 0, .int 0, .null, .null, .int 0, .int 0, .int 0, .int 0])), (a1, .inl (cJ, 3000, .inr (.inl (fun _ => 0))))] _ := hP
  have hD : va_D A [(q, .inr (6, [.int 0, .ref a1, .null, .int 0, .null, .int 0, .int 0, .null, .null, .int 0, .int 0, .int 0, .int 0])), (a1, .inl (cJ, 3000, .inr (.inl (fun _ => 0))))] := hD
  refine lv_aload_n hx hb dd_M_init_13 rfl (lv_at hl 0 rfl) ?_
  refine lv_sipush (v := nI 3000) hx hb dd_M_init_14 (by decide) ?_
  refine ct_newa (atype := .long) (ty := .long) (N' := 3000) (a0 := (3000, .inr (.inl (fun _ => 0)))) hx hb (hw _ wi_62) rfl hK hP hD hS hA (ct_J hK) (fun cA => vp_cell_l cA _ _) (nI_pos (by decide)) (nI_clamp (by decide)) (by decide) (Nat.le_of_ble_eq_true rfl) (Nat.le_of_ble_eq_true rfl) dd_M_init_17 (fun a2 H hP hD hS => ?_)
  have hP : va_P D classes [(q, .inr (6, [.int 0, .ref a1, .null, .int 0, .null, .int 0, .int 0, .null, .null, .int 0, .int 0, .int 0, .int 0])), (a1, .inl (cJ, 3000, .inr (.inl (fun _ => 0)))), (a2, .inl (cJ, 3000, .inr (.inl (fun _ => 0))))] _ := hP
  have hD : va_D A [(q, .inr (6, [.int 0, .ref a1, .null, .int 0, .null, .int 0, .int 0, .null, .null, .int 0, .int 0, .int 0, .int 0])), (a1, .inl (cJ, 3000, .inr (.inl (fun _ => 0)))), (a2, .inl (cJ, 3000, .inr (.inl (fun _ => 0))))] := hD
  refine va_putF (D := D) (ci := 6) (v := .ref a2) (ty := .array .long) (C := cn_M) (T := cf_M) (N := 13) hx hb hw in_M ty_M to_M nn_M hown hK hP hD hS 0 rfl rfl 2 (by decide) (hw _ wi_539) (fun _ h9 => h9) rfl hin rfl (by decide +kernel) (rfl) (rfl) (Nat.le_of_ble_eq_true rfl) dd_M_init_19 (fun H locs hP hD hS => ?_)
  have hP : va_P D classes [(q, .inr (6, [.int 0, .ref a1, .ref a2, .int 0, .null, .int 0, .int 0, .null, .null, .int 0, .int 0, .int 0, .int 0])), (a1, .inl (cJ, 3000, .inr (.inl (fun _ => 0)))), (a2, .inl (cJ, 3000, .inr (.inl (fun _ => 0))))] _ := hP
  have hD : va_D A [(q, .inr (6, [.int 0, .ref a1, .ref a2, .int 0, .null, .int 0, .int 0, .null, .null, .int 0, .int 0, .int 0, .int 0])), (a1, .inl (cJ, 3000, .inr (.inl (fun _ => 0)))), (a2, .inl (cJ, 3000, .inr (.inl (fun _ => 0))))] := hD
  refine lv_aload_n hx hb dd_M_init_22 rfl (lv_at hl 0 rfl) ?_
  refine lv_ldc (v := 400000) hx hb hown (hw _ wi_536) dd_M_init_23 ?_
  refine ct_topi (y := nI 400000) (by decide) ?_
  refine ct_newa (atype := .byte) (ty := .byte) (N' := 400000) (a0 := (400000, .inl (fun _ => 0))) hx hb (hw _ wi_173) rfl hK hP hD hS hA (ct_B hK) (fun cA => vp_cell_i cA _ _) (nI_pos (by decide)) (nI_clamp (by decide)) (by decide) (Nat.le_of_ble_eq_true rfl) (Nat.le_of_ble_eq_true rfl) dd_M_init_25 (fun a3 H hP hD hS => ?_)
  have hP : va_P D classes [(q, .inr (6, [.int 0, .ref a1, .ref a2, .int 0, .null, .int 0, .int 0, .null, .null, .int 0, .int 0, .int 0, .int 0])), (a1, .inl (cJ, 3000, .inr (.inl (fun _ => 0)))), (a2, .inl (cJ, 3000, .inr (.inl (fun _ => 0)))), (a3, .inl (cB, 400000, .inl (fun _ => 0)))] _ := hP
  have hD : va_D A [(q, .inr (6, [.int 0, .ref a1, .ref a2, .int 0, .null, .int 0, .int 0, .null, .null, .int 0, .int 0, .int 0, .int 0])), (a1, .inl (cJ, 3000, .inr (.inl (fun _ => 0)))), (a2, .inl (cJ, 3000, .inr (.inl (fun _ => 0)))), (a3, .inl (cB, 400000, .inl (fun _ => 0)))] := hD
  refine va_putF (D := D) (ci := 6) (v := .ref a3) (ty := .array .byte) (C := cn_M) (T := cf_M) (N := 13) hx hb hw in_M ty_M to_M nn_M hown hK hP hD hS 0 rfl rfl 4 (by decide) (hw _ wi_541) (fun _ h9 => h9) rfl hin rfl (by decide +kernel) (rfl) (rfl) (Nat.le_of_ble_eq_true rfl) dd_M_init_27 (fun H locs hP hD hS => ?_)
  have hP : va_P D classes [(q, .inr (6, [.int 0, .ref a1, .ref a2, .int 0, .ref a3, .int 0, .int 0, .null, .null, .int 0, .int 0, .int 0, .int 0])), (a1, .inl (cJ, 3000, .inr (.inl (fun _ => 0)))), (a2, .inl (cJ, 3000, .inr (.inl (fun _ => 0)))), (a3, .inl (cB, 400000, .inl (fun _ => 0)))] _ := hP
  have hD : va_D A [(q, .inr (6, [.int 0, .ref a1, .ref a2, .int 0, .ref a3, .int 0, .int 0, .null, .null, .int 0, .int 0, .int 0, .int 0])), (a1, .inl (cJ, 3000, .inr (.inl (fun _ => 0)))), (a2, .inl (cJ, 3000, .inr (.inl (fun _ => 0)))), (a3, .inl (cB, 400000, .inl (fun _ => 0)))] := hD
  refine lv_aload_n hx hb dd_M_init_30 rfl (lv_at hl 0 rfl) ?_
  refine lv_sipush (v := nI 3000) hx hb dd_M_init_31 (by decide) ?_
  refine ct_newa (atype := .long) (ty := .long) (N' := 3000) (a0 := (3000, .inr (.inl (fun _ => 0)))) hx hb (hw _ wi_62) rfl hK hP hD hS hA (ct_J hK) (fun cA => vp_cell_l cA _ _) (nI_pos (by decide)) (nI_clamp (by decide)) (by decide) (Nat.le_of_ble_eq_true rfl) (Nat.le_of_ble_eq_true rfl) dd_M_init_34 (fun a4 H hP hD hS => ?_)
  have hP : va_P D classes [(q, .inr (6, [.int 0, .ref a1, .ref a2, .int 0, .ref a3, .int 0, .int 0, .null, .null, .int 0, .int 0, .int 0, .int 0])), (a1, .inl (cJ, 3000, .inr (.inl (fun _ => 0)))), (a2, .inl (cJ, 3000, .inr (.inl (fun _ => 0)))), (a3, .inl (cB, 400000, .inl (fun _ => 0))), (a4, .inl (cJ, 3000, .inr (.inl (fun _ => 0))))] _ := hP
  have hD : va_D A [(q, .inr (6, [.int 0, .ref a1, .ref a2, .int 0, .ref a3, .int 0, .int 0, .null, .null, .int 0, .int 0, .int 0, .int 0])), (a1, .inl (cJ, 3000, .inr (.inl (fun _ => 0)))), (a2, .inl (cJ, 3000, .inr (.inl (fun _ => 0)))), (a3, .inl (cB, 400000, .inl (fun _ => 0))), (a4, .inl (cJ, 3000, .inr (.inl (fun _ => 0))))] := hD
  refine va_putF (D := D) (ci := 6) (v := .ref a4) (ty := .array .long) (C := cn_M) (T := cf_M) (N := 13) hx hb hw in_M ty_M to_M nn_M hown hK hP hD hS 0 rfl rfl 7 (by decide) (hw _ wi_544) (fun _ h9 => h9) rfl hin rfl (by decide +kernel) (rfl) (rfl) (Nat.le_of_ble_eq_true rfl) dd_M_init_36 (fun H locs hP hD hS => ?_)
  have hP : va_P D classes [(q, .inr (6, [.int 0, .ref a1, .ref a2, .int 0, .ref a3, .int 0, .int 0, .ref a4, .null, .int 0, .int 0, .int 0, .int 0])), (a1, .inl (cJ, 3000, .inr (.inl (fun _ => 0)))), (a2, .inl (cJ, 3000, .inr (.inl (fun _ => 0)))), (a3, .inl (cB, 400000, .inl (fun _ => 0))), (a4, .inl (cJ, 3000, .inr (.inl (fun _ => 0))))] _ := hP
  have hD : va_D A [(q, .inr (6, [.int 0, .ref a1, .ref a2, .int 0, .ref a3, .int 0, .int 0, .ref a4, .null, .int 0, .int 0, .int 0, .int 0])), (a1, .inl (cJ, 3000, .inr (.inl (fun _ => 0)))), (a2, .inl (cJ, 3000, .inr (.inl (fun _ => 0)))), (a3, .inl (cB, 400000, .inl (fun _ => 0))), (a4, .inl (cJ, 3000, .inr (.inl (fun _ => 0))))] := hD
  refine lv_aload_n hx hb dd_M_init_39 rfl (lv_at hl 0 rfl) ?_
  refine lv_sipush (v := nI 3000) hx hb dd_M_init_40 (by decide) ?_
  refine ct_newa (atype := .long) (ty := .long) (N' := 3000) (a0 := (3000, .inr (.inl (fun _ => 0)))) hx hb (hw _ wi_62) rfl hK hP hD hS hA (ct_J hK) (fun cA => vp_cell_l cA _ _) (nI_pos (by decide)) (nI_clamp (by decide)) (by decide) (Nat.le_of_ble_eq_true rfl) (Nat.le_of_ble_eq_true rfl) dd_M_init_43 (fun a5 H hP hD hS => ?_)
  have hP : va_P D classes [(q, .inr (6, [.int 0, .ref a1, .ref a2, .int 0, .ref a3, .int 0, .int 0, .ref a4, .null, .int 0, .int 0, .int 0, .int 0])), (a1, .inl (cJ, 3000, .inr (.inl (fun _ => 0)))), (a2, .inl (cJ, 3000, .inr (.inl (fun _ => 0)))), (a3, .inl (cB, 400000, .inl (fun _ => 0))), (a4, .inl (cJ, 3000, .inr (.inl (fun _ => 0)))), (a5, .inl (cJ, 3000, .inr (.inl (fun _ => 0))))] _ := hP
  have hD : va_D A [(q, .inr (6, [.int 0, .ref a1, .ref a2, .int 0, .ref a3, .int 0, .int 0, .ref a4, .null, .int 0, .int 0, .int 0, .int 0])), (a1, .inl (cJ, 3000, .inr (.inl (fun _ => 0)))), (a2, .inl (cJ, 3000, .inr (.inl (fun _ => 0)))), (a3, .inl (cB, 400000, .inl (fun _ => 0))), (a4, .inl (cJ, 3000, .inr (.inl (fun _ => 0)))), (a5, .inl (cJ, 3000, .inr (.inl (fun _ => 0))))] := hD
  refine va_putF (D := D) (ci := 6) (v := .ref a5) (ty := .array .long) (C := cn_M) (T := cf_M) (N := 13) hx hb hw in_M ty_M to_M nn_M hown hK hP hD hS 0 rfl rfl 8 (by decide) (hw _ wi_545) (fun _ h9 => h9) rfl hin rfl (by decide +kernel) (rfl) (rfl) (Nat.le_of_ble_eq_true rfl) dd_M_init_45 (fun H locs hP hD hS => ?_)
  have hP : va_P D classes [(q, .inr (6, [.int 0, .ref a1, .ref a2, .int 0, .ref a3, .int 0, .int 0, .ref a4, .ref a5, .int 0, .int 0, .int 0, .int 0])), (a1, .inl (cJ, 3000, .inr (.inl (fun _ => 0)))), (a2, .inl (cJ, 3000, .inr (.inl (fun _ => 0)))), (a3, .inl (cB, 400000, .inl (fun _ => 0))), (a4, .inl (cJ, 3000, .inr (.inl (fun _ => 0)))), (a5, .inl (cJ, 3000, .inr (.inl (fun _ => 0))))] _ := hP
  have hD : va_D A [(q, .inr (6, [.int 0, .ref a1, .ref a2, .int 0, .ref a3, .int 0, .int 0, .ref a4, .ref a5, .int 0, .int 0, .int 0, .int 0])), (a1, .inl (cJ, 3000, .inr (.inl (fun _ => 0)))), (a2, .inl (cJ, 3000, .inr (.inl (fun _ => 0)))), (a3, .inl (cB, 400000, .inl (fun _ => 0))), (a4, .inl (cJ, 3000, .inr (.inl (fun _ => 0)))), (a5, .inl (cJ, 3000, .inr (.inl (fun _ => 0))))] := hD
  refine ct_vret (u := (a1, a2, a3, a4, a5)) hx hb hr hlocks hK hP hD hS rfl ?_ dd_M_init_48
  trivial

set_option maxHeartbeats 4000000 in
set_option maxRecDepth 100000 in
theorem cc_M_thrown (l : Launch) (D : va_G) (cJ cB : ClassId) (q ta vb ba na nb : Nat) (cd tk pl wr fz fb : Int32) (n : Nat) (L : List Bool) (sz : Nat) : ct_i l my_M_thrown (Cond.code my_M_thrown mb_M_thrown 1 (some .int) :: TB) ({ frames := 0, cells := 0, slots := 0, locals := 0 } : Room) D classes cJ cB [.ref q] [(q, .inr (6, [.int cd, .ref ta, .ref vb, .int (nI n), .ref ba, .int (nI L.length), .int tk, .ref na, .ref nb, .int pl, .int wr, .int fz, .int fb]))] sz (fun (r : Int32) (u : Unit) => r = cd) (fun u => [(q, .inr (6, [.int cd, .ref ta, .ref vb, .int (nI n), .ref ba, .int (nI L.length), .int tk, .ref na, .ref nb, .int pl, .int wr, .int fz, .int fb]))]) 0 0 := by
  refine ct_ofW (cc := mb_M_thrown) (maxL := 1) (ret := some .int) (by decide) rfl (Nat.le_of_ble_eq_true rfl) ?_
  intro p e s m below meth c hx hb hr hml hts hown hlocks hin hsz hK hP hD hA hS hZ ls hl
  have hw : ∀ w ∈ TB, w.before _ s = true := fun w h => hts w (List.mem_cons_of_mem _ h)
  have hown : s.vm.findClass cn_M = some m.cls := hown
  have hin : meth.name = "thrown" := hin
  generalize hAe : va_A [(q, .inr (6, [.int cd, .ref ta, .ref vb, .int (nI n), .ref ba, .int (nI L.length), .int tk, .ref na, .ref nb, .int pl, .int wr, .int fz, .int fb]))] sz = A at hD hA hS hZ ⊢
  clear hAe
  have hl : lv_has ls 1 [(0, .ref q)] := hl
  have hP : va_P D classes [(q, .inr (6, [.int cd, .ref ta, .ref vb, .int (nI n), .ref ba, .int (nI L.length), .int tk, .ref na, .ref nb, .int pl, .int wr, .int fz, .int fb]))] s.heap := hP
  refine lv_aload_n hx hb dd_M_thrown_0 rfl (lv_at hl 0 rfl) ?_
  refine va_get (D := D) (ci := 6) (C := cn_M) (T := cf_M) (N := 13) hx hb hw in_M hown hK hP 0 rfl rfl 0 (by decide) (hw _ wi_537) (fun _ h9 => h9) rfl dd_M_thrown_1 ?_
  refine ct_iret (u := ()) hx hb hr hlocks hK hP hD hS rfl ?_ dd_M_thrown_4
  rfl

set_option maxHeartbeats 4000000 in
set_option maxRecDepth 100000 in
theorem cc_M_taken (l : Launch) (D : va_G) (cJ cB : ClassId) (q ta vb ba na nb : Nat) (cd tk pl wr fz fb : Int32) (n : Nat) (L : List Bool) (sz : Nat) : ct_i l my_M_taken (Cond.code my_M_taken mb_M_taken 1 (some .int) :: TB) ({ frames := 0, cells := 0, slots := 0, locals := 0 } : Room) D classes cJ cB [.ref q] [(q, .inr (6, [.int cd, .ref ta, .ref vb, .int (nI n), .ref ba, .int (nI L.length), .int tk, .ref na, .ref nb, .int pl, .int wr, .int fz, .int fb]))] sz (fun (r : Int32) (u : Unit) => r = tk) (fun u => [(q, .inr (6, [.int (nI 0), .ref ta, .ref vb, .int (nI n), .ref ba, .int (nI L.length), .int tk, .ref na, .ref nb, .int pl, .int wr, .int fz, .int fb]))]) 0 0 := by
  refine ct_ofW (cc := mb_M_taken) (maxL := 1) (ret := some .int) (by decide) rfl (Nat.le_of_ble_eq_true rfl) ?_
  intro p e s m below meth c hx hb hr hml hts hown hlocks hin hsz hK hP hD hA hS hZ ls hl
  have hw : ∀ w ∈ TB, w.before _ s = true := fun w h => hts w (List.mem_cons_of_mem _ h)
  have hown : s.vm.findClass cn_M = some m.cls := hown
  have hin : meth.name = "taken" := hin
  generalize hAe : va_A [(q, .inr (6, [.int cd, .ref ta, .ref vb, .int (nI n), .ref ba, .int (nI L.length), .int tk, .ref na, .ref nb, .int pl, .int wr, .int fz, .int fb]))] sz = A at hD hA hS hZ ⊢
  clear hAe
  have hl : lv_has ls 1 [(0, .ref q)] := hl
  have hP : va_P D classes [(q, .inr (6, [.int cd, .ref ta, .ref vb, .int (nI n), .ref ba, .int (nI L.length), .int tk, .ref na, .ref nb, .int pl, .int wr, .int fz, .int fb]))] s.heap := hP
  refine lv_aload_n hx hb dd_M_taken_0 rfl (lv_at hl 0 rfl) ?_
  refine lv_iconst (v := nI 0) hx hb dd_M_taken_1 (by decide) ?_
  refine va_put (D := D) (ci := 6) (v := .int (nI 0)) (ty := .int) (C := cn_M) (T := cf_M) (N := 13) hx hb hw in_M ty_M to_M nn_M hown hK hP hD hS 0 rfl rfl 0 (by decide) (hw _ wi_537) (fun _ h9 => h9) rfl (by decide +kernel) (rfl) (rfl) (Nat.le_of_ble_eq_true rfl) dd_M_taken_2 (fun H locs hP hD hS => ?_)
  have hP : va_P D classes [(q, .inr (6, [.int (nI 0), .ref ta, .ref vb, .int (nI n), .ref ba, .int (nI L.length), .int tk, .ref na, .ref nb, .int pl, .int wr, .int fz, .int fb]))] _ := hP
  have hD : va_D A [(q, .inr (6, [.int (nI 0), .ref ta, .ref vb, .int (nI n), .ref ba, .int (nI L.length), .int tk, .ref na, .ref nb, .int pl, .int wr, .int fz, .int fb]))] := hD
  refine lv_aload_n hx hb dd_M_taken_5 rfl (lv_at hl 0 rfl) ?_
  refine va_get (D := D) (ci := 6) (C := cn_M) (T := cf_M) (N := 13) hx hb hw in_M hown hK hP 0 rfl rfl 6 (by decide) (hw _ wi_543) (fun _ h9 => h9) rfl dd_M_taken_6 ?_
  refine ct_iret (u := ()) hx hb hr hlocks hK hP hD hS rfl ?_ dd_M_taken_9
  rfl

set_option maxHeartbeats 4000000 in
set_option maxRecDepth 100000 in
theorem cc_M_write (l : Launch) (D : va_G) (cJ cB : ClassId) (q ta vb ba na nb : Nat) (cd tk pl wr fz fb : Int32) (n : Nat) (L : List Bool) (by0 : Nat → Int32) (v : Int64) (k : Nat) (sz : Nat) (hL : L.length + k ≤ 400000) (hB : cp_Rb by0 L) (hk : k ≤ 64) : ct_v l my_M_write (Cond.code my_M_write mb_M_write 5 none :: TB) ({ frames := 0, cells := 0, slots := 0, locals := 0 } : Room) D classes cJ cB [.ref q, .long v, .int (nI k)] [(q, .inr (6, [.int cd, .ref ta, .ref vb, .int (nI n), .ref ba, .int (nI L.length), .int tk, .ref na, .ref nb, .int pl, .int wr, .int fz, .int fb])), (ba, .inl (cB, 400000, .inl by0))] sz (fun (u : Nat → Int32) => cp_Rb u (L ++ cp_bl v k)) (fun u => [(q, .inr (6, [.int cd, .ref ta, .ref vb, .int (nI n), .ref ba, .int (nI ((L ++ cp_bl v k).length)), .int tk, .ref na, .ref nb, .int pl, .int wr, .int fz, .int fb])), (ba, .inl (cB, 400000, .inl u))]) 0 0 := by
  refine ct_ofW (cc := mb_M_write) (maxL := 5) (ret := none) (by decide) rfl (Nat.le_of_ble_eq_true rfl) ?_
  intro p e s m below meth c hx hb hr hml hts hown hlocks hin hsz hK hP hD hA hS hZ ls hl
  have hw : ∀ w ∈ TB, w.before _ s = true := fun w h => hts w (List.mem_cons_of_mem _ h)
  have hown : s.vm.findClass cn_M = some m.cls := hown
  have hin : meth.name = "write" := hin
  generalize hAe : va_A [(q, .inr (6, [.int cd, .ref ta, .ref vb, .int (nI n), .ref ba, .int (nI L.length), .int tk, .ref na, .ref nb, .int pl, .int wr, .int fz, .int fb])), (ba, .inl (cB, 400000, .inl by0))] sz = A at hD hA hS hZ ⊢
  clear hAe
  have hl : lv_has ls 5 [(0, .ref q), (1, .long v), (3, .int (nI k))] := hl
  have hP : va_P D classes [(q, .inr (6, [.int cd, .ref ta, .ref vb, .int (nI n), .ref ba, .int (nI L.length), .int tk, .ref na, .ref nb, .int pl, .int wr, .int fz, .int fb])), (ba, .inl (cB, 400000, .inl by0))] s.heap := hP
  refine lv_iload_n hx hb dd_M_write_0 rfl (lv_at hl 2 rfl) ?_
  refine lv_iconst (v := nI 1) hx hb dd_M_write_1 (by decide) ?_
  refine lv_isub hx hb dd_M_write_2 ?_
  refine lv_istore (lv' := [(4, .int ((nI k) - (nI 1))), (0, .ref q), (1, .long v), (3, .int (nI k))]) hx hb dd_M_write_3 hl (by decide) rfl (fun ls hl => ?_)
  refine ct_loop (σ := Nat × List Bool × (Nat → Int32)) (fun a H locs ls => va_P D classes [(q, .inr (6, [.int cd, .ref ta, .ref vb, .int (nI n), .ref ba, .int (nI a.2.1.length), .int tk, .ref na, .ref nb, .int pl, .int wr, .int fz, .int fb])), (ba, .inl (cB, 400000, .inl a.2.2))] H ∧ va_D A [(q, .inr (6, [.int cd, .ref ta, .ref vb, .int (nI n), .ref ba, .int (nI a.2.1.length), .int tk, .ref na, .ref nb, .int pl, .int wr, .int fz, .int fb])), (ba, .inl (cB, 400000, .inl a.2.2))] ∧ va_S A s.heap H locs ∧ lv_has ls 5 [(0, .ref q), (1, .long v), (4, .int (nI a.1 - nI 1))] ∧ (a.1 ≤ 64) ∧ (a.2.1.length + a.1 ≤ 400000) ∧ (cp_Rb a.2.2 a.2.1) ∧ (a.2.1 ++ cp_bl v a.1 = L ++ cp_bl v k)) (fun a => a.1) ?_ (k, L, by0) ⟨hP, hD, hS, lv_sub hl [1, 2, 0] rfl, hk, hL, hB, rfl⟩
  rintro ⟨c0, M, by0⟩ H locs ls ⟨hP, hD, hS, hl, hc, hM, hB, hE⟩ ih
  have hP : va_P D classes [(q, .inr (6, [.int cd, .ref ta, .ref vb, .int (nI n), .ref ba, .int (nI M.length), .int tk, .ref na, .ref nb, .int pl, .int wr, .int fz, .int fb])), (ba, .inl (cB, 400000, .inl by0))] _ := hP
  have hD : va_D A [(q, .inr (6, [.int cd, .ref ta, .ref vb, .int (nI n), .ref ba, .int (nI M.length), .int tk, .ref na, .ref nb, .int pl, .int wr, .int fz, .int fb])), (ba, .inl (cB, 400000, .inl by0))] := hD
  have hl : lv_has ls 5 [(0, .ref q), (1, .long v), (4, .int (nI c0 - nI 1))] := hl
  have hc : c0 ≤ 64 := hc
  have hM : M.length + c0 ≤ 400000 := hM
  have hB : cp_Rb by0 M := hB
  have hE : M ++ cp_bl v c0 = L ++ cp_bl v k := hE
  refine lv_iload hx hb dd_M_write_5 (lv_at hl 2 rfl) ?_
  refine lv_if_lt (tgt := 43) hx hb dd_M_write_7 (by decide) (fun c_7 => ?_) (fun c_7 => ?_)
  · skip
    have c_7 : c0 = 0 := (mw_neg hc).mp c_7
    subst c_7
    have hE : M = L ++ cp_bl v k := by rw [← hE, cp_bl, List.append_nil]
    subst hE
    have hP : va_P D classes [(q, .inr (6, [.int cd, .ref ta, .ref vb, .int (nI n), .ref ba, .int (nI ((L ++ cp_bl v k).length)), .int tk, .ref na, .ref nb, .int pl, .int wr, .int fz, .int fb])), (ba, .inl (cB, 400000, .inl by0))] _ := hP
    have hD : va_D A [(q, .inr (6, [.int cd, .ref ta, .ref vb, .int (nI n), .ref ba, .int (nI ((L ++ cp_bl v k).length)), .int tk, .ref na, .ref nb, .int pl, .int wr, .int fz, .int fb])), (ba, .inl (cB, 400000, .inl by0))] := hD
    refine ct_vret (u := by0) hx hb hr hlocks hK hP hD hS rfl ?_ dd_M_write_43
    exact hB
  have c_7 : ¬ (c0 = 0) := fun z => c_7 ((mw_neg hc).mpr z)
  rw [pk_sub (show 1 ≤ c0 by omega)] at hl
  refine lv_aload_n hx hb dd_M_write_10 rfl (lv_at hl 0 rfl) ?_
  refine va_get (D := D) (ci := 6) (C := cn_M) (T := cf_M) (N := 13) hx hb hw in_M hown hK hP 0 rfl rfl 4 (by decide) (hw _ wi_541) (fun _ h9 => h9) rfl dd_M_write_11 ?_
  refine lv_aload_n hx hb dd_M_write_14 rfl (lv_at hl 0 rfl) ?_
  refine va_get (D := D) (ci := 6) (C := cn_M) (T := cf_M) (N := 13) hx hb hw in_M hown hK hP 0 rfl rfl 5 (by decide) (hw _ wi_542) (fun _ h9 => h9) rfl dd_M_write_15 ?_
  refine lv_lload_n hx hb dd_M_write_18 rfl (lv_at hl 1 rfl) ?_
  refine lv_iload hx hb dd_M_write_19 (lv_at hl 2 rfl) ?_
  refine lv_lushr (v := (v.toUInt64 >>> ((nI (c0 - 1)).toInt64.toUInt64 &&& Int64.toUInt64 63)).toInt64) hx hb dd_M_write_21 rfl ?_
  refine lv_lconst (v := 1) hx hb dd_M_write_22 (by decide) ?_
  refine lv_land hx hb dd_M_write_23 ?_
  refine ct_topl (y := lN (cp_b v (c0 - 1)).toNat) (mw_bit v (by omega)) ?_
  refine lv_l2i (v := (lN (cp_b v (c0 - 1)).toNat).toInt32) hx hb dd_M_write_24 rfl ?_
  refine ct_topi (y := nI (cp_b v (c0 - 1)).toNat) (lN_i _) ?_
  refine lv_i2b (v := (nI (cp_b v (c0 - 1)).toNat).toInt8.toInt32) hx hb dd_M_write_25 rfl ?_
  refine ct_topi (y := nI (cp_b v (c0 - 1)).toNat) (mw_b8 _) ?_
  refine va_bast hx hb hK hP hD hS 1 1 rfl rfl (vp_in_nI (by omega) (by omega)) dd_M_write_26 (fun H locs hP hD hS => ?_)
  rw [show (nI M.length).toNatClampNeg = M.length from nI_clamp (by omega)] at hP hD
  have hP : va_P D classes [(q, .inr (6, [.int cd, .ref ta, .ref vb, .int (nI n), .ref ba, .int (nI M.length), .int tk, .ref na, .ref nb, .int pl, .int wr, .int fz, .int fb])), (ba, .inl (cB, 400000, .inl (upd by0 M.length (vp_nar .byte (nI (cp_b v (c0 - 1)).toNat)))))] _ := hP
  have hD : va_D A [(q, .inr (6, [.int cd, .ref ta, .ref vb, .int (nI n), .ref ba, .int (nI M.length), .int tk, .ref na, .ref nb, .int pl, .int wr, .int fz, .int fb])), (ba, .inl (cB, 400000, .inl (upd by0 M.length (vp_nar .byte (nI (cp_b v (c0 - 1)).toNat)))))] := hD
  rw [mw_nar] at hP hD
  have hP : va_P D classes [(q, .inr (6, [.int cd, .ref ta, .ref vb, .int (nI n), .ref ba, .int (nI M.length), .int tk, .ref na, .ref nb, .int pl, .int wr, .int fz, .int fb])), (ba, .inl (cB, 400000, .inl (upd by0 M.length (nI (cp_b v (c0 - 1)).toNat))))] _ := hP
  have hD : va_D A [(q, .inr (6, [.int cd, .ref ta, .ref vb, .int (nI n), .ref ba, .int (nI M.length), .int tk, .ref na, .ref nb, .int pl, .int wr, .int fz, .int fb])), (ba, .inl (cB, 400000, .inl (upd by0 M.length (nI (cp_b v (c0 - 1)).toNat))))] := hD
  refine lv_aload_n hx hb dd_M_write_27 rfl (lv_at hl 0 rfl) ?_
  refine lv_dup hx hb dd_M_write_28 rfl ?_
  refine va_get (D := D) (ci := 6) (C := cn_M) (T := cf_M) (N := 13) hx hb hw in_M hown hK hP 0 rfl rfl 5 (by decide) (hw _ wi_542) (fun _ h9 => h9) rfl dd_M_write_29 ?_
  refine lv_iconst (v := nI 1) hx hb dd_M_write_32 (by decide) ?_
  refine lv_iadd hx hb dd_M_write_33 ?_
  refine ct_topi (y := nI (M.length + 1)) (nI_add _ _) ?_
  refine va_put (D := D) (ci := 6) (v := .int (nI (M.length + 1))) (ty := .int) (C := cn_M) (T := cf_M) (N := 13) hx hb hw in_M ty_M to_M nn_M hown hK hP hD hS 0 rfl rfl 5 (by decide) (hw _ wi_542) (fun _ h9 => h9) rfl (by decide +kernel) (rfl) (rfl) (Nat.le_of_ble_eq_true rfl) dd_M_write_34 (fun H locs hP hD hS => ?_)
  have hP : va_P D classes [(q, .inr (6, [.int cd, .ref ta, .ref vb, .int (nI n), .ref ba, .int (nI (M.length + 1)), .int tk, .ref na, .ref nb, .int pl, .int wr, .int fz, .int fb])), (ba, .inl (cB, 400000, .inl (upd by0 M.length (nI (cp_b v (c0 - 1)).toNat))))] _ := hP
  have hD : va_D A [(q, .inr (6, [.int cd, .ref ta, .ref vb, .int (nI n), .ref ba, .int (nI (M.length + 1)), .int tk, .ref na, .ref nb, .int pl, .int wr, .int fz, .int fb])), (ba, .inl (cB, 400000, .inl (upd by0 M.length (nI (cp_b v (c0 - 1)).toNat))))] := hD
  rw [show M.length + 1 = (M ++ [cp_b v (c0 - 1)]).length by rw [List.length_append, List.length_singleton]] at hP hD
  have hP : va_P D classes [(q, .inr (6, [.int cd, .ref ta, .ref vb, .int (nI n), .ref ba, .int (nI ((M ++ [cp_b v (c0 - 1)]).length)), .int tk, .ref na, .ref nb, .int pl, .int wr, .int fz, .int fb])), (ba, .inl (cB, 400000, .inl (upd by0 M.length (nI (cp_b v (c0 - 1)).toNat))))] _ := hP
  have hD : va_D A [(q, .inr (6, [.int cd, .ref ta, .ref vb, .int (nI n), .ref ba, .int (nI ((M ++ [cp_b v (c0 - 1)]).length)), .int tk, .ref na, .ref nb, .int pl, .int wr, .int fz, .int fb])), (ba, .inl (cB, 400000, .inl (upd by0 M.length (nI (cp_b v (c0 - 1)).toNat))))] := hD
  refine lv_iinc (v := nI (c0 - 1) - nI 1) (lv' := [(4, .int (nI (c0 - 1) - nI 1)), (0, .ref q), (1, .long v)]) hx hb dd_M_write_37 hl (k := 2) rfl (mw_dec _) (by decide) rfl (fun ls hl => ?_)
  refine lv_goto (tgt := 5) hx hb dd_M_write_40 (by decide) ?_
  refine ih (c0 - 1, (M ++ [cp_b v (c0 - 1)]), upd by0 M.length (nI (cp_b v (c0 - 1)).toNat)) _ _ _ (by show c0 - 1 < c0; omega) ⟨hP, hD, hS, lv_sub hl [1, 2, 0] rfl, by show c0 - 1 ≤ 64; omega, by show (M ++ [cp_b v (c0 - 1)]).length + (c0 - 1) ≤ 400000; rw [List.length_append, List.length_singleton]; omega, mw_app hB _, mw_bl c_7 hE⟩

set_option maxHeartbeats 4000000 in
set_option maxRecDepth 100000 in
theorem cc_M_read (l : Launch) (D : va_G) (cJ cB : ClassId) (q ta vb ba na nb : Nat) (cd tk fz fb : Int32) (n : Nat) (L : List Bool) (by0 : Nat → Int32) (po w0 k : Nat) (sz : Nat) (hL : L.length ≤ 400000) (hB : cp_Rb by0 L) (hw0 : w0 ≤ 1) (hpo : po ≤ L.length) (hk : k ≤ 64) : ct_l l my_M_read (Cond.code my_M_read mb_M_read 5 (some .long) :: TB) ({ frames := 0, cells := 0, slots := 0, locals := 0 } : Room) D classes cJ cB [.ref q, .int (nI k)] [(q, .inr (6, [.int cd, .ref ta, .ref vb, .int (nI n), .ref ba, .int (nI L.length), .int tk, .ref na, .ref nb, .int (nI po), .int (nI w0), .int fz, .int fb])), (ba, .inl (cB, 400000, .inl by0))] sz (fun (r : Int64) (u : Nat × Nat) => (w0 = 0 ∧ po + k ≤ L.length → r = lN (cp_n L po k) ∧ u = (po + k, 0)) ∧ (¬ (w0 = 0 ∧ po + k ≤ L.length) → r = 0 ∧ u = (po, 1))) (fun u => [(q, .inr (6, [.int cd, .ref ta, .ref vb, .int (nI n), .ref ba, .int (nI L.length), .int tk, .ref na, .ref nb, .int (nI u.1), .int (nI u.2), .int fz, .int fb])), (ba, .inl (cB, 400000, .inl by0))]) 0 0 := by
  refine ct_ofW (cc := mb_M_read) (maxL := 5) (ret := some .long) (by decide) rfl (Nat.le_of_ble_eq_true rfl) ?_
  intro p e s m below meth c hx hb hr hml hts hown hlocks hin hsz hK hP hD hA hS hZ ls hl
  have hw : ∀ w ∈ TB, w.before _ s = true := fun w h => hts w (List.mem_cons_of_mem _ h)
  have hown : s.vm.findClass cn_M = some m.cls := hown
  have hin : meth.name = "read" := hin
  generalize hAe : va_A [(q, .inr (6, [.int cd, .ref ta, .ref vb, .int (nI n), .ref ba, .int (nI L.length), .int tk, .ref na, .ref nb, .int (nI po), .int (nI w0), .int fz, .int fb])), (ba, .inl (cB, 400000, .inl by0))] sz = A at hD hA hS hZ ⊢
  clear hAe
  have hl : lv_has ls 5 [(0, .ref q), (1, .int (nI k))] := hl
  have hP : va_P D classes [(q, .inr (6, [.int cd, .ref ta, .ref vb, .int (nI n), .ref ba, .int (nI L.length), .int tk, .ref na, .ref nb, .int (nI po), .int (nI w0), .int fz, .int fb])), (ba, .inl (cB, 400000, .inl by0))] s.heap := hP
  refine lv_aload_n hx hb dd_M_read_0 rfl (lv_at hl 0 rfl) ?_
  refine va_get (D := D) (ci := 6) (C := cn_M) (T := cf_M) (N := 13) hx hb hw in_M hown hK hP 0 rfl rfl 10 (by decide) (hw _ wi_547) (fun _ h9 => h9) rfl dd_M_read_1 ?_
  refine lv_if_ne (tgt := 20) hx hb dd_M_read_4 (by decide) (fun c_4 => ?_) (fun c_4 => ?_)
  · skip
    have c_4 : ¬ (w0 = 0) := fun z => c_4 ((ct_zeq (by omega)).mpr z)
    refine lv_aload_n hx hb dd_M_read_20 rfl (lv_at hl 0 rfl) ?_
    refine lv_iconst (v := nI 1) hx hb dd_M_read_21 (by decide) ?_
    refine va_put (D := D) (ci := 6) (v := .int (nI 1)) (ty := .boolean) (C := cn_M) (T := cf_M) (N := 13) hx hb hw in_M ty_M to_M nn_M hown hK hP hD hS 0 rfl rfl 10 (by decide) (hw _ wi_547) (fun _ h9 => h9) rfl (by decide +kernel) (by decide) (by decide) (Nat.le_of_ble_eq_true rfl) dd_M_read_22 (fun H locs hP hD hS => ?_)
    have hP : va_P D classes [(q, .inr (6, [.int cd, .ref ta, .ref vb, .int (nI n), .ref ba, .int (nI L.length), .int tk, .ref na, .ref nb, .int (nI po), .int (nI 1), .int fz, .int fb])), (ba, .inl (cB, 400000, .inl by0))] _ := hP
    have hD : va_D A [(q, .inr (6, [.int cd, .ref ta, .ref vb, .int (nI n), .ref ba, .int (nI L.length), .int tk, .ref na, .ref nb, .int (nI po), .int (nI 1), .int fz, .int fb])), (ba, .inl (cB, 400000, .inl by0))] := hD
    refine lv_lconst (v := 0) hx hb dd_M_read_25 (by decide) ?_
    refine ct_lret (u := (po, 1)) hx hb hr hlocks hK hP hD hS rfl ?_ dd_M_read_26
    exact ⟨fun z => absurd z (by omega), fun _ => ⟨rfl, rfl⟩⟩
  have c_4 : w0 = 0 := (ct_zeq (by omega)).mp c_4
  refine lv_aload_n hx hb dd_M_read_7 rfl (lv_at hl 0 rfl) ?_
  refine va_get (D := D) (ci := 6) (C := cn_M) (T := cf_M) (N := 13) hx hb hw in_M hown hK hP 0 rfl rfl 9 (by decide) (hw _ wi_546) (fun _ h9 => h9) rfl dd_M_read_8 ?_
  refine lv_iload_n hx hb dd_M_read_11 rfl (lv_at hl 1 rfl) ?_
  refine lv_iadd hx hb dd_M_read_12 ?_
  refine ct_topi (y := nI (po + k)) (nI_add _ _) ?_
  refine lv_aload_n hx hb dd_M_read_13 rfl (lv_at hl 0 rfl) ?_
  refine va_get (D := D) (ci := 6) (C := cn_M) (T := cf_M) (N := 13) hx hb hw in_M hown hK hP 0 rfl rfl 5 (by decide) (hw _ wi_542) (fun _ h9 => h9) rfl dd_M_read_14 ?_
  refine lv_icmp_le (tgt := 27) hx hb dd_M_read_17 (by decide) (fun c_17 => ?_) (fun c_17 => ?_)
  · skip
    have c_17 : (po + k) ≤ L.length := (nI_leI (by omega) (by omega)).mp c_17
    have hw1 : 0 = w0 := by omega
    subst hw1
    have hP : va_P D classes [(q, .inr (6, [.int cd, .ref ta, .ref vb, .int (nI n), .ref ba, .int (nI L.length), .int tk, .ref na, .ref nb, .int (nI po), .int (nI 0), .int fz, .int fb])), (ba, .inl (cB, 400000, .inl by0))] _ := hP
    have hD : va_D A [(q, .inr (6, [.int cd, .ref ta, .ref vb, .int (nI n), .ref ba, .int (nI L.length), .int tk, .ref na, .ref nb, .int (nI po), .int (nI 0), .int fz, .int fb])), (ba, .inl (cB, 400000, .inl by0))] := hD
    refine lv_lconst (v := 0) hx hb dd_M_read_27 (by decide) ?_
    refine lv_lstore_n (lv' := [(2, .long 0), (0, .ref q), (1, .int (nI k))]) hx hb dd_M_read_28 rfl hl (by decide) rfl (fun ls hl => ?_)
    refine lv_iconst (v := nI 0) hx hb dd_M_read_29 (by decide) ?_
    refine lv_istore (lv' := [(4, .int (nI 0)), (2, .long 0), (0, .ref q), (1, .int (nI k))]) hx hb dd_M_read_30 hl (by decide) rfl (fun ls hl => ?_)
    refine ct_loop (σ := Nat × Int64) (fun a H locs ls => va_P D classes [(q, .inr (6, [.int cd, .ref ta, .ref vb, .int (nI n), .ref ba, .int (nI L.length), .int tk, .ref na, .ref nb, .int (nI (po + a.1)), .int (nI 0), .int fz, .int fb])), (ba, .inl (cB, 400000, .inl by0))] H ∧ va_D A [(q, .inr (6, [.int cd, .ref ta, .ref vb, .int (nI n), .ref ba, .int (nI L.length), .int tk, .ref na, .ref nb, .int (nI (po + a.1)), .int (nI 0), .int fz, .int fb])), (ba, .inl (cB, 400000, .inl by0))] ∧ va_S A s.heap H locs ∧ lv_has ls 5 [(0, .ref q), (1, .int (nI k)), (2, .long a.2), (4, .int (nI a.1))] ∧ (a.1 ≤ k) ∧ (a.2 = lN (cp_n L po a.1))) (fun a => k - a.1) ?_ (0, 0) ⟨hP, hD, hS, lv_sub hl [2, 3, 1, 0] rfl, Nat.zero_le k, rfl⟩
    rintro ⟨i, acc⟩ H locs ls ⟨hP, hD, hS, hl, hi, ha⟩ ih
    have hP : va_P D classes [(q, .inr (6, [.int cd, .ref ta, .ref vb, .int (nI n), .ref ba, .int (nI L.length), .int tk, .ref na, .ref nb, .int (nI (po + i)), .int (nI 0), .int fz, .int fb])), (ba, .inl (cB, 400000, .inl by0))] _ := hP
    have hD : va_D A [(q, .inr (6, [.int cd, .ref ta, .ref vb, .int (nI n), .ref ba, .int (nI L.length), .int tk, .ref na, .ref nb, .int (nI (po + i)), .int (nI 0), .int fz, .int fb])), (ba, .inl (cB, 400000, .inl by0))] := hD
    have hl : lv_has ls 5 [(0, .ref q), (1, .int (nI k)), (2, .long acc), (4, .int (nI i))] := hl
    have hi : i ≤ k := hi
    have ha : acc = lN (cp_n L po i) := ha
    refine lv_iload hx hb dd_M_read_32 (lv_at hl 3 rfl) ?_
    refine lv_iload_n hx hb dd_M_read_34 rfl (lv_at hl 1 rfl) ?_
    refine lv_icmp_ge (tgt := 69) hx hb dd_M_read_35 (by decide) (fun c_35 => ?_) (fun c_35 => ?_)
    · skip
      have c_35 : k ≤ i := (nI_leI (by omega) (by omega)).mp c_35
      have hik : k = i := by omega
      subst hik
      subst ha
      have hP : va_P D classes [(q, .inr (6, [.int cd, .ref ta, .ref vb, .int (nI n), .ref ba, .int (nI L.length), .int tk, .ref na, .ref nb, .int (nI (po + k)), .int (nI 0), .int fz, .int fb])), (ba, .inl (cB, 400000, .inl by0))] _ := hP
      have hD : va_D A [(q, .inr (6, [.int cd, .ref ta, .ref vb, .int (nI n), .ref ba, .int (nI L.length), .int tk, .ref na, .ref nb, .int (nI (po + k)), .int (nI 0), .int fz, .int fb])), (ba, .inl (cB, 400000, .inl by0))] := hD
      have hl : lv_has ls 5 [(0, .ref q), (1, .int (nI k)), (2, .long (lN (cp_n L po k))), (4, .int (nI k))] := hl
      refine lv_lload_n hx hb dd_M_read_69 rfl (lv_at hl 2 rfl) ?_
      refine ct_lret (u := (po + k, 0)) hx hb hr hlocks hK hP hD hS rfl ?_ dd_M_read_70
      exact ⟨fun _ => ⟨rfl, rfl⟩, fun z => absurd ⟨rfl, c_17⟩ z⟩
    have c_35 : ¬ (k ≤ i) := fun z => c_35 ((nI_leI (by omega) (by omega)).mpr z)
    subst ha
    have hl : lv_has ls 5 [(0, .ref q), (1, .int (nI k)), (2, .long (lN (cp_n L po i))), (4, .int (nI i))] := hl
    refine lv_lload_n hx hb dd_M_read_38 rfl (lv_at hl 2 rfl) ?_
    refine lv_iconst (v := nI 1) hx hb dd_M_read_39 (by decide) ?_
    refine lv_lshl (v := (lN (cp_n L po i)) <<< ((nI 1).toInt64 &&& 63)) hx hb dd_M_read_40 rfl ?_
    refine lv_aload_n hx hb dd_M_read_41 rfl (lv_at hl 0 rfl) ?_
    refine va_get (D := D) (ci := 6) (C := cn_M) (T := cf_M) (N := 13) hx hb hw in_M hown hK hP 0 rfl rfl 4 (by decide) (hw _ wi_541) (fun _ h9 => h9) rfl dd_M_read_42 ?_
    refine lv_aload_n hx hb dd_M_read_45 rfl (lv_at hl 0 rfl) ?_
    refine va_get (D := D) (ci := 6) (C := cn_M) (T := cf_M) (N := 13) hx hb hw in_M hown hK hP 0 rfl rfl 9 (by decide) (hw _ wi_546) (fun _ h9 => h9) rfl dd_M_read_46 ?_
    refine va_bald hx hb hK hP 1 1 rfl rfl (vp_in_nI (by omega) (by omega)) dd_M_read_49 ?_
    refine ct_topi (y := by0 (po + i)) (by rw [nI_clamp (by omega)]) ?_
    refine lv_i2l (v := (by0 (po + i)).toInt64) hx hb dd_M_read_50 rfl ?_
    refine lv_lor hx hb dd_M_read_51 ?_
    refine ct_topl (y := lN (cp_n L po (i + 1))) (mr_acc hB (by omega) (by omega)) ?_
    refine lv_lstore_n (lv' := [(2, .long (lN (cp_n L po (i + 1)))), (0, .ref q), (1, .int (nI k)), (4, .int (nI i))]) hx hb dd_M_read_52 rfl hl (by decide) rfl (fun ls hl => ?_)
    refine lv_aload_n hx hb dd_M_read_53 rfl (lv_at hl 1 rfl) ?_
    refine lv_dup hx hb dd_M_read_54 rfl ?_
    refine va_get (D := D) (ci := 6) (C := cn_M) (T := cf_M) (N := 13) hx hb hw in_M hown hK hP 0 rfl rfl 9 (by decide) (hw _ wi_546) (fun _ h9 => h9) rfl dd_M_read_55 ?_
    refine lv_iconst (v := nI 1) hx hb dd_M_read_58 (by decide) ?_
    refine lv_iadd hx hb dd_M_read_59 ?_
    refine ct_topi (y := nI (po + i + 1)) (nI_add _ _) ?_
    refine va_put (D := D) (ci := 6) (v := .int (nI (po + i + 1))) (ty := .int) (C := cn_M) (T := cf_M) (N := 13) hx hb hw in_M ty_M to_M nn_M hown hK hP hD hS 0 rfl rfl 9 (by decide) (hw _ wi_546) (fun _ h9 => h9) rfl (by decide +kernel) (rfl) (rfl) (Nat.le_of_ble_eq_true rfl) dd_M_read_60 (fun H locs hP hD hS => ?_)
    have hP : va_P D classes [(q, .inr (6, [.int cd, .ref ta, .ref vb, .int (nI n), .ref ba, .int (nI L.length), .int tk, .ref na, .ref nb, .int (nI (po + i + 1)), .int (nI 0), .int fz, .int fb])), (ba, .inl (cB, 400000, .inl by0))] _ := hP
    have hD : va_D A [(q, .inr (6, [.int cd, .ref ta, .ref vb, .int (nI n), .ref ba, .int (nI L.length), .int tk, .ref na, .ref nb, .int (nI (po + i + 1)), .int (nI 0), .int fz, .int fb])), (ba, .inl (cB, 400000, .inl by0))] := hD
    refine lv_iinc (v := nI (i + 1)) (lv' := [(4, .int (nI (i + 1))), (2, .long (lN (cp_n L po (i + 1)))), (0, .ref q), (1, .int (nI k))]) hx hb dd_M_read_63 hl (k := 3) rfl (nI_1 i) (by decide) rfl (fun ls hl => ?_)
    refine lv_goto (tgt := 32) hx hb dd_M_read_66 (by decide) ?_
    refine ih (i + 1, lN (cp_n L po (i + 1))) _ _ _ (by show k - (i + 1) < k - i; omega) ⟨hP, hD, hS, lv_sub hl [2, 3, 1, 0] rfl, by show i + 1 ≤ k; omega, rfl⟩
  have c_17 : ¬ ((po + k) ≤ L.length) := fun z => c_17 ((nI_leI (by omega) (by omega)).mpr z)
  refine lv_aload_n hx hb dd_M_read_20 rfl (lv_at hl 0 rfl) ?_
  refine lv_iconst (v := nI 1) hx hb dd_M_read_21 (by decide) ?_
  refine va_put (D := D) (ci := 6) (v := .int (nI 1)) (ty := .boolean) (C := cn_M) (T := cf_M) (N := 13) hx hb hw in_M ty_M to_M nn_M hown hK hP hD hS 0 rfl rfl 10 (by decide) (hw _ wi_547) (fun _ h9 => h9) rfl (by decide +kernel) (by decide) (by decide) (Nat.le_of_ble_eq_true rfl) dd_M_read_22 (fun H locs hP hD hS => ?_)
  have hP : va_P D classes [(q, .inr (6, [.int cd, .ref ta, .ref vb, .int (nI n), .ref ba, .int (nI L.length), .int tk, .ref na, .ref nb, .int (nI po), .int (nI 1), .int fz, .int fb])), (ba, .inl (cB, 400000, .inl by0))] _ := hP
  have hD : va_D A [(q, .inr (6, [.int cd, .ref ta, .ref vb, .int (nI n), .ref ba, .int (nI L.length), .int tk, .ref na, .ref nb, .int (nI po), .int (nI 1), .int fz, .int fb])), (ba, .inl (cB, 400000, .inl by0))] := hD
  refine lv_lconst (v := 0) hx hb dd_M_read_25 (by decide) ?_
  refine ct_lret (u := (po, 1)) hx hb hr hlocks hK hP hD hS rfl ?_ dd_M_read_26
  exact ⟨fun z => absurd z (by omega), fun _ => ⟨rfl, rfl⟩⟩
