/-! the JDK's counts of zeros -/
theorem wb_shr {n k : Nat} (hn : n < 2 ^ 64) (hk : k < 64) : ((lN n).toUInt64 >>> ((nI k).toInt64.toUInt64 &&& Int64.toUInt64 63)).toInt64 = lN (n / 2 ^ k) := by
  apply cp_ext
  intro j hj
  rw [cp_ushr _ hk, cp_N, cp_N, decide_eq_true hj, Bool.true_and, Nat.testBit_div_two_pow]
  rw [Nat.add_comm k j]
  by_cases c : j + k < 64
  · rw [decide_eq_true c, Bool.true_and]
  · rw [decide_eq_false c, Bool.false_and, Nat.testBit_lt_two_pow (Nat.lt_of_lt_of_le hn (Nat.pow_le_pow_right (by decide) (by omega)))]
theorem cz_eq0 {n : Nat} (h : n < 2 ^ 32) : nI n = 0 ↔ n = 0 := by
  constructor
  · intro e
    have := congrArg (fun z : Int32 => z.toBitVec.toNat) e
    rw [pk_tn h] at this
    exact this
  · intro e; subst e; exact nI_0
theorem cz_gt {n : Nat} (h : n < 2 ^ 32) (h0 : n ≠ 0) : 0 < nI n ↔ n < 2147483648 := by
  rw [Int32.lt_iff_toInt_lt, Int32.toInt_zero]
  show 0 < (nI n).toBitVec.toInt ↔ _
  rw [BitVec.toInt_eq_toNat_cond, pk_tn h]
  split <;> omega
theorem cz_pw {a m : Nat} {k : Nat} (h1 : 2 ^ m ≤ a) (h2 : a < 2 ^ k) : m < k := by
  rcases Nat.lt_or_ge m k with c | c
  · exact c
  · have := Nat.pow_le_pow_right (show 0 < 2 by decide) c
    omega
theorem cz_end {a i s m n : Nat} (hi : i = a / 2 ^ s) (h1 : 2 ^ m ≤ a) (h2 : a < 2 ^ (m + 1)) (h3 : 1 ≤ i) (h4 : i < 4) (hn : n + s = 31) : nI (n - i / 2) = nI (31 - m) := by
  have hp := Nat.two_pow_pos s
  have e1 := Nat.div_mul_le_self a (2 ^ s)
  have e2 := Nat.lt_div_mul_add (a := a) hp
  rw [← hi] at e1 e2
  have q1 : 2 ^ (s + 1) = 2 * 2 ^ s := by rw [Nat.pow_succ]; omega
  have q2 : 2 ^ (s + 2) = 4 * 2 ^ s := by rw [Nat.pow_succ, q1]; omega
  have hm : m = s + i / 2 := by
    have : i = 1 ∨ i = 2 ∨ i = 3 := by omega
    rcases this with z | z | z <;> subst z
    · have a1 : m < s + 1 := cz_pw h1 (by rw [q1]; omega)
      have a2 : s < m + 1 := cz_pw (a := a) (by omega) h2
      omega
    · have a1 : m < s + 2 := cz_pw h1 (by rw [q2]; omega)
      have a2 : s + 1 < m + 1 := cz_pw (a := a) (by rw [q1]; omega) h2
      omega
    · have a1 : m < s + 2 := cz_pw h1 (by rw [q2]; omega)
      have a2 : s + 1 < m + 1 := cz_pw (a := a) (by rw [q1]; omega) h2
      omega
  congr 1
  omega
theorem cz_div {a m : Nat} (hm : 32 ≤ m) (h1 : 2 ^ m ≤ a) (h2 : a < 2 ^ (m + 1)) : 2 ^ (m - 32) ≤ a / 4294967296 ∧ a / 4294967296 < 2 ^ (m - 32 + 1) := by
  have e1 : 2 ^ m = 2 ^ (m - 32) * 4294967296 := by rw [show (4294967296 : Nat) = 2 ^ 32 by decide, ← Nat.pow_add]; congr 1; omega
  have e2 : 2 ^ (m + 1) = 2 ^ (m - 32 + 1) * 4294967296 := by rw [show (4294967296 : Nat) = 2 ^ 32 by decide, ← Nat.pow_add]; congr 1; omega
  exact ⟨(Nat.le_div_iff_mul_le (by decide)).mpr (by omega), (Nat.div_lt_iff_lt_mul (by decide)).mpr (by omega)⟩
theorem cz_ge {a m : Nat} (h2 : a < 2 ^ (m + 1)) (h : ¬ a / 4294967296 = 0) : 32 ≤ m := by
  rcases Nat.lt_or_ge m 32 with c | c
  · have : 2 ^ (m + 1) ≤ 2 ^ 32 := Nat.pow_le_pow_right (by decide) (by omega)
    omega
  · exact c
theorem cz_p {k : Nat} (h : k ≤ 31) : 2 ^ k ≤ 2147483648 := by
  have := Nat.pow_le_pow_right (show 0 < 2 by decide) h
  exact this
theorem cz_c : ∀ k, k < 32 → (65536 < 2 ^ k - 1 ↔ 16 < k) ∧ (256 < 2 ^ k - 1 ↔ 8 < k) ∧ (16 < 2 ^ k - 1 ↔ 4 < k) ∧ (4 < 2 ^ k - 1 ↔ 2 < k) ∧ (0 < 2 ^ k - 1 ↔ 0 < k) := by decide
theorem cz_s : ∀ k, k < 32 → (16 < k → (2 ^ k - 1) / 65536 = 2 ^ (k - 16) - 1) ∧ (8 < k → (2 ^ k - 1) / 256 = 2 ^ (k - 8) - 1) ∧ (4 < k → (2 ^ k - 1) / 16 = 2 ^ (k - 4) - 1) ∧ (2 < k → (2 ^ k - 1) / 4 = 2 ^ (k - 2) - 1) := by decide
theorem cz_tend {te n t : Nat} (h : te = 1 ∨ te = 2) (hn : n + te = t + 1) : nI (n + (2 ^ te - 1) / 2) = nI t := by
  rcases h with z | z <;> subst z <;> congr 1 <;> omega
theorem cz_low {a t b : Nat} (ht : t < 32) (h : a = 2 ^ (t + 1) * b + 2 ^ t) : (nI a ^^^ (-1)) &&& nI (a - 1) = nI (2 ^ t - 1) := by
  have hp := Nat.two_pow_pos t
  have hq : 2 ^ t < 2 ^ (t + 1) := Nat.pow_lt_pow_right (by decide) (by omega)
  apply Int32.toBitVec_inj.mp
  apply BitVec.eq_of_getLsbD_eq
  intro j hj
  rw [Int32.toBitVec_and, Int32.toBitVec_xor, BitVec.getLsbD_and, BitVec.getLsbD_xor]
  show ((cz_b (nI a) j ^^ ((-1 : Int32).toBitVec).getLsbD j) && cz_b (nI (a - 1)) j) = cz_b (nI (2 ^ t - 1)) j
  rw [show (-1 : Int32).toBitVec = BitVec.allOnes 32 by decide, BitVec.getLsbD_allOnes, cz_N, cz_N, cz_N, decide_eq_true hj, Bool.true_and, Bool.true_and, Bool.true_and, show a - 1 = 2 ^ (t + 1) * b + (2 ^ t - 1) by omega, Nat.testBit_two_pow_mul_add _ (show 2 ^ t - 1 < 2 ^ (t + 1) by omega), h, Nat.testBit_two_pow_mul_add _ hq, Nat.testBit_two_pow, Nat.testBit_two_pow_sub_one]
  by_cases c : j < t + 1
  · rw [if_pos c, if_pos c]
    by_cases d : t = j
    · rw [decide_eq_true d, decide_eq_false (by omega)]; rfl
    · rw [decide_eq_false d, decide_eq_true (by omega)]; rfl
  · rw [if_neg c, if_neg c, decide_eq_false (by omega)]
    cases b.testBit (j - (t + 1)) <;> rfl
theorem cz_lo0 {a t b : Nat} (ht : t < 64) (h : a = 2 ^ (t + 1) * b + 2 ^ t) : nI a = 0 ↔ 32 ≤ t := by
  have hp := Nat.two_pow_pos t
  have hq : 2 ^ t < 2 ^ (t + 1) := Nat.pow_lt_pow_right (by decide) (by omega)
  constructor
  · intro z
    rcases Nat.lt_or_ge t 32 with c | c
    · have e : cz_b (nI a) t = true := by
        rw [cz_N, decide_eq_true c, Bool.true_and, h, Nat.testBit_two_pow_mul_add _ hq, if_pos (by omega), Nat.testBit_two_pow, decide_eq_true rfl]
      rw [z] at e
      unfold cz_b at e
      rw [show (0 : Int32).toBitVec = 0#32 by decide, BitVec.getLsbD_zero] at e
      cases e
    · exact c
  · intro c
    apply Int32.toBitVec_inj.mp
    apply BitVec.eq_of_getLsbD_eq
    intro j hj
    show cz_b (nI a) j = (0#32).getLsbD j
    rw [BitVec.getLsbD_zero, cz_N, h, Nat.testBit_two_pow_mul_add _ hq, if_pos (by omega), Nat.testBit_two_pow, decide_eq_false (show ¬ t = j by omega), Bool.and_false]
theorem cz_hi {a t b : Nat} (ht : 32 ≤ t) (h : a = 2 ^ (t + 1) * b + 2 ^ t) : a / 4294967296 = 2 ^ (t - 32 + 1) * b + 2 ^ (t - 32) := by
  have e1 : 2 ^ t = 2 ^ (t - 32) * 4294967296 := by rw [show (4294967296 : Nat) = 2 ^ 32 by decide, ← Nat.pow_add]; congr 1; omega
  have e2 : 2 ^ (t + 1) = 2 ^ (t - 32 + 1) * 4294967296 := by rw [show (4294967296 : Nat) = 2 ^ 32 by decide, ← Nat.pow_add]; congr 1; omega
  rw [h, e1, e2, Nat.mul_right_comm, ← Nat.add_mul, Nat.mul_div_cancel _ (by decide)]

set_option maxHeartbeats 4000000 in
set_option maxRecDepth 100000 in
theorem cc_I_numberOfLeadingZeros (l : Launch) (D : va_G) (cJ cB : ClassId) (a mm : Nat) (sz : Nat) (ha : a < 4294967296) (h1 : 2 ^ mm ≤ a) (h2 : a < 2 ^ (mm + 1)) : ct_i l my_I_numberOfLeadingZeros (Cond.code my_I_numberOfLeadingZeros mb_I_numberOfLeadingZeros 2 (some .int) :: TB) ({ frames := 0, cells := 0, slots := 0, locals := 0 } : Room) D classes cJ cB [.int (nI a)] [] sz (fun (r : Int32) (u : Unit) => r = nI (31 - mm)) (fun u => ([] : va_W)) 0 0 := by
  refine ct_ofW (cc := mb_I_numberOfLeadingZeros) (maxL := 2) (ret := some .int) (by decide) rfl (Nat.le_of_ble_eq_true rfl) ?_
  intro p e s m below meth c hx hb hr hml hts hown hlocks hin hsz hK hP hD hA hS hZ ls hl
  have hw : ∀ w ∈ TB, w.before _ s = true := fun w h => hts w (List.mem_cons_of_mem _ h)
  have hown : s.vm.findClass cn_I = some m.cls := hown
  have hin : meth.name = "numberOfLeadingZeros" := hin
  generalize hAe : va_A [] sz = A at hD hA hS hZ ⊢
  clear hAe
  have ha0 : a ≠ 0 := by have := Nat.two_pow_pos mm; omega
  have hl : lv_has ls 2 [(0, .int (nI a))] := hl
  have hP : va_P D classes [] s.heap := hP
  refine lv_iload_n hx hb dd_I_numberOfLeadingZeros_0 rfl (lv_at hl 0 rfl) ?_
  refine lv_if_gt (tgt := 15) hx hb dd_I_numberOfLeadingZeros_1 (by decide) (fun c_1 => ?_) (fun c_1 => ?_)
  · skip
    have c_1 : a < 2147483648 := (cz_gt (n := a) ha ha0).mp c_1
    refine lv_bipush (v := nI 31) hx hb dd_I_numberOfLeadingZeros_15 (by decide) ?_
    refine lv_istore_n (lv' := [(1, .int (nI 31)), (0, .int (nI a))]) hx hb dd_I_numberOfLeadingZeros_17 rfl hl (by decide) rfl (fun ls hl => ?_)
    refine lv_iload_n hx hb dd_I_numberOfLeadingZeros_18 rfl (lv_at hl 1 rfl) ?_
    refine lv_ldcw (v := 65536) hx hb hown (hw _ wi_327) dd_I_numberOfLeadingZeros_19 ?_
    refine ct_topi (y := nI 65536) (by decide) ?_
    refine lv_icmp_lt (tgt := 33) hx hb dd_I_numberOfLeadingZeros_22 (by decide) (fun c_22 => ?_) (fun c_22 => ?_)
    · skip
      have c_22 : a < 65536 := (nI_ltI (by omega) (by omega)).mp c_22
      refine lv_iload_n hx hb dd_I_numberOfLeadingZeros_33 rfl (lv_at hl 1 rfl) ?_
      refine lv_sipush (v := nI 256) hx hb dd_I_numberOfLeadingZeros_34 (by decide) ?_
      refine lv_icmp_lt (tgt := 48) hx hb dd_I_numberOfLeadingZeros_37 (by decide) (fun c_37 => ?_) (fun c_37 => ?_)
      · skip
        have c_37 : a < 256 := (nI_ltI (by omega) (by omega)).mp c_37
        refine lv_iload_n hx hb dd_I_numberOfLeadingZeros_48 rfl (lv_at hl 1 rfl) ?_
        refine lv_bipush (v := nI 16) hx hb dd_I_numberOfLeadingZeros_49 (by decide) ?_
        refine lv_icmp_lt (tgt := 61) hx hb dd_I_numberOfLeadingZeros_51 (by decide) (fun c_51 => ?_) (fun c_51 => ?_)
        · skip
          have c_51 : a < 16 := (nI_ltI (by omega) (by omega)).mp c_51
          refine lv_iload_n hx hb dd_I_numberOfLeadingZeros_61 rfl (lv_at hl 1 rfl) ?_
          refine lv_iconst (v := nI 4) hx hb dd_I_numberOfLeadingZeros_62 (by decide) ?_
          refine lv_icmp_lt (tgt := 73) hx hb dd_I_numberOfLeadingZeros_63 (by decide) (fun c_63 => ?_) (fun c_63 => ?_)
          · skip
            have c_63 : a < 4 := (nI_ltI (by omega) (by omega)).mp c_63
            refine lv_iload_n hx hb dd_I_numberOfLeadingZeros_73 rfl (lv_at hl 0 rfl) ?_
            refine lv_iload_n hx hb dd_I_numberOfLeadingZeros_74 rfl (lv_at hl 1 rfl) ?_
            refine lv_iconst (v := nI 1) hx hb dd_I_numberOfLeadingZeros_75 (by decide) ?_
            refine lv_iushr (v := ((nI a).toUInt32 >>> ((nI 1).toUInt32 &&& Int32.toUInt32 31)).toInt32) hx hb dd_I_numberOfLeadingZeros_76 rfl ?_
            refine ct_topi (y := nI (a / 2)) (pk_ushrN (by omega) (nI 1) 1 (by decide)) ?_
            refine lv_isub hx hb dd_I_numberOfLeadingZeros_77 ?_
            refine ct_topi (y := nI (31 - (a / 2))) (pk_sub (by omega)) ?_
            refine ct_iret (u := ()) hx hb hr hlocks hK hP hD hS rfl ?_ dd_I_numberOfLeadingZeros_78
            exact cz_end (a := a) (s := 0) (by omega) h1 h2 (by omega) (by omega) (by decide)
          have c_63 : ¬ (a < 4) := fun z => c_63 ((nI_ltI (by omega) (by omega)).mpr z)
          refine lv_iinc (v := nI 29) (lv' := [(1, .int (nI 29)), (0, .int (nI a))]) hx hb dd_I_numberOfLeadingZeros_66 hl (k := 0) rfl (by decide) (by decide) rfl (fun ls hl => ?_)
          refine lv_iload_n hx hb dd_I_numberOfLeadingZeros_69 rfl (lv_at hl 1 rfl) ?_
          refine lv_iconst (v := nI 2) hx hb dd_I_numberOfLeadingZeros_70 (by decide) ?_
          refine lv_iushr (v := ((nI a).toUInt32 >>> ((nI 2).toUInt32 &&& Int32.toUInt32 31)).toInt32) hx hb dd_I_numberOfLeadingZeros_71 rfl ?_
          refine ct_topi (y := nI (a / 4)) (pk_ushrN (by omega) (nI 2) 2 (by decide)) ?_
          refine lv_istore_n (lv' := [(0, .int (nI (a / 4))), (1, .int (nI 29))]) hx hb dd_I_numberOfLeadingZeros_72 rfl hl (by decide) rfl (fun ls hl => ?_)
          refine lv_iload_n hx hb dd_I_numberOfLeadingZeros_73 rfl (lv_at hl 1 rfl) ?_
          refine lv_iload_n hx hb dd_I_numberOfLeadingZeros_74 rfl (lv_at hl 0 rfl) ?_
          refine lv_iconst (v := nI 1) hx hb dd_I_numberOfLeadingZeros_75 (by decide) ?_
          refine lv_iushr (v := ((nI (a / 4)).toUInt32 >>> ((nI 1).toUInt32 &&& Int32.toUInt32 31)).toInt32) hx hb dd_I_numberOfLeadingZeros_76 rfl ?_
          refine ct_topi (y := nI (a / 4 / 2)) (pk_ushrN (by omega) (nI 1) 1 (by decide)) ?_
          refine lv_isub hx hb dd_I_numberOfLeadingZeros_77 ?_
          refine ct_topi (y := nI (29 - (a / 4 / 2))) (pk_sub (by omega)) ?_
          refine ct_iret (u := ()) hx hb hr hlocks hK hP hD hS rfl ?_ dd_I_numberOfLeadingZeros_78
          exact cz_end (a := a) (s := 2) (by omega) h1 h2 (by omega) (by omega) (by decide)
        have c_51 : ¬ (a < 16) := fun z => c_51 ((nI_ltI (by omega) (by omega)).mpr z)
        refine lv_iinc (v := nI 27) (lv' := [(1, .int (nI 27)), (0, .int (nI a))]) hx hb dd_I_numberOfLeadingZeros_54 hl (k := 0) rfl (by decide) (by decide) rfl (fun ls hl => ?_)
        refine lv_iload_n hx hb dd_I_numberOfLeadingZeros_57 rfl (lv_at hl 1 rfl) ?_
        refine lv_iconst (v := nI 4) hx hb dd_I_numberOfLeadingZeros_58 (by decide) ?_
        refine lv_iushr (v := ((nI a).toUInt32 >>> ((nI 4).toUInt32 &&& Int32.toUInt32 31)).toInt32) hx hb dd_I_numberOfLeadingZeros_59 rfl ?_
        refine ct_topi (y := nI (a / 16)) (pk_ushrN (by omega) (nI 4) 4 (by decide)) ?_
        refine lv_istore_n (lv' := [(0, .int (nI (a / 16))), (1, .int (nI 27))]) hx hb dd_I_numberOfLeadingZeros_60 rfl hl (by decide) rfl (fun ls hl => ?_)
        refine lv_iload_n hx hb dd_I_numberOfLeadingZeros_61 rfl (lv_at hl 0 rfl) ?_
        refine lv_iconst (v := nI 4) hx hb dd_I_numberOfLeadingZeros_62 (by decide) ?_
        refine lv_icmp_lt (tgt := 73) hx hb dd_I_numberOfLeadingZeros_63 (by decide) (fun c_63 => ?_) (fun c_63 => ?_)
        · skip
          have c_63 : (a / 16) < 4 := (nI_ltI (by omega) (by omega)).mp c_63
          refine lv_iload_n hx hb dd_I_numberOfLeadingZeros_73 rfl (lv_at hl 1 rfl) ?_
          refine lv_iload_n hx hb dd_I_numberOfLeadingZeros_74 rfl (lv_at hl 0 rfl) ?_
          refine lv_iconst (v := nI 1) hx hb dd_I_numberOfLeadingZeros_75 (by decide) ?_
          refine lv_iushr (v := ((nI (a / 16)).toUInt32 >>> ((nI 1).toUInt32 &&& Int32.toUInt32 31)).toInt32) hx hb dd_I_numberOfLeadingZeros_76 rfl ?_
          refine ct_topi (y := nI (a / 16 / 2)) (pk_ushrN (by omega) (nI 1) 1 (by decide)) ?_
          refine lv_isub hx hb dd_I_numberOfLeadingZeros_77 ?_
          refine ct_topi (y := nI (27 - (a / 16 / 2))) (pk_sub (by omega)) ?_
          refine ct_iret (u := ()) hx hb hr hlocks hK hP hD hS rfl ?_ dd_I_numberOfLeadingZeros_78
          exact cz_end (a := a) (s := 4) (by omega) h1 h2 (by omega) (by omega) (by decide)
        have c_63 : ¬ ((a / 16) < 4) := fun z => c_63 ((nI_ltI (by omega) (by omega)).mpr z)
        refine lv_iinc (v := nI 25) (lv' := [(1, .int (nI 25)), (0, .int (nI (a / 16)))]) hx hb dd_I_numberOfLeadingZeros_66 hl (k := 1) rfl (by decide) (by decide) rfl (fun ls hl => ?_)
        refine lv_iload_n hx hb dd_I_numberOfLeadingZeros_69 rfl (lv_at hl 1 rfl) ?_
        refine lv_iconst (v := nI 2) hx hb dd_I_numberOfLeadingZeros_70 (by decide) ?_
        refine lv_iushr (v := ((nI (a / 16)).toUInt32 >>> ((nI 2).toUInt32 &&& Int32.toUInt32 31)).toInt32) hx hb dd_I_numberOfLeadingZeros_71 rfl ?_
        refine ct_topi (y := nI (a / 16 / 4)) (pk_ushrN (by omega) (nI 2) 2 (by decide)) ?_
        refine lv_istore_n (lv' := [(0, .int (nI (a / 16 / 4))), (1, .int (nI 25))]) hx hb dd_I_numberOfLeadingZeros_72 rfl hl (by decide) rfl (fun ls hl => ?_)
        refine lv_iload_n hx hb dd_I_numberOfLeadingZeros_73 rfl (lv_at hl 1 rfl) ?_
        refine lv_iload_n hx hb dd_I_numberOfLeadingZeros_74 rfl (lv_at hl 0 rfl) ?_
        refine lv_iconst (v := nI 1) hx hb dd_I_numberOfLeadingZeros_75 (by decide) ?_
        refine lv_iushr (v := ((nI (a / 16 / 4)).toUInt32 >>> ((nI 1).toUInt32 &&& Int32.toUInt32 31)).toInt32) hx hb dd_I_numberOfLeadingZeros_76 rfl ?_
        refine ct_topi (y := nI (a / 16 / 4 / 2)) (pk_ushrN (by omega) (nI 1) 1 (by decide)) ?_
        refine lv_isub hx hb dd_I_numberOfLeadingZeros_77 ?_
        refine ct_topi (y := nI (25 - (a / 16 / 4 / 2))) (pk_sub (by omega)) ?_
        refine ct_iret (u := ()) hx hb hr hlocks hK hP hD hS rfl ?_ dd_I_numberOfLeadingZeros_78
        exact cz_end (a := a) (s := 6) (by omega) h1 h2 (by omega) (by omega) (by decide)
      have c_37 : ¬ (a < 256) := fun z => c_37 ((nI_ltI (by omega) (by omega)).mpr z)
      refine lv_iinc (v := nI 23) (lv' := [(1, .int (nI 23)), (0, .int (nI a))]) hx hb dd_I_numberOfLeadingZeros_40 hl (k := 0) rfl (by decide) (by decide) rfl (fun ls hl => ?_)
      refine lv_iload_n hx hb dd_I_numberOfLeadingZeros_43 rfl (lv_at hl 1 rfl) ?_
      refine lv_bipush (v := nI 8) hx hb dd_I_numberOfLeadingZeros_44 (by decide) ?_
      refine lv_iushr (v := ((nI a).toUInt32 >>> ((nI 8).toUInt32 &&& Int32.toUInt32 31)).toInt32) hx hb dd_I_numberOfLeadingZeros_46 rfl ?_
      refine ct_topi (y := nI (a / 256)) (pk_ushrN (by omega) (nI 8) 8 (by decide)) ?_
      refine lv_istore_n (lv' := [(0, .int (nI (a / 256))), (1, .int (nI 23))]) hx hb dd_I_numberOfLeadingZeros_47 rfl hl (by decide) rfl (fun ls hl => ?_)
      refine lv_iload_n hx hb dd_I_numberOfLeadingZeros_48 rfl (lv_at hl 0 rfl) ?_
      refine lv_bipush (v := nI 16) hx hb dd_I_numberOfLeadingZeros_49 (by decide) ?_
      refine lv_icmp_lt (tgt := 61) hx hb dd_I_numberOfLeadingZeros_51 (by decide) (fun c_51 => ?_) (fun c_51 => ?_)
      · skip
        have c_51 : (a / 256) < 16 := (nI_ltI (by omega) (by omega)).mp c_51
        refine lv_iload_n hx hb dd_I_numberOfLeadingZeros_61 rfl (lv_at hl 0 rfl) ?_
        refine lv_iconst (v := nI 4) hx hb dd_I_numberOfLeadingZeros_62 (by decide) ?_
        refine lv_icmp_lt (tgt := 73) hx hb dd_I_numberOfLeadingZeros_63 (by decide) (fun c_63 => ?_) (fun c_63 => ?_)
        · skip
          have c_63 : (a / 256) < 4 := (nI_ltI (by omega) (by omega)).mp c_63
          refine lv_iload_n hx hb dd_I_numberOfLeadingZeros_73 rfl (lv_at hl 1 rfl) ?_
          refine lv_iload_n hx hb dd_I_numberOfLeadingZeros_74 rfl (lv_at hl 0 rfl) ?_
          refine lv_iconst (v := nI 1) hx hb dd_I_numberOfLeadingZeros_75 (by decide) ?_
          refine lv_iushr (v := ((nI (a / 256)).toUInt32 >>> ((nI 1).toUInt32 &&& Int32.toUInt32 31)).toInt32) hx hb dd_I_numberOfLeadingZeros_76 rfl ?_
          refine ct_topi (y := nI (a / 256 / 2)) (pk_ushrN (by omega) (nI 1) 1 (by decide)) ?_
          refine lv_isub hx hb dd_I_numberOfLeadingZeros_77 ?_
          refine ct_topi (y := nI (23 - (a / 256 / 2))) (pk_sub (by omega)) ?_
          refine ct_iret (u := ()) hx hb hr hlocks hK hP hD hS rfl ?_ dd_I_numberOfLeadingZeros_78
          exact cz_end (a := a) (s := 8) (by omega) h1 h2 (by omega) (by omega) (by decide)
        have c_63 : ¬ ((a / 256) < 4) := fun z => c_63 ((nI_ltI (by omega) (by omega)).mpr z)
        refine lv_iinc (v := nI 21) (lv' := [(1, .int (nI 21)), (0, .int (nI (a / 256)))]) hx hb dd_I_numberOfLeadingZeros_66 hl (k := 1) rfl (by decide) (by decide) rfl (fun ls hl => ?_)
        refine lv_iload_n hx hb dd_I_numberOfLeadingZeros_69 rfl (lv_at hl 1 rfl) ?_
        refine lv_iconst (v := nI 2) hx hb dd_I_numberOfLeadingZeros_70 (by decide) ?_
        refine lv_iushr (v := ((nI (a / 256)).toUInt32 >>> ((nI 2).toUInt32 &&& Int32.toUInt32 31)).toInt32) hx hb dd_I_numberOfLeadingZeros_71 rfl ?_
        refine ct_topi (y := nI (a / 256 / 4)) (pk_ushrN (by omega) (nI 2) 2 (by decide)) ?_
        refine lv_istore_n (lv' := [(0, .int (nI (a / 256 / 4))), (1, .int (nI 21))]) hx hb dd_I_numberOfLeadingZeros_72 rfl hl (by decide) rfl (fun ls hl => ?_)
        refine lv_iload_n hx hb dd_I_numberOfLeadingZeros_73 rfl (lv_at hl 1 rfl) ?_
        refine lv_iload_n hx hb dd_I_numberOfLeadingZeros_74 rfl (lv_at hl 0 rfl) ?_
        refine lv_iconst (v := nI 1) hx hb dd_I_numberOfLeadingZeros_75 (by decide) ?_
        refine lv_iushr (v := ((nI (a / 256 / 4)).toUInt32 >>> ((nI 1).toUInt32 &&& Int32.toUInt32 31)).toInt32) hx hb dd_I_numberOfLeadingZeros_76 rfl ?_
        refine ct_topi (y := nI (a / 256 / 4 / 2)) (pk_ushrN (by omega) (nI 1) 1 (by decide)) ?_
        refine lv_isub hx hb dd_I_numberOfLeadingZeros_77 ?_
        refine ct_topi (y := nI (21 - (a / 256 / 4 / 2))) (pk_sub (by omega)) ?_
        refine ct_iret (u := ()) hx hb hr hlocks hK hP hD hS rfl ?_ dd_I_numberOfLeadingZeros_78
        exact cz_end (a := a) (s := 10) (by omega) h1 h2 (by omega) (by omega) (by decide)
      have c_51 : ¬ ((a / 256) < 16) := fun z => c_51 ((nI_ltI (by omega) (by omega)).mpr z)
      refine lv_iinc (v := nI 19) (lv' := [(1, .int (nI 19)), (0, .int (nI (a / 256)))]) hx hb dd_I_numberOfLeadingZeros_54 hl (k := 1) rfl (by decide) (by decide) rfl (fun ls hl => ?_)
      refine lv_iload_n hx hb dd_I_numberOfLeadingZeros_57 rfl (lv_at hl 1 rfl) ?_
      refine lv_iconst (v := nI 4) hx hb dd_I_numberOfLeadingZeros_58 (by decide) ?_
      refine lv_iushr (v := ((nI (a / 256)).toUInt32 >>> ((nI 4).toUInt32 &&& Int32.toUInt32 31)).toInt32) hx hb dd_I_numberOfLeadingZeros_59 rfl ?_
      refine ct_topi (y := nI (a / 256 / 16)) (pk_ushrN (by omega) (nI 4) 4 (by decide)) ?_
      refine lv_istore_n (lv' := [(0, .int (nI (a / 256 / 16))), (1, .int (nI 19))]) hx hb dd_I_numberOfLeadingZeros_60 rfl hl (by decide) rfl (fun ls hl => ?_)
      refine lv_iload_n hx hb dd_I_numberOfLeadingZeros_61 rfl (lv_at hl 0 rfl) ?_
      refine lv_iconst (v := nI 4) hx hb dd_I_numberOfLeadingZeros_62 (by decide) ?_
      refine lv_icmp_lt (tgt := 73) hx hb dd_I_numberOfLeadingZeros_63 (by decide) (fun c_63 => ?_) (fun c_63 => ?_)
      · skip
        have c_63 : (a / 256 / 16) < 4 := (nI_ltI (by omega) (by omega)).mp c_63
        refine lv_iload_n hx hb dd_I_numberOfLeadingZeros_73 rfl (lv_at hl 1 rfl) ?_
        refine lv_iload_n hx hb dd_I_numberOfLeadingZeros_74 rfl (lv_at hl 0 rfl) ?_
        refine lv_iconst (v := nI 1) hx hb dd_I_numberOfLeadingZeros_75 (by decide) ?_
        refine lv_iushr (v := ((nI (a / 256 / 16)).toUInt32 >>> ((nI 1).toUInt32 &&& Int32.toUInt32 31)).toInt32) hx hb dd_I_numberOfLeadingZeros_76 rfl ?_
        refine ct_topi (y := nI (a / 256 / 16 / 2)) (pk_ushrN (by omega) (nI 1) 1 (by decide)) ?_
        refine lv_isub hx hb dd_I_numberOfLeadingZeros_77 ?_
        refine ct_topi (y := nI (19 - (a / 256 / 16 / 2))) (pk_sub (by omega)) ?_
        refine ct_iret (u := ()) hx hb hr hlocks hK hP hD hS rfl ?_ dd_I_numberOfLeadingZeros_78
        exact cz_end (a := a) (s := 12) (by omega) h1 h2 (by omega) (by omega) (by decide)
      have c_63 : ¬ ((a / 256 / 16) < 4) := fun z => c_63 ((nI_ltI (by omega) (by omega)).mpr z)
      refine lv_iinc (v := nI 17) (lv' := [(1, .int (nI 17)), (0, .int (nI (a / 256 / 16)))]) hx hb dd_I_numberOfLeadingZeros_66 hl (k := 1) rfl (by decide) (by decide) rfl (fun ls hl => ?_)
      refine lv_iload_n hx hb dd_I_numberOfLeadingZeros_69 rfl (lv_at hl 1 rfl) ?_
      refine lv_iconst (v := nI 2) hx hb dd_I_numberOfLeadingZeros_70 (by decide) ?_
      refine lv_iushr (v := ((nI (a / 256 / 16)).toUInt32 >>> ((nI 2).toUInt32 &&& Int32.toUInt32 31)).toInt32) hx hb dd_I_numberOfLeadingZeros_71 rfl ?_
      refine ct_topi (y := nI (a / 256 / 16 / 4)) (pk_ushrN (by omega) (nI 2) 2 (by decide)) ?_
      refine lv_istore_n (lv' := [(0, .int (nI (a / 256 / 16 / 4))), (1, .int (nI 17))]) hx hb dd_I_numberOfLeadingZeros_72 rfl hl (by decide) rfl (fun ls hl => ?_)
      refine lv_iload_n hx hb dd_I_numberOfLeadingZeros_73 rfl (lv_at hl 1 rfl) ?_
      refine lv_iload_n hx hb dd_I_numberOfLeadingZeros_74 rfl (lv_at hl 0 rfl) ?_
      refine lv_iconst (v := nI 1) hx hb dd_I_numberOfLeadingZeros_75 (by decide) ?_
      refine lv_iushr (v := ((nI (a / 256 / 16 / 4)).toUInt32 >>> ((nI 1).toUInt32 &&& Int32.toUInt32 31)).toInt32) hx hb dd_I_numberOfLeadingZeros_76 rfl ?_
      refine ct_topi (y := nI (a / 256 / 16 / 4 / 2)) (pk_ushrN (by omega) (nI 1) 1 (by decide)) ?_
      refine lv_isub hx hb dd_I_numberOfLeadingZeros_77 ?_
      refine ct_topi (y := nI (17 - (a / 256 / 16 / 4 / 2))) (pk_sub (by omega)) ?_
      refine ct_iret (u := ()) hx hb hr hlocks hK hP hD hS rfl ?_ dd_I_numberOfLeadingZeros_78
      exact cz_end (a := a) (s := 14) (by omega) h1 h2 (by omega) (by omega) (by decide)
    have c_22 : ¬ (a < 65536) := fun z => c_22 ((nI_ltI (by omega) (by omega)).mpr z)
    refine lv_iinc (v := nI 15) (lv' := [(1, .int (nI 15)), (0, .int (nI a))]) hx hb dd_I_numberOfLeadingZeros_25 hl (k := 0) rfl (by decide) (by decide) rfl (fun ls hl => ?_)
    refine lv_iload_n hx hb dd_I_numberOfLeadingZeros_28 rfl (lv_at hl 1 rfl) ?_
    refine lv_bipush (v := nI 16) hx hb dd_I_numberOfLeadingZeros_29 (by decide) ?_
    refine lv_iushr (v := ((nI a).toUInt32 >>> ((nI 16).toUInt32 &&& Int32.toUInt32 31)).toInt32) hx hb dd_I_numberOfLeadingZeros_31 rfl ?_
    refine ct_topi (y := nI (a / 65536)) (pk_ushrN (by omega) (nI 16) 16 (by decide)) ?_
    refine lv_istore_n (lv' := [(0, .int (nI (a / 65536))), (1, .int (nI 15))]) hx hb dd_I_numberOfLeadingZeros_32 rfl hl (by decide) rfl (fun ls hl => ?_)
    refine lv_iload_n hx hb dd_I_numberOfLeadingZeros_33 rfl (lv_at hl 0 rfl) ?_
    refine lv_sipush (v := nI 256) hx hb dd_I_numberOfLeadingZeros_34 (by decide) ?_
    refine lv_icmp_lt (tgt := 48) hx hb dd_I_numberOfLeadingZeros_37 (by decide) (fun c_37 => ?_) (fun c_37 => ?_)
    · skip
      have c_37 : (a / 65536) < 256 := (nI_ltI (by omega) (by omega)).mp c_37
      refine lv_iload_n hx hb dd_I_numberOfLeadingZeros_48 rfl (lv_at hl 0 rfl) ?_
      refine lv_bipush (v := nI 16) hx hb dd_I_numberOfLeadingZeros_49 (by decide) ?_
      refine lv_icmp_lt (tgt := 61) hx hb dd_I_numberOfLeadingZeros_51 (by decide) (fun c_51 => ?_) (fun c_51 => ?_)
      · skip
        have c_51 : (a / 65536) < 16 := (nI_ltI (by omega) (by omega)).mp c_51
        refine lv_iload_n hx hb dd_I_numberOfLeadingZeros_61 rfl (lv_at hl 0 rfl) ?_
        refine lv_iconst (v := nI 4) hx hb dd_I_numberOfLeadingZeros_62 (by decide) ?_
        refine lv_icmp_lt (tgt := 73) hx hb dd_I_numberOfLeadingZeros_63 (by decide) (fun c_63 => ?_) (fun c_63 => ?_)
        · skip
          have c_63 : (a / 65536) < 4 := (nI_ltI (by omega) (by omega)).mp c_63
          refine lv_iload_n hx hb dd_I_numberOfLeadingZeros_73 rfl (lv_at hl 1 rfl) ?_
          refine lv_iload_n hx hb dd_I_numberOfLeadingZeros_74 rfl (lv_at hl 0 rfl) ?_
          refine lv_iconst (v := nI 1) hx hb dd_I_numberOfLeadingZeros_75 (by decide) ?_
          refine lv_iushr (v := ((nI (a / 65536)).toUInt32 >>> ((nI 1).toUInt32 &&& Int32.toUInt32 31)).toInt32) hx hb dd_I_numberOfLeadingZeros_76 rfl ?_
          refine ct_topi (y := nI (a / 65536 / 2)) (pk_ushrN (by omega) (nI 1) 1 (by decide)) ?_
          refine lv_isub hx hb dd_I_numberOfLeadingZeros_77 ?_
          refine ct_topi (y := nI (15 - (a / 65536 / 2))) (pk_sub (by omega)) ?_
          refine ct_iret (u := ()) hx hb hr hlocks hK hP hD hS rfl ?_ dd_I_numberOfLeadingZeros_78
          exact cz_end (a := a) (s := 16) (by omega) h1 h2 (by omega) (by omega) (by decide)
        have c_63 : ¬ ((a / 65536) < 4) := fun z => c_63 ((nI_ltI (by omega) (by omega)).mpr z)
        refine lv_iinc (v := nI 13) (lv' := [(1, .int (nI 13)), (0, .int (nI (a / 65536)))]) hx hb dd_I_numberOfLeadingZeros_66 hl (k := 1) rfl (by decide) (by decide) rfl (fun ls hl => ?_)
        refine lv_iload_n hx hb dd_I_numberOfLeadingZeros_69 rfl (lv_at hl 1 rfl) ?_
        refine lv_iconst (v := nI 2) hx hb dd_I_numberOfLeadingZeros_70 (by decide) ?_
        refine lv_iushr (v := ((nI (a / 65536)).toUInt32 >>> ((nI 2).toUInt32 &&& Int32.toUInt32 31)).toInt32) hx hb dd_I_numberOfLeadingZeros_71 rfl ?_
        refine ct_topi (y := nI (a / 65536 / 4)) (pk_ushrN (by omega) (nI 2) 2 (by decide)) ?_
        refine lv_istore_n (lv' := [(0, .int (nI (a / 65536 / 4))), (1, .int (nI 13))]) hx hb dd_I_numberOfLeadingZeros_72 rfl hl (by decide) rfl (fun ls hl => ?_)
        refine lv_iload_n hx hb dd_I_numberOfLeadingZeros_73 rfl (lv_at hl 1 rfl) ?_
        refine lv_iload_n hx hb dd_I_numberOfLeadingZeros_74 rfl (lv_at hl 0 rfl) ?_
        refine lv_iconst (v := nI 1) hx hb dd_I_numberOfLeadingZeros_75 (by decide) ?_
        refine lv_iushr (v := ((nI (a / 65536 / 4)).toUInt32 >>> ((nI 1).toUInt32 &&& Int32.toUInt32 31)).toInt32) hx hb dd_I_numberOfLeadingZeros_76 rfl ?_
        refine ct_topi (y := nI (a / 65536 / 4 / 2)) (pk_ushrN (by omega) (nI 1) 1 (by decide)) ?_
        refine lv_isub hx hb dd_I_numberOfLeadingZeros_77 ?_
        refine ct_topi (y := nI (13 - (a / 65536 / 4 / 2))) (pk_sub (by omega)) ?_
        refine ct_iret (u := ()) hx hb hr hlocks hK hP hD hS rfl ?_ dd_I_numberOfLeadingZeros_78
        exact cz_end (a := a) (s := 18) (by omega) h1 h2 (by omega) (by omega) (by decide)
      have c_51 : ¬ ((a / 65536) < 16) := fun z => c_51 ((nI_ltI (by omega) (by omega)).mpr z)
      refine lv_iinc (v := nI 11) (lv' := [(1, .int (nI 11)), (0, .int (nI (a / 65536)))]) hx hb dd_I_numberOfLeadingZeros_54 hl (k := 1) rfl (by decide) (by decide) rfl (fun ls hl => ?_)
      refine lv_iload_n hx hb dd_I_numberOfLeadingZeros_57 rfl (lv_at hl 1 rfl) ?_
      refine lv_iconst (v := nI 4) hx hb dd_I_numberOfLeadingZeros_58 (by decide) ?_
      refine lv_iushr (v := ((nI (a / 65536)).toUInt32 >>> ((nI 4).toUInt32 &&& Int32.toUInt32 31)).toInt32) hx hb dd_I_numberOfLeadingZeros_59 rfl ?_
      refine ct_topi (y := nI (a / 65536 / 16)) (pk_ushrN (by omega) (nI 4) 4 (by decide)) ?_
      refine lv_istore_n (lv' := [(0, .int (nI (a / 65536 / 16))), (1, .int (nI 11))]) hx hb dd_I_numberOfLeadingZeros_60 rfl hl (by decide) rfl (fun ls hl => ?_)
      refine lv_iload_n hx hb dd_I_numberOfLeadingZeros_61 rfl (lv_at hl 0 rfl) ?_
      refine lv_iconst (v := nI 4) hx hb dd_I_numberOfLeadingZeros_62 (by decide) ?_
      refine lv_icmp_lt (tgt := 73) hx hb dd_I_numberOfLeadingZeros_63 (by decide) (fun c_63 => ?_) (fun c_63 => ?_)
      · skip
        have c_63 : (a / 65536 / 16) < 4 := (nI_ltI (by omega) (by omega)).mp c_63
        refine lv_iload_n hx hb dd_I_numberOfLeadingZeros_73 rfl (lv_at hl 1 rfl) ?_
        refine lv_iload_n hx hb dd_I_numberOfLeadingZeros_74 rfl (lv_at hl 0 rfl) ?_
        refine lv_iconst (v := nI 1) hx hb dd_I_numberOfLeadingZeros_75 (by decide) ?_
        refine lv_iushr (v := ((nI (a / 65536 / 16)).toUInt32 >>> ((nI 1).toUInt32 &&& Int32.toUInt32 31)).toInt32) hx hb dd_I_numberOfLeadingZeros_76 rfl ?_
        refine ct_topi (y := nI (a / 65536 / 16 / 2)) (pk_ushrN (by omega) (nI 1) 1 (by decide)) ?_
        refine lv_isub hx hb dd_I_numberOfLeadingZeros_77 ?_
        refine ct_topi (y := nI (11 - (a / 65536 / 16 / 2))) (pk_sub (by omega)) ?_
        refine ct_iret (u := ()) hx hb hr hlocks hK hP hD hS rfl ?_ dd_I_numberOfLeadingZeros_78
        exact cz_end (a := a) (s := 20) (by omega) h1 h2 (by omega) (by omega) (by decide)
      have c_63 : ¬ ((a / 65536 / 16) < 4) := fun z => c_63 ((nI_ltI (by omega) (by omega)).mpr z)
      refine lv_iinc (v := nI 9) (lv' := [(1, .int (nI 9)), (0, .int (nI (a / 65536 / 16)))]) hx hb dd_I_numberOfLeadingZeros_66 hl (k := 1) rfl (by decide) (by decide) rfl (fun ls hl => ?_)
      refine lv_iload_n hx hb dd_I_numberOfLeadingZeros_69 rfl (lv_at hl 1 rfl) ?_
      refine lv_iconst (v := nI 2) hx hb dd_I_numberOfLeadingZeros_70 (by decide) ?_
      refine lv_iushr (v := ((nI (a / 65536 / 16)).toUInt32 >>> ((nI 2).toUInt32 &&& Int32.toUInt32 31)).toInt32) hx hb dd_I_numberOfLeadingZeros_71 rfl ?_
      refine ct_topi (y := nI (a / 65536 / 16 / 4)) (pk_ushrN (by omega) (nI 2) 2 (by decide)) ?_
      refine lv_istore_n (lv' := [(0, .int (nI (a / 65536 / 16 / 4))), (1, .int (nI 9))]) hx hb dd_I_numberOfLeadingZeros_72 rfl hl (by decide) rfl (fun ls hl => ?_)
      refine lv_iload_n hx hb dd_I_numberOfLeadingZeros_73 rfl (lv_at hl 1 rfl) ?_
      refine lv_iload_n hx hb dd_I_numberOfLeadingZeros_74 rfl (lv_at hl 0 rfl) ?_
      refine lv_iconst (v := nI 1) hx hb dd_I_numberOfLeadingZeros_75 (by decide) ?_
      refine lv_iushr (v := ((nI (a / 65536 / 16 / 4)).toUInt32 >>> ((nI 1).toUInt32 &&& Int32.toUInt32 31)).toInt32) hx hb dd_I_numberOfLeadingZeros_76 rfl ?_
      refine ct_topi (y := nI (a / 65536 / 16 / 4 / 2)) (pk_ushrN (by omega) (nI 1) 1 (by decide)) ?_
      refine lv_isub hx hb dd_I_numberOfLeadingZeros_77 ?_
      refine ct_topi (y := nI (9 - (a / 65536 / 16 / 4 / 2))) (pk_sub (by omega)) ?_
      refine ct_iret (u := ()) hx hb hr hlocks hK hP hD hS rfl ?_ dd_I_numberOfLeadingZeros_78
      exact cz_end (a := a) (s := 22) (by omega) h1 h2 (by omega) (by omega) (by decide)
    have c_37 : ¬ ((a / 65536) < 256) := fun z => c_37 ((nI_ltI (by omega) (by omega)).mpr z)
    refine lv_iinc (v := nI 7) (lv' := [(1, .int (nI 7)), (0, .int (nI (a / 65536)))]) hx hb dd_I_numberOfLeadingZeros_40 hl (k := 1) rfl (by decide) (by decide) rfl (fun ls hl => ?_)
    refine lv_iload_n hx hb dd_I_numberOfLeadingZeros_43 rfl (lv_at hl 1 rfl) ?_
    refine lv_bipush (v := nI 8) hx hb dd_I_numberOfLeadingZeros_44 (by decide) ?_
    refine lv_iushr (v := ((nI (a / 65536)).toUInt32 >>> ((nI 8).toUInt32 &&& Int32.toUInt32 31)).toInt32) hx hb dd_I_numberOfLeadingZeros_46 rfl ?_
    refine ct_topi (y := nI (a / 65536 / 256)) (pk_ushrN (by omega) (nI 8) 8 (by decide)) ?_
    refine lv_istore_n (lv' := [(0, .int (nI (a / 65536 / 256))), (1, .int (nI 7))]) hx hb dd_I_numberOfLeadingZeros_47 rfl hl (by decide) rfl (fun ls hl => ?_)
    refine lv_iload_n hx hb dd_I_numberOfLeadingZeros_48 rfl (lv_at hl 0 rfl) ?_
    refine lv_bipush (v := nI 16) hx hb dd_I_numberOfLeadingZeros_49 (by decide) ?_
    refine lv_icmp_lt (tgt := 61) hx hb dd_I_numberOfLeadingZeros_51 (by decide) (fun c_51 => ?_) (fun c_51 => ?_)
    · skip
      have c_51 : (a / 65536 / 256) < 16 := (nI_ltI (by omega) (by omega)).mp c_51
      refine lv_iload_n hx hb dd_I_numberOfLeadingZeros_61 rfl (lv_at hl 0 rfl) ?_
      refine lv_iconst (v := nI 4) hx hb dd_I_numberOfLeadingZeros_62 (by decide) ?_
      refine lv_icmp_lt (tgt := 73) hx hb dd_I_numberOfLeadingZeros_63 (by decide) (fun c_63 => ?_) (fun c_63 => ?_)
      · skip
        have c_63 : (a / 65536 / 256) < 4 := (nI_ltI (by omega) (by omega)).mp c_63
        refine lv_iload_n hx hb dd_I_numberOfLeadingZeros_73 rfl (lv_at hl 1 rfl) ?_
        refine lv_iload_n hx hb dd_I_numberOfLeadingZeros_74 rfl (lv_at hl 0 rfl) ?_
        refine lv_iconst (v := nI 1) hx hb dd_I_numberOfLeadingZeros_75 (by decide) ?_
        refine lv_iushr (v := ((nI (a / 65536 / 256)).toUInt32 >>> ((nI 1).toUInt32 &&& Int32.toUInt32 31)).toInt32) hx hb dd_I_numberOfLeadingZeros_76 rfl ?_
        refine ct_topi (y := nI (a / 65536 / 256 / 2)) (pk_ushrN (by omega) (nI 1) 1 (by decide)) ?_
        refine lv_isub hx hb dd_I_numberOfLeadingZeros_77 ?_
        refine ct_topi (y := nI (7 - (a / 65536 / 256 / 2))) (pk_sub (by omega)) ?_
        refine ct_iret (u := ()) hx hb hr hlocks hK hP hD hS rfl ?_ dd_I_numberOfLeadingZeros_78
        exact cz_end (a := a) (s := 24) (by omega) h1 h2 (by omega) (by omega) (by decide)
      have c_63 : ¬ ((a / 65536 / 256) < 4) := fun z => c_63 ((nI_ltI (by omega) (by omega)).mpr z)
      refine lv_iinc (v := nI 5) (lv' := [(1, .int (nI 5)), (0, .int (nI (a / 65536 / 256)))]) hx hb dd_I_numberOfLeadingZeros_66 hl (k := 1) rfl (by decide) (by decide) rfl (fun ls hl => ?_)
      refine lv_iload_n hx hb dd_I_numberOfLeadingZeros_69 rfl (lv_at hl 1 rfl) ?_
      refine lv_iconst (v := nI 2) hx hb dd_I_numberOfLeadingZeros_70 (by decide) ?_
      refine lv_iushr (v := ((nI (a / 65536 / 256)).toUInt32 >>> ((nI 2).toUInt32 &&& Int32.toUInt32 31)).toInt32) hx hb dd_I_numberOfLeadingZeros_71 rfl ?_
      refine ct_topi (y := nI (a / 65536 / 256 / 4)) (pk_ushrN (by omega) (nI 2) 2 (by decide)) ?_
      refine lv_istore_n (lv' := [(0, .int (nI (a / 65536 / 256 / 4))), (1, .int (nI 5))]) hx hb dd_I_numberOfLeadingZeros_72 rfl hl (by decide) rfl (fun ls hl => ?_)
      refine lv_iload_n hx hb dd_I_numberOfLeadingZeros_73 rfl (lv_at hl 1 rfl) ?_
      refine lv_iload_n hx hb dd_I_numberOfLeadingZeros_74 rfl (lv_at hl 0 rfl) ?_
      refine lv_iconst (v := nI 1) hx hb dd_I_numberOfLeadingZeros_75 (by decide) ?_
      refine lv_iushr (v := ((nI (a / 65536 / 256 / 4)).toUInt32 >>> ((nI 1).toUInt32 &&& Int32.toUInt32 31)).toInt32) hx hb dd_I_numberOfLeadingZeros_76 rfl ?_
      refine ct_topi (y := nI (a / 65536 / 256 / 4 / 2)) (pk_ushrN (by omega) (nI 1) 1 (by decide)) ?_
      refine lv_isub hx hb dd_I_numberOfLeadingZeros_77 ?_
      refine ct_topi (y := nI (5 - (a / 65536 / 256 / 4 / 2))) (pk_sub (by omega)) ?_
      refine ct_iret (u := ()) hx hb hr hlocks hK hP hD hS rfl ?_ dd_I_numberOfLeadingZeros_78
      exact cz_end (a := a) (s := 26) (by omega) h1 h2 (by omega) (by omega) (by decide)
    have c_51 : ¬ ((a / 65536 / 256) < 16) := fun z => c_51 ((nI_ltI (by omega) (by omega)).mpr z)
    refine lv_iinc (v := nI 3) (lv' := [(1, .int (nI 3)), (0, .int (nI (a / 65536 / 256)))]) hx hb dd_I_numberOfLeadingZeros_54 hl (k := 1) rfl (by decide) (by decide) rfl (fun ls hl => ?_)
    refine lv_iload_n hx hb dd_I_numberOfLeadingZeros_57 rfl (lv_at hl 1 rfl) ?_
    refine lv_iconst (v := nI 4) hx hb dd_I_numberOfLeadingZeros_58 (by decide) ?_
    refine lv_iushr (v := ((nI (a / 65536 / 256)).toUInt32 >>> ((nI 4).toUInt32 &&& Int32.toUInt32 31)).toInt32) hx hb dd_I_numberOfLeadingZeros_59 rfl ?_
    refine ct_topi (y := nI (a / 65536 / 256 / 16)) (pk_ushrN (by omega) (nI 4) 4 (by decide)) ?_
    refine lv_istore_n (lv' := [(0, .int (nI (a / 65536 / 256 / 16))), (1, .int (nI 3))]) hx hb dd_I_numberOfLeadingZeros_60 rfl hl (by decide) rfl (fun ls hl => ?_)
    refine lv_iload_n hx hb dd_I_numberOfLeadingZeros_61 rfl (lv_at hl 0 rfl) ?_
    refine lv_iconst (v := nI 4) hx hb dd_I_numberOfLeadingZeros_62 (by decide) ?_
    refine lv_icmp_lt (tgt := 73) hx hb dd_I_numberOfLeadingZeros_63 (by decide) (fun c_63 => ?_) (fun c_63 => ?_)
    · skip
      have c_63 : (a / 65536 / 256 / 16) < 4 := (nI_ltI (by omega) (by omega)).mp c_63
      refine lv_iload_n hx hb dd_I_numberOfLeadingZeros_73 rfl (lv_at hl 1 rfl) ?_
      refine lv_iload_n hx hb dd_I_numberOfLeadingZeros_74 rfl (lv_at hl 0 rfl) ?_
      refine lv_iconst (v := nI 1) hx hb dd_I_numberOfLeadingZeros_75 (by decide) ?_
      refine lv_iushr (v := ((nI (a / 65536 / 256 / 16)).toUInt32 >>> ((nI 1).toUInt32 &&& Int32.toUInt32 31)).toInt32) hx hb dd_I_numberOfLeadingZeros_76 rfl ?_
      refine ct_topi (y := nI (a / 65536 / 256 / 16 / 2)) (pk_ushrN (by omega) (nI 1) 1 (by decide)) ?_
      refine lv_isub hx hb dd_I_numberOfLeadingZeros_77 ?_
      refine ct_topi (y := nI (3 - (a / 65536 / 256 / 16 / 2))) (pk_sub (by omega)) ?_
      refine ct_iret (u := ()) hx hb hr hlocks hK hP hD hS rfl ?_ dd_I_numberOfLeadingZeros_78
      exact cz_end (a := a) (s := 28) (by omega) h1 h2 (by omega) (by omega) (by decide)
    have c_63 : ¬ ((a / 65536 / 256 / 16) < 4) := fun z => c_63 ((nI_ltI (by omega) (by omega)).mpr z)
    refine lv_iinc (v := nI 1) (lv' := [(1, .int (nI 1)), (0, .int (nI (a / 65536 / 256 / 16)))]) hx hb dd_I_numberOfLeadingZeros_66 hl (k := 1) rfl (by decide) (by decide) rfl (fun ls hl => ?_)
    refine lv_iload_n hx hb dd_I_numberOfLeadingZeros_69 rfl (lv_at hl 1 rfl) ?_
    refine lv_iconst (v := nI 2) hx hb dd_I_numberOfLeadingZeros_70 (by decide) ?_
    refine lv_iushr (v := ((nI (a / 65536 / 256 / 16)).toUInt32 >>> ((nI 2).toUInt32 &&& Int32.toUInt32 31)).toInt32) hx hb dd_I_numberOfLeadingZeros_71 rfl ?_
    refine ct_topi (y := nI (a / 65536 / 256 / 16 / 4)) (pk_ushrN (by omega) (nI 2) 2 (by decide)) ?_
    refine lv_istore_n (lv' := [(0, .int (nI (a / 65536 / 256 / 16 / 4))), (1, .int (nI 1))]) hx hb dd_I_numberOfLeadingZeros_72 rfl hl (by decide) rfl (fun ls hl => ?_)
    refine lv_iload_n hx hb dd_I_numberOfLeadingZeros_73 rfl (lv_at hl 1 rfl) ?_
    refine lv_iload_n hx hb dd_I_numberOfLeadingZeros_74 rfl (lv_at hl 0 rfl) ?_
    refine lv_iconst (v := nI 1) hx hb dd_I_numberOfLeadingZeros_75 (by decide) ?_
    refine lv_iushr (v := ((nI (a / 65536 / 256 / 16 / 4)).toUInt32 >>> ((nI 1).toUInt32 &&& Int32.toUInt32 31)).toInt32) hx hb dd_I_numberOfLeadingZeros_76 rfl ?_
    refine ct_topi (y := nI (a / 65536 / 256 / 16 / 4 / 2)) (pk_ushrN (by omega) (nI 1) 1 (by decide)) ?_
    refine lv_isub hx hb dd_I_numberOfLeadingZeros_77 ?_
    refine ct_topi (y := nI (1 - (a / 65536 / 256 / 16 / 4 / 2))) (pk_sub (by omega)) ?_
    refine ct_iret (u := ()) hx hb hr hlocks hK hP hD hS rfl ?_ dd_I_numberOfLeadingZeros_78
    exact cz_end (a := a) (s := 30) (by omega) h1 h2 (by omega) (by omega) (by decide)
  have c_1 : ¬ (a < 2147483648) := fun z => c_1 ((cz_gt (n := a) ha ha0).mpr z)
  refine lv_iload_n hx hb dd_I_numberOfLeadingZeros_4 rfl (lv_at hl 0 rfl) ?_
  refine lv_if_ne (tgt := 13) hx hb dd_I_numberOfLeadingZeros_5 (by decide) (fun c_5 => ?_) (fun c_5 => ?_)
  · skip
    have c_5 : ¬ (a = 0) := fun z => c_5 ((cz_eq0 (n := a) ha).mpr z)
    refine lv_iconst (v := nI 0) hx hb dd_I_numberOfLeadingZeros_13 (by decide) ?_
    refine ct_iret (u := ()) hx hb hr hlocks hK hP hD hS rfl ?_ dd_I_numberOfLeadingZeros_14
    have hm := cz_pw h1 (show a < 2 ^ 32 from ha)
    have hm2 := cz_pw (m := 31) (a := a) (by omega) h2
    have : mm = 31 := by omega
    subst this
    rfl
  have c_5 : a = 0 := (cz_eq0 (n := a) ha).mp c_5
  exfalso
  omega

set_option maxHeartbeats 4000000 in
set_option maxRecDepth 100000 in
theorem cc_J_numberOfLeadingZeros (l : Launch) (D : va_G) (cJ cB : ClassId) (a mm : Nat) (sz : Nat) (ha : a < 18446744073709551616) (h1 : 2 ^ mm ≤ a) (h2 : a < 2 ^ (mm + 1)) : ct_i l my_J_numberOfLeadingZeros (Cond.code my_J_numberOfLeadingZeros mb_J_numberOfLeadingZeros 3 (some .int) :: TB) ({ frames := 1, cells := 0, slots := 0, locals := 21 } : Room) D classes cJ cB [.long (lN a)] [] sz (fun (r : Int32) (u : Unit) => r = nI (63 - mm)) (fun u => ([] : va_W)) 0 0 := by
  refine ct_ofW (cc := mb_J_numberOfLeadingZeros) (maxL := 3) (ret := some .int) (by decide) rfl (Nat.le_of_ble_eq_true rfl) ?_
  intro p e s m below meth c hx hb hr hml hts hown hlocks hin hsz hK hP hD hA hS hZ ls hl
  have hw : ∀ w ∈ TB, w.before _ s = true := fun w h => hts w (List.mem_cons_of_mem _ h)
  have hown : s.vm.findClass cn_J = some m.cls := hown
  have hin : meth.name = "numberOfLeadingZeros" := hin
  generalize hAe : va_A [] sz = A at hD hA hS hZ ⊢
  clear hAe
  have hl : lv_has ls 3 [(0, .long (lN a))] := hl
  have hP : va_P D classes [] s.heap := hP
  refine lv_lload_n hx hb dd_J_numberOfLeadingZeros_0 rfl (lv_at hl 0 rfl) ?_
  refine lv_bipush (v := nI 32) hx hb dd_J_numberOfLeadingZeros_1 (by decide) ?_
  refine lv_lushr (v := ((lN a).toUInt64 >>> ((nI 32).toInt64.toUInt64 &&& Int64.toUInt64 63)).toInt64) hx hb dd_J_numberOfLeadingZeros_3 rfl ?_
  refine ct_topl (y := lN (a / 4294967296)) (wb_shr (k := 32) ha (by decide)) ?_
  refine lv_l2i (v := (lN (a / 4294967296)).toInt32) hx hb dd_J_numberOfLeadingZeros_4 rfl ?_
  refine ct_topi (y := nI (a / 4294967296)) (lN_i _) ?_
  refine lv_istore_n (lv' := [(2, .int (nI (a / 4294967296))), (0, .long (lN a))]) hx hb dd_J_numberOfLeadingZeros_5 rfl hl (by decide) rfl (fun ls hl => ?_)
  refine lv_iload_n hx hb dd_J_numberOfLeadingZeros_6 rfl (lv_at hl 0 rfl) ?_
  refine lv_if_ne (tgt := 21) hx hb dd_J_numberOfLeadingZeros_7 (by decide) (fun c_7 => ?_) (fun c_7 => ?_)
  · skip
    have c_7 : ¬ (a / 4294967296 = 0) := fun z => c_7 ((cz_eq0 (n := a / 4294967296) (by omega)).mpr z)
    refine lv_iload_n hx hb dd_J_numberOfLeadingZeros_21 rfl (lv_at hl 0 rfl) ?_
    have hm := cz_ge h2 c_7
    have hd := cz_div hm h1 h2
    have hm2 : mm < 64 := cz_pw h1 (show a < 2 ^ 64 from ha)
    refine ct_behind_i (wc := []) (wr := []) (av := [.int (nI (a / 4294967296))]) (va_runS (As := [.int (nI (a / 4294967296))]) (rest := []) ⟨hx, hb, hml, hown, hw⟩ (cc_I_numberOfLeadingZeros l D cJ cB (a / 4294967296) (mm - 32) _ (by omega) hd.1 hd.2) (va_cwS 1 hw (tb_S wi_324 wi_325 wi_35 wi_326) rfl rfl rfl (by decide +kernel) ⟨Nat.le_of_ble_eq_true rfl, Nat.le_of_ble_eq_true rfl⟩) ⟨ct_blind, ct_pc hZ hK hP hD hS hA [] rfl (by decide)⟩ rfl rfl hl.1 rfl (lv_room (Nat.le_of_ble_eq_true rfl)) dd_J_numberOfLeadingZeros_22 ⟨Nat.le_of_ble_eq_true rfl, Nat.le_of_ble_eq_true rfl⟩) hK hP hD hS hA [] [] rfl rfl (by decide) (by decide) (fun r_22 u_22 H locs hw_22 hP hD hS => ?_)
    subst hw_22
    have hP : va_P D classes [] _ := hP
    have hD : va_D A [] := hD
    refine ct_iret (u := ()) hx hb hr hlocks hK hP hD hS rfl ?_ dd_J_numberOfLeadingZeros_25
    exact congrArg nI (by omega)
  have c_7 : a / 4294967296 = 0 := (cz_eq0 (n := a / 4294967296) (by omega)).mp c_7
  refine lv_bipush (v := nI 32) hx hb dd_J_numberOfLeadingZeros_10 (by decide) ?_
  refine lv_lload_n hx hb dd_J_numberOfLeadingZeros_12 rfl (lv_at hl 1 rfl) ?_
  refine lv_l2i (v := (lN a).toInt32) hx hb dd_J_numberOfLeadingZeros_13 rfl ?_
  refine ct_topi (y := nI a) (lN_i _) ?_
  have hm : mm < 32 := cz_pw h1 (show a < 2 ^ 32 by omega)
  refine ct_behind_i (wc := []) (wr := []) (av := [.int (nI a)]) (va_runS (As := [.int (nI a)]) (rest := [.int (nI 32)]) ⟨hx, hb, hml, hown, hw⟩ (cc_I_numberOfLeadingZeros l D cJ cB a mm _ (by omega) h1 h2) (va_cwS 1 hw (tb_S wi_324 wi_325 wi_35 wi_326) rfl rfl rfl (by decide +kernel) ⟨Nat.le_of_ble_eq_true rfl, Nat.le_of_ble_eq_true rfl⟩) ⟨ct_blind, ct_pc hZ hK hP hD hS hA [] rfl (by decide)⟩ rfl rfl hl.1 rfl (lv_room (Nat.le_of_ble_eq_true rfl)) dd_J_numberOfLeadingZeros_14 ⟨Nat.le_of_ble_eq_true rfl, Nat.le_of_ble_eq_true rfl⟩) hK hP hD hS hA [] [] rfl rfl (by decide) (by decide) (fun r_14 u_14 H locs hw_14 hP hD hS => ?_)
  subst hw_14
  have hP : va_P D classes [] _ := hP
  have hD : va_D A [] := hD
  refine lv_iadd hx hb dd_J_numberOfLeadingZeros_17 ?_
  refine ct_topi (y := nI (32 + (31 - mm))) (nI_add _ _) ?_
  refine lv_goto (tgt := 25) hx hb dd_J_numberOfLeadingZeros_18 (by decide) ?_
  refine ct_iret (u := ()) hx hb hr hlocks hK hP hD hS rfl ?_ dd_J_numberOfLeadingZeros_25
  exact congrArg nI (by omega)

set_option maxHeartbeats 4000000 in
set_option maxRecDepth 100000 in
theorem cc_I_numberOfTrailingZeros (l : Launch) (D : va_G) (cJ cB : ClassId) (a t b : Nat) (sz : Nat) (ht : t < 32) (h : a = 2 ^ (t + 1) * b + 2 ^ t) : ct_i l my_I_numberOfTrailingZeros (Cond.code my_I_numberOfTrailingZeros mb_I_numberOfTrailingZeros 2 (some .int) :: TB) ({ frames := 0, cells := 0, slots := 0, locals := 0 } : Room) D classes cJ cB [.int (nI a)] [] sz (fun (r : Int32) (u : Unit) => r = nI t) (fun u => ([] : va_W)) 0 0 := by
  refine ct_ofW (cc := mb_I_numberOfTrailingZeros) (maxL := 2) (ret := some .int) (by decide) rfl (Nat.le_of_ble_eq_true rfl) ?_
  intro p e s m below meth c hx hb hr hml hts hown hlocks hin hsz hK hP hD hA hS hZ ls hl
  have hw : ∀ w ∈ TB, w.before _ s = true := fun w h => hts w (List.mem_cons_of_mem _ h)
  have hown : s.vm.findClass cn_I = some m.cls := hown
  have hin : meth.name = "numberOfTrailingZeros" := hin
  generalize hAe : va_A [] sz = A at hD hA hS hZ ⊢
  clear hAe
  have hp0 : 2 ^ t ≤ 2147483648 := cz_p (by omega)
  have ha1 : 1 ≤ a := by have := Nat.two_pow_pos t; omega
  have hl : lv_has ls 2 [(0, .int (nI a))] := hl
  have hP : va_P D classes [] s.heap := hP
  refine lv_iload_n hx hb dd_I_numberOfTrailingZeros_0 rfl (lv_at hl 0 rfl) ?_
  refine lv_iconst (v := (-1)) hx hb dd_I_numberOfTrailingZeros_1 (by decide) ?_
  refine lv_ixor hx hb dd_I_numberOfTrailingZeros_2 ?_
  refine lv_iload_n hx hb dd_I_numberOfTrailingZeros_3 rfl (lv_at hl 0 rfl) ?_
  refine lv_iconst (v := nI 1) hx hb dd_I_numberOfTrailingZeros_4 (by decide) ?_
  refine lv_isub hx hb dd_I_numberOfTrailingZeros_5 ?_
  refine ct_topi (y := nI (a - 1)) (pk_sub (by exact ha1)) ?_
  refine lv_iand hx hb dd_I_numberOfTrailingZeros_6 ?_
  refine ct_topi (y := nI (2 ^ t - 1)) (cz_low ht h) ?_
  refine lv_istore_n (lv' := [(0, .int (nI (2 ^ t - 1)))]) hx hb dd_I_numberOfTrailingZeros_7 rfl hl (by decide) rfl (fun ls hl => ?_)
  refine lv_iload_n hx hb dd_I_numberOfTrailingZeros_8 rfl (lv_at hl 0 rfl) ?_
  refine lv_if_gt (tgt := 17) hx hb dd_I_numberOfTrailingZeros_9 (by decide) (fun c_9 => ?_) (fun c_9 => ?_)
  · skip
    have c_9 : 0 < (2 ^ t - 1) := (ct_zgt (by omega)).mp c_9
    have t0 : 0 < t := (cz_c t (by omega)).2.2.2.2.mp (by omega)
    refine lv_iconst (v := nI 1) hx hb dd_I_numberOfTrailingZeros_17 (by decide) ?_
    refine lv_istore_n (lv' := [(1, .int (nI 1)), (0, .int (nI (2 ^ t - 1)))]) hx hb dd_I_numberOfTrailingZeros_18 rfl hl (by decide) rfl (fun ls hl => ?_)
    refine lv_iload_n hx hb dd_I_numberOfTrailingZeros_19 rfl (lv_at hl 1 rfl) ?_
    refine lv_ldcw (v := 65536) hx hb hown (hw _ wi_327) dd_I_numberOfTrailingZeros_20 ?_
    refine ct_topi (y := nI 65536) (by decide) ?_
    refine lv_icmp_le (tgt := 34) hx hb dd_I_numberOfTrailingZeros_23 (by decide) (fun c_23 => ?_) (fun c_23 => ?_)
    · skip
      have c_23 : (2 ^ t - 1) ≤ 65536 := (nI_leI (by omega) (by omega)).mp c_23
      have n_16 : ¬ 16 < t := fun z => absurd ((cz_c t (by omega)).1.mpr z) (by omega)
      refine lv_iload_n hx hb dd_I_numberOfTrailingZeros_34 rfl (lv_at hl 1 rfl) ?_
      refine lv_sipush (v := nI 256) hx hb dd_I_numberOfTrailingZeros_35 (by decide) ?_
      refine lv_icmp_le (tgt := 49) hx hb dd_I_numberOfTrailingZeros_38 (by decide) (fun c_38 => ?_) (fun c_38 => ?_)
      · skip
        have c_38 : (2 ^ t - 1) ≤ 256 := (nI_leI (by omega) (by omega)).mp c_38
        have n_8 : ¬ 8 < t := fun z => absurd ((cz_c t (by omega)).2.1.mpr z) (by omega)
        refine lv_iload_n hx hb dd_I_numberOfTrailingZeros_49 rfl (lv_at hl 1 rfl) ?_
        refine lv_bipush (v := nI 16) hx hb dd_I_numberOfTrailingZeros_50 (by decide) ?_
        refine lv_icmp_le (tgt := 62) hx hb dd_I_numberOfTrailingZeros_52 (by decide) (fun c_52 => ?_) (fun c_52 => ?_)
        · skip
          have c_52 : (2 ^ t - 1) ≤ 16 := (nI_leI (by omega) (by omega)).mp c_52
          have n_4 : ¬ 4 < t := fun z => absurd ((cz_c t (by omega)).2.2.1.mpr z) (by omega)
          refine lv_iload_n hx hb dd_I_numberOfTrailingZeros_62 rfl (lv_at hl 1 rfl) ?_
          refine lv_iconst (v := nI 4) hx hb dd_I_numberOfTrailingZeros_63 (by decide) ?_
          refine lv_icmp_le (tgt := 74) hx hb dd_I_numberOfTrailingZeros_64 (by decide) (fun c_64 => ?_) (fun c_64 => ?_)
          · skip
            have c_64 : (2 ^ t - 1) ≤ 4 := (nI_leI (by omega) (by omega)).mp c_64
            have n_2 : ¬ 2 < t := fun z => absurd ((cz_c t (by omega)).2.2.2.1.mpr z) (by omega)
            refine lv_iload_n hx hb dd_I_numberOfTrailingZeros_74 rfl (lv_at hl 0 rfl) ?_
            refine lv_iload_n hx hb dd_I_numberOfTrailingZeros_75 rfl (lv_at hl 1 rfl) ?_
            refine lv_iconst (v := nI 1) hx hb dd_I_numberOfTrailingZeros_76 (by decide) ?_
            refine lv_iushr (v := ((nI (2 ^ t - 1)).toUInt32 >>> ((nI 1).toUInt32 &&& Int32.toUInt32 31)).toInt32) hx hb dd_I_numberOfTrailingZeros_77 rfl ?_
            refine ct_topi (y := nI ((2 ^ t - 1) / 2)) (pk_ushrN (by omega) (nI 1) 1 (by decide)) ?_
            refine lv_iadd hx hb dd_I_numberOfTrailingZeros_78 ?_
            refine ct_topi (y := nI (1 + ((2 ^ t - 1) / 2))) (nI_add _ _) ?_
            refine ct_iret (u := ()) hx hb hr hlocks hK hP hD hS rfl ?_ dd_I_numberOfTrailingZeros_79
            exact cz_tend (by omega) (by omega)
          have c_64 : ¬ ((2 ^ t - 1) ≤ 4) := fun z => c_64 ((nI_leI (by omega) (by omega)).mpr z)
          have g_2 : 2 < t := (cz_c t (by omega)).2.2.2.1.mp (by omega)
          have hp_2 : 2 ^ (t - 2) ≤ 2147483648 := cz_p (by omega)
          refine lv_iinc (v := nI 3) (lv' := [(1, .int (nI 3)), (0, .int (nI (2 ^ t - 1)))]) hx hb dd_I_numberOfTrailingZeros_67 hl (k := 0) rfl (nI_add 1 2) (by decide) rfl (fun ls hl => ?_)
          refine lv_iload_n hx hb dd_I_numberOfTrailingZeros_70 rfl (lv_at hl 1 rfl) ?_
          refine lv_iconst (v := nI 2) hx hb dd_I_numberOfTrailingZeros_71 (by decide) ?_
          refine lv_iushr (v := ((nI (2 ^ t - 1)).toUInt32 >>> ((nI 2).toUInt32 &&& Int32.toUInt32 31)).toInt32) hx hb dd_I_numberOfTrailingZeros_72 rfl ?_
          refine ct_topi (y := nI (2 ^ (t - 2) - 1)) ((pk_ushrN (by omega) (nI 2) 2 (by decide)).trans (congrArg nI ((cz_s t (by omega)).2.2.2 g_2))) ?_
          refine lv_istore_n (lv' := [(0, .int (nI (2 ^ (t - 2) - 1))), (1, .int (nI 3))]) hx hb dd_I_numberOfTrailingZeros_73 rfl hl (by decide) rfl (fun ls hl => ?_)
          refine lv_iload_n hx hb dd_I_numberOfTrailingZeros_74 rfl (lv_at hl 1 rfl) ?_
          refine lv_iload_n hx hb dd_I_numberOfTrailingZeros_75 rfl (lv_at hl 0 rfl) ?_
          refine lv_iconst (v := nI 1) hx hb dd_I_numberOfTrailingZeros_76 (by decide) ?_
          refine lv_iushr (v := ((nI (2 ^ (t - 2) - 1)).toUInt32 >>> ((nI 1).toUInt32 &&& Int32.toUInt32 31)).toInt32) hx hb dd_I_numberOfTrailingZeros_77 rfl ?_
          refine ct_topi (y := nI ((2 ^ (t - 2) - 1) / 2)) (pk_ushrN (by omega) (nI 1) 1 (by decide)) ?_
          refine lv_iadd hx hb dd_I_numberOfTrailingZeros_78 ?_
          refine ct_topi (y := nI (3 + ((2 ^ (t - 2) - 1) / 2))) (nI_add _ _) ?_
          refine ct_iret (u := ()) hx hb hr hlocks hK hP hD hS rfl ?_ dd_I_numberOfTrailingZeros_79
          exact cz_tend (by omega) (by omega)
        have c_52 : ¬ ((2 ^ t - 1) ≤ 16) := fun z => c_52 ((nI_leI (by omega) (by omega)).mpr z)
        have g_4 : 4 < t := (cz_c t (by omega)).2.2.1.mp (by omega)
        have hp_4 : 2 ^ (t - 4) ≤ 2147483648 := cz_p (by omega)
        refine lv_iinc (v := nI 5) (lv' := [(1, .int (nI 5)), (0, .int (nI (2 ^ t - 1)))]) hx hb dd_I_numberOfTrailingZeros_55 hl (k := 0) rfl (nI_add 1 4) (by decide) rfl (fun ls hl => ?_)
        refine lv_iload_n hx hb dd_I_numberOfTrailingZeros_58 rfl (lv_at hl 1 rfl) ?_
        refine lv_iconst (v := nI 4) hx hb dd_I_numberOfTrailingZeros_59 (by decide) ?_
        refine lv_iushr (v := ((nI (2 ^ t - 1)).toUInt32 >>> ((nI 4).toUInt32 &&& Int32.toUInt32 31)).toInt32) hx hb dd_I_numberOfTrailingZeros_60 rfl ?_
        refine ct_topi (y := nI (2 ^ (t - 4) - 1)) ((pk_ushrN (by omega) (nI 4) 4 (by decide)).trans (congrArg nI ((cz_s t (by omega)).2.2.1 g_4))) ?_
        refine lv_istore_n (lv' := [(0, .int (nI (2 ^ (t - 4) - 1))), (1, .int (nI 5))]) hx hb dd_I_numberOfTrailingZeros_61 rfl hl (by decide) rfl (fun ls hl => ?_)
        refine lv_iload_n hx hb dd_I_numberOfTrailingZeros_62 rfl (lv_at hl 0 rfl) ?_
        refine lv_iconst (v := nI 4) hx hb dd_I_numberOfTrailingZeros_63 (by decide) ?_
        refine lv_icmp_le (tgt := 74) hx hb dd_I_numberOfTrailingZeros_64 (by decide) (fun c_64 => ?_) (fun c_64 => ?_)
        · skip
          have c_64 : (2 ^ (t - 4) - 1) ≤ 4 := (nI_leI (by omega) (by omega)).mp c_64
          have n_2 : ¬ 2 < t - 4 := fun z => absurd ((cz_c (t - 4) (by omega)).2.2.2.1.mpr z) (by omega)
          refine lv_iload_n hx hb dd_I_numberOfTrailingZeros_74 rfl (lv_at hl 1 rfl) ?_
          refine lv_iload_n hx hb dd_I_numberOfTrailingZeros_75 rfl (lv_at hl 0 rfl) ?_
          refine lv_iconst (v := nI 1) hx hb dd_I_numberOfTrailingZeros_76 (by decide) ?_
          refine lv_iushr (v := ((nI (2 ^ (t - 4) - 1)).toUInt32 >>> ((nI 1).toUInt32 &&& Int32.toUInt32 31)).toInt32) hx hb dd_I_numberOfTrailingZeros_77 rfl ?_
          refine ct_topi (y := nI ((2 ^ (t - 4) - 1) / 2)) (pk_ushrN (by omega) (nI 1) 1 (by decide)) ?_
          refine lv_iadd hx hb dd_I_numberOfTrailingZeros_78 ?_
          refine ct_topi (y := nI (5 + ((2 ^ (t - 4) - 1) / 2))) (nI_add _ _) ?_
          refine ct_iret (u := ()) hx hb hr hlocks hK hP hD hS rfl ?_ dd_I_numberOfTrailingZeros_79
          exact cz_tend (by omega) (by omega)
        have c_64 : ¬ ((2 ^ (t - 4) - 1) ≤ 4) := fun z => c_64 ((nI_leI (by omega) (by omega)).mpr z)
        have g_2 : 2 < t - 4 := (cz_c (t - 4) (by omega)).2.2.2.1.mp (by omega)
        have hp_2 : 2 ^ (t - 4 - 2) ≤ 2147483648 := cz_p (by omega)
        refine lv_iinc (v := nI 7) (lv' := [(1, .int (nI 7)), (0, .int (nI (2 ^ (t - 4) - 1)))]) hx hb dd_I_numberOfTrailingZeros_67 hl (k := 1) rfl (nI_add 5 2) (by decide) rfl (fun ls hl => ?_)
        refine lv_iload_n hx hb dd_I_numberOfTrailingZeros_70 rfl (lv_at hl 1 rfl) ?_
        refine lv_iconst (v := nI 2) hx hb dd_I_numberOfTrailingZeros_71 (by decide) ?_
        refine lv_iushr (v := ((nI (2 ^ (t - 4) - 1)).toUInt32 >>> ((nI 2).toUInt32 &&& Int32.toUInt32 31)).toInt32) hx hb dd_I_numberOfTrailingZeros_72 rfl ?_
        refine ct_topi (y := nI (2 ^ (t - 4 - 2) - 1)) ((pk_ushrN (by omega) (nI 2) 2 (by decide)).trans (congrArg nI ((cz_s (t - 4) (by omega)).2.2.2 g_2))) ?_
        refine lv_istore_n (lv' := [(0, .int (nI (2 ^ (t - 4 - 2) - 1))), (1, .int (nI 7))]) hx hb dd_I_numberOfTrailingZeros_73 rfl hl (by decide) rfl (fun ls hl => ?_)
        refine lv_iload_n hx hb dd_I_numberOfTrailingZeros_74 rfl (lv_at hl 1 rfl) ?_
        refine lv_iload_n hx hb dd_I_numberOfTrailingZeros_75 rfl (lv_at hl 0 rfl) ?_
        refine lv_iconst (v := nI 1) hx hb dd_I_numberOfTrailingZeros_76 (by decide) ?_
        refine lv_iushr (v := ((nI (2 ^ (t - 4 - 2) - 1)).toUInt32 >>> ((nI 1).toUInt32 &&& Int32.toUInt32 31)).toInt32) hx hb dd_I_numberOfTrailingZeros_77 rfl ?_
        refine ct_topi (y := nI ((2 ^ (t - 4 - 2) - 1) / 2)) (pk_ushrN (by omega) (nI 1) 1 (by decide)) ?_
        refine lv_iadd hx hb dd_I_numberOfTrailingZeros_78 ?_
        refine ct_topi (y := nI (7 + ((2 ^ (t - 4 - 2) - 1) / 2))) (nI_add _ _) ?_
        refine ct_iret (u := ()) hx hb hr hlocks hK hP hD hS rfl ?_ dd_I_numberOfTrailingZeros_79
        exact cz_tend (by omega) (by omega)
      have c_38 : ¬ ((2 ^ t - 1) ≤ 256) := fun z => c_38 ((nI_leI (by omega) (by omega)).mpr z)
      have g_8 : 8 < t := (cz_c t (by omega)).2.1.mp (by omega)
      have hp_8 : 2 ^ (t - 8) ≤ 2147483648 := cz_p (by omega)
      refine lv_iinc (v := nI 9) (lv' := [(1, .int (nI 9)), (0, .int (nI (2 ^ t - 1)))]) hx hb dd_I_numberOfTrailingZeros_41 hl (k := 0) rfl (nI_add 1 8) (by decide) rfl (fun ls hl => ?_)
      refine lv_iload_n hx hb dd_I_numberOfTrailingZeros_44 rfl (lv_at hl 1 rfl) ?_
      refine lv_bipush (v := nI 8) hx hb dd_I_numberOfTrailingZeros_45 (by decide) ?_
      refine lv_iushr (v := ((nI (2 ^ t - 1)).toUInt32 >>> ((nI 8).toUInt32 &&& Int32.toUInt32 31)).toInt32) hx hb dd_I_numberOfTrailingZeros_47 rfl ?_
      refine ct_topi (y := nI (2 ^ (t - 8) - 1)) ((pk_ushrN (by omega) (nI 8) 8 (by decide)).trans (congrArg nI ((cz_s t (by omega)).2.1 g_8))) ?_
      refine lv_istore_n (lv' := [(0, .int (nI (2 ^ (t - 8) - 1))), (1, .int (nI 9))]) hx hb dd_I_numberOfTrailingZeros_48 rfl hl (by decide) rfl (fun ls hl => ?_)
      refine lv_iload_n hx hb dd_I_numberOfTrailingZeros_49 rfl (lv_at hl 0 rfl) ?_
      refine lv_bipush (v := nI 16) hx hb dd_I_numberOfTrailingZeros_50 (by decide) ?_
      refine lv_icmp_le (tgt := 62) hx hb dd_I_numberOfTrailingZeros_52 (by decide) (fun c_52 => ?_) (fun c_52 => ?_)
      · skip
        have c_52 : (2 ^ (t - 8) - 1) ≤ 16 := (nI_leI (by omega) (by omega)).mp c_52
        have n_4 : ¬ 4 < t - 8 := fun z => absurd ((cz_c (t - 8) (by omega)).2.2.1.mpr z) (by omega)
        refine lv_iload_n hx hb dd_I_numberOfTrailingZeros_62 rfl (lv_at hl 0 rfl) ?_
        refine lv_iconst (v := nI 4) hx hb dd_I_numberOfTrailingZeros_63 (by decide) ?_
        refine lv_icmp_le (tgt := 74) hx hb dd_I_numberOfTrailingZeros_64 (by decide) (fun c_64 => ?_) (fun c_64 => ?_)
        · skip
          have c_64 : (2 ^ (t - 8) - 1) ≤ 4 := (nI_leI (by omega) (by omega)).mp c_64
          have n_2 : ¬ 2 < t - 8 := fun z => absurd ((cz_c (t - 8) (by omega)).2.2.2.1.mpr z) (by omega)
          refine lv_iload_n hx hb dd_I_numberOfTrailingZeros_74 rfl (lv_at hl 1 rfl) ?_
          refine lv_iload_n hx hb dd_I_numberOfTrailingZeros_75 rfl (lv_at hl 0 rfl) ?_
          refine lv_iconst (v := nI 1) hx hb dd_I_numberOfTrailingZeros_76 (by decide) ?_
          refine lv_iushr (v := ((nI (2 ^ (t - 8) - 1)).toUInt32 >>> ((nI 1).toUInt32 &&& Int32.toUInt32 31)).toInt32) hx hb dd_I_numberOfTrailingZeros_77 rfl ?_
          refine ct_topi (y := nI ((2 ^ (t - 8) - 1) / 2)) (pk_ushrN (by omega) (nI 1) 1 (by decide)) ?_
          refine lv_iadd hx hb dd_I_numberOfTrailingZeros_78 ?_
          refine ct_topi (y := nI (9 + ((2 ^ (t - 8) - 1) / 2))) (nI_add _ _) ?_
          refine ct_iret (u := ()) hx hb hr hlocks hK hP hD hS rfl ?_ dd_I_numberOfTrailingZeros_79
          exact cz_tend (by omega) (by omega)
        have c_64 : ¬ ((2 ^ (t - 8) - 1) ≤ 4) := fun z => c_64 ((nI_leI (by omega) (by omega)).mpr z)
        have g_2 : 2 < t - 8 := (cz_c (t - 8) (by omega)).2.2.2.1.mp (by omega)
        have hp_2 : 2 ^ (t - 8 - 2) ≤ 2147483648 := cz_p (by omega)
        refine lv_iinc (v := nI 11) (lv' := [(1, .int (nI 11)), (0, .int (nI (2 ^ (t - 8) - 1)))]) hx hb dd_I_numberOfTrailingZeros_67 hl (k := 1) rfl (nI_add 9 2) (by decide) rfl (fun ls hl => ?_)
        refine lv_iload_n hx hb dd_I_numberOfTrailingZeros_70 rfl (lv_at hl 1 rfl) ?_
        refine lv_iconst (v := nI 2) hx hb dd_I_numberOfTrailingZeros_71 (by decide) ?_
        refine lv_iushr (v := ((nI (2 ^ (t - 8) - 1)).toUInt32 >>> ((nI 2).toUInt32 &&& Int32.toUInt32 31)).toInt32) hx hb dd_I_numberOfTrailingZeros_72 rfl ?_
        refine ct_topi (y := nI (2 ^ (t - 8 - 2) - 1)) ((pk_ushrN (by omega) (nI 2) 2 (by decide)).trans (congrArg nI ((cz_s (t - 8) (by omega)).2.2.2 g_2))) ?_
        refine lv_istore_n (lv' := [(0, .int (nI (2 ^ (t - 8 - 2) - 1))), (1, .int (nI 11))]) hx hb dd_I_numberOfTrailingZeros_73 rfl hl (by decide) rfl (fun ls hl => ?_)
        refine lv_iload_n hx hb dd_I_numberOfTrailingZeros_74 rfl (lv_at hl 1 rfl) ?_
        refine lv_iload_n hx hb dd_I_numberOfTrailingZeros_75 rfl (lv_at hl 0 rfl) ?_
        refine lv_iconst (v := nI 1) hx hb dd_I_numberOfTrailingZeros_76 (by decide) ?_
        refine lv_iushr (v := ((nI (2 ^ (t - 8 - 2) - 1)).toUInt32 >>> ((nI 1).toUInt32 &&& Int32.toUInt32 31)).toInt32) hx hb dd_I_numberOfTrailingZeros_77 rfl ?_
        refine ct_topi (y := nI ((2 ^ (t - 8 - 2) - 1) / 2)) (pk_ushrN (by omega) (nI 1) 1 (by decide)) ?_
        refine lv_iadd hx hb dd_I_numberOfTrailingZeros_78 ?_
        refine ct_topi (y := nI (11 + ((2 ^ (t - 8 - 2) - 1) / 2))) (nI_add _ _) ?_
        refine ct_iret (u := ()) hx hb hr hlocks hK hP hD hS rfl ?_ dd_I_numberOfTrailingZeros_79
        exact cz_tend (by omega) (by omega)
      have c_52 : ¬ ((2 ^ (t - 8) - 1) ≤ 16) := fun z => c_52 ((nI_leI (by omega) (by omega)).mpr z)
      have g_4 : 4 < t - 8 := (cz_c (t - 8) (by omega)).2.2.1.mp (by omega)
      have hp_4 : 2 ^ (t - 8 - 4) ≤ 2147483648 := cz_p (by omega)
      refine lv_iinc (v := nI 13) (lv' := [(1, .int (nI 13)), (0, .int (nI (2 ^ (t - 8) - 1)))]) hx hb dd_I_numberOfTrailingZeros_55 hl (k := 1) rfl (nI_add 9 4) (by decide) rfl (fun ls hl => ?_)
      refine lv_iload_n hx hb dd_I_numberOfTrailingZeros_58 rfl (lv_at hl 1 rfl) ?_
      refine lv_iconst (v := nI 4) hx hb dd_I_numberOfTrailingZeros_59 (by decide) ?_
      refine lv_iushr (v := ((nI (2 ^ (t - 8) - 1)).toUInt32 >>> ((nI 4).toUInt32 &&& Int32.toUInt32 31)).toInt32) hx hb dd_I_numberOfTrailingZeros_60 rfl ?_
      refine ct_topi (y := nI (2 ^ (t - 8 - 4) - 1)) ((pk_ushrN (by omega) (nI 4) 4 (by decide)).trans (congrArg nI ((cz_s (t - 8) (by omega)).2.2.1 g_4))) ?_
      refine lv_istore_n (lv' := [(0, .int (nI (2 ^ (t - 8 - 4) - 1))), (1, .int (nI 13))]) hx hb dd_I_numberOfTrailingZeros_61 rfl hl (by decide) rfl (fun ls hl => ?_)
      refine lv_iload_n hx hb dd_I_numberOfTrailingZeros_62 rfl (lv_at hl 0 rfl) ?_
      refine lv_iconst (v := nI 4) hx hb dd_I_numberOfTrailingZeros_63 (by decide) ?_
      refine lv_icmp_le (tgt := 74) hx hb dd_I_numberOfTrailingZeros_64 (by decide) (fun c_64 => ?_) (fun c_64 => ?_)
      · skip
        have c_64 : (2 ^ (t - 8 - 4) - 1) ≤ 4 := (nI_leI (by omega) (by omega)).mp c_64
        have n_2 : ¬ 2 < t - 8 - 4 := fun z => absurd ((cz_c (t - 8 - 4) (by omega)).2.2.2.1.mpr z) (by omega)
        refine lv_iload_n hx hb dd_I_numberOfTrailingZeros_74 rfl (lv_at hl 1 rfl) ?_
        refine lv_iload_n hx hb dd_I_numberOfTrailingZeros_75 rfl (lv_at hl 0 rfl) ?_
        refine lv_iconst (v := nI 1) hx hb dd_I_numberOfTrailingZeros_76 (by decide) ?_
        refine lv_iushr (v := ((nI (2 ^ (t - 8 - 4) - 1)).toUInt32 >>> ((nI 1).toUInt32 &&& Int32.toUInt32 31)).toInt32) hx hb dd_I_numberOfTrailingZeros_77 rfl ?_
        refine ct_topi (y := nI ((2 ^ (t - 8 - 4) - 1) / 2)) (pk_ushrN (by omega) (nI 1) 1 (by decide)) ?_
        refine lv_iadd hx hb dd_I_numberOfTrailingZeros_78 ?_
        refine ct_topi (y := nI (13 + ((2 ^ (t - 8 - 4) - 1) / 2))) (nI_add _ _) ?_
        refine ct_iret (u := ()) hx hb hr hlocks hK hP hD hS rfl ?_ dd_I_numberOfTrailingZeros_79
        exact cz_tend (by omega) (by omega)
      have c_64 : ¬ ((2 ^ (t - 8 - 4) - 1) ≤ 4) := fun z => c_64 ((nI_leI (by omega) (by omega)).mpr z)
      have g_2 : 2 < t - 8 - 4 := (cz_c (t - 8 - 4) (by omega)).2.2.2.1.mp (by omega)
      have hp_2 : 2 ^ (t - 8 - 4 - 2) ≤ 2147483648 := cz_p (by omega)
      refine lv_iinc (v := nI 15) (lv' := [(1, .int (nI 15)), (0, .int (nI (2 ^ (t - 8 - 4) - 1)))]) hx hb dd_I_numberOfTrailingZeros_67 hl (k := 1) rfl (nI_add 13 2) (by decide) rfl (fun ls hl => ?_)
      refine lv_iload_n hx hb dd_I_numberOfTrailingZeros_70 rfl (lv_at hl 1 rfl) ?_
      refine lv_iconst (v := nI 2) hx hb dd_I_numberOfTrailingZeros_71 (by decide) ?_
      refine lv_iushr (v := ((nI (2 ^ (t - 8 - 4) - 1)).toUInt32 >>> ((nI 2).toUInt32 &&& Int32.toUInt32 31)).toInt32) hx hb dd_I_numberOfTrailingZeros_72 rfl ?_
      refine ct_topi (y := nI (2 ^ (t - 8 - 4 - 2) - 1)) ((pk_ushrN (by omega) (nI 2) 2 (by decide)).trans (congrArg nI ((cz_s (t - 8 - 4) (by omega)).2.2.2 g_2))) ?_
      refine lv_istore_n (lv' := [(0, .int (nI (2 ^ (t - 8 - 4 - 2) - 1))), (1, .int (nI 15))]) hx hb dd_I_numberOfTrailingZeros_73 rfl hl (by decide) rfl (fun ls hl => ?_)
      refine lv_iload_n hx hb dd_I_numberOfTrailingZeros_74 rfl (lv_at hl 1 rfl) ?_
      refine lv_iload_n hx hb dd_I_numberOfTrailingZeros_75 rfl (lv_at hl 0 rfl) ?_
      refine lv_iconst (v := nI 1) hx hb dd_I_numberOfTrailingZeros_76 (by decide) ?_
      refine lv_iushr (v := ((nI (2 ^ (t - 8 - 4 - 2) - 1)).toUInt32 >>> ((nI 1).toUInt32 &&& Int32.toUInt32 31)).toInt32) hx hb dd_I_numberOfTrailingZeros_77 rfl ?_
      refine ct_topi (y := nI ((2 ^ (t - 8 - 4 - 2) - 1) / 2)) (pk_ushrN (by omega) (nI 1) 1 (by decide)) ?_
      refine lv_iadd hx hb dd_I_numberOfTrailingZeros_78 ?_
      refine ct_topi (y := nI (15 + ((2 ^ (t - 8 - 4 - 2) - 1) / 2))) (nI_add _ _) ?_
      refine ct_iret (u := ()) hx hb hr hlocks hK hP hD hS rfl ?_ dd_I_numberOfTrailingZeros_79
      exact cz_tend (by omega) (by omega)
    have c_23 : ¬ ((2 ^ t - 1) ≤ 65536) := fun z => c_23 ((nI_leI (by omega) (by omega)).mpr z)
    have g_16 : 16 < t := (cz_c t (by omega)).1.mp (by omega)
    have hp_16 : 2 ^ (t - 16) ≤ 2147483648 := cz_p (by omega)
    refine lv_iinc (v := nI 17) (lv' := [(1, .int (nI 17)), (0, .int (nI (2 ^ t - 1)))]) hx hb dd_I_numberOfTrailingZeros_26 hl (k := 0) rfl (nI_add 1 16) (by decide) rfl (fun ls hl => ?_)
    refine lv_iload_n hx hb dd_I_numberOfTrailingZeros_29 rfl (lv_at hl 1 rfl) ?_
    refine lv_bipush (v := nI 16) hx hb dd_I_numberOfTrailingZeros_30 (by decide) ?_
    refine lv_iushr (v := ((nI (2 ^ t - 1)).toUInt32 >>> ((nI 16).toUInt32 &&& Int32.toUInt32 31)).toInt32) hx hb dd_I_numberOfTrailingZeros_32 rfl ?_
    refine ct_topi (y := nI (2 ^ (t - 16) - 1)) ((pk_ushrN (by omega) (nI 16) 16 (by decide)).trans (congrArg nI ((cz_s t (by omega)).1 g_16))) ?_
    refine lv_istore_n (lv' := [(0, .int (nI (2 ^ (t - 16) - 1))), (1, .int (nI 17))]) hx hb dd_I_numberOfTrailingZeros_33 rfl hl (by decide) rfl (fun ls hl => ?_)
    refine lv_iload_n hx hb dd_I_numberOfTrailingZeros_34 rfl (lv_at hl 0 rfl) ?_
    refine lv_sipush (v := nI 256) hx hb dd_I_numberOfTrailingZeros_35 (by decide) ?_
    refine lv_icmp_le (tgt := 49) hx hb dd_I_numberOfTrailingZeros_38 (by decide) (fun c_38 => ?_) (fun c_38 => ?_)
    · skip
      have c_38 : (2 ^ (t - 16) - 1) ≤ 256 := (nI_leI (by omega) (by omega)).mp c_38
      have n_8 : ¬ 8 < t - 16 := fun z => absurd ((cz_c (t - 16) (by omega)).2.1.mpr z) (by omega)
      refine lv_iload_n hx hb dd_I_numberOfTrailingZeros_49 rfl (lv_at hl 0 rfl) ?_
      refine lv_bipush (v := nI 16) hx hb dd_I_numberOfTrailingZeros_50 (by decide) ?_
      refine lv_icmp_le (tgt := 62) hx hb dd_I_numberOfTrailingZeros_52 (by decide) (fun c_52 => ?_) (fun c_52 => ?_)
      · skip
        have c_52 : (2 ^ (t - 16) - 1) ≤ 16 := (nI_leI (by omega) (by omega)).mp c_52
        have n_4 : ¬ 4 < t - 16 := fun z => absurd ((cz_c (t - 16) (by omega)).2.2.1.mpr z) (by omega)
        refine lv_iload_n hx hb dd_I_numberOfTrailingZeros_62 rfl (lv_at hl 0 rfl) ?_
        refine lv_iconst (v := nI 4) hx hb dd_I_numberOfTrailingZeros_63 (by decide) ?_
        refine lv_icmp_le (tgt := 74) hx hb dd_I_numberOfTrailingZeros_64 (by decide) (fun c_64 => ?_) (fun c_64 => ?_)
        · skip
          have c_64 : (2 ^ (t - 16) - 1) ≤ 4 := (nI_leI (by omega) (by omega)).mp c_64
          have n_2 : ¬ 2 < t - 16 := fun z => absurd ((cz_c (t - 16) (by omega)).2.2.2.1.mpr z) (by omega)
          refine lv_iload_n hx hb dd_I_numberOfTrailingZeros_74 rfl (lv_at hl 1 rfl) ?_
          refine lv_iload_n hx hb dd_I_numberOfTrailingZeros_75 rfl (lv_at hl 0 rfl) ?_
          refine lv_iconst (v := nI 1) hx hb dd_I_numberOfTrailingZeros_76 (by decide) ?_
          refine lv_iushr (v := ((nI (2 ^ (t - 16) - 1)).toUInt32 >>> ((nI 1).toUInt32 &&& Int32.toUInt32 31)).toInt32) hx hb dd_I_numberOfTrailingZeros_77 rfl ?_
          refine ct_topi (y := nI ((2 ^ (t - 16) - 1) / 2)) (pk_ushrN (by omega) (nI 1) 1 (by decide)) ?_
          refine lv_iadd hx hb dd_I_numberOfTrailingZeros_78 ?_
          refine ct_topi (y := nI (17 + ((2 ^ (t - 16) - 1) / 2))) (nI_add _ _) ?_
          refine ct_iret (u := ()) hx hb hr hlocks hK hP hD hS rfl ?_ dd_I_numberOfTrailingZeros_79
          exact cz_tend (by omega) (by omega)
        have c_64 : ¬ ((2 ^ (t - 16) - 1) ≤ 4) := fun z => c_64 ((nI_leI (by omega) (by omega)).mpr z)
        have g_2 : 2 < t - 16 := (cz_c (t - 16) (by omega)).2.2.2.1.mp (by omega)
        have hp_2 : 2 ^ (t - 16 - 2) ≤ 2147483648 := cz_p (by omega)
        refine lv_iinc (v := nI 19) (lv' := [(1, .int (nI 19)), (0, .int (nI (2 ^ (t - 16) - 1)))]) hx hb dd_I_numberOfTrailingZeros_67 hl (k := 1) rfl (nI_add 17 2) (by decide) rfl (fun ls hl => ?_)
        refine lv_iload_n hx hb dd_I_numberOfTrailingZeros_70 rfl (lv_at hl 1 rfl) ?_
        refine lv_iconst (v := nI 2) hx hb dd_I_numberOfTrailingZeros_71 (by decide) ?_
        refine lv_iushr (v := ((nI (2 ^ (t - 16) - 1)).toUInt32 >>> ((nI 2).toUInt32 &&& Int32.toUInt32 31)).toInt32) hx hb dd_I_numberOfTrailingZeros_72 rfl ?_
        refine ct_topi (y := nI (2 ^ (t - 16 - 2) - 1)) ((pk_ushrN (by omega) (nI 2) 2 (by decide)).trans (congrArg nI ((cz_s (t - 16) (by omega)).2.2.2 g_2))) ?_
        refine lv_istore_n (lv' := [(0, .int (nI (2 ^ (t - 16 - 2) - 1))), (1, .int (nI 19))]) hx hb dd_I_numberOfTrailingZeros_73 rfl hl (by decide) rfl (fun ls hl => ?_)
        refine lv_iload_n hx hb dd_I_numberOfTrailingZeros_74 rfl (lv_at hl 1 rfl) ?_
        refine lv_iload_n hx hb dd_I_numberOfTrailingZeros_75 rfl (lv_at hl 0 rfl) ?_
        refine lv_iconst (v := nI 1) hx hb dd_I_numberOfTrailingZeros_76 (by decide) ?_
        refine lv_iushr (v := ((nI (2 ^ (t - 16 - 2) - 1)).toUInt32 >>> ((nI 1).toUInt32 &&& Int32.toUInt32 31)).toInt32) hx hb dd_I_numberOfTrailingZeros_77 rfl ?_
        refine ct_topi (y := nI ((2 ^ (t - 16 - 2) - 1) / 2)) (pk_ushrN (by omega) (nI 1) 1 (by decide)) ?_
        refine lv_iadd hx hb dd_I_numberOfTrailingZeros_78 ?_
        refine ct_topi (y := nI (19 + ((2 ^ (t - 16 - 2) - 1) / 2))) (nI_add _ _) ?_
        refine ct_iret (u := ()) hx hb hr hlocks hK hP hD hS rfl ?_ dd_I_numberOfTrailingZeros_79
        exact cz_tend (by omega) (by omega)
      have c_52 : ¬ ((2 ^ (t - 16) - 1) ≤ 16) := fun z => c_52 ((nI_leI (by omega) (by omega)).mpr z)
      have g_4 : 4 < t - 16 := (cz_c (t - 16) (by omega)).2.2.1.mp (by omega)
      have hp_4 : 2 ^ (t - 16 - 4) ≤ 2147483648 := cz_p (by omega)
      refine lv_iinc (v := nI 21) (lv' := [(1, .int (nI 21)), (0, .int (nI (2 ^ (t - 16) - 1)))]) hx hb dd_I_numberOfTrailingZeros_55 hl (k := 1) rfl (nI_add 17 4) (by decide) rfl (fun ls hl => ?_)
      refine lv_iload_n hx hb dd_I_numberOfTrailingZeros_58 rfl (lv_at hl 1 rfl) ?_
      refine lv_iconst (v := nI 4) hx hb dd_I_numberOfTrailingZeros_59 (by decide) ?_
      refine lv_iushr (v := ((nI (2 ^ (t - 16) - 1)).toUInt32 >>> ((nI 4).toUInt32 &&& Int32.toUInt32 31)).toInt32) hx hb dd_I_numberOfTrailingZeros_60 rfl ?_
      refine ct_topi (y := nI (2 ^ (t - 16 - 4) - 1)) ((pk_ushrN (by omega) (nI 4) 4 (by decide)).trans (congrArg nI ((cz_s (t - 16) (by omega)).2.2.1 g_4))) ?_
      refine lv_istore_n (lv' := [(0, .int (nI (2 ^ (t - 16 - 4) - 1))), (1, .int (nI 21))]) hx hb dd_I_numberOfTrailingZeros_61 rfl hl (by decide) rfl (fun ls hl => ?_)
      refine lv_iload_n hx hb dd_I_numberOfTrailingZeros_62 rfl (lv_at hl 0 rfl) ?_
      refine lv_iconst (v := nI 4) hx hb dd_I_numberOfTrailingZeros_63 (by decide) ?_
      refine lv_icmp_le (tgt := 74) hx hb dd_I_numberOfTrailingZeros_64 (by decide) (fun c_64 => ?_) (fun c_64 => ?_)
      · skip
        have c_64 : (2 ^ (t - 16 - 4) - 1) ≤ 4 := (nI_leI (by omega) (by omega)).mp c_64
        have n_2 : ¬ 2 < t - 16 - 4 := fun z => absurd ((cz_c (t - 16 - 4) (by omega)).2.2.2.1.mpr z) (by omega)
        refine lv_iload_n hx hb dd_I_numberOfTrailingZeros_74 rfl (lv_at hl 1 rfl) ?_
        refine lv_iload_n hx hb dd_I_numberOfTrailingZeros_75 rfl (lv_at hl 0 rfl) ?_
        refine lv_iconst (v := nI 1) hx hb dd_I_numberOfTrailingZeros_76 (by decide) ?_
        refine lv_iushr (v := ((nI (2 ^ (t - 16 - 4) - 1)).toUInt32 >>> ((nI 1).toUInt32 &&& Int32.toUInt32 31)).toInt32) hx hb dd_I_numberOfTrailingZeros_77 rfl ?_
        refine ct_topi (y := nI ((2 ^ (t - 16 - 4) - 1) / 2)) (pk_ushrN (by omega) (nI 1) 1 (by decide)) ?_
        refine lv_iadd hx hb dd_I_numberOfTrailingZeros_78 ?_
        refine ct_topi (y := nI (21 + ((2 ^ (t - 16 - 4) - 1) / 2))) (nI_add _ _) ?_
        refine ct_iret (u := ()) hx hb hr hlocks hK hP hD hS rfl ?_ dd_I_numberOfTrailingZeros_79
        exact cz_tend (by omega) (by omega)
      have c_64 : ¬ ((2 ^ (t - 16 - 4) - 1) ≤ 4) := fun z => c_64 ((nI_leI (by omega) (by omega)).mpr z)
      have g_2 : 2 < t - 16 - 4 := (cz_c (t - 16 - 4) (by omega)).2.2.2.1.mp (by omega)
      have hp_2 : 2 ^ (t - 16 - 4 - 2) ≤ 2147483648 := cz_p (by omega)
      refine lv_iinc (v := nI 23) (lv' := [(1, .int (nI 23)), (0, .int (nI (2 ^ (t - 16 - 4) - 1)))]) hx hb dd_I_numberOfTrailingZeros_67 hl (k := 1) rfl (nI_add 21 2) (by decide) rfl (fun ls hl => ?_)
      refine lv_iload_n hx hb dd_I_numberOfTrailingZeros_70 rfl (lv_at hl 1 rfl) ?_
      refine lv_iconst (v := nI 2) hx hb dd_I_numberOfTrailingZeros_71 (by decide) ?_
      refine lv_iushr (v := ((nI (2 ^ (t - 16 - 4) - 1)).toUInt32 >>> ((nI 2).toUInt32 &&& Int32.toUInt32 31)).toInt32) hx hb dd_I_numberOfTrailingZeros_72 rfl ?_
      refine ct_topi (y := nI (2 ^ (t - 16 - 4 - 2) - 1)) ((pk_ushrN (by omega) (nI 2) 2 (by decide)).trans (congrArg nI ((cz_s (t - 16 - 4) (by omega)).2.2.2 g_2))) ?_
      refine lv_istore_n (lv' := [(0, .int (nI (2 ^ (t - 16 - 4 - 2) - 1))), (1, .int (nI 23))]) hx hb dd_I_numberOfTrailingZeros_73 rfl hl (by decide) rfl (fun ls hl => ?_)
      refine lv_iload_n hx hb dd_I_numberOfTrailingZeros_74 rfl (lv_at hl 1 rfl) ?_
      refine lv_iload_n hx hb dd_I_numberOfTrailingZeros_75 rfl (lv_at hl 0 rfl) ?_
      refine lv_iconst (v := nI 1) hx hb dd_I_numberOfTrailingZeros_76 (by decide) ?_
      refine lv_iushr (v := ((nI (2 ^ (t - 16 - 4 - 2) - 1)).toUInt32 >>> ((nI 1).toUInt32 &&& Int32.toUInt32 31)).toInt32) hx hb dd_I_numberOfTrailingZeros_77 rfl ?_
      refine ct_topi (y := nI ((2 ^ (t - 16 - 4 - 2) - 1) / 2)) (pk_ushrN (by omega) (nI 1) 1 (by decide)) ?_
      refine lv_iadd hx hb dd_I_numberOfTrailingZeros_78 ?_
      refine ct_topi (y := nI (23 + ((2 ^ (t - 16 - 4 - 2) - 1) / 2))) (nI_add _ _) ?_
      refine ct_iret (u := ()) hx hb hr hlocks hK hP hD hS rfl ?_ dd_I_numberOfTrailingZeros_79
      exact cz_tend (by omega) (by omega)
    have c_38 : ¬ ((2 ^ (t - 16) - 1) ≤ 256) := fun z => c_38 ((nI_leI (by omega) (by omega)).mpr z)
    have g_8 : 8 < t - 16 := (cz_c (t - 16) (by omega)).2.1.mp (by omega)
    have hp_8 : 2 ^ (t - 16 - 8) ≤ 2147483648 := cz_p (by omega)
    refine lv_iinc (v := nI 25) (lv' := [(1, .int (nI 25)), (0, .int (nI (2 ^ (t - 16) - 1)))]) hx hb dd_I_numberOfTrailingZeros_41 hl (k := 1) rfl (nI_add 17 8) (by decide) rfl (fun ls hl => ?_)
    refine lv_iload_n hx hb dd_I_numberOfTrailingZeros_44 rfl (lv_at hl 1 rfl) ?_
    refine lv_bipush (v := nI 8) hx hb dd_I_numberOfTrailingZeros_45 (by decide) ?_
    refine lv_iushr (v := ((nI (2 ^ (t - 16) - 1)).toUInt32 >>> ((nI 8).toUInt32 &&& Int32.toUInt32 31)).toInt32) hx hb dd_I_numberOfTrailingZeros_47 rfl ?_
    refine ct_topi (y := nI (2 ^ (t - 16 - 8) - 1)) ((pk_ushrN (by omega) (nI 8) 8 (by decide)).trans (congrArg nI ((cz_s (t - 16) (by omega)).2.1 g_8))) ?_
    refine lv_istore_n (lv' := [(0, .int (nI (2 ^ (t - 16 - 8) - 1))), (1, .int (nI 25))]) hx hb dd_I_numberOfTrailingZeros_48 rfl hl (by decide) rfl (fun ls hl => ?_)
    refine lv_iload_n hx hb dd_I_numberOfTrailingZeros_49 rfl (lv_at hl 0 rfl) ?_
    refine lv_bipush (v := nI 16) hx hb dd_I_numberOfTrailingZeros_50 (by decide) ?_
    refine lv_icmp_le (tgt := 62) hx hb dd_I_numberOfTrailingZeros_52 (by decide) (fun c_52 => ?_) (fun c_52 => ?_)
    · skip
      have c_52 : (2 ^ (t - 16 - 8) - 1) ≤ 16 := (nI_leI (by omega) (by omega)).mp c_52
      have n_4 : ¬ 4 < t - 16 - 8 := fun z => absurd ((cz_c (t - 16 - 8) (by omega)).2.2.1.mpr z) (by omega)
      refine lv_iload_n hx hb dd_I_numberOfTrailingZeros_62 rfl (lv_at hl 0 rfl) ?_
      refine lv_iconst (v := nI 4) hx hb dd_I_numberOfTrailingZeros_63 (by decide) ?_
      refine lv_icmp_le (tgt := 74) hx hb dd_I_numberOfTrailingZeros_64 (by decide) (fun c_64 => ?_) (fun c_64 => ?_)
      · skip
        have c_64 : (2 ^ (t - 16 - 8) - 1) ≤ 4 := (nI_leI (by omega) (by omega)).mp c_64
        have n_2 : ¬ 2 < t - 16 - 8 := fun z => absurd ((cz_c (t - 16 - 8) (by omega)).2.2.2.1.mpr z) (by omega)
        refine lv_iload_n hx hb dd_I_numberOfTrailingZeros_74 rfl (lv_at hl 1 rfl) ?_
        refine lv_iload_n hx hb dd_I_numberOfTrailingZeros_75 rfl (lv_at hl 0 rfl) ?_
        refine lv_iconst (v := nI 1) hx hb dd_I_numberOfTrailingZeros_76 (by decide) ?_
        refine lv_iushr (v := ((nI (2 ^ (t - 16 - 8) - 1)).toUInt32 >>> ((nI 1).toUInt32 &&& Int32.toUInt32 31)).toInt32) hx hb dd_I_numberOfTrailingZeros_77 rfl ?_
        refine ct_topi (y := nI ((2 ^ (t - 16 - 8) - 1) / 2)) (pk_ushrN (by omega) (nI 1) 1 (by decide)) ?_
        refine lv_iadd hx hb dd_I_numberOfTrailingZeros_78 ?_
        refine ct_topi (y := nI (25 + ((2 ^ (t - 16 - 8) - 1) / 2))) (nI_add _ _) ?_
        refine ct_iret (u := ()) hx hb hr hlocks hK hP hD hS rfl ?_ dd_I_numberOfTrailingZeros_79
        exact cz_tend (by omega) (by omega)
      have c_64 : ¬ ((2 ^ (t - 16 - 8) - 1) ≤ 4) := fun z => c_64 ((nI_leI (by omega) (by omega)).mpr z)
      have g_2 : 2 < t - 16 - 8 := (cz_c (t - 16 - 8) (by omega)).2.2.2.1.mp (by omega)
      have hp_2 : 2 ^ (t - 16 - 8 - 2) ≤ 2147483648 := cz_p (by omega)
      refine lv_iinc (v := nI 27) (lv' := [(1, .int (nI 27)), (0, .int (nI (2 ^ (t - 16 - 8) - 1)))]) hx hb dd_I_numberOfTrailingZeros_67 hl (k := 1) rfl (nI_add 25 2) (by decide) rfl (fun ls hl => ?_)
      refine lv_iload_n hx hb dd_I_numberOfTrailingZeros_70 rfl (lv_at hl 1 rfl) ?_
      refine lv_iconst (v := nI 2) hx hb dd_I_numberOfTrailingZeros_71 (by decide) ?_
      refine lv_iushr (v := ((nI (2 ^ (t - 16 - 8) - 1)).toUInt32 >>> ((nI 2).toUInt32 &&& Int32.toUInt32 31)).toInt32) hx hb dd_I_numberOfTrailingZeros_72 rfl ?_
      refine ct_topi (y := nI (2 ^ (t - 16 - 8 - 2) - 1)) ((pk_ushrN (by omega) (nI 2) 2 (by decide)).trans (congrArg nI ((cz_s (t - 16 - 8) (by omega)).2.2.2 g_2))) ?_
      refine lv_istore_n (lv' := [(0, .int (nI (2 ^ (t - 16 - 8 - 2) - 1))), (1, .int (nI 27))]) hx hb dd_I_numberOfTrailingZeros_73 rfl hl (by decide) rfl (fun ls hl => ?_)
      refine lv_iload_n hx hb dd_I_numberOfTrailingZeros_74 rfl (lv_at hl 1 rfl) ?_
      refine lv_iload_n hx hb dd_I_numberOfTrailingZeros_75 rfl (lv_at hl 0 rfl) ?_
      refine lv_iconst (v := nI 1) hx hb dd_I_numberOfTrailingZeros_76 (by decide) ?_
      refine lv_iushr (v := ((nI (2 ^ (t - 16 - 8 - 2) - 1)).toUInt32 >>> ((nI 1).toUInt32 &&& Int32.toUInt32 31)).toInt32) hx hb dd_I_numberOfTrailingZeros_77 rfl ?_
      refine ct_topi (y := nI ((2 ^ (t - 16 - 8 - 2) - 1) / 2)) (pk_ushrN (by omega) (nI 1) 1 (by decide)) ?_
      refine lv_iadd hx hb dd_I_numberOfTrailingZeros_78 ?_
      refine ct_topi (y := nI (27 + ((2 ^ (t - 16 - 8 - 2) - 1) / 2))) (nI_add _ _) ?_
      refine ct_iret (u := ()) hx hb hr hlocks hK hP hD hS rfl ?_ dd_I_numberOfTrailingZeros_79
      exact cz_tend (by omega) (by omega)
    have c_52 : ¬ ((2 ^ (t - 16 - 8) - 1) ≤ 16) := fun z => c_52 ((nI_leI (by omega) (by omega)).mpr z)
    have g_4 : 4 < t - 16 - 8 := (cz_c (t - 16 - 8) (by omega)).2.2.1.mp (by omega)
    have hp_4 : 2 ^ (t - 16 - 8 - 4) ≤ 2147483648 := cz_p (by omega)
    refine lv_iinc (v := nI 29) (lv' := [(1, .int (nI 29)), (0, .int (nI (2 ^ (t - 16 - 8) - 1)))]) hx hb dd_I_numberOfTrailingZeros_55 hl (k := 1) rfl (nI_add 25 4) (by decide) rfl (fun ls hl => ?_)
    refine lv_iload_n hx hb dd_I_numberOfTrailingZeros_58 rfl (lv_at hl 1 rfl) ?_
    refine lv_iconst (v := nI 4) hx hb dd_I_numberOfTrailingZeros_59 (by decide) ?_
    refine lv_iushr (v := ((nI (2 ^ (t - 16 - 8) - 1)).toUInt32 >>> ((nI 4).toUInt32 &&& Int32.toUInt32 31)).toInt32) hx hb dd_I_numberOfTrailingZeros_60 rfl ?_
    refine ct_topi (y := nI (2 ^ (t - 16 - 8 - 4) - 1)) ((pk_ushrN (by omega) (nI 4) 4 (by decide)).trans (congrArg nI ((cz_s (t - 16 - 8) (by omega)).2.2.1 g_4))) ?_
    refine lv_istore_n (lv' := [(0, .int (nI (2 ^ (t - 16 - 8 - 4) - 1))), (1, .int (nI 29))]) hx hb dd_I_numberOfTrailingZeros_61 rfl hl (by decide) rfl (fun ls hl => ?_)
    refine lv_iload_n hx hb dd_I_numberOfTrailingZeros_62 rfl (lv_at hl 0 rfl) ?_
    refine lv_iconst (v := nI 4) hx hb dd_I_numberOfTrailingZeros_63 (by decide) ?_
    refine lv_icmp_le (tgt := 74) hx hb dd_I_numberOfTrailingZeros_64 (by decide) (fun c_64 => ?_) (fun c_64 => ?_)
    · skip
      have c_64 : (2 ^ (t - 16 - 8 - 4) - 1) ≤ 4 := (nI_leI (by omega) (by omega)).mp c_64
      have n_2 : ¬ 2 < t - 16 - 8 - 4 := fun z => absurd ((cz_c (t - 16 - 8 - 4) (by omega)).2.2.2.1.mpr z) (by omega)
      refine lv_iload_n hx hb dd_I_numberOfTrailingZeros_74 rfl (lv_at hl 1 rfl) ?_
      refine lv_iload_n hx hb dd_I_numberOfTrailingZeros_75 rfl (lv_at hl 0 rfl) ?_
      refine lv_iconst (v := nI 1) hx hb dd_I_numberOfTrailingZeros_76 (by decide) ?_
      refine lv_iushr (v := ((nI (2 ^ (t - 16 - 8 - 4) - 1)).toUInt32 >>> ((nI 1).toUInt32 &&& Int32.toUInt32 31)).toInt32) hx hb dd_I_numberOfTrailingZeros_77 rfl ?_
      refine ct_topi (y := nI ((2 ^ (t - 16 - 8 - 4) - 1) / 2)) (pk_ushrN (by omega) (nI 1) 1 (by decide)) ?_
      refine lv_iadd hx hb dd_I_numberOfTrailingZeros_78 ?_
      refine ct_topi (y := nI (29 + ((2 ^ (t - 16 - 8 - 4) - 1) / 2))) (nI_add _ _) ?_
      refine ct_iret (u := ()) hx hb hr hlocks hK hP hD hS rfl ?_ dd_I_numberOfTrailingZeros_79
      exact cz_tend (by omega) (by omega)
    have c_64 : ¬ ((2 ^ (t - 16 - 8 - 4) - 1) ≤ 4) := fun z => c_64 ((nI_leI (by omega) (by omega)).mpr z)
    have g_2 : 2 < t - 16 - 8 - 4 := (cz_c (t - 16 - 8 - 4) (by omega)).2.2.2.1.mp (by omega)
    have hp_2 : 2 ^ (t - 16 - 8 - 4 - 2) ≤ 2147483648 := cz_p (by omega)
    refine lv_iinc (v := nI 31) (lv' := [(1, .int (nI 31)), (0, .int (nI (2 ^ (t - 16 - 8 - 4) - 1)))]) hx hb dd_I_numberOfTrailingZeros_67 hl (k := 1) rfl (nI_add 29 2) (by decide) rfl (fun ls hl => ?_)
    refine lv_iload_n hx hb dd_I_numberOfTrailingZeros_70 rfl (lv_at hl 1 rfl) ?_
    refine lv_iconst (v := nI 2) hx hb dd_I_numberOfTrailingZeros_71 (by decide) ?_
    refine lv_iushr (v := ((nI (2 ^ (t - 16 - 8 - 4) - 1)).toUInt32 >>> ((nI 2).toUInt32 &&& Int32.toUInt32 31)).toInt32) hx hb dd_I_numberOfTrailingZeros_72 rfl ?_
    refine ct_topi (y := nI (2 ^ (t - 16 - 8 - 4 - 2) - 1)) ((pk_ushrN (by omega) (nI 2) 2 (by decide)).trans (congrArg nI ((cz_s (t - 16 - 8 - 4) (by omega)).2.2.2 g_2))) ?_
    refine lv_istore_n (lv' := [(0, .int (nI (2 ^ (t - 16 - 8 - 4 - 2) - 1))), (1, .int (nI 31))]) hx hb dd_I_numberOfTrailingZeros_73 rfl hl (by decide) rfl (fun ls hl => ?_)
    refine lv_iload_n hx hb dd_I_numberOfTrailingZeros_74 rfl (lv_at hl 1 rfl) ?_
    refine lv_iload_n hx hb dd_I_numberOfTrailingZeros_75 rfl (lv_at hl 0 rfl) ?_
    refine lv_iconst (v := nI 1) hx hb dd_I_numberOfTrailingZeros_76 (by decide) ?_
    refine lv_iushr (v := ((nI (2 ^ (t - 16 - 8 - 4 - 2) - 1)).toUInt32 >>> ((nI 1).toUInt32 &&& Int32.toUInt32 31)).toInt32) hx hb dd_I_numberOfTrailingZeros_77 rfl ?_
    refine ct_topi (y := nI ((2 ^ (t - 16 - 8 - 4 - 2) - 1) / 2)) (pk_ushrN (by omega) (nI 1) 1 (by decide)) ?_
    refine lv_iadd hx hb dd_I_numberOfTrailingZeros_78 ?_
    refine ct_topi (y := nI (31 + ((2 ^ (t - 16 - 8 - 4 - 2) - 1) / 2))) (nI_add _ _) ?_
    refine ct_iret (u := ()) hx hb hr hlocks hK hP hD hS rfl ?_ dd_I_numberOfTrailingZeros_79
    exact cz_tend (by omega) (by omega)
  have c_9 : ¬ (0 < (2 ^ t - 1)) := fun z => c_9 ((ct_zgt (by omega)).mpr z)
  refine lv_iload_n hx hb dd_I_numberOfTrailingZeros_12 rfl (lv_at hl 0 rfl) ?_
  refine lv_bipush (v := nI 32) hx hb dd_I_numberOfTrailingZeros_13 (by decide) ?_
  refine lv_iand hx hb dd_I_numberOfTrailingZeros_15 ?_
  refine ct_topi (y := nI 0) (by rw [show 2 ^ t - 1 = 0 by omega]; decide) ?_
  refine ct_iret (u := ()) hx hb hr hlocks hK hP hD hS rfl ?_ dd_I_numberOfTrailingZeros_16
  have : ¬ 0 < t := fun z => absurd ((cz_c t (by omega)).2.2.2.2.mpr z) (by omega)
  exact congrArg nI (by omega)

set_option maxHeartbeats 4000000 in
set_option maxRecDepth 100000 in
theorem cc_J_numberOfTrailingZeros (l : Launch) (D : va_G) (cJ cB : ClassId) (a t b : Nat) (sz : Nat) (ha : a < 18446744073709551616) (ht : t < 64) (h : a = 2 ^ (t + 1) * b + 2 ^ t) : ct_i l my_J_numberOfTrailingZeros (Cond.code my_J_numberOfTrailingZeros mb_J_numberOfTrailingZeros 3 (some .int) :: TB) ({ frames := 1, cells := 0, slots := 0, locals := 21 } : Room) D classes cJ cB [.long (lN a)] [] sz (fun (r : Int32) (u : Unit) => r = nI t) (fun u => ([] : va_W)) 0 0 := by
  refine ct_ofW (cc := mb_J_numberOfTrailingZeros) (maxL := 3) (ret := some .int) (by decide) rfl (Nat.le_of_ble_eq_true rfl) ?_
  intro p e s m below meth c hx hb hr hml hts hown hlocks hin hsz hK hP hD hA hS hZ ls hl
  have hw : ∀ w ∈ TB, w.before _ s = true := fun w h => hts w (List.mem_cons_of_mem _ h)
  have hown : s.vm.findClass cn_J = some m.cls := hown
  have hin : meth.name = "numberOfTrailingZeros" := hin
  generalize hAe : va_A [] sz = A at hD hA hS hZ ⊢
  clear hAe
  have hl : lv_has ls 3 [(0, .long (lN a))] := hl
  have hP : va_P D classes [] s.heap := hP
  refine lv_lload_n hx hb dd_J_numberOfTrailingZeros_0 rfl (lv_at hl 0 rfl) ?_
  refine lv_l2i (v := (lN a).toInt32) hx hb dd_J_numberOfTrailingZeros_1 rfl ?_
  refine ct_topi (y := nI a) (lN_i _) ?_
  refine lv_istore_n (lv' := [(2, .int (nI a)), (0, .long (lN a))]) hx hb dd_J_numberOfTrailingZeros_2 rfl hl (by decide) rfl (fun ls hl => ?_)
  refine lv_iload_n hx hb dd_J_numberOfTrailingZeros_3 rfl (lv_at hl 0 rfl) ?_
  refine lv_if_ne (tgt := 21) hx hb dd_J_numberOfTrailingZeros_4 (by decide) (fun c_4 => ?_) (fun c_4 => ?_)
  · skip
    have c_4 : ¬ (32 ≤ t) := fun z => c_4 ((cz_lo0 ht h).mpr z)
    refine lv_iload_n hx hb dd_J_numberOfTrailingZeros_21 rfl (lv_at hl 0 rfl) ?_
    refine ct_behind_i (wc := []) (wr := []) (av := [.int (nI a)]) (va_runS (As := [.int (nI a)]) (rest := []) ⟨hx, hb, hml, hown, hw⟩ (cc_I_numberOfTrailingZeros l D cJ cB a t b _ (by omega) h) (va_cwS 1 hw (tb_S wi_334 wi_335 wi_35 wi_336) rfl rfl rfl (by decide +kernel) ⟨Nat.le_of_ble_eq_true rfl, Nat.le_of_ble_eq_true rfl⟩) ⟨ct_blind, ct_pc hZ hK hP hD hS hA [] rfl (by decide)⟩ rfl rfl hl.1 rfl (lv_room (Nat.le_of_ble_eq_true rfl)) dd_J_numberOfTrailingZeros_22 ⟨Nat.le_of_ble_eq_true rfl, Nat.le_of_ble_eq_true rfl⟩) hK hP hD hS hA [] [] rfl rfl (by decide) (by decide) (fun r_22 u_22 H locs hw_22 hP hD hS => ?_)
    subst hw_22
    have hP : va_P D classes [] _ := hP
    have hD : va_D A [] := hD
    refine ct_iret (u := ()) hx hb hr hlocks hK hP hD hS rfl ?_ dd_J_numberOfTrailingZeros_25
    rfl
  have c_4 : 32 ≤ t := (cz_lo0 ht h).mp c_4
  refine lv_bipush (v := nI 32) hx hb dd_J_numberOfTrailingZeros_7 (by decide) ?_
  refine lv_lload_n hx hb dd_J_numberOfTrailingZeros_9 rfl (lv_at hl 1 rfl) ?_
  refine lv_bipush (v := nI 32) hx hb dd_J_numberOfTrailingZeros_10 (by decide) ?_
  refine lv_lushr (v := ((lN a).toUInt64 >>> ((nI 32).toInt64.toUInt64 &&& Int64.toUInt64 63)).toInt64) hx hb dd_J_numberOfTrailingZeros_12 rfl ?_
  refine ct_topl (y := lN (a / 4294967296)) (wb_shr (k := 32) ha (by decide)) ?_
  refine lv_l2i (v := (lN (a / 4294967296)).toInt32) hx hb dd_J_numberOfTrailingZeros_13 rfl ?_
  refine ct_topi (y := nI (a / 4294967296)) (lN_i _) ?_
  refine ct_behind_i (wc := []) (wr := []) (av := [.int (nI (a / 4294967296))]) (va_runS (As := [.int (nI (a / 4294967296))]) (rest := [.int (nI 32)]) ⟨hx, hb, hml, hown, hw⟩ (cc_I_numberOfTrailingZeros l D cJ cB (a / 4294967296) (t - 32) b _ (by omega) (cz_hi c_4 h)) (va_cwS 1 hw (tb_S wi_334 wi_335 wi_35 wi_336) rfl rfl rfl (by decide +kernel) ⟨Nat.le_of_ble_eq_true rfl, Nat.le_of_ble_eq_true rfl⟩) ⟨ct_blind, ct_pc hZ hK hP hD hS hA [] rfl (by decide)⟩ rfl rfl hl.1 rfl (lv_room (Nat.le_of_ble_eq_true rfl)) dd_J_numberOfTrailingZeros_14 ⟨Nat.le_of_ble_eq_true rfl, Nat.le_of_ble_eq_true rfl⟩) hK hP hD hS hA [] [] rfl rfl (by decide) (by decide) (fun r_14 u_14 H locs hw_14 hP hD hS => ?_)
  subst hw_14
  have hP : va_P D classes [] _ := hP
  have hD : va_D A [] := hD
  refine lv_iadd hx hb dd_J_numberOfTrailingZeros_17 ?_
  refine ct_topi (y := nI (32 + (t - 32))) (nI_add _ _) ?_
  refine lv_goto (tgt := 25) hx hb dd_J_numberOfTrailingZeros_18 (by decide) ?_
  refine ct_iret (u := ()) hx hb hr hlocks hK hP hD hS rfl ?_ dd_J_numberOfTrailingZeros_25
  exact congrArg nI (by omega)
