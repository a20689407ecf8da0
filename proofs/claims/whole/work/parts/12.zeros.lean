/-! The JDK's counts of zeros, as numbers -/
def cz_b (x : Int32) (j : Nat) : Bool := x.toBitVec.getLsbD j
theorem cz_N {n : Nat} (j : Nat) : cz_b (nI n) j = (decide (j < 32) && n.testBit j) := by
  unfold cz_b
  show (BitVec.ofNat 32 n).getLsbD j = _
  rw [BitVec.getLsbD_ofNat]
theorem cz_of (x : Int32) : ∃ n, n < 2 ^ 32 ∧ x = nI n := ⟨x.toBitVec.toNat, x.toBitVec.isLt, Int32.toBitVec_inj.mp (by show _ = BitVec.ofNat 32 _; simp)⟩
/-- the place of the highest 1 by bounds -/
theorem cz_lz {x : Int64} {a m : Nat} (hx : x = lN a) (ha : a < 2 ^ 64) (h1 : 2 ^ m ≤ a) (h2 : a < 2 ^ (m + 1)) : cp_lz x = 63 - m := by
  subst hx
  have hm : m < 64 := by
    refine Classical.byContradiction (fun n => ?_)
    have : 2 ^ 64 ≤ 2 ^ m := Nat.pow_le_pow_right (by decide) (by omega)
    omega
  have hne : lN a ≠ 0 := by
    intro z
    have e : cp_b (lN a) m = true := by
      rw [cp_N, decide_eq_true hm, Bool.true_and, Nat.testBit_eq_decide_div_mod_eq, decide_eq_true_eq]
      have h3 : a / 2 ^ m = 1 := by
        apply Nat.div_eq_of_lt_le
        · omega
        · rw [Nat.pow_succ] at h2; omega
      rw [h3]
    rw [z, cp_0] at e
    cases e
  have t := cp_lz_top hne
  have b := cp_lz_lt hne
  rcases Nat.lt_trichotomy (63 - cp_lz (lN a)) m with c | c | c
  · have e : cp_b (lN a) m = true := by
      rw [cp_N, decide_eq_true hm, Bool.true_and, Nat.testBit_eq_decide_div_mod_eq, decide_eq_true_eq]
      have h3 : a / 2 ^ m = 1 := by
        apply Nat.div_eq_of_lt_le
        · omega
        · rw [Nat.pow_succ] at h2; omega
      rw [h3]
    rw [cp_lz_above (lN a) (by omega)] at e
    cases e
  · omega
  · rw [cp_N, Nat.testBit_lt_two_pow (Nat.lt_of_lt_of_le h2 (Nat.pow_le_pow_right (by decide) c)), Bool.and_false] at t
    cases t
theorem cz_tz {x : Int64} {a t b : Nat} (hx : x = lN a) (ht : t < 64) (h : a = 2 ^ (t + 1) * b + 2 ^ t) : cp_tz x = t := by
  subst hx
  have hp : 2 ^ t < 2 ^ (t + 1) := Nat.pow_lt_pow_right (by decide) (by omega)
  have hb : ∀ j, j < t + 1 → cp_b (lN a) j = decide (j = t) := by
    intro j hj
    rw [cp_N, decide_eq_true (by omega), Bool.true_and, h, Nat.testBit_two_pow_mul_add _ hp, if_pos hj, Nat.testBit_two_pow]
    by_cases e : t = j
    · rw [decide_eq_true e, decide_eq_true e.symm]
    · rw [decide_eq_false e, decide_eq_false (fun z => e z.symm)]
  have hne : lN a ≠ 0 := by
    intro z
    have e := hb t (by omega)
    rw [z, cp_0, decide_eq_true rfl] at e
    cases e
  have q := cp_tz_low hne
  rcases Nat.lt_trichotomy (cp_tz (lN a)) t with c | c | c
  · rw [hb _ (by omega), decide_eq_false (by omega)] at q
    cases q
  · exact c
  · have e := hb t (by omega)
    rw [cp_tz_below (lN a) c, decide_eq_true rfl] at e
    cases e
