/-! more of rows of bits -/
theorem cp_n1 (L : List Bool) (j : Nat) : lN (cp_n L j 1) = 1 ↔ cp_g L j = true := by
  rw [show cp_n L j 1 = (cp_g L j).toNat by rw [cp_n, cp_n, Nat.mul_zero, Nat.zero_add, Nat.add_zero]]
  cases cp_g L j
  · exact ⟨fun z => absurd z (by decide), fun z => absurd z (by decide)⟩
  · exact ⟨fun _ => rfl, fun _ => by decide⟩
theorem cp_n0 (L : List Bool) (j : Nat) : lN (cp_n L j 1) = 0 ↔ cp_g L j = false := by
  rw [show cp_n L j 1 = (cp_g L j).toNat by rw [cp_n, cp_n, Nat.mul_zero, Nat.zero_add, Nat.add_zero]]
  cases cp_g L j
  · exact ⟨fun _ => rfl, fun _ => by decide⟩
  · exact ⟨fun z => absurd z (by decide), fun z => absurd z (by decide)⟩
theorem cp_inv {w : Nat → Int64} {L : List Bool} (h : cp_Rw w L) {j : Nat} (hj : j < L.length) : cp_Rw (vp_updL w (j / 64) (w (j / 64) ^^^ (1 <<< ((nI (63 - j % 64)).toInt64 &&& 63)))) (L.set j (!cp_g L j)) := by
  intro i hi
  rw [List.length_set] at hi
  rw [cp_g_set]
  unfold cp_w vp_updL
  have hb : ∀ t, cp_b 1 t = decide (t = 0) := by
    intro t
    show cp_b (lN 1) t = _
    rw [cp_N]
    cases t with
    | zero => decide
    | succ t => rw [Nat.testBit_succ, show 1 / 2 = 0 by decide, Nat.zero_testBit, Bool.and_false, decide_eq_false (by omega)]
  by_cases d : i / 64 = j / 64
  · rw [if_pos d, cp_xor, cp_shl _ (by omega) (by omega), hb, ← d]
    have hw := h i hi
    unfold cp_w at hw
    rw [hw]
    by_cases e : j = i
    · subst e
      rw [if_pos ⟨rfl, hi⟩, decide_eq_true (by omega), decide_eq_true (by omega)]
      cases cp_g L j <;> rfl
    · rw [if_neg (fun z => e z.1)]
      by_cases f : 63 - j % 64 ≤ 63 - i % 64
      · rw [decide_eq_false (show ¬ 63 - i % 64 - (63 - j % 64) = 0 by omega), Bool.and_false, Bool.xor_false]
      · rw [decide_eq_false f, Bool.false_and, Bool.xor_false]
  · rw [if_neg d, if_neg (fun z => d (by rw [z.1]))]
    exact h i hi
theorem cp_cut {w : Nat → Int64} {L : List Bool} (h : cp_Rw w L) (n : Nat) : cp_Rw w (L.take n) := by
  intro i hi
  rw [List.length_take] at hi
  rw [cp_g_take (by omega)]
  exact h i (by omega)
/-- a place in a row of n -/
def cp_ix (k : Int32) (n : Nat) : Prop := ∃ j : Nat, j < n ∧ k = nI j
theorem cp_ix_of {k : Int32} {n : Nat} (hn : n < 2 ^ 31) (h1 : ¬ k < 0) (h2 : k < nI n) : ∃ j : Nat, j < n ∧ k = nI j := by
  rcases pk_ix k hn with a | a | a
  · exact absurd a h1
  · rw [Int32.le_iff_toInt_le] at a
    rw [Int32.lt_iff_toInt_lt] at h2
    omega
  · exact a
theorem cp_ix_n {k : Int32} {n : Nat} (hn : n < 2 ^ 31) (h : k < 0 ∨ ¬ k < nI n) : ¬ cp_ix k n := by
  rintro ⟨j, hj, rfl⟩
  rcases h with h | h
  · exact nI_pos (by omega) h
  · exact h (nI_lt hj hn)
