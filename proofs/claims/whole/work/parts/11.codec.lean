/-! The document's codec, as functions: packing (cp_pk), reading (cp_ru) -/
/-- how many bits a turn has behind its kind -/
def cp_tb (k : Nat) : Nat := if k = 0 then 0 else if k = 1 then 7 else if k = 2 then 10 else if k = 3 then 13 else 41
def cp_kd (t : Int64) : Nat := if t = 0 then 0 else if -64 ≤ t ∧ t ≤ 63 then 1 else if -512 ≤ t ∧ t ≤ 511 then 2 else if -4096 ≤ t ∧ t ≤ 4095 then 3 else 4
def cp_kb (k : Nat) : List Bool := if k = 0 then cp_bl 0 1 else if k = 1 then cp_bl 2 2 else if k = 2 then cp_bl 6 3 else if k = 3 then cp_bl 14 4 else cp_bl 15 4
def cp_wt (t : Int64) : List Bool := cp_kb (cp_kd t) ++ cp_bl t (cp_tb (cp_kd t))
theorem cp_kd_le (t : Int64) : cp_kd t ≤ 4 := by
  unfold cp_kd
  by_cases h0 : t = 0
  · rw [if_pos h0]; decide
  · rw [if_neg h0]
    by_cases h1 : -64 ≤ t ∧ t ≤ 63
    · rw [if_pos h1]; decide
    · rw [if_neg h1]
      by_cases h2 : -512 ≤ t ∧ t ≤ 511
      · rw [if_pos h2]; decide
      · rw [if_neg h2]
        by_cases h3 : -4096 ≤ t ∧ t ≤ 4095
        · rw [if_pos h3]; decide
        · rw [if_neg h3]; decide
theorem cp_wt_len (t : Int64) : (cp_wt t).length ≤ 45 := by
  unfold cp_wt
  have h := cp_kd_le t
  generalize cp_kd t = k at h
  have : k = 0 ∨ k = 1 ∨ k = 2 ∨ k = 3 ∨ k = 4 := by omega
  rcases this with rfl | rfl | rfl | rfl | rfl <;> simp [cp_kb, cp_tb, cp_bl_len]
/-- how many 0s stand above the highest 1, below the lowest 1 -/
def cp_lzr (x : Int64) : Nat → Nat
  | 0 => 0
  | n + 1 => if cp_b x n = true then 0 else cp_lzr x n + 1
def cp_lz (x : Int64) : Nat := cp_lzr x 64
def cp_tzr (x : Int64) : Nat → Nat → Nat
  | 0, b => b
  | n + 1, b => if cp_b x b = true then b else cp_tzr x n (b + 1)
def cp_tz (x : Int64) : Nat := cp_tzr x 64 0
theorem cp_lzr_spec (x : Int64) : ∀ n, (∀ j, j < cp_lzr x n → cp_b x (n - 1 - j) = false) ∧ cp_lzr x n ≤ n ∧ (cp_lzr x n < n → cp_b x (n - 1 - cp_lzr x n) = true)
  | 0 => ⟨fun j h => absurd h (Nat.not_lt_zero j), Nat.le_refl 0, fun h => absurd h (Nat.lt_irrefl 0)⟩
  | n + 1 => by
    obtain ⟨h1, h2, h3⟩ := cp_lzr_spec x n
    rw [cp_lzr]
    by_cases c : cp_b x n = true
    · rw [if_pos c]
      exact ⟨fun j h => absurd h (Nat.not_lt_zero j), Nat.zero_le _, fun _ => by rw [show n + 1 - 1 - 0 = n by omega]; exact c⟩
    · rw [if_neg c]
      refine ⟨fun j h => ?_, by omega, fun h => ?_⟩
      · cases j with
        | zero => rw [show n + 1 - 1 - 0 = n by omega]; cases hb : cp_b x n with
          | true => exact absurd hb c
          | false => rfl
        | succ j => rw [show n + 1 - 1 - (j + 1) = n - 1 - j by omega]; exact h1 j (by omega)
      · rw [show n + 1 - 1 - (cp_lzr x n + 1) = n - 1 - cp_lzr x n by omega]; exact h3 (by omega)
theorem cp_tzr_spec (x : Int64) : ∀ n b, b ≤ cp_tzr x n b ∧ cp_tzr x n b ≤ b + n ∧ (∀ j, b ≤ j → j < cp_tzr x n b → cp_b x j = false) ∧ (cp_tzr x n b < b + n → cp_b x (cp_tzr x n b) = true)
  | 0, b => ⟨Nat.le_refl b, Nat.le_refl b, fun j h1 h2 => by rw [cp_tzr] at h2; omega, fun h => by rw [cp_tzr] at h; omega⟩
  | n + 1, b => by
    obtain ⟨h1, h2, h3, h4⟩ := cp_tzr_spec x n (b + 1)
    rw [cp_tzr]
    by_cases c : cp_b x b = true
    · rw [if_pos c]
      exact ⟨Nat.le_refl b, by omega, fun j a1 a2 => by omega, fun _ => c⟩
    · rw [if_neg c]
      refine ⟨by omega, by omega, fun j a1 a2 => ?_, fun h => h4 (by omega)⟩
      rcases Nat.lt_or_ge b j with e | e
      · exact h3 j e a2
      · have : j = b := by omega
        subst this
        cases hb : cp_b x j with
        | true => exact absurd hb c
        | false => rfl
theorem cp_ne0 {x : Int64} (h : x ≠ 0) : ∃ j, j < 64 ∧ cp_b x j = true := by
  refine Classical.byContradiction (fun n => h (cp_ext (fun j hj => ?_)))
  rw [cp_0]
  cases hb : cp_b x j with
  | true => exact absurd ⟨j, hj, hb⟩ n
  | false => rfl
theorem cp_lz_lt {x : Int64} (h : x ≠ 0) : cp_lz x < 64 := by
  obtain ⟨h1, h2, -⟩ := cp_lzr_spec x 64
  obtain ⟨j, hj, hb⟩ := cp_ne0 h
  refine Classical.byContradiction (fun n => ?_)
  have e := h1 (63 - j) (by unfold cp_lz at n; omega)
  rw [show 64 - 1 - (63 - j) = j by omega, hb] at e
  cases e
theorem cp_tz_lt {x : Int64} (h : x ≠ 0) : cp_tz x < 64 := by
  obtain ⟨h1, h2, h3, -⟩ := cp_tzr_spec x 64 0
  obtain ⟨j, hj, hb⟩ := cp_ne0 h
  refine Classical.byContradiction (fun n => ?_)
  have e := h3 j (by omega) (by unfold cp_tz at n; omega)
  rw [hb] at e
  cases e
theorem cp_lz_top {x : Int64} (h : x ≠ 0) : cp_b x (63 - cp_lz x) = true := (cp_lzr_spec x 64).2.2 (cp_lz_lt h)
theorem cp_lz_above (x : Int64) {j : Nat} (h : 64 ≤ j + cp_lz x) : cp_b x j = false := by
  rcases Nat.lt_or_ge j 64 with c | c
  · have e := (cp_lzr_spec x 64).1 (63 - j) (by unfold cp_lz at h; omega)
    rwa [show 64 - 1 - (63 - j) = j by omega] at e
  · exact cp_big x c
theorem cp_tz_low {x : Int64} (h : x ≠ 0) : cp_b x (cp_tz x) = true := (cp_tzr_spec x 64 0).2.2.2 (by have := cp_tz_lt h; unfold cp_tz at this; omega)
theorem cp_tz_below (x : Int64) {j : Nat} (h : j < cp_tz x) : cp_b x j = false := (cp_tzr_spec x 64 0).2.2.1 j (Nat.zero_le j) h
theorem cp_lt_sum {x : Int64} (h : x ≠ 0) : cp_lz x + cp_tz x ≤ 63 := by
  have a := cp_lz_top h
  have b := cp_lz_lt h
  refine Classical.byContradiction (fun n => ?_)
  rw [cp_tz_below x (by omega)] at a
  cases a
/-- x moved right by k -/
def cp_sr (x : Int64) (k : Nat) : Int64 := (x.toUInt64 >>> ((nI k).toInt64.toUInt64 &&& Int64.toUInt64 63)).toInt64
/-- the value: its bits, the frame behind it; (z, n): a frame of n bits behind the z highest; n = 0: none -/
def cp_wv (z n : Nat) (x : Int64) : List Bool × Nat × Nat :=
  if x = 0 then (cp_bl 0 1, z, n)
  else if 0 < n ∧ z ≤ min (cp_lz x) 31 ∧ 64 - z - n ≤ cp_tz x then (cp_bl 2 2 ++ cp_bl (cp_sr x (64 - z - n)) n, z, n)
  else (((cp_bl 3 2 ++ cp_bl (lN (min (cp_lz x) 31)) 5) ++ cp_bl (lN (64 - min (cp_lz x) 31 - cp_tz x - 1)) 6) ++ cp_bl (cp_sr x (cp_tz x)) (64 - min (cp_lz x) 31 - cp_tz x), min (cp_lz x) 31, 64 - min (cp_lz x) 31 - cp_tz x)
theorem cp_wv_frame {z n : Nat} (h : z + n ≤ 64) (x : Int64) : (cp_wv z n x).2.1 + (cp_wv z n x).2.2 ≤ 64 := by
  unfold cp_wv
  split
  · exact h
  · split
    · exact h
    · show min (cp_lz x) 31 + (64 - min (cp_lz x) 31 - cp_tz x) ≤ 64
      omega
theorem cp_wv_len {z n : Nat} (h : z + n ≤ 64) (x : Int64) : (cp_wv z n x).1.length ≤ 77 := by
  unfold cp_wv
  split
  · simp [cp_bl_len]
  · split
    · simp only [List.length_append, cp_bl_len]; omega
    · simp only [List.length_append, cp_bl_len]; omega
/-- the turn of point i -/
def cp_tn (f : Nat → Int64) (i : Nat) : Int64 := if i = 1 then f 1 - f 0 else (f i - f (i - 1)) - (f (i - 1) - f (i - 2))
/-- the first i points packed: bits, frame -/
def cp_pk (f g : Nat → Int64) : Nat → List Bool × Nat × Nat
  | 0 => ([], 0, 0)
  | i + 1 => if i = 0 then (cp_bl (f 0) 40 ++ cp_bl (g 0) 64, 0, 0)
    else (((cp_pk f g i).1 ++ cp_wt (cp_tn f i)) ++ (cp_wv (cp_pk f g i).2.1 (cp_pk f g i).2.2 (g i ^^^ g (i - 1))).1, (cp_wv (cp_pk f g i).2.1 (cp_pk f g i).2.2 (g i ^^^ g (i - 1))).2)
theorem cp_pk_1 (f g : Nat → Int64) : cp_pk f g 1 = (cp_bl (f 0) 40 ++ cp_bl (g 0) 64, 0, 0) := rfl
theorem cp_pk_s (f g : Nat → Int64) {i : Nat} (h : i ≠ 0) : cp_pk f g (i + 1) = (((cp_pk f g i).1 ++ cp_wt (cp_tn f i)) ++ (cp_wv (cp_pk f g i).2.1 (cp_pk f g i).2.2 (g i ^^^ g (i - 1))).1, (cp_wv (cp_pk f g i).2.1 (cp_pk f g i).2.2 (g i ^^^ g (i - 1))).2) := by
  rw [cp_pk, if_neg h]
theorem cp_pk_inv (f g : Nat → Int64) : ∀ i, (cp_pk f g i).1.length ≤ 122 * i ∧ (cp_pk f g i).2.1 + (cp_pk f g i).2.2 ≤ 64
  | 0 => ⟨Nat.le_refl 0, Nat.zero_le 64⟩
  | i + 1 => by
    by_cases c : i = 0
    · subst c
      rw [cp_pk_1]
      exact ⟨by simp [cp_bl_len], Nat.zero_le 64⟩
    · obtain ⟨h1, h2⟩ := cp_pk_inv f g i
      rw [cp_pk_s f g c]
      have a := cp_wt_len (cp_tn f i)
      have b := cp_wv_len h2 (g i ^^^ g (i - 1))
      refine ⟨?_, cp_wv_frame h2 _⟩
      simp only [List.length_append]
      omega
theorem cp_tn_congr {f f' : Nat → Int64} {n i : Nat} (h : ∀ j, j < n → f j = f' j) (hi : i < n) : cp_tn f i = cp_tn f' i := by
  unfold cp_tn
  by_cases c : i = 1
  · subst c; rw [if_pos rfl, if_pos rfl, h 1 hi, h 0 (by omega)]
  · rw [if_neg c, if_neg c, h i hi, h (i - 1) (by omega), h (i - 2) (by omega)]
theorem cp_pk_congr {f g f' g' : Nat → Int64} {n : Nat} (h : ∀ j, j < n → f j = f' j ∧ g j = g' j) : ∀ i, i ≤ n → cp_pk f g i = cp_pk f' g' i
  | 0, _ => rfl
  | i + 1, hi => by
    by_cases c : i = 0
    · subst c
      rw [cp_pk_1, cp_pk_1, (h 0 hi).1, (h 0 hi).2]
    · rw [cp_pk_s f g c, cp_pk_s f' g' c, cp_pk_congr h i (by omega), cp_tn_congr (fun j hj => (h j hj).1) hi, (h i hi).2, (h (i - 1) (by omega)).2]
/-! reading: (right, place, time, step, value, zeros above the frame, bits of the frame) -/
abbrev cp_S : Type := Bool × Nat × Int64 × Int64 × Int64 × Nat × Nat
def cp_max : Int64 := 1099511627775
/-- how many 1s tell the kind, at most j of them; none where the bits end -/
def cp_k (L : List Bool) : Nat → Nat → Option Nat × Nat
  | 0, p => (some 0, p)
  | j + 1, p => if p + 1 ≤ L.length then (if cp_g L p = true then ((cp_k L j (p + 1)).1.map (· + 1), (cp_k L j (p + 1)).2) else (some 0, p + 1)) else (none, p)
/-- a number of n bits with a sign -/
def cp_sg (n a : Nat) : Int64 := if a < 2 ^ (n - 1) then lN a else lN a - lN (2 ^ n)
def cp_rd (L : List Bool) (p : Nat) (t d v : Int64) (z n : Nat) : cp_S :=
  if p + n ≤ L.length then (true, p + n, t, d, v ^^^ (lN (cp_n L p n) <<< ((nI (64 - z - n)).toInt64 &&& 63)), z, n) else (false, p, t, d, v, z, n)
def cp_rv (L : List Bool) (p : Nat) (t d v : Int64) (z n : Nat) : cp_S :=
  if p + 1 ≤ L.length then
    if cp_g L p = true then
      if p + 2 ≤ L.length then
        if cp_g L (p + 1) = true then
          if p + 7 ≤ L.length then
            if p + 13 ≤ L.length then
              if cp_n L (p + 2) 5 + (cp_n L (p + 7) 6 + 1) ≤ 64 then cp_rd L (p + 13) t d v (cp_n L (p + 2) 5) (cp_n L (p + 7) 6 + 1)
              else (false, p + 13, t, d, v, z, n)
            else (false, p + 7, t, d, v, z, n)
          else (false, p + 2, t, d, v, z, n)
        else if n = 0 then (false, p + 2, t, d, v, z, n) else cp_rd L (p + 2) t d v z n
      else (false, p + 1, t, d, v, z, n)
    else (true, p + 1, t, d, v, z, n)
  else (false, p, t, d, v, z, n)
/-- the turn: the new step, where it is right; the place behind it -/
def cp_rt (L : List Bool) (p : Nat) (d : Int64) : Option Int64 × Nat :=
  match cp_k L 4 p with
  | (none, q) => (none, q)
  | (some k, q) => if k = 0 then (some d, q) else if q + cp_tb k ≤ L.length then (some (d + cp_sg (cp_tb k) (cp_n L q (cp_tb k))), q + cp_tb k) else (none, q)
def cp_rn (L : List Bool) (s : cp_S) : cp_S :=
  match cp_rt L s.2.1 s.2.2.2.1 with
  | (none, q) => (false, q, s.2.2)
  | (some d, q) => if 1 ≤ d ∧ s.2.2.1 + d ≤ cp_max then cp_rv L q (s.2.2.1 + d) d s.2.2.2.2.1 s.2.2.2.2.2.1 s.2.2.2.2.2.2 else (false, q, s.2.2)
def cp_r1 (L : List Bool) : cp_S :=
  if 40 ≤ L.length then (if 104 ≤ L.length then (true, 104, lN (cp_n L 0 40), 0, lN (cp_n L 40 64), 0, 0) else (false, 40, 0, 0, 0, 0, 0)) else (false, 0, 0, 0, 0, 0, 0)
/-- i points read -/
def cp_ru (L : List Bool) : Nat → cp_S
  | 0 => (true, 0, 0, 0, 0, 0, 0)
  | i + 1 => if (cp_ru L i).1 = true then (if i = 0 then cp_r1 L else cp_rn L (cp_ru L i)) else cp_ru L i
theorem cp_shr (x : Int64) {k : Nat} (hk : k < 64) {j : Nat} (hj : j < 64) : cp_b (x >>> ((nI k).toInt64 &&& 63)) j = if k + j < 64 then cp_b x (k + j) else cp_b x 63 := by
  unfold cp_b
  have e : (BitVec.ofNat 64 k).toNat = k := by rw [BitVec.toNat_ofNat]; exact Nat.mod_eq_of_lt (by omega)
  rw [wb_c k hk, Int64.toBitVec_shiftRight, wb_tb, wb_sm k hk, BitVec.sshiftRight', e, BitVec.getLsbD_sshiftRight, decide_eq_false (by omega), BitVec.msb_eq_getLsbD_last]
  rfl
theorem cp_lN_sub {a b : Nat} (hb : b ≤ 2 ^ 64) : lN a - lN b = lN (a + 2 ^ 64 - b) := by
  have h : lN a = lN (a + 2 ^ 64) := by
    apply Int64.toBitVec_inj.mp
    rw [wb_tb, wb_tb]
    apply BitVec.eq_of_toNat_eq
    rw [BitVec.toNat_ofNat, BitVec.toNat_ofNat, Nat.add_mod_right]
  rw [h, lN_sub (by omega)]
theorem cp_sg_c {n a : Nat} (h0 : 0 < n) (hn : n < 64) (ha : a < 2 ^ n) : (lN a <<< ((nI (64 - n)).toInt64 &&& 63)) >>> ((nI (64 - n)).toInt64 &&& 63) = cp_sg n a := by
  have hp : 2 ^ n ≤ 2 ^ 64 := Nat.pow_le_pow_right (by decide) (by omega)
  have hq : 2 ^ n = 2 ^ (n - 1) * 2 := by rw [← Nat.pow_succ]; congr 1; omega
  apply cp_ext
  intro j hj
  rw [cp_shr _ (by omega) hj]
  have hb : cp_b (cp_sg n a) j = if j < n then a.testBit j else a.testBit (n - 1) := by
    unfold cp_sg
    by_cases c : a < 2 ^ (n - 1)
    · rw [if_pos c, cp_N, decide_eq_true hj, Bool.true_and]
      by_cases d : j < n
      · rw [if_pos d]
      · rw [if_neg d, Nat.testBit_lt_two_pow c, Nat.testBit_lt_two_pow (Nat.lt_of_lt_of_le ha (Nat.pow_le_pow_right (by decide) (by omega)))]
    · rw [if_neg c, cp_lN_sub hp, show a + 2 ^ 64 - 2 ^ n = 2 ^ n * (2 ^ (64 - n) - 1) + a by
        rw [Nat.mul_sub, Nat.mul_one, ← Nat.pow_add, show n + (64 - n) = 64 by omega]; omega, cp_N, decide_eq_true hj, Bool.true_and, Nat.testBit_two_pow_mul_add _ ha]
      by_cases d : j < n
      · rw [if_pos d, if_pos d]
      · rw [if_neg d, if_neg d, Nat.testBit_two_pow_sub_one, decide_eq_true (by omega)]
        have : a.testBit (n - 1) = true := by
          rw [Nat.testBit_eq_decide_div_mod_eq, decide_eq_true_eq]
          have h1 : a / 2 ^ (n - 1) = 1 := by
            apply Nat.div_eq_of_lt_le <;> omega
          rw [h1]
        rw [this]
  rw [hb]
  by_cases d : j < n
  · rw [if_pos d, if_pos (by omega), cp_shl _ (by omega) (by omega), decide_eq_true (by omega), Bool.true_and, cp_N, decide_eq_true (by omega), Bool.true_and, show 64 - n + j - (64 - n) = j by omega]
  · rw [if_neg d, if_neg (by omega), cp_shl _ (by omega) (by omega), decide_eq_true (by omega), Bool.true_and, cp_N, decide_eq_true (by omega), Bool.true_and, show 63 - (64 - n) = n - 1 by omega]
theorem cp_acc {a : Nat} (b : Bool) (ha : a < 2 ^ 63) : (lN a <<< ((nI 1).toInt64 &&& 63)) ||| lN b.toNat = lN (2 * a + b.toNat) := by
  apply cp_ext
  intro j hj
  have hb := Bool.toNat_le b
  rw [cp_or, cp_shl _ (by decide) hj, cp_N, cp_N, cp_N, decide_eq_true hj, Bool.true_and, Bool.true_and]
  cases j with
  | zero =>
    have : (2 * a + b.toNat) % 2 = b.toNat % 2 := by omega
    rw [Nat.testBit_zero b.toNat, Nat.testBit_zero (2 * a + b.toNat), decide_eq_false (by omega), Bool.false_and, Bool.false_or, this]
  | succ j =>
    rw [Nat.testBit_succ, Nat.testBit_succ, show b.toNat / 2 = 0 by omega, show (2 * a + b.toNat) / 2 = a by omega, Nat.zero_testBit, Bool.or_false, decide_eq_true (by omega), decide_eq_true (by omega), Bool.true_and, Bool.true_and, Nat.add_sub_cancel]
