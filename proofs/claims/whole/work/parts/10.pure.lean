/-! Bits of longs, rows of bits, numbers in rows of bits: nothing of the machine -/
theorem wb_tb (n : Nat) : (lN n).toBitVec = BitVec.ofNat 64 n := rfl
theorem wb_c : ∀ k, k < 64 → ((nI k).toInt64 &&& 63) = lN k := by decide +kernel
theorem wb_cu : ∀ k, k < 64 → ((nI k).toInt64.toUInt64 &&& Int64.toUInt64 63) = UInt64.ofNat k := by decide +kernel
theorem wb_sm : ∀ k, k < 64 → (BitVec.ofNat 64 k).smod 64 = BitVec.ofNat 64 k := by decide +kernel
def cp_b (x : Int64) (j : Nat) : Bool := x.toBitVec.getLsbD j
theorem cp_ext {x y : Int64} (h : ∀ j, j < 64 → cp_b x j = cp_b y j) : x = y :=
  Int64.toBitVec_inj.mp (BitVec.eq_of_getLsbD_eq (fun i hi => h i hi))
theorem cp_big (x : Int64) {j : Nat} (h : 64 ≤ j) : cp_b x j = false := BitVec.getLsbD_of_ge _ _ h
theorem cp_or (x y : Int64) (j : Nat) : cp_b (x ||| y) j = (cp_b x j || cp_b y j) := by
  unfold cp_b; rw [Int64.toBitVec_or, BitVec.getLsbD_or]
theorem cp_and (x y : Int64) (j : Nat) : cp_b (x &&& y) j = (cp_b x j && cp_b y j) := by
  unfold cp_b; rw [Int64.toBitVec_and, BitVec.getLsbD_and]
theorem cp_xor (x y : Int64) (j : Nat) : cp_b (x ^^^ y) j = (cp_b x j ^^ cp_b y j) := by
  unfold cp_b; rw [Int64.toBitVec_xor, BitVec.getLsbD_xor]
theorem cp_0 (j : Nat) : cp_b 0 j = false := by
  unfold cp_b; show (0#64).getLsbD j = false; exact BitVec.getLsbD_zero
theorem cp_N (n j : Nat) : cp_b (lN n) j = (decide (j < 64) && n.testBit j) := by
  unfold cp_b; rw [wb_tb, BitVec.getLsbD_ofNat]
theorem cp_shl (x : Int64) {k : Nat} (hk : k < 64) {j : Nat} (hj : j < 64) : cp_b (x <<< ((nI k).toInt64 &&& 63)) j = (decide (k ≤ j) && cp_b x (j - k)) := by
  unfold cp_b
  have e : (BitVec.ofNat 64 k).toNat = k := by rw [BitVec.toNat_ofNat]; exact Nat.mod_eq_of_lt (by omega)
  rw [wb_c k hk, Int64.toBitVec_shiftLeft, wb_tb, wb_sm k hk, BitVec.shiftLeft_eq', e, BitVec.getLsbD_shiftLeft, decide_eq_true hj, Bool.true_and]
  by_cases c : k ≤ j
  · rw [decide_eq_true c, decide_eq_false (by omega)]; rfl
  · rw [decide_eq_false c, decide_eq_true (by omega)]; rfl
theorem cp_ushr (x : Int64) {k : Nat} (hk : k < 64) (j : Nat) : cp_b (x.toUInt64 >>> ((nI k).toInt64.toUInt64 &&& Int64.toUInt64 63)).toInt64 j = cp_b x (k + j) := by
  rw [wb_cu k hk]
  have h1 : (UInt64.ofNat k).toNat = k := by
    show (BitVec.ofNat 64 k).toNat = k
    rw [BitVec.toNat_ofNat, Nat.mod_eq_of_lt (by omega)]
  have e : (x.toUInt64 >>> UInt64.ofNat k).toInt64.toBitVec = x.toBitVec >>> k := by
    apply BitVec.eq_of_toNat_eq
    show (x.toUInt64 >>> UInt64.ofNat k).toNat = _
    rw [UInt64.toNat_shiftRight, h1, Nat.mod_eq_of_lt hk, BitVec.toNat_ushiftRight]
    rfl
  unfold cp_b
  rw [e, BitVec.getLsbD_ushiftRight]
/-- a number of n bits: none above -/
def cp_fit (v : Int64) (n : Nat) : Prop := ∀ j, n ≤ j → cp_b v j = false
theorem cp_fit_64 (v : Int64) : cp_fit v 64 := fun _ h => cp_big v h
theorem cp_fit_N {a n : Nat} (h : a < 2 ^ n) : cp_fit (lN a) n := fun j hj => by
  rw [cp_N, Nat.testBit_lt_two_pow (Nat.lt_of_lt_of_le h (Nat.pow_le_pow_right (by decide) hj)), Bool.and_false]
theorem cp_fit_0 (n : Nat) : cp_fit 0 n := fun j _ => cp_0 j
theorem cp_ushr0 (v : Int64) {n : Nat} (hn : n < 64) : (v.toUInt64 >>> ((nI n).toInt64.toUInt64 &&& Int64.toUInt64 63)).toInt64 = 0 ↔ cp_fit v n := by
  constructor
  · intro h j hj
    have e := cp_ushr v hn (j - n)
    rw [h, cp_0, show n + (j - n) = j by omega] at e
    exact e.symm
  · intro h
    apply cp_ext
    intro j _
    rw [cp_ushr v hn, cp_0]
    exact h _ (by omega)
/-- a row of bits, read -/
def cp_g (L : List Bool) (i : Nat) : Bool := (L[i]?).getD false
theorem cp_g_l {L M : List Bool} {i : Nat} (h : i < L.length) : cp_g (L ++ M) i = cp_g L i := by
  unfold cp_g; rw [List.getElem?_append_left h]
theorem cp_g_r {L M : List Bool} {i : Nat} (h : L.length ≤ i) : cp_g (L ++ M) i = cp_g M (i - L.length) := by
  unfold cp_g; rw [List.getElem?_append_right h]
theorem cp_g_take {L : List Bool} {n i : Nat} (h : i < n) : cp_g (L.take n) i = cp_g L i := by
  unfold cp_g; rw [List.getElem?_take_of_lt h]
theorem cp_g_set (L : List Bool) (k i : Nat) (b : Bool) : cp_g (L.set k b) i = if k = i ∧ i < L.length then b else cp_g L i := by
  unfold cp_g
  rw [List.getElem?_set]
  by_cases e : k = i
  · subst e
    by_cases c : k < L.length
    · simp [c]
    · simp [c]
  · simp [e]
/-- the n low bits of v, the highest first -/
def cp_bl (v : Int64) : Nat → List Bool
  | 0 => []
  | n + 1 => cp_b v n :: cp_bl v n
theorem cp_bl_len (v : Int64) (n : Nat) : (cp_bl v n).length = n := by
  induction n with
  | zero => rfl
  | succ n ih => rw [cp_bl, List.length_cons, ih]
theorem cp_bl_g (v : Int64) : ∀ (n i : Nat), i < n → cp_g (cp_bl v n) i = cp_b v (n - 1 - i)
  | 0, i, h => by omega
  | n + 1, 0, _ => by
    show (some (cp_b v n)).getD false = _
    simp
  | n + 1, i + 1, h => by
    have e := cp_bl_g v n i (by omega)
    show ((cp_bl v n)[i]?).getD false = _
    rw [show n + 1 - 1 - (i + 1) = n - 1 - i by omega]
    exact e
theorem cp_bl_congr {v w : Int64} : ∀ {n : Nat}, (∀ j, j < n → cp_b v j = cp_b w j) → cp_bl v n = cp_bl w n
  | 0, _ => rfl
  | n + 1, h => by rw [cp_bl, cp_bl, h n (by omega), cp_bl_congr (fun j hj => h j (by omega))]
theorem cp_app_g (L : List Bool) (v : Int64) (n i : Nat) (h : i < L.length + n) : cp_g (L ++ cp_bl v n) i = if i < L.length then cp_g L i else cp_b v (n - 1 - (i - L.length)) := by
  by_cases c : i < L.length
  · rw [if_pos c, cp_g_l c]
  · rw [if_neg c, cp_g_r (by omega), cp_bl_g v n _ (by omega)]
/-- the number of n bits from bit p on -/
def cp_n (L : List Bool) (p : Nat) : Nat → Nat
  | 0 => 0
  | n + 1 => 2 * cp_n L p n + (cp_g L (p + n)).toNat
theorem cp_n_lt (L : List Bool) (p n : Nat) : cp_n L p n < 2 ^ n := by
  induction n with
  | zero => exact Nat.one_pos
  | succ n ih =>
    have := Bool.toNat_le (cp_g L (p + n))
    rw [cp_n, Nat.pow_succ]
    omega
theorem cp_n_bit (L : List Bool) (p : Nat) : ∀ (n j : Nat), (cp_n L p n).testBit j = (decide (j < n) && cp_g L (p + n - 1 - j))
  | 0, j => by rw [cp_n, Nat.zero_testBit]; rfl
  | n + 1, 0 => by
    rw [cp_n, Nat.testBit_zero, show p + (n + 1) - 1 - 0 = p + n by omega, decide_eq_true (by omega : 0 < n + 1), Bool.true_and]
    cases cp_g L (p + n)
    · rw [Bool.toNat_false, Nat.add_zero, Nat.mul_mod_right]; rfl
    · rw [Bool.toNat_true, show (2 * cp_n L p n + 1) % 2 = 1 by omega]; rfl
  | n + 1, j + 1 => by
    have := Bool.toNat_le (cp_g L (p + n))
    rw [cp_n, Nat.testBit_succ, show (2 * cp_n L p n + (cp_g L (p + n)).toNat) / 2 = cp_n L p n by omega, cp_n_bit L p n j, show p + (n + 1) - 1 - (j + 1) = p + n - 1 - j by omega]
    by_cases c : j < n
    · rw [decide_eq_true c, decide_eq_true (by omega : j + 1 < n + 1)]
    · rw [decide_eq_false c, decide_eq_false (by omega : ¬ j + 1 < n + 1)]
theorem cp_nN_bit (L : List Bool) (p n j : Nat) (hn : n ≤ 64) : cp_b (lN (cp_n L p n)) j = (decide (j < n) && cp_g L (p + n - 1 - j)) := by
  rw [cp_N, cp_n_bit]
  by_cases c : j < n
  · rw [decide_eq_true (by omega : j < 64), Bool.true_and]
  · rw [decide_eq_false c]; simp
/-- bits in words, 64 a word, the first one highest -/
def cp_w (w : Nat → Int64) (i : Nat) : Bool := cp_b (w (i / 64)) (63 - i % 64)
def cp_Rw (w : Nat → Int64) (L : List Bool) : Prop := ∀ i, i < L.length → cp_w w i = cp_g L i
/-- BitRow.numberAt -/
theorem cp_num1 {w : Nat → Int64} {L : List Bool} (h : cp_Rw w L) {p n : Nat} (h0 : 0 < n) (hn : n ≤ 64) (hp : p + n ≤ L.length) (hc : p % 64 + n ≤ 64) :
    ((w (p / 64) <<< ((nI (p % 64)).toInt64 &&& 63)).toUInt64 >>> ((nI (64 - n)).toInt64.toUInt64 &&& Int64.toUInt64 63)).toInt64 = lN (cp_n L p n) := by
  apply cp_ext
  intro j hj
  rw [cp_ushr _ (by omega), cp_nN_bit L p n j hn]
  by_cases c : j < n
  · rw [decide_eq_true c, Bool.true_and, cp_shl _ (by omega) (by omega), ← h _ (by omega), decide_eq_true (by omega), Bool.true_and]
    unfold cp_w
    rw [show (p + n - 1 - j) / 64 = p / 64 by omega, show 63 - (p + n - 1 - j) % 64 = 64 - n + j - p % 64 by omega]
  · rw [decide_eq_false c, Bool.false_and]
    exact cp_big _ (by omega)
theorem cp_num2 {w : Nat → Int64} {L : List Bool} (h : cp_Rw w L) {p n : Nat} (h0 : 0 < n) (hn : n ≤ 64) (hp : p + n ≤ L.length) (hc : 64 < p % 64 + n) :
    ((w (p / 64) <<< ((nI (p % 64)).toInt64 &&& 63) ||| ((w (p / 64 + 1)).toUInt64 >>> ((nI (64 - p % 64)).toInt64.toUInt64 &&& Int64.toUInt64 63)).toInt64).toUInt64 >>> ((nI (64 - n)).toInt64.toUInt64 &&& Int64.toUInt64 63)).toInt64 = lN (cp_n L p n) := by
  apply cp_ext
  intro j hj
  rw [cp_ushr _ (by omega), cp_nN_bit L p n j hn]
  by_cases c : j < n
  · rw [decide_eq_true c, Bool.true_and, cp_or, cp_shl _ (by omega) (by omega), cp_ushr _ (by omega), ← h _ (by omega)]
    unfold cp_w
    by_cases d : p % 64 ≤ 64 - n + j
    · rw [decide_eq_true d, Bool.true_and, cp_big (w (p / 64 + 1)) (by omega), Bool.or_false, show (p + n - 1 - j) / 64 = p / 64 by omega, show 63 - (p + n - 1 - j) % 64 = 64 - n + j - p % 64 by omega]
    · rw [decide_eq_false d, Bool.false_and, Bool.false_or, show (p + n - 1 - j) / 64 = p / 64 + 1 by omega, show 63 - (p + n - 1 - j) % 64 = 64 - p % 64 + (64 - n + j) by omega]
  · rw [decide_eq_false c, Bool.false_and]
    exact cp_big _ (by omega)
/-- BitRow.append: the head of the last word -/
def cp_hd (w : Nat → Int64) (s : Nat) : Int64 := if s % 64 = 0 then 0 else ((w (s / 64)).toUInt64 >>> ((nI (64 - s % 64)).toInt64.toUInt64 &&& Int64.toUInt64 63)).toInt64 <<< ((nI (64 - s % 64)).toInt64 &&& 63)
theorem cp_hd_b (w : Nat → Int64) (s : Nat) {j : Nat} (hj : j < 64) : cp_b (cp_hd w s) j = (decide (64 - s % 64 ≤ j) && cp_b (w (s / 64)) j) := by
  unfold cp_hd
  by_cases c : s % 64 = 0
  · rw [if_pos c, cp_0, decide_eq_false (by omega), Bool.false_and]
  · rw [if_neg c, cp_shl _ (by omega) hj]
    by_cases d : 64 - s % 64 ≤ j
    · rw [decide_eq_true d, Bool.true_and, Bool.true_and, cp_ushr _ (by omega), show 64 - s % 64 + (j - (64 - s % 64)) = j by omega]
    · rw [decide_eq_false d, Bool.false_and, Bool.false_and]
theorem cp_app1 {w : Nat → Int64} {L : List Bool} (h : cp_Rw w L) {v : Int64} {n : Nat} (h0 : 0 < n) (hf : cp_fit v n) (hc : n ≤ 64 - L.length % 64) :
    cp_Rw (vp_updL w (L.length / 64) (cp_hd w L.length ||| v <<< ((nI (64 - L.length % 64 - n)).toInt64 &&& 63))) (L ++ cp_bl v n) := by
  intro i hi
  rw [List.length_append, cp_bl_len] at hi
  rw [cp_app_g L v n i hi]
  unfold cp_w vp_updL
  by_cases c : i < L.length
  · rw [if_pos c, ← h i c]
    unfold cp_w
    by_cases d : i / 64 = L.length / 64
    · rw [if_pos d, cp_or, cp_hd_b w _ (by omega), decide_eq_true (by omega), Bool.true_and, cp_shl _ (by omega) (by omega), d]
      rw [hf (63 - i % 64 - (64 - L.length % 64 - n)) (by omega), Bool.and_false, Bool.or_false]
    · rw [if_neg d]
  · rw [if_neg c, if_pos (by omega), cp_or, cp_hd_b w _ (by omega), decide_eq_false (by omega), Bool.false_and, Bool.false_or, cp_shl _ (by omega) (by omega), decide_eq_true (by omega), Bool.true_and]
    rw [show 63 - i % 64 - (64 - L.length % 64 - n) = n - 1 - (i - L.length) by omega]
theorem cp_app2 {w : Nat → Int64} {L : List Bool} (h : cp_Rw w L) {v : Int64} {n : Nat} (hn : n ≤ 64) (hf : cp_fit v n) (hc : 64 - L.length % 64 < n) :
    cp_Rw (vp_updL (vp_updL w (L.length / 64) (cp_hd w L.length ||| (v.toUInt64 >>> ((nI (n - (64 - L.length % 64))).toInt64.toUInt64 &&& Int64.toUInt64 63)).toInt64)) (L.length / 64 + 1) (v <<< ((nI (64 - (n - (64 - L.length % 64)))).toInt64 &&& 63))) (L ++ cp_bl v n) := by
  intro i hi
  rw [List.length_append, cp_bl_len] at hi
  rw [cp_app_g L v n i hi]
  unfold cp_w vp_updL
  by_cases c : i < L.length
  · rw [if_pos c, ← h i c]
    unfold cp_w
    rw [if_neg (by omega)]
    by_cases d : i / 64 = L.length / 64
    · rw [if_pos d, cp_or, cp_hd_b w _ (by omega), decide_eq_true (by omega), Bool.true_and, cp_ushr _ (by omega), d]
      rw [hf (n - (64 - L.length % 64) + (63 - i % 64)) (by omega), Bool.or_false]
    · rw [if_neg d]
  · rw [if_neg c]
    by_cases d : i / 64 = L.length / 64 + 1
    · rw [if_pos d, cp_shl _ (by omega) (by omega), decide_eq_true (by omega), Bool.true_and, show 63 - i % 64 - (64 - (n - (64 - L.length % 64))) = n - 1 - (i - L.length) by omega]
    · rw [if_neg d, if_pos (by omega), cp_or, cp_hd_b w _ (by omega), decide_eq_false (by omega), Bool.false_and, Bool.false_or, cp_ushr _ (by omega), show n - (64 - L.length % 64) + (63 - i % 64) = n - 1 - (i - L.length) by omega]
