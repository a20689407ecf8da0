/-! answers of kind boolean; small helps -/
def bI (P : Prop) [Decidable P] : Int32 := if P then nI 1 else nI 0
theorem bI_t {P : Prop} [Decidable P] (h : P) : nI 1 = bI P := (if_pos h).symm
theorem bI_f {P : Prop} [Decidable P] (h : ¬ P) : nI 0 = bI P := (if_neg h).symm
theorem bI_z {P : Prop} [Decidable P] : bI P = 0 ↔ ¬ P := by
  unfold bI
  by_cases h : P
  · rw [if_pos h]; exact ⟨fun z => absurd z (by decide), fun z => absurd h z⟩
  · rw [if_neg h]; exact ⟨fun _ => h, fun _ => by decide⟩
theorem bI_n {P : Prop} [Decidable P] : ¬ bI P = 0 ↔ P := by
  rw [bI_z, Decidable.not_not]
theorem bI_nb {P : Prop} [Decidable P] : narrow .boolean (.int (bI P)) = .int (bI P) := by
  unfold bI
  by_cases h : P
  · rw [if_pos h]; decide
  · rw [if_neg h]; decide
theorem bI_c {P Q : Prop} [Decidable P] [Decidable Q] (h : P ↔ Q) : bI P = bI Q := by
  unfold bI
  by_cases p : P
  · rw [if_pos p, if_pos (h.mp p)]
  · rw [if_neg p, if_neg (fun z => p (h.mpr z))]
theorem ct_zeq {a : Nat} (h : a < 2 ^ 31) : nI a = 0 ↔ a = 0 := by rw [← nI_0]; exact nI_eq h (by decide)
theorem ct_zlt {a : Nat} (h : a < 2 ^ 31) : nI a < 0 ↔ a < 0 := by rw [← nI_0]; exact nI_ltI h (by decide)
theorem ct_zle {a : Nat} (h : a < 2 ^ 31) : nI a ≤ 0 ↔ a ≤ 0 := by rw [← nI_0]; exact nI_leI h (by decide)
theorem ct_zgt {a : Nat} (h : a < 2 ^ 31) : 0 < nI a ↔ 0 < a := by rw [← nI_0]; exact nI_ltI (by decide) h
theorem ct_zge {a : Nat} (h : a < 2 ^ 31) : 0 ≤ nI a ↔ 0 ≤ a := by rw [← nI_0]; exact nI_leI (by decide) h
theorem ct_dec {n : Nat} (h : 0 < n) : nI n + Int32.ofInt (-1) = nI (n - 1) := by
  obtain ⟨k, rfl⟩ : ∃ k, n = k + 1 := ⟨n - 1, by omega⟩
  exact pk_m1 k
theorem ht_X_39_1 : ∀ w ∈ (vx_atS cn_X 39 "java/lang/IllegalArgumentException" ex_N).filter goodWord, w ∈ TB := fun w h => List.mem_filter.mpr ⟨(show ∀ w ∈ (vx_atS cn_X 39 "java/lang/IllegalArgumentException" ex_N).filter goodWord, w ∈ lw_tbl by decide +kernel) w h, (List.mem_filter.mp h).2⟩
theorem ht_X_39_2 : ∀ w ∈ (vx_atS cn_X 39 "java/lang/IllegalArgumentException" ex_N).filter (fun w => !goodWord w), w ∈ ct_BW := by decide +kernel
theorem ht_X_35_39_3 : ∀ w ∈ Cond.classLink cn_X 35 "java/lang/IllegalArgumentException" :: Cond.initialized "java/lang/IllegalArgumentException" :: vx_atS cn_X 39 "java/lang/IllegalArgumentException" ex_N, vx_ot w = true := by decide +kernel
theorem ht_X_56_1 : ∀ w ∈ (vx_atS cn_X 56 "java/lang/IllegalStateException" ex_N).filter goodWord, w ∈ TB := fun w h => List.mem_filter.mpr ⟨(show ∀ w ∈ (vx_atS cn_X 56 "java/lang/IllegalStateException" ex_N).filter goodWord, w ∈ lw_tbl by decide +kernel) w h, (List.mem_filter.mp h).2⟩
theorem ht_X_56_2 : ∀ w ∈ (vx_atS cn_X 56 "java/lang/IllegalStateException" ex_N).filter (fun w => !goodWord w), w ∈ ct_BW := by decide +kernel
theorem ht_X_52_56_3 : ∀ w ∈ Cond.classLink cn_X 52 "java/lang/IllegalStateException" :: Cond.initialized "java/lang/IllegalStateException" :: vx_atS cn_X 56 "java/lang/IllegalStateException" ex_N, vx_ot w = true := by decide +kernel
theorem ht_P_28_1 : ∀ w ∈ (vx_atS cn_P 28 "java/lang/IndexOutOfBoundsException" ex_N).filter goodWord, w ∈ TB := fun w h => List.mem_filter.mpr ⟨(show ∀ w ∈ (vx_atS cn_P 28 "java/lang/IndexOutOfBoundsException" ex_N).filter goodWord, w ∈ lw_tbl by decide +kernel) w h, (List.mem_filter.mp h).2⟩
theorem ht_P_28_2 : ∀ w ∈ (vx_atS cn_P 28 "java/lang/IndexOutOfBoundsException" ex_N).filter (fun w => !goodWord w), w ∈ ct_BW := by decide +kernel
theorem ht_P_24_28_3 : ∀ w ∈ Cond.classLink cn_P 24 "java/lang/IndexOutOfBoundsException" :: Cond.initialized "java/lang/IndexOutOfBoundsException" :: vx_atS cn_P 28 "java/lang/IndexOutOfBoundsException" ex_N, vx_ot w = true := by decide +kernel
theorem ht_B_23_1 : ∀ w ∈ (vx_atS cn_B 23 "java/lang/IndexOutOfBoundsException" ex_N).filter goodWord, w ∈ TB := fun w h => List.mem_filter.mpr ⟨(show ∀ w ∈ (vx_atS cn_B 23 "java/lang/IndexOutOfBoundsException" ex_N).filter goodWord, w ∈ lw_tbl by decide +kernel) w h, (List.mem_filter.mp h).2⟩
theorem ht_B_23_2 : ∀ w ∈ (vx_atS cn_B 23 "java/lang/IndexOutOfBoundsException" ex_N).filter (fun w => !goodWord w), w ∈ ct_BW := by decide +kernel
theorem ht_B_19_23_3 : ∀ w ∈ Cond.classLink cn_B 19 "java/lang/IndexOutOfBoundsException" :: Cond.initialized "java/lang/IndexOutOfBoundsException" :: vx_atS cn_B 23 "java/lang/IndexOutOfBoundsException" ex_N, vx_ot w = true := by decide +kernel
