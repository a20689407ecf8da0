/-! the class: helps -/
def cp_okt (n : Nat) (f : Nat → Int64) (t : Int64) : Prop := (0 ≤ t ∧ t ≤ cp_max) ∧ (n = 0 ∨ f (n - 1) < t)
theorem okt_1 {n : Nat} {f : Nat → Int64} {t : Int64} (h1 : ¬ t < 0) (h2 : t ≤ cp_max) (h3 : (if n = 0 then -1 else f (n - 1)) < t) : cp_okt n f t := by
  refine ⟨⟨Int64.not_lt.mp h1, h2⟩, ?_⟩
  by_cases c : n = 0
  · exact Or.inl c
  · rw [if_neg c] at h3; exact Or.inr h3
theorem okt_2 {n : Nat} {f : Nat → Int64} {t : Int64} (h1 : ¬ t < 0) (h3 : ¬ (if n = 0 then -1 else f (n - 1)) < t) : ¬ cp_okt n f t := by
  rintro ⟨-, h⟩
  by_cases c : n = 0
  · rw [if_pos c] at h3
    rw [Int64.lt_iff_toInt_lt, show (0 : Int64).toInt = 0 by decide] at h1
    rw [Int64.lt_iff_toInt_lt, show (-1 : Int64).toInt = -1 by decide] at h3
    omega
  · rw [if_neg c] at h3
    rcases h with h | h
    · exact c h
    · exact h3 h
theorem cp_ix_le {k : Int32} {n : Nat} (hn : n < 2 ^ 30) (h1 : ¬ k < 0) (h2 : k ≤ nI n) : ∃ j : Nat, j ≤ n ∧ k = nI j := by
  rcases pk_ix k (show n + 1 < 2 ^ 31 by omega) with a | a | ⟨j, hj, e⟩
  · exact absurd a h1
  · rw [Int32.le_iff_toInt_le, nI_toInt (by omega)] at a
    rw [Int32.le_iff_toInt_le, nI_toInt (by omega)] at h2
    omega
  · exact ⟨j, by omega, e⟩
theorem cp_ix_nle {k : Int32} {n : Nat} (hn : n < 2 ^ 30) (h : k < 0 ∨ ¬ k ≤ nI n) : ¬ cp_ix k (n + 1) := by
  rintro ⟨j, hj, rfl⟩
  rcases h with h | h
  · exact nI_pos (by omega) h
  · exact h (nI_le (by omega) (by omega))
/-- put's number and its bits -/
def cp_okp (k : Int32) (v : Int64) : Prop := ∃ j : Nat, j ≤ 64 ∧ k = nI j ∧ cp_fit v j
theorem nI_inj {a b : Nat} (ha : a < 2 ^ 31) (hb : b < 2 ^ 31) (h : nI a = nI b) : a = b := (nI_eq ha hb).mp h

set_option maxHeartbeats 4000000 in
set_option maxRecDepth 100000 in
theorem cc_X_init (l : Launch) (D : va_G) (cJ cB : ClassId) (q : Nat) (sz : Nat) : ct_v l my_X_init (Cond.code my_X_init mb_X_init 1 none :: TB) ({ frames := 2, cells := 10, slots := 24510, locals := 40 } : Room) D classes cJ cB [.ref q] [(q, .inr (5, [.null, .null, .null, .null, .int 0]))] sz (fun (u : Nat × Nat × Nat × Nat × Nat × Nat × Nat × Nat × Nat × Nat) => True) (fun u => [(q, .inr (5, [.ref u.1, .ref u.2.2.2.1, .ref u.2.2.2.2.2.2.1, .ref u.2.2.2.2.2.2.2.2.1, .int (nI 0)])), (u.1, .inr (2, [.ref u.2.1, .ref u.2.2.1, .int (nI 0)])), (u.2.1, .inl (cJ, 3000, .inr (.inl (fun _ => 0)))), (u.2.2.1, .inl (cJ, 3000, .inr (.inl (fun _ => 0)))), (u.2.2.2.1, .inr (2, [.ref u.2.2.2.2.1, .ref u.2.2.2.2.2.1, .int (nI 0)])), (u.2.2.2.2.1, .inl (cJ, 3000, .inr (.inl (fun _ => 0)))), (u.2.2.2.2.2.1, .inl (cJ, 3000, .inr (.inl (fun _ => 0)))), (u.2.2.2.2.2.2.1, .inr (0, [.ref u.2.2.2.2.2.2.2.1, .int (nI 0)])), (u.2.2.2.2.2.2.2.1, .inl (cJ, 6250, .inr (.inl (fun _ => 0)))), (u.2.2.2.2.2.2.2.2.1, .inr (0, [.ref u.2.2.2.2.2.2.2.2.2, .int (nI 0)])), (u.2.2.2.2.2.2.2.2.2, .inl (cJ, 6250, .inr (.inl (fun _ => 0))))]) 10 24510 := by
  refine ct_ofW (cc := mb_X_init) (maxL := 1) (ret := none) (by decide) rfl (Nat.le_of_ble_eq_true rfl) ?_
  intro p e s m below meth c hx hb hr hml hts hown hlocks hin hsz hK hP hD hA hS hZ ls hl
  have hw : ∀ w ∈ TB, w.before _ s = true := fun w h => hts w (List.mem_cons_of_mem _ h)
  have hown : s.vm.findClass cn_X = some m.cls := hown
  have hin : meth.name = "<init>" := hin
  generalize hAe : va_A [(q, .inr (5, [.null, .null, .null, .null, .int 0]))] sz = A at hD hA hS hZ ⊢
  clear hAe
  have hl : lv_has ls 1 [(0, .ref q)] := hl
  have hP : va_P D classes [(q, .inr (5, [.null, .null, .null, .null, .int 0]))] s.heap := hP
  refine lv_aload_n hx hb dd_X_init_0 rfl (lv_at hl 0 rfl) ?_
  refine W.objInit hx hb hown (hw _ wi_43) (hw _ wi_44) (hw _ wi_obj) rfl (by rw [hml]; exact hl.1) rfl dd_X_init_1 (Nat.le_of_ble_eq_true rfl) (Nat.le_of_ble_eq_true rfl) ?_
  refine W.eq (g2 := F0 m 4 ls []) rfl ?_
  refine lv_aload_n hx hb dd_X_init_4 rfl (lv_at hl 0 rfl) ?_
  refine va_new (ci := 2) (fs := [.null, .null, .int 0]) (C := cn_P) (T := cf_P) (N := 3) hx hb hw in_P ty_P to_P hown (hw _ wi_46) (hw _ wi_47) (hw _ wi_23) hK hP hD hS hA rfl (fun j hj => by rcases (show j = 0 ∨ j = 1 ∨ j = 2 by omega) with rfl | rfl | rfl <;> rfl) (Nat.le_of_ble_eq_true rfl) (Nat.le_of_ble_eq_true rfl) dd_X_init_5 (fun qp H hP hD hS => ?_)
  have hP : va_P D classes [(q, .inr (5, [.null, .null, .null, .null, .int 0])), (qp, .inr (2, [.null, .null, .int 0]))] _ := hP
  have hD : va_D A [(q, .inr (5, [.null, .null, .null, .null, .int 0])), (qp, .inr (2, [.null, .null, .int 0]))] := hD
  refine lv_dup hx hb dd_X_init_8 rfl ?_
  refine ct_behind_v (wc := [(qp, .inr (2, [.null, .null, .int 0]))]) (wr := [(q, .inr (5, [.null, .null, .null, .null, .int 0]))]) (av := [.ref qp]) (va_runI (As := []) (rest := [.ref qp, .ref q]) ⟨hx, hb, hml, hown, hw⟩ (cc_P_init l D cJ cB qp _) (cwI 0 hw (tb_I wi_50) rfl rfl rfl (hw _ wi_23) (hw _ wi_48) (hw _ wi_49) rfl (by decide +kernel) ⟨Nat.le_of_ble_eq_true rfl, Nat.le_of_ble_eq_true rfl⟩) ⟨ct_blind, ct_pc hZ hK hP hD hS hA [1] rfl (by decide)⟩ rfl rfl hl.1 rfl (lv_room (Nat.le_of_ble_eq_true rfl)) dd_X_init_9 ⟨Nat.le_of_ble_eq_true rfl, Nat.le_of_ble_eq_true rfl⟩) hK hP hD hS hA [1] [0] rfl rfl (by decide) (by decide) (fun u_9 H locs hw_9 hP hD hS => ?_)
  obtain ⟨qpt, qpv⟩ := u_9
  have hP : va_P D classes [(q, .inr (5, [.null, .null, .null, .null, .int 0])), (qp, .inr (2, [.ref qpt, .ref qpv, .int (nI 0)])), (qpt, .inl (cJ, 3000, .inr (.inl (fun _ => 0)))), (qpv, .inl (cJ, 3000, .inr (.inl (fun _ => 0))))] _ := hP
  have hD : va_D A [(q, .inr (5, [.null, .null, .null, .null, .int 0])), (qp, .inr (2, [.ref qpt, .ref qpv, .int (nI 0)])), (qpt, .inl (cJ, 3000, .inr (.inl (fun _ => 0)))), (qpv, .inl (cJ, 3000, .inr (.inl (fun _ => 0))))] := hD
  refine va_put (D := D) (ci := 5) (v := .ref qp) (ty := .object "ChunkPacker$PointRow") (C := cn_X) (T := cf_X) (N := 5) hx hb hw in_X ty_X to_X nn_X hown hK hP hD hS 0 rfl rfl 0 (by decide) (hw _ wi_76) (fun _ h9 => h9) rfl (by decide +kernel) (rfl) (rfl) (Nat.le_of_ble_eq_true rfl) dd_X_init_12 (fun H locs hP hD hS => ?_)
  have hP : va_P D classes [(q, .inr (5, [.ref qp, .null, .null, .null, .int 0])), (qp, .inr (2, [.ref qpt, .ref qpv, .int (nI 0)])), (qpt, .inl (cJ, 3000, .inr (.inl (fun _ => 0)))), (qpv, .inl (cJ, 3000, .inr (.inl (fun _ => 0))))] _ := hP
  have hD : va_D A [(q, .inr (5, [.ref qp, .null, .null, .null, .int 0])), (qp, .inr (2, [.ref qpt, .ref qpv, .int (nI 0)])), (qpt, .inl (cJ, 3000, .inr (.inl (fun _ => 0)))), (qpv, .inl (cJ, 3000, .inr (.inl (fun _ => 0))))] := hD
  refine lv_aload_n hx hb dd_X_init_15 rfl (lv_at hl 0 rfl) ?_
  refine va_new (ci := 2) (fs := [.null, .null, .int 0]) (C := cn_P) (T := cf_P) (N := 3) hx hb hw in_P ty_P to_P hown (hw _ wi_46) (hw _ wi_47) (hw _ wi_23) hK hP hD hS hA rfl (fun j hj => by rcases (show j = 0 ∨ j = 1 ∨ j = 2 by omega) with rfl | rfl | rfl <;> rfl) (Nat.le_of_ble_eq_true rfl) (Nat.le_of_ble_eq_true rfl) dd_X_init_16 (fun qs H hP hD hS => ?_)
  have hP : va_P D classes [(q, .inr (5, [.ref qp, .null, .null, .null, .int 0])), (qp, .inr (2, [.ref qpt, .ref qpv, .int (nI 0)])), (qpt, .inl (cJ, 3000, .inr (.inl (fun _ => 0)))), (qpv, .inl (cJ, 3000, .inr (.inl (fun _ => 0)))), (qs, .inr (2, [.null, .null, .int 0]))] _ := hP
  have hD : va_D A [(q, .inr (5, [.ref qp, .null, .null, .null, .int 0])), (qp, .inr (2, [.ref qpt, .ref qpv, .int (nI 0)])), (qpt, .inl (cJ, 3000, .inr (.inl (fun _ => 0)))), (qpv, .inl (cJ, 3000, .inr (.inl (fun _ => 0)))), (qs, .inr (2, [.null, .null, .int 0]))] := hD
  refine lv_dup hx hb dd_X_init_19 rfl ?_
  refine ct_behind_v (wc := [(qs, .inr (2, [.null, .null, .int 0]))]) (wr := [(q, .inr (5, [.ref qp, .null, .null, .null, .int 0])), (qp, .inr (2, [.ref qpt, .ref qpv, .int (nI 0)])), (qpt, .inl (cJ, 3000, .inr (.inl (fun _ => 0)))), (qpv, .inl (cJ, 3000, .inr (.inl (fun _ => 0))))]) (av := [.ref qs]) (va_runI (As := []) (rest := [.ref qs, .ref q]) ⟨hx, hb, hml, hown, hw⟩ (cc_P_init l D cJ cB qs _) (cwI 0 hw (tb_I wi_50) rfl rfl rfl (hw _ wi_23) (hw _ wi_48) (hw _ wi_49) rfl (by decide +kernel) ⟨Nat.le_of_ble_eq_true rfl, Nat.le_of_ble_eq_true rfl⟩) ⟨ct_blind, ct_pc hZ hK hP hD hS hA [4] rfl (by decide)⟩ rfl rfl hl.1 rfl (lv_room (Nat.le_of_ble_eq_true rfl)) dd_X_init_20 ⟨Nat.le_of_ble_eq_true rfl, Nat.le_of_ble_eq_true rfl⟩) hK hP hD hS hA [4] [0, 1, 2, 3] rfl rfl (by decide) (by decide) (fun u_20 H locs hw_20 hP hD hS => ?_)
  obtain ⟨qst, qsv⟩ := u_20
  have hP : va_P D classes [(q, .inr (5, [.ref qp, .null, .null, .null, .int 0])), (qp, .inr (2, [.ref qpt, .ref qpv, .int (nI 0)])), (qpt, .inl (cJ, 3000, .inr (.inl (fun _ => 0)))), (qpv, .inl (cJ, 3000, .inr (.inl (fun _ => 0)))), (qs, .inr (2, [.ref qst, .ref qsv, .int (nI 0)])), (qst, .inl (cJ, 3000, .inr (.inl (fun _ => 0)))), (qsv, .inl (cJ, 3000, .inr (.inl (fun _ => 0))))] _ := hP
  have hD : va_D A [(q, .inr (5, [.ref qp, .null, .null, .null, .int 0])), (qp, .inr (2, [.ref qpt, .ref qpv, .int (nI 0)])), (qpt, .inl (cJ, 3000, .inr (.inl (fun _ => 0)))), (qpv, .inl (cJ, 3000, .inr (.inl (fun _ => 0)))), (qs, .inr (2, [.ref qst, .ref qsv, .int (nI 0)])), (qst, .inl (cJ, 3000, .inr (.inl (fun _ => 0)))), (qsv, .inl (cJ, 3000, .inr (.inl (fun _ => 0))))] := hD
  refine va_put (D := D) (ci := 5) (v := .ref qs) (ty := .object "ChunkPacker$PointRow") (C := cn_X) (T := cf_X) (N := 5) hx hb hw in_X ty_X to_X nn_X hown hK hP hD hS 0 rfl rfl 1 (by decide) (hw _ wi_77) (fun _ h9 => h9) rfl (by decide +kernel) (rfl) (rfl) (Nat.le_of_ble_eq_true rfl) dd_X_init_23 (fun H locs hP hD hS => ?_)
  have hP : va_P D classes [(q, .inr (5, [.ref qp, .ref qs, .null, .null, .int 0])), (qp, .inr (2, [.ref qpt, .ref qpv, .int (nI 0)])), (qpt, .inl (cJ, 3000, .inr (.inl (fun _ => 0)))), (qpv, .inl (cJ, 3000, .inr (.inl (fun _ => 0)))), (qs, .inr (2, [.ref qst, .ref qsv, .int (nI 0)])), (qst, .inl (cJ, 3000, .inr (.inl (fun _ => 0)))), (qsv, .inl (cJ, 3000, .inr (.inl (fun _ => 0))))] _ := hP
  have hD : va_D A [(q, .inr (5, [.ref qp, .ref qs, .null, .null, .int 0])), (qp, .inr (2, [.ref qpt, .ref qpv, .int (nI 0)])), (qpt, .inl (cJ, 3000, .inr (.inl (fun _ => 0)))), (qpv, .inl (cJ, 3000, .inr (.inl (fun _ => 0)))), (qs, .inr (2, [.ref qst, .ref qsv, .int (nI 0)])), (qst, .inl (cJ, 3000, .inr (.inl (fun _ => 0)))), (qsv, .inl (cJ, 3000, .inr (.inl (fun _ => 0))))] := hD
  refine lv_aload_n hx hb dd_X_init_26 rfl (lv_at hl 0 rfl) ?_
  refine va_new (ci := 0) (fs := [.null, .int 0]) (C := cn_B) (T := cf_B) (N := 2) hx hb hw in_B ty_B to_B hown (hw _ wi_63) (hw _ wi_64) (hw _ wi_24) hK hP hD hS hA rfl (fun j hj => by rcases (show j = 0 ∨ j = 1 by omega) with rfl | rfl <;> rfl) (Nat.le_of_ble_eq_true rfl) (Nat.le_of_ble_eq_true rfl) dd_X_init_27 (fun qb H hP hD hS => ?_)
  have hP : va_P D classes [(q, .inr (5, [.ref qp, .ref qs, .null, .null, .int 0])), (qp, .inr (2, [.ref qpt, .ref qpv, .int (nI 0)])), (qpt, .inl (cJ, 3000, .inr (.inl (fun _ => 0)))), (qpv, .inl (cJ, 3000, .inr (.inl (fun _ => 0)))), (qs, .inr (2, [.ref qst, .ref qsv, .int (nI 0)])), (qst, .inl (cJ, 3000, .inr (.inl (fun _ => 0)))), (qsv, .inl (cJ, 3000, .inr (.inl (fun _ => 0)))), (qb, .inr (0, [.null, .int 0]))] _ := hP
  have hD : va_D A [(q, .inr (5, [.ref qp, .ref qs, .null, .null, .int 0])), (qp, .inr (2, [.ref qpt, .ref qpv, .int (nI 0)])), (qpt, .inl (cJ, 3000, .inr (.inl (fun _ => 0)))), (qpv, .inl (cJ, 3000, .inr (.inl (fun _ => 0)))), (qs, .inr (2, [.ref qst, .ref qsv, .int (nI 0)])), (qst, .inl (cJ, 3000, .inr (.inl (fun _ => 0)))), (qsv, .inl (cJ, 3000, .inr (.inl (fun _ => 0)))), (qb, .inr (0, [.null, .int 0]))] := hD
  refine lv_dup hx hb dd_X_init_30 rfl ?_
  refine ct_behind_v (wc := [(qb, .inr (0, [.null, .int 0]))]) (wr := [(q, .inr (5, [.ref qp, .ref qs, .null, .null, .int 0])), (qp, .inr (2, [.ref qpt, .ref qpv, .int (nI 0)])), (qpt, .inl (cJ, 3000, .inr (.inl (fun _ => 0)))), (qpv, .inl (cJ, 3000, .inr (.inl (fun _ => 0)))), (qs, .inr (2, [.ref qst, .ref qsv, .int (nI 0)])), (qst, .inl (cJ, 3000, .inr (.inl (fun _ => 0)))), (qsv, .inl (cJ, 3000, .inr (.inl (fun _ => 0))))]) (av := [.ref qb]) (va_runI (As := []) (rest := [.ref qb, .ref q]) ⟨hx, hb, hml, hown, hw⟩ (cc_B_init l D cJ cB qb _) (cwI 0 hw (tb_I wi_67) rfl rfl rfl (hw _ wi_24) (hw _ wi_65) (hw _ wi_66) rfl (by decide +kernel) ⟨Nat.le_of_ble_eq_true rfl, Nat.le_of_ble_eq_true rfl⟩) ⟨ct_blind, ct_pc hZ hK hP hD hS hA [7] rfl (by decide)⟩ rfl rfl hl.1 rfl (lv_room (Nat.le_of_ble_eq_true rfl)) dd_X_init_31 ⟨Nat.le_of_ble_eq_true rfl, Nat.le_of_ble_eq_true rfl⟩) hK hP hD hS hA [7] [0, 1, 2, 3, 4, 5, 6] rfl rfl (by decide) (by decide) (fun u_31 H locs hw_31 hP hD hS => ?_)
  obtain ⟨qbw, h9⟩ : ∃ z, z = u_31 := ⟨_, rfl⟩
  rw [← h9] at hP hD
  clear h9
  have hP : va_P D classes [(q, .inr (5, [.ref qp, .ref qs, .null, .null, .int 0])), (qp, .inr (2, [.ref qpt, .ref qpv, .int (nI 0)])), (qpt, .inl (cJ, 3000, .inr (.inl (fun _ => 0)))), (qpv, .inl (cJ, 3000, .inr (.inl (fun _ => 0)))), (qs, .inr (2, [.ref qst, .ref qsv, .int (nI 0)])), (qst, .inl (cJ, 3000, .inr (.inl (fun _ => 0)))), (qsv, .inl (cJ, 3000, .inr (.inl (fun _ => 0)))), (qb, .inr (0, [.ref qbw, .int (nI 0)])), (qbw, .inl (cJ, 6250, .inr (.inl (fun _ => 0))))] _ := hP
  have hD : va_D A [(q, .inr (5, [.ref qp, .ref qs, .null, .null, .int 0])), (qp, .inr (2, [.ref qpt, .ref qpv, .int (nI 0)])), (qpt, .inl (cJ, 3000, .inr (.inl (fun _ => 0)))), (qpv, .inl (cJ, 3000, .inr (.inl (fun _ => 0)))), (qs, .inr (2, [.ref qst, .ref qsv, .int (nI 0)])), (qst, .inl (cJ, 3000, .inr (.inl (fun _ => 0)))), (qsv, .inl (cJ, 3000, .inr (.inl (fun _ => 0)))), (qb, .inr (0, [.ref qbw, .int (nI 0)])), (qbw, .inl (cJ, 6250, .inr (.inl (fun _ => 0))))] := hD
  refine va_put (D := D) (ci := 5) (v := .ref qb) (ty := .object "ChunkPacker$BitRow") (C := cn_X) (T := cf_X) (N := 5) hx hb hw in_X ty_X to_X nn_X hown hK hP hD hS 0 rfl rfl 2 (by decide) (hw _ wi_78) (fun _ h9 => h9) rfl (by decide +kernel) (rfl) (rfl) (Nat.le_of_ble_eq_true rfl) dd_X_init_34 (fun H locs hP hD hS => ?_)
  have hP : va_P D classes [(q, .inr (5, [.ref qp, .ref qs, .ref qb, .null, .int 0])), (qp, .inr (2, [.ref qpt, .ref qpv, .int (nI 0)])), (qpt, .inl (cJ, 3000, .inr (.inl (fun _ => 0)))), (qpv, .inl (cJ, 3000, .inr (.inl (fun _ => 0)))), (qs, .inr (2, [.ref qst, .ref qsv, .int (nI 0)])), (qst, .inl (cJ, 3000, .inr (.inl (fun _ => 0)))), (qsv, .inl (cJ, 3000, .inr (.inl (fun _ => 0)))), (qb, .inr (0, [.ref qbw, .int (nI 0)])), (qbw, .inl (cJ, 6250, .inr (.inl (fun _ => 0))))] _ := hP
  have hD : va_D A [(q, .inr (5, [.ref qp, .ref qs, .ref qb, .null, .int 0])), (qp, .inr (2, [.ref qpt, .ref qpv, .int (nI 0)])), (qpt, .inl (cJ, 3000, .inr (.inl (fun _ => 0)))), (qpv, .inl (cJ, 3000, .inr (.inl (fun _ => 0)))), (qs, .inr (2, [.ref qst, .ref qsv, .int (nI 0)])), (qst, .inl (cJ, 3000, .inr (.inl (fun _ => 0)))), (qsv, .inl (cJ, 3000, .inr (.inl (fun _ => 0)))), (qb, .inr (0, [.ref qbw, .int (nI 0)])), (qbw, .inl (cJ, 6250, .inr (.inl (fun _ => 0))))] := hD
  refine lv_aload_n hx hb dd_X_init_37 rfl (lv_at hl 0 rfl) ?_
  refine va_new (ci := 0) (fs := [.null, .int 0]) (C := cn_B) (T := cf_B) (N := 2) hx hb hw in_B ty_B to_B hown (hw _ wi_63) (hw _ wi_64) (hw _ wi_24) hK hP hD hS hA rfl (fun j hj => by rcases (show j = 0 ∨ j = 1 by omega) with rfl | rfl <;> rfl) (Nat.le_of_ble_eq_true rfl) (Nat.le_of_ble_eq_true rfl) dd_X_init_38 (fun qc H hP hD hS => ?_)
  have hP : va_P D classes [(q, .inr (5, [.ref qp, .ref qs, .ref qb, .null, .int 0])), (qp, .inr (2, [.ref qpt, .ref qpv, .int (nI 0)])), (qpt, .inl (cJ, 3000, .inr (.inl (fun _ => 0)))), (qpv, .inl (cJ, 3000, .inr (.inl (fun _ => 0)))), (qs, .inr (2, [.ref qst, .ref qsv, .int (nI 0)])), (qst, .inl (cJ, 3000, .inr (.inl (fun _ => 0)))), (qsv, .inl (cJ, 3000, .inr (.inl (fun _ => 0)))), (qb, .inr (0, [.ref qbw, .int (nI 0)])), (qbw, .inl (cJ, 6250, .inr (.inl (fun _ => 0)))), (qc, .inr (0, [.null, .int 0]))] _ := hP
  have hD : va_D A [(q, .inr (5, [.ref qp, .ref qs, .ref qb, .null, .int 0])), (qp, .inr (2, [.ref qpt, .ref qpv, .int (nI 0)])), (qpt, .inl (cJ, 3000, .inr (.inl (fun _ => 0)))), (qpv, .inl (cJ, 3000, .inr (.inl (fun _ => 0)))), (qs, .inr (2, [.ref qst, .ref qsv, .int (nI 0)])), (qst, .inl (cJ, 3000, .inr (.inl (fun _ => 0)))), (qsv, .inl (cJ, 3000, .inr (.inl (fun _ => 0)))), (qb, .inr (0, [.ref qbw, .int (nI 0)])), (qbw, .inl (cJ, 6250, .inr (.inl (fun _ => 0)))), (qc, .inr (0, [.null, .int 0]))] := hD
  refine lv_dup hx hb dd_X_init_41 rfl ?_
  refine ct_behind_v (wc := [(qc, .inr (0, [.null, .int 0]))]) (wr := [(q, .inr (5, [.ref qp, .ref qs, .ref qb, .null, .int 0])), (qp, .inr (2, [.ref qpt, .ref qpv, .int (nI 0)])), (qpt, .inl (cJ, 3000, .inr (.inl (fun _ => 0)))), (qpv, .inl (cJ, 3000, .inr (.inl (fun _ => 0)))), (qs, .inr (2, [.ref qst, .ref qsv, .int (nI 0)])), (qst, .inl (cJ, 3000, .inr (.inl (fun _ => 0)))), (qsv, .inl (cJ, 3000, .inr (.inl (fun _ => 0)))), (qb, .inr (0, [.ref qbw, .int (nI 0)])), (qbw, .inl (cJ, 6250, .inr (.inl (fun _ => 0))))]) (av := [.ref qc]) (va_runI (As := []) (rest := [.ref qc, .ref q]) ⟨hx, hb, hml, hown, hw⟩ (cc_B_init l D cJ cB qc _) (cwI 0 hw (tb_I wi_67) rfl rfl rfl (hw _ wi_24) (hw _ wi_65) (hw _ wi_66) rfl (by decide +kernel) ⟨Nat.le_of_ble_eq_true rfl, Nat.le_of_ble_eq_true rfl⟩) ⟨ct_blind, ct_pc hZ hK hP hD hS hA [9] rfl (by decide)⟩ rfl rfl hl.1 rfl (lv_room (Nat.le_of_ble_eq_true rfl)) dd_X_init_42 ⟨Nat.le_of_ble_eq_true rfl, Nat.le_of_ble_eq_true rfl⟩) hK hP hD hS hA [9] [0, 1, 2, 3, 4, 5, 6, 7, 8] rfl rfl (by decide) (by decide) (fun u_42 H locs hw_42 hP hD hS => ?_)
  obtain ⟨qcw, h9⟩ : ∃ z, z = u_42 := ⟨_, rfl⟩
  rw [← h9] at hP hD
  clear h9
  have hP : va_P D classes [(q, .inr (5, [.ref qp, .ref qs, .ref qb, .null, .int 0])), (qp, .inr (2, [.ref qpt, .ref qpv, .int (nI 0)])), (qpt, .inl (cJ, 3000, .inr (.inl (fun _ => 0)))), (qpv, .inl (cJ, 3000, .inr (.inl (fun _ => 0)))), (qs, .inr (2, [.ref qst, .ref qsv, .int (nI 0)])), (qst, .inl (cJ, 3000, .inr (.inl (fun _ => 0)))), (qsv, .inl (cJ, 3000, .inr (.inl (fun _ => 0)))), (qb, .inr (0, [.ref qbw, .int (nI 0)])), (qbw, .inl (cJ, 6250, .inr (.inl (fun _ => 0)))), (qc, .inr (0, [.ref qcw, .int (nI 0)])), (qcw, .inl (cJ, 6250, .inr (.inl (fun _ => 0))))] _ := hP
  have hD : va_D A [(q, .inr (5, [.ref qp, .ref qs, .ref qb, .null, .int 0])), (qp, .inr (2, [.ref qpt, .ref qpv, .int (nI 0)])), (qpt, .inl (cJ, 3000, .inr (.inl (fun _ => 0)))), (qpv, .inl (cJ, 3000, .inr (.inl (fun _ => 0)))), (qs, .inr (2, [.ref qst, .ref qsv, .int (nI 0)])), (qst, .inl (cJ, 3000, .inr (.inl (fun _ => 0)))), (qsv, .inl (cJ, 3000, .inr (.inl (fun _ => 0)))), (qb, .inr (0, [.ref qbw, .int (nI 0)])), (qbw, .inl (cJ, 6250, .inr (.inl (fun _ => 0)))), (qc, .inr (0, [.ref qcw, .int (nI 0)])), (qcw, .inl (cJ, 6250, .inr (.inl (fun _ => 0))))] := hD
  refine va_put (D := D) (ci := 5) (v := .ref qc) (ty := .object "ChunkPacker$BitRow") (C := cn_X) (T := cf_X) (N := 5) hx hb hw in_X ty_X to_X nn_X hown hK hP hD hS 0 rfl rfl 3 (by decide) (hw _ wi_79) (fun _ h9 => h9) rfl (by decide +kernel) (rfl) (rfl) (Nat.le_of_ble_eq_true rfl) dd_X_init_45 (fun H locs hP hD hS => ?_)
  have hP : va_P D classes [(q, .inr (5, [.ref qp, .ref qs, .ref qb, .ref qc, .int 0])), (qp, .inr (2, [.ref qpt, .ref qpv, .int (nI 0)])), (qpt, .inl (cJ, 3000, .inr (.inl (fun _ => 0)))), (qpv, .inl (cJ, 3000, .inr (.inl (fun _ => 0)))), (qs, .inr (2, [.ref qst, .ref qsv, .int (nI 0)])), (qst, .inl (cJ, 3000, .inr (.inl (fun _ => 0)))), (qsv, .inl (cJ, 3000, .inr (.inl (fun _ => 0)))), (qb, .inr (0, [.ref qbw, .int (nI 0)])), (qbw, .inl (cJ, 6250, .inr (.inl (fun _ => 0)))), (qc, .inr (0, [.ref qcw, .int (nI 0)])), (qcw, .inl (cJ, 6250, .inr (.inl (fun _ => 0))))] _ := hP
  have hD : va_D A [(q, .inr (5, [.ref qp, .ref qs, .ref qb, .ref qc, .int 0])), (qp, .inr (2, [.ref qpt, .ref qpv, .int (nI 0)])), (qpt, .inl (cJ, 3000, .inr (.inl (fun _ => 0)))), (qpv, .inl (cJ, 3000, .inr (.inl (fun _ => 0)))), (qs, .inr (2, [.ref qst, .ref qsv, .int (nI 0)])), (qst, .inl (cJ, 3000, .inr (.inl (fun _ => 0)))), (qsv, .inl (cJ, 3000, .inr (.inl (fun _ => 0)))), (qb, .inr (0, [.ref qbw, .int (nI 0)])), (qbw, .inl (cJ, 6250, .inr (.inl (fun _ => 0)))), (qc, .inr (0, [.ref qcw, .int (nI 0)])), (qcw, .inl (cJ, 6250, .inr (.inl (fun _ => 0))))] := hD
  refine lv_aload_n hx hb dd_X_init_48 rfl (lv_at hl 0 rfl) ?_
  refine lv_iconst (v := nI 0) hx hb dd_X_init_49 (by decide) ?_
  refine va_put (D := D) (ci := 5) (v := .int (nI 0)) (ty := .int) (C := cn_X) (T := cf_X) (N := 5) hx hb hw in_X ty_X to_X nn_X hown hK hP hD hS 0 rfl rfl 4 (by decide) (hw _ wi_80) (fun _ h9 => h9) rfl (by decide +kernel) (rfl) (rfl) (Nat.le_of_ble_eq_true rfl) dd_X_init_50 (fun H locs hP hD hS => ?_)
  have hP : va_P D classes [(q, .inr (5, [.ref qp, .ref qs, .ref qb, .ref qc, .int (nI 0)])), (qp, .inr (2, [.ref qpt, .ref qpv, .int (nI 0)])), (qpt, .inl (cJ, 3000, .inr (.inl (fun _ => 0)))), (qpv, .inl (cJ, 3000, .inr (.inl (fun _ => 0)))), (qs, .inr (2, [.ref qst, .ref qsv, .int (nI 0)])), (qst, .inl (cJ, 3000, .inr (.inl (fun _ => 0)))), (qsv, .inl (cJ, 3000, .inr (.inl (fun _ => 0)))), (qb, .inr (0, [.ref qbw, .int (nI 0)])), (qbw, .inl (cJ, 6250, .inr (.inl (fun _ => 0)))), (qc, .inr (0, [.ref qcw, .int (nI 0)])), (qcw, .inl (cJ, 6250, .inr (.inl (fun _ => 0))))] _ := hP
  have hD : va_D A [(q, .inr (5, [.ref qp, .ref qs, .ref qb, .ref qc, .int (nI 0)])), (qp, .inr (2, [.ref qpt, .ref qpv, .int (nI 0)])), (qpt, .inl (cJ, 3000, .inr (.inl (fun _ => 0)))), (qpv, .inl (cJ, 3000, .inr (.inl (fun _ => 0)))), (qs, .inr (2, [.ref qst, .ref qsv, .int (nI 0)])), (qst, .inl (cJ, 3000, .inr (.inl (fun _ => 0)))), (qsv, .inl (cJ, 3000, .inr (.inl (fun _ => 0)))), (qb, .inr (0, [.ref qbw, .int (nI 0)])), (qbw, .inl (cJ, 6250, .inr (.inl (fun _ => 0)))), (qc, .inr (0, [.ref qcw, .int (nI 0)])), (qcw, .inl (cJ, 6250, .inr (.inl (fun _ => 0))))] := hD
  refine ct_vret (u := (qp, qpt, qpv, qs, qst, qsv, qb, qbw, qc, qcw)) hx hb hr hlocks hK hP hD hS rfl ?_ dd_X_init_53
  trivial

set_option maxHeartbeats 4000000 in
set_option maxRecDepth 100000 in
theorem cc_X_taken (l : Launch) (D : va_G) (cJ cB : ClassId) (q qp qs qb qc tk : Nat) (sz : Nat) : ct_i l my_X_taken (Cond.code my_X_taken mb_X_taken 1 (some .int) :: TB) ({ frames := 0, cells := 0, slots := 0, locals := 0 } : Room) D classes cJ cB [.ref q] [(q, .inr (5, [.ref qp, .ref qs, .ref qb, .ref qc, .int (nI tk)]))] sz (fun (r : Int32) (u : Unit) => r = nI tk) (fun u => [(q, .inr (5, [.ref qp, .ref qs, .ref qb, .ref qc, .int (nI tk)]))]) 0 0 := by
  refine ct_ofW (cc := mb_X_taken) (maxL := 1) (ret := some .int) (by decide) rfl (Nat.le_of_ble_eq_true rfl) ?_
  intro p e s m below meth c hx hb hr hml hts hown hlocks hin hsz hK hP hD hA hS hZ ls hl
  have hw : ∀ w ∈ TB, w.before _ s = true := fun w h => hts w (List.mem_cons_of_mem _ h)
  have hown : s.vm.findClass cn_X = some m.cls := hown
  have hin : meth.name = "taken" := hin
  generalize hAe : va_A [(q, .inr (5, [.ref qp, .ref qs, .ref qb, .ref qc, .int (nI tk)]))] sz = A at hD hA hS hZ ⊢
  clear hAe
  have hl : lv_has ls 1 [(0, .ref q)] := hl
  have hP : va_P D classes [(q, .inr (5, [.ref qp, .ref qs, .ref qb, .ref qc, .int (nI tk)]))] s.heap := hP
  refine lv_aload_n hx hb dd_X_taken_0 rfl (lv_at hl 0 rfl) ?_
  refine va_get (D := D) (ci := 5) (C := cn_X) (T := cf_X) (N := 5) hx hb hw in_X hown hK hP 0 rfl rfl 4 (by decide) (hw _ wi_80) (fun _ h9 => h9) rfl dd_X_taken_1 ?_
  refine ct_iret (u := ()) hx hb hr hlocks hK hP hD hS rfl ?_ dd_X_taken_4
  rfl

set_option maxHeartbeats 4000000 in
set_option maxRecDepth 100000 in
theorem cc_X_add (l : Launch) (hlt : l.stackTraces = false) (D : va_G) (cJ cB : ClassId) (q qp qs qb qc tk : Nat) (qt qv : Nat) (n : Nat) (f g : Nat → Int64) (t v : Int64) (sz : Nat) (h1 : n ≤ 3000) : cx_i l my_X_add (Cond.code my_X_add mb_X_add 5 (some .int) :: TB) ({ frames := 6, cells := 1, slots := 6, locals := 90 } : Room) D classes cJ cB [.ref q, .long t, .long v] [(q, .inr (5, [.ref qp, .ref qs, .ref qb, .ref qc, .int (nI tk)])), (qp, .inr (2, [.ref qt, .ref qv, .int (nI n)])), (qt, .inl (cJ, 3000, .inr (.inl f))), (qv, .inl (cJ, 3000, .inr (.inl g)))] sz (fun (r : Int32) (u : Unit) => r = nI (n + 1) ∧ cp_okt n f t ∧ n < 3000) (fun u => [(q, .inr (5, [.ref qp, .ref qs, .ref qb, .ref qc, .int (nI tk)])), (qp, .inr (2, [.ref qt, .ref qv, .int (nI (n + 1))])), (qt, .inl (cJ, 3000, .inr (.inl (vp_updL f n t)))), (qv, .inl (cJ, 3000, .inr (.inl (vp_updL g n v))))]) (fun E => (E = ex_A ∧ ¬ cp_okt n f t) ∨ (E = ex_S ∧ cp_okt n f t ∧ n = 3000)) 1 6 := by
  refine cx_ofW (cc := mb_X_add) (maxL := 5) (ret := some .int) (by decide) rfl (Nat.le_of_ble_eq_true rfl) ?_
  intro p e s m below meth c hx hb hr hml hts hown hlocks hin hsz hK hP hD hA hS hZ hex ls hl
  have hw : ∀ w ∈ TB, w.before _ s = true := fun w h => hts w (List.mem_cons_of_mem _ h)
  have hown : s.vm.findClass cn_X = some m.cls := hown
  have hin : meth.name = "add" := hin
  generalize hAe : va_A [(q, .inr (5, [.ref qp, .ref qs, .ref qb, .ref qc, .int (nI tk)])), (qp, .inr (2, [.ref qt, .ref qv, .int (nI n)])), (qt, .inl (cJ, 3000, .inr (.inl f))), (qv, .inl (cJ, 3000, .inr (.inl g)))] sz = A at hD hA hS hZ ⊢
  clear hAe
  have hl : lv_has ls 5 [(0, .ref q), (1, .long t), (3, .long v)] := hl
  have hP : va_P D classes [(q, .inr (5, [.ref qp, .ref qs, .ref qb, .ref qc, .int (nI tk)])), (qp, .inr (2, [.ref qt, .ref qv, .int (nI n)])), (qt, .inl (cJ, 3000, .inr (.inl f))), (qv, .inl (cJ, 3000, .inr (.inl g)))] s.heap := hP
  refine lv_lload_n hx hb dd_X_add_0 rfl (lv_at hl 1 rfl) ?_
  refine lv_lconst (v := 0) hx hb dd_X_add_1 (by decide) ?_
  refine W.lcmp hx hb dd_X_add_2 ?_
  refine lv_if_lt (tgt := 14) hx hb dd_X_add_3 (by decide) (fun c_3 => ?_) (fun c_3 => ?_)
  · skip
    have c_3 : t < 0 := (lg_cmp_lt _ _).mp c_3
    refine cx_throw (own := cn_X) (cls := ex_A) (text := "no time") (ik := 35) (is := 37) (ic := 39) hx hb hlt hw hZ hown (by decide +kernel) wi_106 wi_29 (by decide +kernel) ht_X_39_1 ht_X_39_2 ht_X_35_39_3 hK hP hD hS (hl.1.trans hml.symm) hex dd_X_add_14 dd_X_add_17 dd_X_add_18 dd_X_add_20 dd_X_add_23 (Nat.le_of_ble_eq_true rfl) (Nat.le_of_ble_eq_true rfl) (Nat.le_of_ble_eq_true rfl) (Nat.le_of_ble_eq_true rfl) hlocks ?_ (Nat.le_of_ble_eq_true rfl) (Nat.le_of_ble_eq_true rfl)
    exact Or.inl ⟨rfl, fun z => absurd c_3 (Int64.not_lt.mpr z.1.1)⟩
  have c_3 : ¬ (t < 0) := fun z => c_3 ((lg_cmp_lt _ _).mpr z)
  refine lv_lload_n hx hb dd_X_add_6 rfl (lv_at hl 1 rfl) ?_
  refine lv_ldc2 (v := 1099511627775) hx hb hown (hw _ wi_105) dd_X_add_7 ?_
  refine W.lcmp hx hb dd_X_add_10 ?_
  refine lv_if_le (tgt := 24) hx hb dd_X_add_11 (by decide) (fun c_11 => ?_) (fun c_11 => ?_)
  · skip
    have c_11 : t ≤ 1099511627775 := (lg_cmp_le _ _).mp c_11
    refine lv_lload_n hx hb dd_X_add_24 rfl (lv_at hl 1 rfl) ?_
    refine lv_aload_n hx hb dd_X_add_25 rfl (lv_at hl 0 rfl) ?_
    refine va_get (D := D) (ci := 5) (C := cn_X) (T := cf_X) (N := 5) hx hb hw in_X hown hK hP 0 rfl rfl 0 (by decide) (hw _ wi_76) (fun _ h9 => h9) rfl dd_X_add_26 ?_
    refine ct_behind_l (wc := [(qp, .inr (2, [.ref qt, .ref qv, .int (nI n)])), (qt, .inl (cJ, 3000, .inr (.inl f))), (qv, .inl (cJ, 3000, .inr (.inl g)))]) (wr := [(q, .inr (5, [.ref qp, .ref qs, .ref qb, .ref qc, .int (nI tk)]))]) (av := [.ref qp]) (va_runV (As := []) (rest := [.long t]) ⟨hx, hb, hml, hown, hw⟩ (cc_P_latestTime l D cJ cB qp qt qv n f g _ h1) (cwV 0 hw (tb_V wi_174 wi_175 wi_176 wi_23 wi_177) rfl rfl rfl (by decide +kernel) ⟨Nat.le_of_ble_eq_true rfl, Nat.le_of_ble_eq_true rfl⟩) ⟨ct_blind, ct_recv hK hP (q0 := 1) (ci := 2) rfl rfl, ct_pc hZ hK hP hD hS hA [1, 2, 3] rfl (by decide)⟩ rfl rfl hl.1 rfl (lv_room (Nat.le_of_ble_eq_true rfl)) dd_X_add_29 ⟨Nat.le_of_ble_eq_true rfl, Nat.le_of_ble_eq_true rfl⟩) hK hP hD hS hA [1, 2, 3] [0] rfl rfl (by decide) (by decide) (fun r_29 u_29 H locs hw_29 hP hD hS => ?_)
    subst hw_29
    have hP : va_P D classes [(q, .inr (5, [.ref qp, .ref qs, .ref qb, .ref qc, .int (nI tk)])), (qp, .inr (2, [.ref qt, .ref qv, .int (nI n)])), (qt, .inl (cJ, 3000, .inr (.inl f))), (qv, .inl (cJ, 3000, .inr (.inl g)))] _ := hP
    have hD : va_D A [(q, .inr (5, [.ref qp, .ref qs, .ref qb, .ref qc, .int (nI tk)])), (qp, .inr (2, [.ref qt, .ref qv, .int (nI n)])), (qt, .inl (cJ, 3000, .inr (.inl f))), (qv, .inl (cJ, 3000, .inr (.inl g)))] := hD
    refine W.lcmp hx hb dd_X_add_32 ?_
    refine lv_if_gt (tgt := 46) hx hb dd_X_add_33 (by decide) (fun c_33 => ?_) (fun c_33 => ?_)
    · skip
      have c_33 : (if n = 0 then -1 else f (n - 1)) < t := (lg_cmp_gt _ _).mp c_33
      refine lv_aload_n hx hb dd_X_add_46 rfl (lv_at hl 0 rfl) ?_
      refine va_get (D := D) (ci := 5) (C := cn_X) (T := cf_X) (N := 5) hx hb hw in_X hown hK hP 0 rfl rfl 0 (by decide) (hw _ wi_76) (fun _ h9 => h9) rfl dd_X_add_47 ?_
      refine lv_lload_n hx hb dd_X_add_50 rfl (lv_at hl 1 rfl) ?_
      refine lv_lload_n hx hb dd_X_add_51 rfl (lv_at hl 2 rfl) ?_
      refine ct_behind_i (wc := [(qp, .inr (2, [.ref qt, .ref qv, .int (nI n)])), (qt, .inl (cJ, 3000, .inr (.inl f))), (qv, .inl (cJ, 3000, .inr (.inl g)))]) (wr := [(q, .inr (5, [.ref qp, .ref qs, .ref qb, .ref qc, .int (nI tk)]))]) (av := [.ref qp, .long t, .long v]) (va_runV (As := [.long t, .long v]) (rest := []) ⟨hx, hb, hml, hown, hw⟩ (cc_P_append l D cJ cB qp qt qv n f g t v _ h1) (cwV 2 hw (tb_V wi_180 wi_181 wi_182 wi_23 wi_183) rfl rfl rfl (by decide +kernel) ⟨Nat.le_of_ble_eq_true rfl, Nat.le_of_ble_eq_true rfl⟩) ⟨ct_blind, ct_recv hK hP (q0 := 1) (ci := 2) rfl rfl, ct_pc hZ hK hP hD hS hA [1, 2, 3] rfl (by decide)⟩ rfl rfl hl.1 rfl (lv_room (Nat.le_of_ble_eq_true rfl)) dd_X_add_52 ⟨Nat.le_of_ble_eq_true rfl, Nat.le_of_ble_eq_true rfl⟩) hK hP hD hS hA [1, 2, 3] [0] rfl rfl (by decide) (by decide) (fun r_52 u_52 H locs hw_52 hP hD hS => ?_)
      obtain ⟨hr_52, hu_52⟩ := hw_52
      subst hr_52
      have hP : va_P D classes [(q, .inr (5, [.ref qp, .ref qs, .ref qb, .ref qc, .int (nI tk)])), (qp, .inr (2, [.ref qt, .ref qv, .int (nI u_52.1)])), (qt, .inl (cJ, 3000, .inr (.inl u_52.2.1))), (qv, .inl (cJ, 3000, .inr (.inl u_52.2.2)))] _ := hP
      have hD : va_D A [(q, .inr (5, [.ref qp, .ref qs, .ref qb, .ref qc, .int (nI tk)])), (qp, .inr (2, [.ref qt, .ref qv, .int (nI u_52.1)])), (qt, .inl (cJ, 3000, .inr (.inl u_52.2.1))), (qv, .inl (cJ, 3000, .inr (.inl u_52.2.2)))] := hD
      refine lv_if_ne (tgt := 68) hx hb dd_X_add_55 (by decide) (fun c_55 => ?_) (fun c_55 => ?_)
      · skip
        have c_55 : n < 3000 := bI_n.mp c_55
        rw [if_pos c_55] at hu_52
        subst hu_52
        have hP : va_P D classes [(q, .inr (5, [.ref qp, .ref qs, .ref qb, .ref qc, .int (nI tk)])), (qp, .inr (2, [.ref qt, .ref qv, .int (nI (n + 1))])), (qt, .inl (cJ, 3000, .inr (.inl (vp_updL f n t)))), (qv, .inl (cJ, 3000, .inr (.inl (vp_updL g n v))))] _ := hP
        have hD : va_D A [(q, .inr (5, [.ref qp, .ref qs, .ref qb, .ref qc, .int (nI tk)])), (qp, .inr (2, [.ref qt, .ref qv, .int (nI (n + 1))])), (qt, .inl (cJ, 3000, .inr (.inl (vp_updL f n t)))), (qv, .inl (cJ, 3000, .inr (.inl (vp_updL g n v))))] := hD
        refine lv_aload_n hx hb dd_X_add_68 rfl (lv_at hl 0 rfl) ?_
        refine va_get (D := D) (ci := 5) (C := cn_X) (T := cf_X) (N := 5) hx hb hw in_X hown hK hP 0 rfl rfl 0 (by decide) (hw _ wi_76) (fun _ h9 => h9) rfl dd_X_add_69 ?_
        refine ct_behind_i (wc := [(qp, .inr (2, [.ref qt, .ref qv, .int (nI (n + 1))])), (qt, .inl (cJ, 3000, .inr (.inl (vp_updL f n t)))), (qv, .inl (cJ, 3000, .inr (.inl (vp_updL g n v))))]) (wr := [(q, .inr (5, [.ref qp, .ref qs, .ref qb, .ref qc, .int (nI tk)]))]) (av := [.ref qp]) (va_runV (As := []) (rest := []) ⟨hx, hb, hml, hown, hw⟩ (cc_P_size l D cJ cB qp qt qv (n + 1) (vp_updL f n t) (vp_updL g n v) _ (by omega)) (cwV 0 hw (tb_V wi_200 wi_201 wi_202 wi_23 wi_203) rfl rfl rfl (by decide +kernel) ⟨Nat.le_of_ble_eq_true rfl, Nat.le_of_ble_eq_true rfl⟩) ⟨ct_blind, ct_recv hK hP (q0 := 1) (ci := 2) rfl rfl, ct_pc hZ hK hP hD hS hA [1, 2, 3] rfl (by decide)⟩ rfl rfl hl.1 rfl (lv_room (Nat.le_of_ble_eq_true rfl)) dd_X_add_72 ⟨Nat.le_of_ble_eq_true rfl, Nat.le_of_ble_eq_true rfl⟩) hK hP hD hS hA [1, 2, 3] [0] rfl rfl (by decide) (by decide) (fun r_72 u_72 H locs hw_72 hP hD hS => ?_)
        subst hw_72
        have hP : va_P D classes [(q, .inr (5, [.ref qp, .ref qs, .ref qb, .ref qc, .int (nI tk)])), (qp, .inr (2, [.ref qt, .ref qv, .int (nI (n + 1))])), (qt, .inl (cJ, 3000, .inr (.inl (vp_updL f n t)))), (qv, .inl (cJ, 3000, .inr (.inl (vp_updL g n v))))] _ := hP
        have hD : va_D A [(q, .inr (5, [.ref qp, .ref qs, .ref qb, .ref qc, .int (nI tk)])), (qp, .inr (2, [.ref qt, .ref qv, .int (nI (n + 1))])), (qt, .inl (cJ, 3000, .inr (.inl (vp_updL f n t)))), (qv, .inl (cJ, 3000, .inr (.inl (vp_updL g n v))))] := hD
        refine vx_ret ?_
        refine W.widen (k := 1) (n := 6) (Nat.le_of_ble_eq_true rfl) (Nat.le_of_ble_eq_true rfl) ?_
        refine ct_iret (u := ()) hx hb hr hlocks hK hP hD hS rfl ?_ dd_X_add_75
        exact ⟨rfl, okt_1 c_3 c_11 c_33, c_55⟩
      have c_55 : ¬ (n < 3000) := bI_z.mp c_55
      rw [if_neg c_55] at hu_52
      subst hu_52
      have hP : va_P D classes [(q, .inr (5, [.ref qp, .ref qs, .ref qb, .ref qc, .int (nI tk)])), (qp, .inr (2, [.ref qt, .ref qv, .int (nI n)])), (qt, .inl (cJ, 3000, .inr (.inl f))), (qv, .inl (cJ, 3000, .inr (.inl g)))] _ := hP
      have hD : va_D A [(q, .inr (5, [.ref qp, .ref qs, .ref qb, .ref qc, .int (nI tk)])), (qp, .inr (2, [.ref qt, .ref qv, .int (nI n)])), (qt, .inl (cJ, 3000, .inr (.inl f))), (qv, .inl (cJ, 3000, .inr (.inl g)))] := hD
      refine cx_throw (own := cn_X) (cls := ex_S) (text := "there are 3000 points") (ik := 52) (is := 54) (ic := 56) hx hb hlt hw hZ hown (by decide +kernel) wi_184 wi_30 (by decide +kernel) ht_X_56_1 ht_X_56_2 ht_X_52_56_3 hK hP hD hS (hl.1.trans hml.symm) hex dd_X_add_58 dd_X_add_61 dd_X_add_62 dd_X_add_64 dd_X_add_67 (Nat.le_of_ble_eq_true rfl) (Nat.le_of_ble_eq_true rfl) (Nat.le_of_ble_eq_true rfl) (Nat.le_of_ble_eq_true rfl) hlocks ?_ (Nat.le_of_ble_eq_true rfl) (Nat.le_of_ble_eq_true rfl)
      exact Or.inr ⟨rfl, okt_1 c_3 c_11 c_33, by omega⟩
    have c_33 : ¬ ((if n = 0 then -1 else f (n - 1)) < t) := fun z => c_33 ((lg_cmp_gt _ _).mpr z)
    refine cx_throw (own := cn_X) (cls := ex_A) (text := "the time is not above the latest one") (ik := 35) (is := 46) (ic := 39) hx hb hlt hw hZ hown (by decide +kernel) wi_106 wi_29 (by decide +kernel) ht_X_39_1 ht_X_39_2 ht_X_35_39_3 hK hP hD hS (hl.1.trans hml.symm) hex dd_X_add_36 dd_X_add_39 dd_X_add_40 dd_X_add_42 dd_X_add_45 (Nat.le_of_ble_eq_true rfl) (Nat.le_of_ble_eq_true rfl) (Nat.le_of_ble_eq_true rfl) (Nat.le_of_ble_eq_true rfl) hlocks ?_ (Nat.le_of_ble_eq_true rfl) (Nat.le_of_ble_eq_true rfl)
    exact Or.inl ⟨rfl, okt_2 c_3 c_33⟩
  have c_11 : ¬ (t ≤ 1099511627775) := fun z => c_11 ((lg_cmp_le _ _).mpr z)
  refine cx_throw (own := cn_X) (cls := ex_A) (text := "no time") (ik := 35) (is := 37) (ic := 39) hx hb hlt hw hZ hown (by decide +kernel) wi_106 wi_29 (by decide +kernel) ht_X_39_1 ht_X_39_2 ht_X_35_39_3 hK hP hD hS (hl.1.trans hml.symm) hex dd_X_add_14 dd_X_add_17 dd_X_add_18 dd_X_add_20 dd_X_add_23 (Nat.le_of_ble_eq_true rfl) (Nat.le_of_ble_eq_true rfl) (Nat.le_of_ble_eq_true rfl) (Nat.le_of_ble_eq_true rfl) hlocks ?_ (Nat.le_of_ble_eq_true rfl) (Nat.le_of_ble_eq_true rfl)
  exact Or.inl ⟨rfl, fun z => absurd z.1.2 c_11⟩

set_option maxHeartbeats 4000000 in
set_option maxRecDepth 100000 in
theorem cc_X_keep (l : Launch) (hlt : l.stackTraces = false) (D : va_G) (cJ cB : ClassId) (q qp qs qb qc tk : Nat) (qt qv : Nat) (n : Nat) (f g : Nat → Int64) (k : Int32) (sz : Nat) (h1 : n ≤ 3000) : cx_i l my_X_keep (Cond.code my_X_keep mb_X_keep 3 (some .int) :: TB) ({ frames := 6, cells := 1, slots := 6, locals := 90 } : Room) D classes cJ cB [.ref q, .int k] [(q, .inr (5, [.ref qp, .ref qs, .ref qb, .ref qc, .int (nI tk)])), (qp, .inr (2, [.ref qt, .ref qv, .int (nI n)])), (qt, .inl (cJ, 3000, .inr (.inl f))), (qv, .inl (cJ, 3000, .inr (.inl g)))] sz (fun (r : Int32) (u : Nat) => u ≤ n ∧ k = nI u ∧ r = nI (n - u)) (fun u => [(q, .inr (5, [.ref qp, .ref qs, .ref qb, .ref qc, .int (nI tk)])), (qp, .inr (2, [.ref qt, .ref qv, .int (nI u)])), (qt, .inl (cJ, 3000, .inr (.inl f))), (qv, .inl (cJ, 3000, .inr (.inl g)))]) (fun E => E = ex_A ∧ ¬ cp_ix k (n + 1)) 1 6 := by
  refine cx_ofW (cc := mb_X_keep) (maxL := 3) (ret := some .int) (by decide) rfl (Nat.le_of_ble_eq_true rfl) ?_
  intro p e s m below meth c hx hb hr hml hts hown hlocks hin hsz hK hP hD hA hS hZ hex ls hl
  have hw : ∀ w ∈ TB, w.before _ s = true := fun w h => hts w (List.mem_cons_of_mem _ h)
  have hown : s.vm.findClass cn_X = some m.cls := hown
  have hin : meth.name = "keep" := hin
  generalize hAe : va_A [(q, .inr (5, [.ref qp, .ref qs, .ref qb, .ref qc, .int (nI tk)])), (qp, .inr (2, [.ref qt, .ref qv, .int (nI n)])), (qt, .inl (cJ, 3000, .inr (.inl f))), (qv, .inl (cJ, 3000, .inr (.inl g)))] sz = A at hD hA hS hZ ⊢
  clear hAe
  have hl : lv_has ls 3 [(0, .ref q), (1, .int k)] := hl
  have hP : va_P D classes [(q, .inr (5, [.ref qp, .ref qs, .ref qb, .ref qc, .int (nI tk)])), (qp, .inr (2, [.ref qt, .ref qv, .int (nI n)])), (qt, .inl (cJ, 3000, .inr (.inl f))), (qv, .inl (cJ, 3000, .inr (.inl g)))] s.heap := hP
  refine lv_aload_n hx hb dd_X_keep_0 rfl (lv_at hl 0 rfl) ?_
  refine va_get (D := D) (ci := 5) (C := cn_X) (T := cf_X) (N := 5) hx hb hw in_X hown hK hP 0 rfl rfl 0 (by decide) (hw _ wi_76) (fun _ h9 => h9) rfl dd_X_keep_1 ?_
  refine ct_behind_i (wc := [(qp, .inr (2, [.ref qt, .ref qv, .int (nI n)])), (qt, .inl (cJ, 3000, .inr (.inl f))), (qv, .inl (cJ, 3000, .inr (.inl g)))]) (wr := [(q, .inr (5, [.ref qp, .ref qs, .ref qb, .ref qc, .int (nI tk)]))]) (av := [.ref qp]) (va_runV (As := []) (rest := []) ⟨hx, hb, hml, hown, hw⟩ (cc_P_size l D cJ cB qp qt qv n f g _ h1) (cwV 0 hw (tb_V wi_200 wi_201 wi_202 wi_23 wi_203) rfl rfl rfl (by decide +kernel) ⟨Nat.le_of_ble_eq_true rfl, Nat.le_of_ble_eq_true rfl⟩) ⟨ct_blind, ct_recv hK hP (q0 := 1) (ci := 2) rfl rfl, ct_pc hZ hK hP hD hS hA [1, 2, 3] rfl (by decide)⟩ rfl rfl hl.1 rfl (lv_room (Nat.le_of_ble_eq_true rfl)) dd_X_keep_4 ⟨Nat.le_of_ble_eq_true rfl, Nat.le_of_ble_eq_true rfl⟩) hK hP hD hS hA [1, 2, 3] [0] rfl rfl (by decide) (by decide) (fun r_4 u_4 H locs hw_4 hP hD hS => ?_)
  subst hw_4
  have hP : va_P D classes [(q, .inr (5, [.ref qp, .ref qs, .ref qb, .ref qc, .int (nI tk)])), (qp, .inr (2, [.ref qt, .ref qv, .int (nI n)])), (qt, .inl (cJ, 3000, .inr (.inl f))), (qv, .inl (cJ, 3000, .inr (.inl g)))] _ := hP
  have hD : va_D A [(q, .inr (5, [.ref qp, .ref qs, .ref qb, .ref qc, .int (nI tk)])), (qp, .inr (2, [.ref qt, .ref qv, .int (nI n)])), (qt, .inl (cJ, 3000, .inr (.inl f))), (qv, .inl (cJ, 3000, .inr (.inl g)))] := hD
  refine lv_istore_n (lv' := [(2, .int (nI n)), (0, .ref q), (1, .int k)]) hx hb dd_X_keep_7 rfl hl (by decide) rfl (fun ls hl => ?_)
  refine lv_iload_n hx hb dd_X_keep_8 rfl (lv_at hl 2 rfl) ?_
  refine lv_if_lt (tgt := 17) hx hb dd_X_keep_9 (by decide) (fun c_9 => ?_) (fun c_9 => ?_)
  · skip
    refine cx_throw (own := cn_X) (cls := ex_A) (text := "there are not so many points") (ik := 35) (is := 61) (ic := 39) hx hb hlt hw hZ hown (by decide +kernel) wi_106 wi_29 (by decide +kernel) ht_X_39_1 ht_X_39_2 ht_X_35_39_3 hK hP hD hS (hl.1.trans hml.symm) hex dd_X_keep_17 dd_X_keep_20 dd_X_keep_21 dd_X_keep_23 dd_X_keep_26 (Nat.le_of_ble_eq_true rfl) (Nat.le_of_ble_eq_true rfl) (Nat.le_of_ble_eq_true rfl) (Nat.le_of_ble_eq_true rfl) hlocks ?_ (Nat.le_of_ble_eq_true rfl) (Nat.le_of_ble_eq_true rfl)
    exact ⟨rfl, cp_ix_nle (by omega) (Or.inl c_9)⟩
  refine lv_iload_n hx hb dd_X_keep_12 rfl (lv_at hl 2 rfl) ?_
  refine lv_iload_n hx hb dd_X_keep_13 rfl (lv_at hl 0 rfl) ?_
  refine lv_icmp_le (tgt := 27) hx hb dd_X_keep_14 (by decide) (fun c_14 => ?_) (fun c_14 => ?_)
  · skip
    obtain ⟨j, hj, hkj⟩ := cp_ix_le (by omega) c_9 c_14
    subst hkj
    refine lv_aload_n hx hb dd_X_keep_27 rfl (lv_at hl 1 rfl) ?_
    refine va_get (D := D) (ci := 5) (C := cn_X) (T := cf_X) (N := 5) hx hb hw in_X hown hK hP 0 rfl rfl 0 (by decide) (hw _ wi_76) (fun _ h9 => h9) rfl dd_X_keep_28 ?_
    refine lv_iload_n hx hb dd_X_keep_31 rfl (lv_at hl 2 rfl) ?_
    refine ct_behind_v (wc := [(qp, .inr (2, [.ref qt, .ref qv, .int (nI n)])), (qt, .inl (cJ, 3000, .inr (.inl f))), (qv, .inl (cJ, 3000, .inr (.inl g)))]) (wr := [(q, .inr (5, [.ref qp, .ref qs, .ref qb, .ref qc, .int (nI tk)]))]) (av := [.ref qp, .int (nI j)]) (va_runV (As := [.int (nI j)]) (rest := []) ⟨hx, hb, hml, hown, hw⟩ (cc_P_shorten l D cJ cB qp qt qv n f g j _) (cwV 1 hw (tb_V wi_212 wi_213 wi_214 wi_23 wi_215) rfl rfl rfl (by decide +kernel) ⟨Nat.le_of_ble_eq_true rfl, Nat.le_of_ble_eq_true rfl⟩) ⟨ct_blind, ct_recv hK hP (q0 := 1) (ci := 2) rfl rfl, ct_pc hZ hK hP hD hS hA [1, 2, 3] rfl (by decide)⟩ rfl rfl hl.1 rfl (lv_room (Nat.le_of_ble_eq_true rfl)) dd_X_keep_32 ⟨Nat.le_of_ble_eq_true rfl, Nat.le_of_ble_eq_true rfl⟩) hK hP hD hS hA [1, 2, 3] [0] rfl rfl (by decide) (by decide) (fun u_32 H locs hw_32 hP hD hS => ?_)
    have hP : va_P D classes [(q, .inr (5, [.ref qp, .ref qs, .ref qb, .ref qc, .int (nI tk)])), (qp, .inr (2, [.ref qt, .ref qv, .int (nI j)])), (qt, .inl (cJ, 3000, .inr (.inl f))), (qv, .inl (cJ, 3000, .inr (.inl g)))] _ := hP
    have hD : va_D A [(q, .inr (5, [.ref qp, .ref qs, .ref qb, .ref qc, .int (nI tk)])), (qp, .inr (2, [.ref qt, .ref qv, .int (nI j)])), (qt, .inl (cJ, 3000, .inr (.inl f))), (qv, .inl (cJ, 3000, .inr (.inl g)))] := hD
    refine lv_iload_n hx hb dd_X_keep_35 rfl (lv_at hl 0 rfl) ?_
    refine lv_iload_n hx hb dd_X_keep_36 rfl (lv_at hl 2 rfl) ?_
    refine lv_isub hx hb dd_X_keep_37 ?_
    refine ct_topi (y := nI (n - j)) (pk_sub (by omega)) ?_
    refine vx_ret ?_
    refine W.widen (k := 1) (n := 6) (Nat.le_of_ble_eq_true rfl) (Nat.le_of_ble_eq_true rfl) ?_
    refine ct_iret (u := j) hx hb hr hlocks hK hP hD hS rfl ?_ dd_X_keep_38
    exact ⟨hj, rfl, rfl⟩
  refine cx_throw (own := cn_X) (cls := ex_A) (text := "there are not so many points") (ik := 35) (is := 61) (ic := 39) hx hb hlt hw hZ hown (by decide +kernel) wi_106 wi_29 (by decide +kernel) ht_X_39_1 ht_X_39_2 ht_X_35_39_3 hK hP hD hS (hl.1.trans hml.symm) hex dd_X_keep_17 dd_X_keep_20 dd_X_keep_21 dd_X_keep_23 dd_X_keep_26 (Nat.le_of_ble_eq_true rfl) (Nat.le_of_ble_eq_true rfl) (Nat.le_of_ble_eq_true rfl) (Nat.le_of_ble_eq_true rfl) hlocks ?_ (Nat.le_of_ble_eq_true rfl) (Nat.le_of_ble_eq_true rfl)
  exact ⟨rfl, cp_ix_nle (by omega) (Or.inr c_14)⟩

set_option maxHeartbeats 4000000 in
set_option maxRecDepth 100000 in
theorem cc_X_pack (l : Launch) (D : va_G) (cJ cB : ClassId) (q qp qs qb qc tk : Nat) (qt qv : Nat) (n : Nat) (f g : Nat → Int64) (qd n3 : Nat) (w2 : Nat → Int64) (sz : Nat) (h1 : n ≤ 3000) (hf0 : n ≠ 0 → cp_fit (f 0) 40) : ct_i l my_X_pack (Cond.code my_X_pack mb_X_pack 2 (some .int) :: TB) ({ frames := 5, cells := 2, slots := 7, locals := 132 } : Room) D classes cJ cB [.ref q] [(q, .inr (5, [.ref qp, .ref qs, .ref qb, .ref qc, .int (nI tk)])), (qp, .inr (2, [.ref qt, .ref qv, .int (nI n)])), (qt, .inl (cJ, 3000, .inr (.inl f))), (qv, .inl (cJ, 3000, .inr (.inl g))), (qc, .inr (0, [.ref qd, .int (nI n3)])), (qd, .inl (cJ, 6250, .inr (.inl w2)))] sz (fun (r : Int32) (u : Nat → Int64) => r = nI (cp_pk f g n).1.length ∧ cp_Rw u (cp_pk f g n).1) (fun u => [(q, .inr (5, [.ref qp, .ref qs, .ref qc, .ref qb, .int (nI tk)])), (qp, .inr (2, [.ref qt, .ref qv, .int (nI n)])), (qt, .inl (cJ, 3000, .inr (.inl f))), (qv, .inl (cJ, 3000, .inr (.inl g))), (qc, .inr (0, [.ref qd, .int (nI ((cp_pk f g n).1.length))])), (qd, .inl (cJ, 6250, .inr (.inl u)))]) 2 7 := by
  refine ct_ofW (cc := mb_X_pack) (maxL := 2) (ret := some .int) (by decide) rfl (Nat.le_of_ble_eq_true rfl) ?_
  intro p e s m below meth c hx hb hr hml hts hown hlocks hin hsz hK hP hD hA hS hZ ls hl
  have hw : ∀ w ∈ TB, w.before _ s = true := fun w h => hts w (List.mem_cons_of_mem _ h)
  have hown : s.vm.findClass cn_X = some m.cls := hown
  have hin : meth.name = "pack" := hin
  generalize hAe : va_A [(q, .inr (5, [.ref qp, .ref qs, .ref qb, .ref qc, .int (nI tk)])), (qp, .inr (2, [.ref qt, .ref qv, .int (nI n)])), (qt, .inl (cJ, 3000, .inr (.inl f))), (qv, .inl (cJ, 3000, .inr (.inl g))), (qc, .inr (0, [.ref qd, .int (nI n3)])), (qd, .inl (cJ, 6250, .inr (.inl w2)))] sz = A at hD hA hS hZ ⊢
  clear hAe
  have hl : lv_has ls 2 [(0, .ref q)] := hl
  have hP : va_P D classes [(q, .inr (5, [.ref qp, .ref qs, .ref qb, .ref qc, .int (nI tk)])), (qp, .inr (2, [.ref qt, .ref qv, .int (nI n)])), (qt, .inl (cJ, 3000, .inr (.inl f))), (qv, .inl (cJ, 3000, .inr (.inl g))), (qc, .inr (0, [.ref qd, .int (nI n3)])), (qd, .inl (cJ, 6250, .inr (.inl w2)))] s.heap := hP
  refine lv_aload_n hx hb dd_X_pack_0 rfl (lv_at hl 0 rfl) ?_
  refine va_get (D := D) (ci := 5) (C := cn_X) (T := cf_X) (N := 5) hx hb hw in_X hown hK hP 0 rfl rfl 3 (by decide) (hw _ wi_79) (fun _ h9 => h9) rfl dd_X_pack_1 ?_
  refine lv_iconst (v := nI 0) hx hb dd_X_pack_4 (by decide) ?_
  refine ct_behind_v (wc := [(qc, .inr (0, [.ref qd, .int (nI n3)])), (qd, .inl (cJ, 6250, .inr (.inl w2)))]) (wr := [(q, .inr (5, [.ref qp, .ref qs, .ref qb, .ref qc, .int (nI tk)])), (qp, .inr (2, [.ref qt, .ref qv, .int (nI n)])), (qt, .inl (cJ, 3000, .inr (.inl f))), (qv, .inl (cJ, 3000, .inr (.inl g)))]) (av := [.ref qc, .int (nI 0)]) (va_runV (As := [.int (nI 0)]) (rest := []) ⟨hx, hb, hml, hown, hw⟩ (cc_B_shorten l D cJ cB qc qd n3 w2 0 _) (cwV 1 hw (tb_V wi_223 wi_224 wi_225 wi_24 wi_226) rfl rfl rfl (by decide +kernel) ⟨Nat.le_of_ble_eq_true rfl, Nat.le_of_ble_eq_true rfl⟩) ⟨ct_blind, ct_recv hK hP (q0 := 4) (ci := 0) rfl rfl, ct_pc hZ hK hP hD hS hA [4, 5] rfl (by decide)⟩ rfl rfl hl.1 rfl (lv_room (Nat.le_of_ble_eq_true rfl)) dd_X_pack_5 ⟨Nat.le_of_ble_eq_true rfl, Nat.le_of_ble_eq_true rfl⟩) hK hP hD hS hA [4, 5] [0, 1, 2, 3] rfl rfl (by decide) (by decide) (fun u_5 H locs hw_5 hP hD hS => ?_)
  have hP : va_P D classes [(q, .inr (5, [.ref qp, .ref qs, .ref qb, .ref qc, .int (nI tk)])), (qp, .inr (2, [.ref qt, .ref qv, .int (nI n)])), (qt, .inl (cJ, 3000, .inr (.inl f))), (qv, .inl (cJ, 3000, .inr (.inl g))), (qc, .inr (0, [.ref qd, .int (nI 0)])), (qd, .inl (cJ, 6250, .inr (.inl w2)))] _ := hP
  have hD : va_D A [(q, .inr (5, [.ref qp, .ref qs, .ref qb, .ref qc, .int (nI tk)])), (qp, .inr (2, [.ref qt, .ref qv, .int (nI n)])), (qt, .inl (cJ, 3000, .inr (.inl f))), (qv, .inl (cJ, 3000, .inr (.inl g))), (qc, .inr (0, [.ref qd, .int (nI 0)])), (qd, .inl (cJ, 6250, .inr (.inl w2)))] := hD
  refine va_new (ci := 4) (fs := [.null, .null, .long 0, .long 0, .long 0]) (C := cn_W) (T := cf_W) (N := 5) hx hb hw in_W ty_W to_W hown (hw _ wi_227) (hw _ wi_228) (hw _ wi_31) hK hP hD hS hA rfl (fun j hj => by rcases (show j = 0 ∨ j = 1 ∨ j = 2 ∨ j = 3 ∨ j = 4 by omega) with rfl | rfl | rfl | rfl | rfl <;> rfl) (Nat.le_of_ble_eq_true rfl) (Nat.le_of_ble_eq_true rfl) dd_X_pack_8 (fun wr H hP hD hS => ?_)
  have hP : va_P D classes [(q, .inr (5, [.ref qp, .ref qs, .ref qb, .ref qc, .int (nI tk)])), (qp, .inr (2, [.ref qt, .ref qv, .int (nI n)])), (qt, .inl (cJ, 3000, .inr (.inl f))), (qv, .inl (cJ, 3000, .inr (.inl g))), (qc, .inr (0, [.ref qd, .int (nI 0)])), (qd, .inl (cJ, 6250, .inr (.inl w2))), (wr, .inr (4, [.null, .null, .long 0, .long 0, .long 0]))] _ := hP
  have hD : va_D A [(q, .inr (5, [.ref qp, .ref qs, .ref qb, .ref qc, .int (nI tk)])), (qp, .inr (2, [.ref qt, .ref qv, .int (nI n)])), (qt, .inl (cJ, 3000, .inr (.inl f))), (qv, .inl (cJ, 3000, .inr (.inl g))), (qc, .inr (0, [.ref qd, .int (nI 0)])), (qd, .inl (cJ, 6250, .inr (.inl w2))), (wr, .inr (4, [.null, .null, .long 0, .long 0, .long 0]))] := hD
  refine lv_dup hx hb dd_X_pack_11 rfl ?_
  refine lv_aload_n hx hb dd_X_pack_12 rfl (lv_at hl 0 rfl) ?_
  refine va_get (D := D) (ci := 5) (C := cn_X) (T := cf_X) (N := 5) hx hb hw in_X hown hK hP 0 rfl rfl 3 (by decide) (hw _ wi_79) (fun _ h9 => h9) rfl dd_X_pack_13 ?_
  refine ct_behind_v (wc := [(wr, .inr (4, [.null, .null, .long 0, .long 0, .long 0]))]) (wr := [(q, .inr (5, [.ref qp, .ref qs, .ref qb, .ref qc, .int (nI tk)])), (qp, .inr (2, [.ref qt, .ref qv, .int (nI n)])), (qt, .inl (cJ, 3000, .inr (.inl f))), (qv, .inl (cJ, 3000, .inr (.inl g))), (qc, .inr (0, [.ref qd, .int (nI 0)])), (qd, .inl (cJ, 6250, .inr (.inl w2)))]) (av := [.ref wr, .ref qc]) (va_runI (As := [.ref qc]) (rest := [.ref wr]) ⟨hx, hb, hml, hown, hw⟩ (cc_W_init l D cJ cB wr qc _) (cwI 1 hw (tb_I wi_231) rfl rfl rfl (hw _ wi_31) (hw _ wi_229) (hw _ wi_230) rfl (by decide +kernel) ⟨Nat.le_of_ble_eq_true rfl, Nat.le_of_ble_eq_true rfl⟩) ⟨ct_blind, ct_pc hZ hK hP hD hS hA [6] rfl (by decide)⟩ rfl rfl hl.1 rfl (lv_room (Nat.le_of_ble_eq_true rfl)) dd_X_pack_16 ⟨Nat.le_of_ble_eq_true rfl, Nat.le_of_ble_eq_true rfl⟩) hK hP hD hS hA [6] [0, 1, 2, 3, 4, 5] rfl rfl (by decide) (by decide) (fun u_16 H locs hw_16 hP hD hS => ?_)
  obtain ⟨wf, h9⟩ : ∃ z, z = u_16 := ⟨_, rfl⟩
  rw [← h9] at hP hD
  clear h9
  have hP : va_P D classes [(q, .inr (5, [.ref qp, .ref qs, .ref qb, .ref qc, .int (nI tk)])), (qp, .inr (2, [.ref qt, .ref qv, .int (nI n)])), (qt, .inl (cJ, 3000, .inr (.inl f))), (qv, .inl (cJ, 3000, .inr (.inl g))), (qc, .inr (0, [.ref qd, .int (nI 0)])), (qd, .inl (cJ, 6250, .inr (.inl w2))), (wr, .inr (4, [.ref qc, .ref wf, .long 0, .long 0, .long 0])), (wf, .inr (1, [.int (nI 0), .int (nI 0)]))] _ := hP
  have hD : va_D A [(q, .inr (5, [.ref qp, .ref qs, .ref qb, .ref qc, .int (nI tk)])), (qp, .inr (2, [.ref qt, .ref qv, .int (nI n)])), (qt, .inl (cJ, 3000, .inr (.inl f))), (qv, .inl (cJ, 3000, .inr (.inl g))), (qc, .inr (0, [.ref qd, .int (nI 0)])), (qd, .inl (cJ, 6250, .inr (.inl w2))), (wr, .inr (4, [.ref qc, .ref wf, .long 0, .long 0, .long 0])), (wf, .inr (1, [.int (nI 0), .int (nI 0)]))] := hD
  refine lv_aload_n hx hb dd_X_pack_19 rfl (lv_at hl 0 rfl) ?_
  refine va_get (D := D) (ci := 5) (C := cn_X) (T := cf_X) (N := 5) hx hb hw in_X hown hK hP 0 rfl rfl 0 (by decide) (hw _ wi_76) (fun _ h9 => h9) rfl dd_X_pack_20 ?_
  refine ct_behind_i (wc := [(wr, .inr (4, [.ref qc, .ref wf, .long 0, .long 0, .long 0])), (qc, .inr (0, [.ref qd, .int (nI 0)])), (qd, .inl (cJ, 6250, .inr (.inl w2))), (wf, .inr (1, [.int (nI 0), .int (nI 0)])), (qp, .inr (2, [.ref qt, .ref qv, .int (nI n)])), (qt, .inl (cJ, 3000, .inr (.inl f))), (qv, .inl (cJ, 3000, .inr (.inl g)))]) (wr := [(q, .inr (5, [.ref qp, .ref qs, .ref qb, .ref qc, .int (nI tk)]))]) (av := [.ref wr, .ref qp]) (va_runV (As := [.ref qp]) (rest := []) ⟨hx, hb, hml, hown, hw⟩ (cc_W_writeAll l D cJ cB wr qc qd wf qp qt qv w2 n f g _ h1 hf0) (cwV 1 hw (tb_V wi_262 wi_263 wi_264 wi_31 wi_265) rfl rfl rfl (by decide +kernel) ⟨Nat.le_of_ble_eq_true rfl, Nat.le_of_ble_eq_true rfl⟩) ⟨ct_blind, ct_recv hK hP (q0 := 6) (ci := 4) rfl rfl, ct_pc hZ hK hP hD hS hA [6, 4, 5, 7, 1, 2, 3] rfl (by decide)⟩ rfl rfl hl.1 rfl (lv_room (Nat.le_of_ble_eq_true rfl)) dd_X_pack_23 ⟨Nat.le_of_ble_eq_true rfl, Nat.le_of_ble_eq_true rfl⟩) hK hP hD hS hA [6, 4, 5, 7, 1, 2, 3] [0] rfl rfl (by decide) (by decide) (fun r_23 u_23 H locs hw_23 hP hD hS => ?_)
  obtain ⟨hr_23, hR_23⟩ := hw_23
  subst hr_23
  obtain ⟨t1, t2, t3, w1⟩ := u_23
  have hP : va_P D classes [(q, .inr (5, [.ref qp, .ref qs, .ref qb, .ref qc, .int (nI tk)])), (wr, .inr (4, [.ref qc, .ref wf, .long t1, .long t2, .long t3])), (qc, .inr (0, [.ref qd, .int (nI ((cp_pk f g n).1.length))])), (qd, .inl (cJ, 6250, .inr (.inl w1))), (wf, .inr (1, [.int (nI ((cp_pk f g n).2.1)), .int (nI ((cp_pk f g n).2.2))])), (qp, .inr (2, [.ref qt, .ref qv, .int (nI n)])), (qt, .inl (cJ, 3000, .inr (.inl f))), (qv, .inl (cJ, 3000, .inr (.inl g)))] _ := hP
  have hD : va_D A [(q, .inr (5, [.ref qp, .ref qs, .ref qb, .ref qc, .int (nI tk)])), (wr, .inr (4, [.ref qc, .ref wf, .long t1, .long t2, .long t3])), (qc, .inr (0, [.ref qd, .int (nI ((cp_pk f g n).1.length))])), (qd, .inl (cJ, 6250, .inr (.inl w1))), (wf, .inr (1, [.int (nI ((cp_pk f g n).2.1)), .int (nI ((cp_pk f g n).2.2))])), (qp, .inr (2, [.ref qt, .ref qv, .int (nI n)])), (qt, .inl (cJ, 3000, .inr (.inl f))), (qv, .inl (cJ, 3000, .inr (.inl g)))] := hD
  refine lv_if_ne (tgt := 39) hx hb dd_X_pack_26 (by decide) (fun c_26 => ?_) (fun c_26 => ?_)
  · skip
    have c_26 : ¬ (1 = 0) := fun z => c_26 ((ct_zeq (by omega)).mpr z)
    refine lv_aload_n hx hb dd_X_pack_39 rfl (lv_at hl 0 rfl) ?_
    refine va_get (D := D) (ci := 5) (C := cn_X) (T := cf_X) (N := 5) hx hb hw in_X hown hK hP 0 rfl rfl 2 (by decide) (hw _ wi_78) (fun _ h9 => h9) rfl dd_X_pack_40 ?_
    refine lv_astore_n (lv' := [(1, .ref qb), (0, .ref q)]) hx hb dd_X_pack_43 rfl hl (by decide) rfl (fun ls hl => ?_)
    refine lv_aload_n hx hb dd_X_pack_44 rfl (lv_at hl 1 rfl) ?_
    refine lv_aload_n hx hb dd_X_pack_45 rfl (lv_at hl 1 rfl) ?_
    refine va_get (D := D) (ci := 5) (C := cn_X) (T := cf_X) (N := 5) hx hb hw in_X hown hK hP 0 rfl rfl 3 (by decide) (hw _ wi_79) (fun _ h9 => h9) rfl dd_X_pack_46 ?_
    refine va_put (D := D) (ci := 5) (v := .ref qc) (ty := .object "ChunkPacker$BitRow") (C := cn_X) (T := cf_X) (N := 5) hx hb hw in_X ty_X to_X nn_X hown hK hP hD hS 0 rfl rfl 2 (by decide) (hw _ wi_78) (fun _ h9 => h9) rfl (by decide +kernel) (rfl) (rfl) (Nat.le_of_ble_eq_true rfl) dd_X_pack_49 (fun H locs hP hD hS => ?_)
    have hP : va_P D classes [(q, .inr (5, [.ref qp, .ref qs, .ref qc, .ref qc, .int (nI tk)])), (wr, .inr (4, [.ref qc, .ref wf, .long t1, .long t2, .long t3])), (qc, .inr (0, [.ref qd, .int (nI ((cp_pk f g n).1.length))])), (qd, .inl (cJ, 6250, .inr (.inl w1))), (wf, .inr (1, [.int (nI ((cp_pk f g n).2.1)), .int (nI ((cp_pk f g n).2.2))])), (qp, .inr (2, [.ref qt, .ref qv, .int (nI n)])), (qt, .inl (cJ, 3000, .inr (.inl f))), (qv, .inl (cJ, 3000, .inr (.inl g)))] _ := hP
    have hD : va_D A [(q, .inr (5, [.ref qp, .ref qs, .ref qc, .ref qc, .int (nI tk)])), (wr, .inr (4, [.ref qc, .ref wf, .long t1, .long t2, .long t3])), (qc, .inr (0, [.ref qd, .int (nI ((cp_pk f g n).1.length))])), (qd, .inl (cJ, 6250, .inr (.inl w1))), (wf, .inr (1, [.int (nI ((cp_pk f g n).2.1)), .int (nI ((cp_pk f g n).2.2))])), (qp, .inr (2, [.ref qt, .ref qv, .int (nI n)])), (qt, .inl (cJ, 3000, .inr (.inl f))), (qv, .inl (cJ, 3000, .inr (.inl g)))] := hD
    refine lv_aload_n hx hb dd_X_pack_52 rfl (lv_at hl 1 rfl) ?_
    refine lv_aload_n hx hb dd_X_pack_53 rfl (lv_at hl 0 rfl) ?_
    refine va_put (D := D) (ci := 5) (v := .ref qb) (ty := .object "ChunkPacker$BitRow") (C := cn_X) (T := cf_X) (N := 5) hx hb hw in_X ty_X to_X nn_X hown hK hP hD hS 0 rfl rfl 3 (by decide) (hw _ wi_79) (fun _ h9 => h9) rfl (by decide +kernel) (rfl) (rfl) (Nat.le_of_ble_eq_true rfl) dd_X_pack_54 (fun H locs hP hD hS => ?_)
    have hP : va_P D classes [(q, .inr (5, [.ref qp, .ref qs, .ref qc, .ref qb, .int (nI tk)])), (wr, .inr (4, [.ref qc, .ref wf, .long t1, .long t2, .long t3])), (qc, .inr (0, [.ref qd, .int (nI ((cp_pk f g n).1.length))])), (qd, .inl (cJ, 6250, .inr (.inl w1))), (wf, .inr (1, [.int (nI ((cp_pk f g n).2.1)), .int (nI ((cp_pk f g n).2.2))])), (qp, .inr (2, [.ref qt, .ref qv, .int (nI n)])), (qt, .inl (cJ, 3000, .inr (.inl f))), (qv, .inl (cJ, 3000, .inr (.inl g)))] _ := hP
    have hD : va_D A [(q, .inr (5, [.ref qp, .ref qs, .ref qc, .ref qb, .int (nI tk)])), (wr, .inr (4, [.ref qc, .ref wf, .long t1, .long t2, .long t3])), (qc, .inr (0, [.ref qd, .int (nI ((cp_pk f g n).1.length))])), (qd, .inl (cJ, 6250, .inr (.inl w1))), (wf, .inr (1, [.int (nI ((cp_pk f g n).2.1)), .int (nI ((cp_pk f g n).2.2))])), (qp, .inr (2, [.ref qt, .ref qv, .int (nI n)])), (qt, .inl (cJ, 3000, .inr (.inl f))), (qv, .inl (cJ, 3000, .inr (.inl g)))] := hD
    refine lv_aload_n hx hb dd_X_pack_57 rfl (lv_at hl 1 rfl) ?_
    refine va_get (D := D) (ci := 5) (C := cn_X) (T := cf_X) (N := 5) hx hb hw in_X hown hK hP 0 rfl rfl 2 (by decide) (hw _ wi_78) (fun _ h9 => h9) rfl dd_X_pack_58 ?_
    refine ct_behind_i (wc := [(qc, .inr (0, [.ref qd, .int (nI ((cp_pk f g n).1.length))])), (qd, .inl (cJ, 6250, .inr (.inl w1)))]) (wr := [(q, .inr (5, [.ref qp, .ref qs, .ref qc, .ref qb, .int (nI tk)])), (wr, .inr (4, [.ref qc, .ref wf, .long t1, .long t2, .long t3])), (wf, .inr (1, [.int (nI ((cp_pk f g n).2.1)), .int (nI ((cp_pk f g n).2.2))])), (qp, .inr (2, [.ref qt, .ref qv, .int (nI n)])), (qt, .inl (cJ, 3000, .inr (.inl f))), (qv, .inl (cJ, 3000, .inr (.inl g)))]) (av := [.ref qc]) (va_runV (As := []) (rest := []) ⟨hx, hb, hml, hown, hw⟩ (cc_B_size l D cJ cB qc qd (cp_pk f g n).1.length w1 _) (cwV 0 hw (tb_V wi_365 wi_366 wi_367 wi_24 wi_368) rfl rfl rfl (by decide +kernel) ⟨Nat.le_of_ble_eq_true rfl, Nat.le_of_ble_eq_true rfl⟩) ⟨ct_blind, ct_recv hK hP (q0 := 2) (ci := 0) rfl rfl, ct_pc hZ hK hP hD hS hA [2, 3] rfl (by decide)⟩ rfl rfl hl.1 rfl (lv_room (Nat.le_of_ble_eq_true rfl)) dd_X_pack_61 ⟨Nat.le_of_ble_eq_true rfl, Nat.le_of_ble_eq_true rfl⟩) hK hP hD hS hA [2, 3] [0, 1, 4, 5, 6, 7] rfl rfl (by decide) (by decide) (fun r_61 u_61 H locs hw_61 hP hD hS => ?_)
    subst hw_61
    have hP : va_P D classes [(q, .inr (5, [.ref qp, .ref qs, .ref qc, .ref qb, .int (nI tk)])), (wr, .inr (4, [.ref qc, .ref wf, .long t1, .long t2, .long t3])), (wf, .inr (1, [.int (nI ((cp_pk f g n).2.1)), .int (nI ((cp_pk f g n).2.2))])), (qp, .inr (2, [.ref qt, .ref qv, .int (nI n)])), (qt, .inl (cJ, 3000, .inr (.inl f))), (qv, .inl (cJ, 3000, .inr (.inl g))), (qc, .inr (0, [.ref qd, .int (nI ((cp_pk f g n).1.length))])), (qd, .inl (cJ, 6250, .inr (.inl w1)))] _ := hP
    have hD : va_D A [(q, .inr (5, [.ref qp, .ref qs, .ref qc, .ref qb, .int (nI tk)])), (wr, .inr (4, [.ref qc, .ref wf, .long t1, .long t2, .long t3])), (wf, .inr (1, [.int (nI ((cp_pk f g n).2.1)), .int (nI ((cp_pk f g n).2.2))])), (qp, .inr (2, [.ref qt, .ref qv, .int (nI n)])), (qt, .inl (cJ, 3000, .inr (.inl f))), (qv, .inl (cJ, 3000, .inr (.inl g))), (qc, .inr (0, [.ref qd, .int (nI ((cp_pk f g n).1.length))])), (qd, .inl (cJ, 6250, .inr (.inl w1)))] := hD
    refine ct_iret (u := w1) hx hb hr hlocks hK (hP.sub [0, 3, 4, 5, 6, 7] rfl) (hD.sub [0, 3, 4, 5, 6, 7] (by decide) rfl) hS rfl ?_ dd_X_pack_64
    exact ⟨rfl, hR_23⟩
  have c_26 : 1 = 0 := (ct_zeq (by omega)).mp c_26
  exfalso
  omega

set_option maxHeartbeats 4000000 in
set_option maxRecDepth 100000 in
theorem cc_X_unpack (l : Launch) (hlt : l.stackTraces = false) (D : va_G) (cJ cB : ClassId) (q qp qs qb qc tk : Nat) (qw : Nat) (w : Nat → Int64) (L : List Bool) (qs1 qs2 n2 : Nat) (f2 g2 : Nat → Int64) (k : Int32) (sz : Nat) (hL : L.length ≤ 400000) (hR : cp_Rw w L) : cx_i l my_X_unpack (Cond.code my_X_unpack mb_X_unpack 5 (some .int) :: TB) ({ frames := 6, cells := 2, slots := 9, locals := 134 } : Room) D classes cJ cB [.ref q, .int k] [(q, .inr (5, [.ref qp, .ref qs, .ref qb, .ref qc, .int (nI tk)])), (qb, .inr (0, [.ref qw, .int (nI L.length)])), (qw, .inl (cJ, 6250, .inr (.inl w))), (qs, .inr (2, [.ref qs1, .ref qs2, .int (nI n2)])), (qs1, .inl (cJ, 3000, .inr (.inl f2))), (qs2, .inl (cJ, 3000, .inr (.inl g2)))] sz (fun (r : Int32) (u : Nat × Nat × Nat × Nat × Nat × (Nat → Int64) × (Nat → Int64)) => u.2.2.2.1 ≤ 3000 ∧ k = nI u.2.2.2.1 ∧ u.2.2.1 = (cp_ru L u.2.2.2.1).2.1 ∧ (((cp_ru L u.2.2.2.1).1 = true ∧ r = nI (cp_ru L u.2.2.2.1).2.1 ∧ u.1 = qs ∧ u.2.1 = qp ∧ u.2.2.2.2.1 = u.2.2.2.1 ∧ ∀ j, j < u.2.2.2.1 → u.2.2.2.2.2.1 j = (cp_ru L (j + 1)).2.2.1 ∧ u.2.2.2.2.2.2 j = (cp_ru L (j + 1)).2.2.2.2.1) ∨ (¬ (cp_ru L u.2.2.2.1).1 = true ∧ r = -1 ∧ u.1 = qp ∧ u.2.1 = qs))) (fun u => [(q, .inr (5, [.ref u.1, .ref u.2.1, .ref qb, .ref qc, .int (nI u.2.2.1)])), (qb, .inr (0, [.ref qw, .int (nI L.length)])), (qw, .inl (cJ, 6250, .inr (.inl w))), (qs, .inr (2, [.ref qs1, .ref qs2, .int (nI u.2.2.2.2.1)])), (qs1, .inl (cJ, 3000, .inr (.inl u.2.2.2.2.2.1))), (qs2, .inl (cJ, 3000, .inr (.inl u.2.2.2.2.2.2)))]) (fun E => E = ex_A ∧ ¬ cp_ix k (3000 + 1)) 2 9 := by
  refine cx_ofW (cc := mb_X_unpack) (maxL := 5) (ret := some .int) (by decide) rfl (Nat.le_of_ble_eq_true rfl) ?_
  intro p e s m below meth c hx hb hr hml hts hown hlocks hin hsz hK hP hD hA hS hZ hex ls hl
  have hw : ∀ w ∈ TB, w.before _ s = true := fun w h => hts w (List.mem_cons_of_mem _ h)
  have hown : s.vm.findClass cn_X = some m.cls := hown
  have hin : meth.name = "unpack" := hin
  generalize hAe : va_A [(q, .inr (5, [.ref qp, .ref qs, .ref qb, .ref qc, .int (nI tk)])), (qb, .inr (0, [.ref qw, .int (nI L.length)])), (qw, .inl (cJ, 6250, .inr (.inl w))), (qs, .inr (2, [.ref qs1, .ref qs2, .int (nI n2)])), (qs1, .inl (cJ, 3000, .inr (.inl f2))), (qs2, .inl (cJ, 3000, .inr (.inl g2)))] sz = A at hD hA hS hZ ⊢
  clear hAe
  have hl : lv_has ls 5 [(0, .ref q), (1, .int k)] := hl
  have hP : va_P D classes [(q, .inr (5, [.ref qp, .ref qs, .ref qb, .ref qc, .int (nI tk)])), (qb, .inr (0, [.ref qw, .int (nI L.length)])), (qw, .inl (cJ, 6250, .inr (.inl w))), (qs, .inr (2, [.ref qs1, .ref qs2, .int (nI n2)])), (qs1, .inl (cJ, 3000, .inr (.inl f2))), (qs2, .inl (cJ, 3000, .inr (.inl g2)))] s.heap := hP
  refine lv_iload_n hx hb dd_X_unpack_0 rfl (lv_at hl 1 rfl) ?_
  refine lv_if_lt (tgt := 11) hx hb dd_X_unpack_1 (by decide) (fun c_1 => ?_) (fun c_1 => ?_)
  · skip
    refine cx_throw (own := cn_X) (cls := ex_A) (text := "k is not 0 .. 3000") (ik := 35) (is := 80) (ic := 39) hx hb hlt hw hZ hown (by decide +kernel) wi_106 wi_29 (by decide +kernel) ht_X_39_1 ht_X_39_2 ht_X_35_39_3 hK hP hD hS (hl.1.trans hml.symm) hex dd_X_unpack_11 dd_X_unpack_14 dd_X_unpack_15 dd_X_unpack_17 dd_X_unpack_20 (Nat.le_of_ble_eq_true rfl) (Nat.le_of_ble_eq_true rfl) (Nat.le_of_ble_eq_true rfl) (Nat.le_of_ble_eq_true rfl) hlocks ?_ (Nat.le_of_ble_eq_true rfl) (Nat.le_of_ble_eq_true rfl)
    exact ⟨rfl, cp_ix_nle (by omega) (Or.inl c_1)⟩
  refine lv_iload_n hx hb dd_X_unpack_4 rfl (lv_at hl 1 rfl) ?_
  refine lv_sipush (v := nI 3000) hx hb dd_X_unpack_5 (by decide) ?_
  refine lv_icmp_le (tgt := 21) hx hb dd_X_unpack_8 (by decide) (fun c_8 => ?_) (fun c_8 => ?_)
  · skip
    obtain ⟨j, hj, hkj⟩ := cp_ix_le (by omega) c_1 c_8
    subst hkj
    refine lv_aload_n hx hb dd_X_unpack_21 rfl (lv_at hl 0 rfl) ?_
    refine va_get (D := D) (ci := 5) (C := cn_X) (T := cf_X) (N := 5) hx hb hw in_X hown hK hP 0 rfl rfl 1 (by decide) (hw _ wi_77) (fun _ h9 => h9) rfl dd_X_unpack_22 ?_
    refine lv_iconst (v := nI 0) hx hb dd_X_unpack_25 (by decide) ?_
    refine ct_behind_v (wc := [(qs, .inr (2, [.ref qs1, .ref qs2, .int (nI n2)])), (qs1, .inl (cJ, 3000, .inr (.inl f2))), (qs2, .inl (cJ, 3000, .inr (.inl g2)))]) (wr := [(q, .inr (5, [.ref qp, .ref qs, .ref qb, .ref qc, .int (nI tk)])), (qb, .inr (0, [.ref qw, .int (nI L.length)])), (qw, .inl (cJ, 6250, .inr (.inl w)))]) (av := [.ref qs, .int (nI 0)]) (va_runV (As := [.int (nI 0)]) (rest := []) ⟨hx, hb, hml, hown, hw⟩ (cc_P_shorten l D cJ cB qs qs1 qs2 n2 f2 g2 0 _) (cwV 1 hw (tb_V wi_212 wi_213 wi_214 wi_23 wi_215) rfl rfl rfl (by decide +kernel) ⟨Nat.le_of_ble_eq_true rfl, Nat.le_of_ble_eq_true rfl⟩) ⟨ct_blind, ct_recv hK hP (q0 := 3) (ci := 2) rfl rfl, ct_pc hZ hK hP hD hS hA [3, 4, 5] rfl (by decide)⟩ rfl rfl hl.1 rfl (lv_room (Nat.le_of_ble_eq_true rfl)) dd_X_unpack_26 ⟨Nat.le_of_ble_eq_true rfl, Nat.le_of_ble_eq_true rfl⟩) hK hP hD hS hA [3, 4, 5] [0, 1, 2] rfl rfl (by decide) (by decide) (fun u_26 H locs hw_26 hP hD hS => ?_)
    have hP : va_P D classes [(q, .inr (5, [.ref qp, .ref qs, .ref qb, .ref qc, .int (nI tk)])), (qb, .inr (0, [.ref qw, .int (nI L.length)])), (qw, .inl (cJ, 6250, .inr (.inl w))), (qs, .inr (2, [.ref qs1, .ref qs2, .int (nI 0)])), (qs1, .inl (cJ, 3000, .inr (.inl f2))), (qs2, .inl (cJ, 3000, .inr (.inl g2)))] _ := hP
    have hD : va_D A [(q, .inr (5, [.ref qp, .ref qs, .ref qb, .ref qc, .int (nI tk)])), (qb, .inr (0, [.ref qw, .int (nI L.length)])), (qw, .inl (cJ, 6250, .inr (.inl w))), (qs, .inr (2, [.ref qs1, .ref qs2, .int (nI 0)])), (qs1, .inl (cJ, 3000, .inr (.inl f2))), (qs2, .inl (cJ, 3000, .inr (.inl g2)))] := hD
    refine va_new (ci := 3) (fs := [.null, .null, .int 0, .long 0, .long 0, .long 0, .long 0]) (C := cn_R) (T := cf_R) (N := 7) hx hb hw in_R ty_R to_R hown (hw _ wi_377) (hw _ wi_378) (hw _ wi_37) hK hP hD hS hA rfl (fun j hj => by rcases (show j = 0 ∨ j = 1 ∨ j = 2 ∨ j = 3 ∨ j = 4 ∨ j = 5 ∨ j = 6 by omega) with rfl | rfl | rfl | rfl | rfl | rfl | rfl <;> rfl) (Nat.le_of_ble_eq_true rfl) (Nat.le_of_ble_eq_true rfl) dd_X_unpack_29 (fun rd H hP hD hS => ?_)
    have hP : va_P D classes [(q, .inr (5, [.ref qp, .ref qs, .ref qb, .ref qc, .int (nI tk)])), (qb, .inr (0, [.ref qw, .int (nI L.length)])), (qw, .inl (cJ, 6250, .inr (.inl w))), (qs, .inr (2, [.ref qs1, .ref qs2, .int (nI 0)])), (qs1, .inl (cJ, 3000, .inr (.inl f2))), (qs2, .inl (cJ, 3000, .inr (.inl g2))), (rd, .inr (3, [.null, .null, .int 0, .long 0, .long 0, .long 0, .long 0]))] _ := hP
    have hD : va_D A [(q, .inr (5, [.ref qp, .ref qs, .ref qb, .ref qc, .int (nI tk)])), (qb, .inr (0, [.ref qw, .int (nI L.length)])), (qw, .inl (cJ, 6250, .inr (.inl w))), (qs, .inr (2, [.ref qs1, .ref qs2, .int (nI 0)])), (qs1, .inl (cJ, 3000, .inr (.inl f2))), (qs2, .inl (cJ, 3000, .inr (.inl g2))), (rd, .inr (3, [.null, .null, .int 0, .long 0, .long 0, .long 0, .long 0]))] := hD
    refine lv_dup hx hb dd_X_unpack_32 rfl ?_
    refine lv_aload_n hx hb dd_X_unpack_33 rfl (lv_at hl 0 rfl) ?_
    refine va_get (D := D) (ci := 5) (C := cn_X) (T := cf_X) (N := 5) hx hb hw in_X hown hK hP 0 rfl rfl 2 (by decide) (hw _ wi_78) (fun _ h9 => h9) rfl dd_X_unpack_34 ?_
    refine ct_behind_v (wc := [(rd, .inr (3, [.null, .null, .int 0, .long 0, .long 0, .long 0, .long 0]))]) (wr := [(q, .inr (5, [.ref qp, .ref qs, .ref qb, .ref qc, .int (nI tk)])), (qb, .inr (0, [.ref qw, .int (nI L.length)])), (qw, .inl (cJ, 6250, .inr (.inl w))), (qs, .inr (2, [.ref qs1, .ref qs2, .int (nI 0)])), (qs1, .inl (cJ, 3000, .inr (.inl f2))), (qs2, .inl (cJ, 3000, .inr (.inl g2)))]) (av := [.ref rd, .ref qb]) (va_runI (As := [.ref qb]) (rest := [.ref rd]) ⟨hx, hb, hml, hown, hw⟩ (cc_R_init l D cJ cB rd qb _) (cwI 1 hw (tb_I wi_381) rfl rfl rfl (hw _ wi_37) (hw _ wi_379) (hw _ wi_380) rfl (by decide +kernel) ⟨Nat.le_of_ble_eq_true rfl, Nat.le_of_ble_eq_true rfl⟩) ⟨ct_blind, ct_pc hZ hK hP hD hS hA [6] rfl (by decide)⟩ rfl rfl hl.1 rfl (lv_room (Nat.le_of_ble_eq_true rfl)) dd_X_unpack_37 ⟨Nat.le_of_ble_eq_true rfl, Nat.le_of_ble_eq_true rfl⟩) hK hP hD hS hA [6] [0, 1, 2, 3, 4, 5] rfl rfl (by decide) (by decide) (fun u_37 H locs hw_37 hP hD hS => ?_)
    obtain ⟨rf, h9⟩ : ∃ z, z = u_37 := ⟨_, rfl⟩
    rw [← h9] at hP hD
    clear h9
    have hP : va_P D classes [(q, .inr (5, [.ref qp, .ref qs, .ref qb, .ref qc, .int (nI tk)])), (qb, .inr (0, [.ref qw, .int (nI L.length)])), (qw, .inl (cJ, 6250, .inr (.inl w))), (qs, .inr (2, [.ref qs1, .ref qs2, .int (nI 0)])), (qs1, .inl (cJ, 3000, .inr (.inl f2))), (qs2, .inl (cJ, 3000, .inr (.inl g2))), (rd, .inr (3, [.ref qb, .ref rf, .int (nI 0), .long 0, .long 0, .long 0, .long 0])), (rf, .inr (1, [.int (nI 0), .int (nI 0)]))] _ := hP
    have hD : va_D A [(q, .inr (5, [.ref qp, .ref qs, .ref qb, .ref qc, .int (nI tk)])), (qb, .inr (0, [.ref qw, .int (nI L.length)])), (qw, .inl (cJ, 6250, .inr (.inl w))), (qs, .inr (2, [.ref qs1, .ref qs2, .int (nI 0)])), (qs1, .inl (cJ, 3000, .inr (.inl f2))), (qs2, .inl (cJ, 3000, .inr (.inl g2))), (rd, .inr (3, [.ref qb, .ref rf, .int (nI 0), .long 0, .long 0, .long 0, .long 0])), (rf, .inr (1, [.int (nI 0), .int (nI 0)]))] := hD
    refine lv_astore_n (lv' := [(2, .ref rd), (0, .ref q), (1, .int (nI j))]) hx hb dd_X_unpack_40 rfl hl (by decide) rfl (fun ls hl => ?_)
    refine lv_aload_n hx hb dd_X_unpack_41 rfl (lv_at hl 0 rfl) ?_
    refine lv_iload_n hx hb dd_X_unpack_42 rfl (lv_at hl 2 rfl) ?_
    refine lv_aload_n hx hb dd_X_unpack_43 rfl (lv_at hl 1 rfl) ?_
    refine va_get (D := D) (ci := 5) (C := cn_X) (T := cf_X) (N := 5) hx hb hw in_X hown hK hP 0 rfl rfl 1 (by decide) (hw _ wi_77) (fun _ h9 => h9) rfl dd_X_unpack_44 ?_
    refine ct_behind_i (wc := [(rd, .inr (3, [.ref qb, .ref rf, .int (nI 0), .long 0, .long 0, .long 0, .long 0])), (qb, .inr (0, [.ref qw, .int (nI L.length)])), (qw, .inl (cJ, 6250, .inr (.inl w))), (rf, .inr (1, [.int (nI 0), .int (nI 0)])), (qs, .inr (2, [.ref qs1, .ref qs2, .int (nI 0)])), (qs1, .inl (cJ, 3000, .inr (.inl f2))), (qs2, .inl (cJ, 3000, .inr (.inl g2)))]) (wr := [(q, .inr (5, [.ref qp, .ref qs, .ref qb, .ref qc, .int (nI tk)]))]) (av := [.ref rd, .int (nI j), .ref qs]) (va_runV (As := [.int (nI j), .ref qs]) (rest := []) ⟨hx, hb, hml, hown, hw⟩ (cc_R_readAll l D cJ cB rd qb qw rf qs qs1 qs2 0 w L j f2 g2 _ hL hR hj) (cwV 2 hw (tb_V wi_407 wi_408 wi_409 wi_37 wi_410) rfl rfl rfl (by decide +kernel) ⟨Nat.le_of_ble_eq_true rfl, Nat.le_of_ble_eq_true rfl⟩) ⟨ct_blind, ct_recv hK hP (q0 := 6) (ci := 3) rfl rfl, ct_pc hZ hK hP hD hS hA [6, 1, 2, 7, 3, 4, 5] rfl (by decide)⟩ rfl rfl hl.1 rfl (lv_room (Nat.le_of_ble_eq_true rfl)) dd_X_unpack_47 ⟨Nat.le_of_ble_eq_true rfl, Nat.le_of_ble_eq_true rfl⟩) hK hP hD hS hA [6, 1, 2, 7, 3, 4, 5] [0] rfl rfl (by decide) (by decide) (fun r_47 u_47 H locs hw_47 hP hD hS => ?_)
    obtain ⟨hr_47, hu_47, hv_47⟩ := hw_47
    subst hr_47
    obtain ⟨a1, a2, a3, a4, a5, a6, a7, a8, a9, a10⟩ := u_47
    have e1 : (cp_ru L j).2.1 = a1 := hu_47.symm
    subst e1
    have hP : va_P D classes [(q, .inr (5, [.ref qp, .ref qs, .ref qb, .ref qc, .int (nI tk)])), (rd, .inr (3, [.ref qb, .ref rf, .int (nI ((cp_ru L j).2.1)), .long a2, .long a3, .long a4, .long a5])), (qb, .inr (0, [.ref qw, .int (nI L.length)])), (qw, .inl (cJ, 6250, .inr (.inl w))), (rf, .inr (1, [.int (nI a6), .int (nI a7)])), (qs, .inr (2, [.ref qs1, .ref qs2, .int (nI a8)])), (qs1, .inl (cJ, 3000, .inr (.inl a9))), (qs2, .inl (cJ, 3000, .inr (.inl a10)))] _ := hP
    have hD : va_D A [(q, .inr (5, [.ref qp, .ref qs, .ref qb, .ref qc, .int (nI tk)])), (rd, .inr (3, [.ref qb, .ref rf, .int (nI ((cp_ru L j).2.1)), .long a2, .long a3, .long a4, .long a5])), (qb, .inr (0, [.ref qw, .int (nI L.length)])), (qw, .inl (cJ, 6250, .inr (.inl w))), (rf, .inr (1, [.int (nI a6), .int (nI a7)])), (qs, .inr (2, [.ref qs1, .ref qs2, .int (nI a8)])), (qs1, .inl (cJ, 3000, .inr (.inl a9))), (qs2, .inl (cJ, 3000, .inr (.inl a10)))] := hD
    refine lv_istore_n (lv' := [(3, .int (bI ((cp_ru L j).1 = true))), (2, .ref rd), (0, .ref q), (1, .int (nI j))]) hx hb dd_X_unpack_50 rfl hl (by decide) rfl (fun ls hl => ?_)
    refine lv_aload_n hx hb dd_X_unpack_51 rfl (lv_at hl 2 rfl) ?_
    refine lv_aload_n hx hb dd_X_unpack_52 rfl (lv_at hl 1 rfl) ?_
    refine ct_behind_i (wc := [(rd, .inr (3, [.ref qb, .ref rf, .int (nI ((cp_ru L j).2.1)), .long a2, .long a3, .long a4, .long a5]))]) (wr := [(q, .inr (5, [.ref qp, .ref qs, .ref qb, .ref qc, .int (nI tk)])), (qb, .inr (0, [.ref qw, .int (nI L.length)])), (qw, .inl (cJ, 6250, .inr (.inl w))), (rf, .inr (1, [.int (nI a6), .int (nI a7)])), (qs, .inr (2, [.ref qs1, .ref qs2, .int (nI a8)])), (qs1, .inl (cJ, 3000, .inr (.inl a9))), (qs2, .inl (cJ, 3000, .inr (.inl a10)))]) (av := [.ref rd]) (va_runV (As := []) (rest := [.ref q]) ⟨hx, hb, hml, hown, hw⟩ (cc_R_position l D cJ cB rd qb rf (cp_ru L j).2.1 a2 a3 a4 a5 _) (cwV 0 hw (tb_V wi_457 wi_458 wi_459 wi_37 wi_460) rfl rfl rfl (by decide +kernel) ⟨Nat.le_of_ble_eq_true rfl, Nat.le_of_ble_eq_true rfl⟩) ⟨ct_blind, ct_recv hK hP (q0 := 1) (ci := 3) rfl rfl, ct_pc hZ hK hP hD hS hA [1] rfl (by decide)⟩ rfl rfl hl.1 rfl (lv_room (Nat.le_of_ble_eq_true rfl)) dd_X_unpack_53 ⟨Nat.le_of_ble_eq_true rfl, Nat.le_of_ble_eq_true rfl⟩) hK hP hD hS hA [1] [0, 2, 3, 4, 5, 6, 7] rfl rfl (by decide) (by decide) (fun r_53 u_53 H locs hw_53 hP hD hS => ?_)
    subst hw_53
    have hP : va_P D classes [(q, .inr (5, [.ref qp, .ref qs, .ref qb, .ref qc, .int (nI tk)])), (qb, .inr (0, [.ref qw, .int (nI L.length)])), (qw, .inl (cJ, 6250, .inr (.inl w))), (rf, .inr (1, [.int (nI a6), .int (nI a7)])), (qs, .inr (2, [.ref qs1, .ref qs2, .int (nI a8)])), (qs1, .inl (cJ, 3000, .inr (.inl a9))), (qs2, .inl (cJ, 3000, .inr (.inl a10))), (rd, .inr (3, [.ref qb, .ref rf, .int (nI ((cp_ru L j).2.1)), .long a2, .long a3, .long a4, .long a5]))] _ := hP
    have hD : va_D A [(q, .inr (5, [.ref qp, .ref qs, .ref qb, .ref qc, .int (nI tk)])), (qb, .inr (0, [.ref qw, .int (nI L.length)])), (qw, .inl (cJ, 6250, .inr (.inl w))), (rf, .inr (1, [.int (nI a6), .int (nI a7)])), (qs, .inr (2, [.ref qs1, .ref qs2, .int (nI a8)])), (qs1, .inl (cJ, 3000, .inr (.inl a9))), (qs2, .inl (cJ, 3000, .inr (.inl a10))), (rd, .inr (3, [.ref qb, .ref rf, .int (nI ((cp_ru L j).2.1)), .long a2, .long a3, .long a4, .long a5]))] := hD
    refine va_put (D := D) (ci := 5) (v := .int (nI ((cp_ru L j).2.1))) (ty := .int) (C := cn_X) (T := cf_X) (N := 5) hx hb hw in_X ty_X to_X nn_X hown hK hP hD hS 0 rfl rfl 4 (by decide) (hw _ wi_80) (fun _ h9 => h9) rfl (by decide +kernel) (rfl) (rfl) (Nat.le_of_ble_eq_true rfl) dd_X_unpack_56 (fun H locs hP hD hS => ?_)
    have hP : va_P D classes [(q, .inr (5, [.ref qp, .ref qs, .ref qb, .ref qc, .int (nI ((cp_ru L j).2.1))])), (qb, .inr (0, [.ref qw, .int (nI L.length)])), (qw, .inl (cJ, 6250, .inr (.inl w))), (rf, .inr (1, [.int (nI a6), .int (nI a7)])), (qs, .inr (2, [.ref qs1, .ref qs2, .int (nI a8)])), (qs1, .inl (cJ, 3000, .inr (.inl a9))), (qs2, .inl (cJ, 3000, .inr (.inl a10))), (rd, .inr (3, [.ref qb, .ref rf, .int (nI ((cp_ru L j).2.1)), .long a2, .long a3, .long a4, .long a5]))] _ := hP
    have hD : va_D A [(q, .inr (5, [.ref qp, .ref qs, .ref qb, .ref qc, .int (nI ((cp_ru L j).2.1))])), (qb, .inr (0, [.ref qw, .int (nI L.length)])), (qw, .inl (cJ, 6250, .inr (.inl w))), (rf, .inr (1, [.int (nI a6), .int (nI a7)])), (qs, .inr (2, [.ref qs1, .ref qs2, .int (nI a8)])), (qs1, .inl (cJ, 3000, .inr (.inl a9))), (qs2, .inl (cJ, 3000, .inr (.inl a10))), (rd, .inr (3, [.ref qb, .ref rf, .int (nI ((cp_ru L j).2.1)), .long a2, .long a3, .long a4, .long a5]))] := hD
    refine lv_iload_n hx hb dd_X_unpack_59 rfl (lv_at hl 0 rfl) ?_
    refine lv_if_ne (tgt := 65) hx hb dd_X_unpack_60 (by decide) (fun c_60 => ?_) (fun c_60 => ?_)
    · skip
      have c_60 : (cp_ru L j).1 = true := bI_n.mp c_60
      obtain ⟨g1, g2⟩ := hv_47 c_60
      have g1 : j = a8 := Eq.symm g1
      subst g1
      have hP : va_P D classes [(q, .inr (5, [.ref qp, .ref qs, .ref qb, .ref qc, .int (nI ((cp_ru L j).2.1))])), (qb, .inr (0, [.ref qw, .int (nI L.length)])), (qw, .inl (cJ, 6250, .inr (.inl w))), (rf, .inr (1, [.int (nI a6), .int (nI a7)])), (qs, .inr (2, [.ref qs1, .ref qs2, .int (nI j)])), (qs1, .inl (cJ, 3000, .inr (.inl a9))), (qs2, .inl (cJ, 3000, .inr (.inl a10))), (rd, .inr (3, [.ref qb, .ref rf, .int (nI ((cp_ru L j).2.1)), .long a2, .long a3, .long a4, .long a5]))] _ := hP
      have hD : va_D A [(q, .inr (5, [.ref qp, .ref qs, .ref qb, .ref qc, .int (nI ((cp_ru L j).2.1))])), (qb, .inr (0, [.ref qw, .int (nI L.length)])), (qw, .inl (cJ, 6250, .inr (.inl w))), (rf, .inr (1, [.int (nI a6), .int (nI a7)])), (qs, .inr (2, [.ref qs1, .ref qs2, .int (nI j)])), (qs1, .inl (cJ, 3000, .inr (.inl a9))), (qs2, .inl (cJ, 3000, .inr (.inl a10))), (rd, .inr (3, [.ref qb, .ref rf, .int (nI ((cp_ru L j).2.1)), .long a2, .long a3, .long a4, .long a5]))] := hD
      refine lv_aload_n hx hb dd_X_unpack_65 rfl (lv_at hl 2 rfl) ?_
      refine va_get (D := D) (ci := 5) (C := cn_X) (T := cf_X) (N := 5) hx hb hw in_X hown hK hP 0 rfl rfl 0 (by decide) (hw _ wi_76) (fun _ h9 => h9) rfl dd_X_unpack_66 ?_
      refine lv_astore (lv' := [(4, .ref qp), (3, .int (bI ((cp_ru L j).1 = true))), (2, .ref rd), (0, .ref q), (1, .int (nI j))]) hx hb dd_X_unpack_69 hl (by decide) rfl (fun ls hl => ?_)
      refine lv_aload_n hx hb dd_X_unpack_71 rfl (lv_at hl 3 rfl) ?_
      refine lv_aload_n hx hb dd_X_unpack_72 rfl (lv_at hl 3 rfl) ?_
      refine va_get (D := D) (ci := 5) (C := cn_X) (T := cf_X) (N := 5) hx hb hw in_X hown hK hP 0 rfl rfl 1 (by decide) (hw _ wi_77) (fun _ h9 => h9) rfl dd_X_unpack_73 ?_
      refine va_put (D := D) (ci := 5) (v := .ref qs) (ty := .object "ChunkPacker$PointRow") (C := cn_X) (T := cf_X) (N := 5) hx hb hw in_X ty_X to_X nn_X hown hK hP hD hS 0 rfl rfl 0 (by decide) (hw _ wi_76) (fun _ h9 => h9) rfl (by decide +kernel) (rfl) (rfl) (Nat.le_of_ble_eq_true rfl) dd_X_unpack_76 (fun H locs hP hD hS => ?_)
      have hP : va_P D classes [(q, .inr (5, [.ref qs, .ref qs, .ref qb, .ref qc, .int (nI ((cp_ru L j).2.1))])), (qb, .inr (0, [.ref qw, .int (nI L.length)])), (qw, .inl (cJ, 6250, .inr (.inl w))), (rf, .inr (1, [.int (nI a6), .int (nI a7)])), (qs, .inr (2, [.ref qs1, .ref qs2, .int (nI j)])), (qs1, .inl (cJ, 3000, .inr (.inl a9))), (qs2, .inl (cJ, 3000, .inr (.inl a10))), (rd, .inr (3, [.ref qb, .ref rf, .int (nI ((cp_ru L j).2.1)), .long a2, .long a3, .long a4, .long a5]))] _ := hP
      have hD : va_D A [(q, .inr (5, [.ref qs, .ref qs, .ref qb, .ref qc, .int (nI ((cp_ru L j).2.1))])), (qb, .inr (0, [.ref qw, .int (nI L.length)])), (qw, .inl (cJ, 6250, .inr (.inl w))), (rf, .inr (1, [.int (nI a6), .int (nI a7)])), (qs, .inr (2, [.ref qs1, .ref qs2, .int (nI j)])), (qs1, .inl (cJ, 3000, .inr (.inl a9))), (qs2, .inl (cJ, 3000, .inr (.inl a10))), (rd, .inr (3, [.ref qb, .ref rf, .int (nI ((cp_ru L j).2.1)), .long a2, .long a3, .long a4, .long a5]))] := hD
      refine lv_aload_n hx hb dd_X_unpack_79 rfl (lv_at hl 3 rfl) ?_
      refine lv_aload hx hb dd_X_unpack_80 (lv_at hl 0 rfl) ?_
      refine va_put (D := D) (ci := 5) (v := .ref qp) (ty := .object "ChunkPacker$PointRow") (C := cn_X) (T := cf_X) (N := 5) hx hb hw in_X ty_X to_X nn_X hown hK hP hD hS 0 rfl rfl 1 (by decide) (hw _ wi_77) (fun _ h9 => h9) rfl (by decide +kernel) (rfl) (rfl) (Nat.le_of_ble_eq_true rfl) dd_X_unpack_82 (fun H locs hP hD hS => ?_)
      have hP : va_P D classes [(q, .inr (5, [.ref qs, .ref qp, .ref qb, .ref qc, .int (nI ((cp_ru L j).2.1))])), (qb, .inr (0, [.ref qw, .int (nI L.length)])), (qw, .inl (cJ, 6250, .inr (.inl w))), (rf, .inr (1, [.int (nI a6), .int (nI a7)])), (qs, .inr (2, [.ref qs1, .ref qs2, .int (nI j)])), (qs1, .inl (cJ, 3000, .inr (.inl a9))), (qs2, .inl (cJ, 3000, .inr (.inl a10))), (rd, .inr (3, [.ref qb, .ref rf, .int (nI ((cp_ru L j).2.1)), .long a2, .long a3, .long a4, .long a5]))] _ := hP
      have hD : va_D A [(q, .inr (5, [.ref qs, .ref qp, .ref qb, .ref qc, .int (nI ((cp_ru L j).2.1))])), (qb, .inr (0, [.ref qw, .int (nI L.length)])), (qw, .inl (cJ, 6250, .inr (.inl w))), (rf, .inr (1, [.int (nI a6), .int (nI a7)])), (qs, .inr (2, [.ref qs1, .ref qs2, .int (nI j)])), (qs1, .inl (cJ, 3000, .inr (.inl a9))), (qs2, .inl (cJ, 3000, .inr (.inl a10))), (rd, .inr (3, [.ref qb, .ref rf, .int (nI ((cp_ru L j).2.1)), .long a2, .long a3, .long a4, .long a5]))] := hD
      refine lv_aload_n hx hb dd_X_unpack_85 rfl (lv_at hl 3 rfl) ?_
      refine va_get (D := D) (ci := 5) (C := cn_X) (T := cf_X) (N := 5) hx hb hw in_X hown hK hP 0 rfl rfl 4 (by decide) (hw _ wi_80) (fun _ h9 => h9) rfl dd_X_unpack_86 ?_
      refine vx_ret ?_
      refine W.widen (k := 2) (n := 9) (Nat.le_of_ble_eq_true rfl) (Nat.le_of_ble_eq_true rfl) ?_
      refine ct_iret (u := (qs, qp, (cp_ru L j).2.1, j, j, a9, a10)) hx hb hr hlocks hK (hP.sub [0, 1, 2, 4, 5, 6] rfl) (hD.sub [0, 1, 2, 4, 5, 6] (by decide) rfl) hS rfl ?_ dd_X_unpack_89
      exact ⟨hj, rfl, rfl, Or.inl ⟨c_60, rfl, rfl, rfl, rfl, g2⟩⟩
    have c_60 : ¬ ((cp_ru L j).1 = true) := bI_z.mp c_60
    refine lv_iconst (v := (-1)) hx hb dd_X_unpack_63 (by decide) ?_
    refine vx_ret ?_
    refine W.widen (k := 2) (n := 9) (Nat.le_of_ble_eq_true rfl) (Nat.le_of_ble_eq_true rfl) ?_
    refine ct_iret (u := (qp, qs, (cp_ru L j).2.1, j, a8, a9, a10)) hx hb hr hlocks hK (hP.sub [0, 1, 2, 4, 5, 6] rfl) (hD.sub [0, 1, 2, 4, 5, 6] (by decide) rfl) hS rfl ?_ dd_X_unpack_64
    exact ⟨hj, rfl, rfl, Or.inr ⟨c_60, rfl, rfl, rfl⟩⟩
  refine cx_throw (own := cn_X) (cls := ex_A) (text := "k is not 0 .. 3000") (ik := 35) (is := 80) (ic := 39) hx hb hlt hw hZ hown (by decide +kernel) wi_106 wi_29 (by decide +kernel) ht_X_39_1 ht_X_39_2 ht_X_35_39_3 hK hP hD hS (hl.1.trans hml.symm) hex dd_X_unpack_11 dd_X_unpack_14 dd_X_unpack_15 dd_X_unpack_17 dd_X_unpack_20 (Nat.le_of_ble_eq_true rfl) (Nat.le_of_ble_eq_true rfl) (Nat.le_of_ble_eq_true rfl) (Nat.le_of_ble_eq_true rfl) hlocks ?_ (Nat.le_of_ble_eq_true rfl) (Nat.le_of_ble_eq_true rfl)
  exact ⟨rfl, cp_ix_nle (by omega) (Or.inr c_8)⟩

set_option maxHeartbeats 4000000 in
set_option maxRecDepth 100000 in
theorem cc_X_count (l : Launch) (hlt : l.stackTraces = false) (D : va_G) (cJ cB : ClassId) (q qp qs qb qc tk : Nat) (qt qv : Nat) (n : Nat) (f g : Nat → Int64) (qw : Nat) (w : Nat → Int64) (L : List Bool) (k : Int32) (sz : Nat) (h1 : n ≤ 3000) : cx_i l my_X_count (Cond.code my_X_count mb_X_count 2 (some .int) :: TB) ({ frames := 6, cells := 1, slots := 6, locals := 90 } : Room) D classes cJ cB [.ref q, .int k] [(q, .inr (5, [.ref qp, .ref qs, .ref qb, .ref qc, .int (nI tk)])), (qp, .inr (2, [.ref qt, .ref qv, .int (nI n)])), (qt, .inl (cJ, 3000, .inr (.inl f))), (qv, .inl (cJ, 3000, .inr (.inl g))), (qb, .inr (0, [.ref qw, .int (nI L.length)])), (qw, .inl (cJ, 6250, .inr (.inl w)))] sz (fun (r : Int32) (u : Unit) => (k = 0 ∧ r = nI n) ∨ (k = 1 ∧ r = nI L.length)) (fun u => [(q, .inr (5, [.ref qp, .ref qs, .ref qb, .ref qc, .int (nI tk)])), (qp, .inr (2, [.ref qt, .ref qv, .int (nI n)])), (qt, .inl (cJ, 3000, .inr (.inl f))), (qv, .inl (cJ, 3000, .inr (.inl g))), (qb, .inr (0, [.ref qw, .int (nI L.length)])), (qw, .inl (cJ, 6250, .inr (.inl w)))]) (fun E => E = ex_A ∧ ¬ k = 0 ∧ ¬ k = 1) 1 6 := by
  refine cx_ofW (cc := mb_X_count) (maxL := 2) (ret := some .int) (by decide) rfl (Nat.le_of_ble_eq_true rfl) ?_
  intro p e s m below meth c hx hb hr hml hts hown hlocks hin hsz hK hP hD hA hS hZ hex ls hl
  have hw : ∀ w ∈ TB, w.before _ s = true := fun w h => hts w (List.mem_cons_of_mem _ h)
  have hown : s.vm.findClass cn_X = some m.cls := hown
  have hin : meth.name = "count" := hin
  generalize hAe : va_A [(q, .inr (5, [.ref qp, .ref qs, .ref qb, .ref qc, .int (nI tk)])), (qp, .inr (2, [.ref qt, .ref qv, .int (nI n)])), (qt, .inl (cJ, 3000, .inr (.inl f))), (qv, .inl (cJ, 3000, .inr (.inl g))), (qb, .inr (0, [.ref qw, .int (nI L.length)])), (qw, .inl (cJ, 6250, .inr (.inl w)))] sz = A at hD hA hS hZ ⊢
  clear hAe
  have hl : lv_has ls 2 [(0, .ref q), (1, .int k)] := hl
  have hP : va_P D classes [(q, .inr (5, [.ref qp, .ref qs, .ref qb, .ref qc, .int (nI tk)])), (qp, .inr (2, [.ref qt, .ref qv, .int (nI n)])), (qt, .inl (cJ, 3000, .inr (.inl f))), (qv, .inl (cJ, 3000, .inr (.inl g))), (qb, .inr (0, [.ref qw, .int (nI L.length)])), (qw, .inl (cJ, 6250, .inr (.inl w)))] s.heap := hP
  refine lv_iload_n hx hb dd_X_count_0 rfl (lv_at hl 1 rfl) ?_
  refine lv_if_ne (tgt := 12) hx hb dd_X_count_1 (by decide) (fun c_1 => ?_) (fun c_1 => ?_)
  · skip
    refine lv_iload_n hx hb dd_X_count_12 rfl (lv_at hl 1 rfl) ?_
    refine lv_iconst (v := nI 1) hx hb dd_X_count_13 (by decide) ?_
    refine lv_icmp_ne (tgt := 25) hx hb dd_X_count_14 (by decide) (fun c_14 => ?_) (fun c_14 => ?_)
    · skip
      refine cx_throw (own := cn_X) (cls := ex_A) (text := "neither points nor bits") (ik := 35) (is := 92) (ic := 39) hx hb hlt hw hZ hown (by decide +kernel) wi_106 wi_29 (by decide +kernel) ht_X_39_1 ht_X_39_2 ht_X_35_39_3 hK hP hD hS (hl.1.trans hml.symm) hex dd_X_count_25 dd_X_count_28 dd_X_count_29 dd_X_count_31 dd_X_count_34 (Nat.le_of_ble_eq_true rfl) (Nat.le_of_ble_eq_true rfl) (Nat.le_of_ble_eq_true rfl) (Nat.le_of_ble_eq_true rfl) hlocks ?_ (Nat.le_of_ble_eq_true rfl) (Nat.le_of_ble_eq_true rfl)
      exact ⟨rfl, c_1, c_14⟩
    refine lv_aload_n hx hb dd_X_count_17 rfl (lv_at hl 0 rfl) ?_
    refine va_get (D := D) (ci := 5) (C := cn_X) (T := cf_X) (N := 5) hx hb hw in_X hown hK hP 0 rfl rfl 2 (by decide) (hw _ wi_78) (fun _ h9 => h9) rfl dd_X_count_18 ?_
    refine ct_behind_i (wc := [(qb, .inr (0, [.ref qw, .int (nI L.length)])), (qw, .inl (cJ, 6250, .inr (.inl w)))]) (wr := [(q, .inr (5, [.ref qp, .ref qs, .ref qb, .ref qc, .int (nI tk)])), (qp, .inr (2, [.ref qt, .ref qv, .int (nI n)])), (qt, .inl (cJ, 3000, .inr (.inl f))), (qv, .inl (cJ, 3000, .inr (.inl g)))]) (av := [.ref qb]) (va_runV (As := []) (rest := []) ⟨hx, hb, hml, hown, hw⟩ (cc_B_size l D cJ cB qb qw L.length w _) (cwV 0 hw (tb_V wi_365 wi_366 wi_367 wi_24 wi_368) rfl rfl rfl (by decide +kernel) ⟨Nat.le_of_ble_eq_true rfl, Nat.le_of_ble_eq_true rfl⟩) ⟨ct_blind, ct_recv hK hP (q0 := 4) (ci := 0) rfl rfl, ct_pc hZ hK hP hD hS hA [4, 5] rfl (by decide)⟩ rfl rfl hl.1 rfl (lv_room (Nat.le_of_ble_eq_true rfl)) dd_X_count_21 ⟨Nat.le_of_ble_eq_true rfl, Nat.le_of_ble_eq_true rfl⟩) hK hP hD hS hA [4, 5] [0, 1, 2, 3] rfl rfl (by decide) (by decide) (fun r_21 u_21 H locs hw_21 hP hD hS => ?_)
    subst hw_21
    have hP : va_P D classes [(q, .inr (5, [.ref qp, .ref qs, .ref qb, .ref qc, .int (nI tk)])), (qp, .inr (2, [.ref qt, .ref qv, .int (nI n)])), (qt, .inl (cJ, 3000, .inr (.inl f))), (qv, .inl (cJ, 3000, .inr (.inl g))), (qb, .inr (0, [.ref qw, .int (nI L.length)])), (qw, .inl (cJ, 6250, .inr (.inl w)))] _ := hP
    have hD : va_D A [(q, .inr (5, [.ref qp, .ref qs, .ref qb, .ref qc, .int (nI tk)])), (qp, .inr (2, [.ref qt, .ref qv, .int (nI n)])), (qt, .inl (cJ, 3000, .inr (.inl f))), (qv, .inl (cJ, 3000, .inr (.inl g))), (qb, .inr (0, [.ref qw, .int (nI L.length)])), (qw, .inl (cJ, 6250, .inr (.inl w)))] := hD
    refine vx_ret ?_
    refine W.widen (k := 1) (n := 6) (Nat.le_of_ble_eq_true rfl) (Nat.le_of_ble_eq_true rfl) ?_
    refine ct_iret (u := ()) hx hb hr hlocks hK hP hD hS rfl ?_ dd_X_count_24
    exact Or.inr ⟨c_14, rfl⟩
  refine lv_aload_n hx hb dd_X_count_4 rfl (lv_at hl 0 rfl) ?_
  refine va_get (D := D) (ci := 5) (C := cn_X) (T := cf_X) (N := 5) hx hb hw in_X hown hK hP 0 rfl rfl 0 (by decide) (hw _ wi_76) (fun _ h9 => h9) rfl dd_X_count_5 ?_
  refine ct_behind_i (wc := [(qp, .inr (2, [.ref qt, .ref qv, .int (nI n)])), (qt, .inl (cJ, 3000, .inr (.inl f))), (qv, .inl (cJ, 3000, .inr (.inl g)))]) (wr := [(q, .inr (5, [.ref qp, .ref qs, .ref qb, .ref qc, .int (nI tk)])), (qb, .inr (0, [.ref qw, .int (nI L.length)])), (qw, .inl (cJ, 6250, .inr (.inl w)))]) (av := [.ref qp]) (va_runV (As := []) (rest := []) ⟨hx, hb, hml, hown, hw⟩ (cc_P_size l D cJ cB qp qt qv n f g _ h1) (cwV 0 hw (tb_V wi_200 wi_201 wi_202 wi_23 wi_203) rfl rfl rfl (by decide +kernel) ⟨Nat.le_of_ble_eq_true rfl, Nat.le_of_ble_eq_true rfl⟩) ⟨ct_blind, ct_recv hK hP (q0 := 1) (ci := 2) rfl rfl, ct_pc hZ hK hP hD hS hA [1, 2, 3] rfl (by decide)⟩ rfl rfl hl.1 rfl (lv_room (Nat.le_of_ble_eq_true rfl)) dd_X_count_8 ⟨Nat.le_of_ble_eq_true rfl, Nat.le_of_ble_eq_true rfl⟩) hK hP hD hS hA [1, 2, 3] [0, 4, 5] rfl rfl (by decide) (by decide) (fun r_8 u_8 H locs hw_8 hP hD hS => ?_)
  subst hw_8
  have hP : va_P D classes [(q, .inr (5, [.ref qp, .ref qs, .ref qb, .ref qc, .int (nI tk)])), (qb, .inr (0, [.ref qw, .int (nI L.length)])), (qw, .inl (cJ, 6250, .inr (.inl w))), (qp, .inr (2, [.ref qt, .ref qv, .int (nI n)])), (qt, .inl (cJ, 3000, .inr (.inl f))), (qv, .inl (cJ, 3000, .inr (.inl g)))] _ := hP
  have hD : va_D A [(q, .inr (5, [.ref qp, .ref qs, .ref qb, .ref qc, .int (nI tk)])), (qb, .inr (0, [.ref qw, .int (nI L.length)])), (qw, .inl (cJ, 6250, .inr (.inl w))), (qp, .inr (2, [.ref qt, .ref qv, .int (nI n)])), (qt, .inl (cJ, 3000, .inr (.inl f))), (qv, .inl (cJ, 3000, .inr (.inl g)))] := hD
  refine vx_ret ?_
  refine W.widen (k := 1) (n := 6) (Nat.le_of_ble_eq_true rfl) (Nat.le_of_ble_eq_true rfl) ?_
  refine ct_iret (u := ()) hx hb hr hlocks hK (hP.sub [0, 3, 4, 5, 1, 2] rfl) (hD.sub [0, 3, 4, 5, 1, 2] (by decide) rfl) hS rfl ?_ dd_X_count_11
  exact Or.inl ⟨c_1, rfl⟩

set_option maxHeartbeats 4000000 in
set_option maxRecDepth 100000 in
theorem cc_X_time (l : Launch) (hlt : l.stackTraces = false) (D : va_G) (cJ cB : ClassId) (q qp qs qb qc tk : Nat) (qt qv : Nat) (n : Nat) (f g : Nat → Int64) (k : Int32) (sz : Nat) (h1 : n ≤ 3000) : cx_l l my_X_time (Cond.code my_X_time mb_X_time 2 (some .long) :: TB) ({ frames := 7, cells := 1, slots := 6, locals := 120 } : Room) D classes cJ cB [.ref q, .int k] [(q, .inr (5, [.ref qp, .ref qs, .ref qb, .ref qc, .int (nI tk)])), (qp, .inr (2, [.ref qt, .ref qv, .int (nI n)])), (qt, .inl (cJ, 3000, .inr (.inl f))), (qv, .inl (cJ, 3000, .inr (.inl g)))] sz (fun (r : Int64) (u : Unit) => ∃ j : Nat, j < n ∧ k = nI j ∧ r = f j) (fun u => [(q, .inr (5, [.ref qp, .ref qs, .ref qb, .ref qc, .int (nI tk)])), (qp, .inr (2, [.ref qt, .ref qv, .int (nI n)])), (qt, .inl (cJ, 3000, .inr (.inl f))), (qv, .inl (cJ, 3000, .inr (.inl g)))]) (fun E => E = ex_I ∧ ¬ cp_ix k n) 1 6 := by
  refine cx_ofW (cc := mb_X_time) (maxL := 2) (ret := some .long) (by decide) rfl (Nat.le_of_ble_eq_true rfl) ?_
  intro p e s m below meth c hx hb hr hml hts hown hlocks hin hsz hK hP hD hA hS hZ hex ls hl
  have hw : ∀ w ∈ TB, w.before _ s = true := fun w h => hts w (List.mem_cons_of_mem _ h)
  have hown : s.vm.findClass cn_X = some m.cls := hown
  have hin : meth.name = "time" := hin
  generalize hAe : va_A [(q, .inr (5, [.ref qp, .ref qs, .ref qb, .ref qc, .int (nI tk)])), (qp, .inr (2, [.ref qt, .ref qv, .int (nI n)])), (qt, .inl (cJ, 3000, .inr (.inl f))), (qv, .inl (cJ, 3000, .inr (.inl g)))] sz = A at hD hA hS hZ ⊢
  clear hAe
  have hl : lv_has ls 2 [(0, .ref q), (1, .int k)] := hl
  have hP : va_P D classes [(q, .inr (5, [.ref qp, .ref qs, .ref qb, .ref qc, .int (nI tk)])), (qp, .inr (2, [.ref qt, .ref qv, .int (nI n)])), (qt, .inl (cJ, 3000, .inr (.inl f))), (qv, .inl (cJ, 3000, .inr (.inl g)))] s.heap := hP
  refine lv_aload_n hx hb dd_X_time_0 rfl (lv_at hl 0 rfl) ?_
  refine va_get (D := D) (ci := 5) (C := cn_X) (T := cf_X) (N := 5) hx hb hw in_X hown hK hP 0 rfl rfl 0 (by decide) (hw _ wi_76) (fun _ h9 => h9) rfl dd_X_time_1 ?_
  refine lv_iload_n hx hb dd_X_time_4 rfl (lv_at hl 1 rfl) ?_
  refine cx_behind_l (wc := [(qp, .inr (2, [.ref qt, .ref qv, .int (nI n)])), (qt, .inl (cJ, 3000, .inr (.inl f))), (qv, .inl (cJ, 3000, .inr (.inl g)))]) (wr := [(q, .inr (5, [.ref qp, .ref qs, .ref qb, .ref qc, .int (nI tk)]))]) (av := [.ref qp, .int k]) (vx_runV (As := [.int k]) (rest := []) ⟨hx, hb, hml, hown, hw⟩ (cx_P_timeAt l hlt D cJ cB qp qt qv n f g k _ h1) (cwV 1 hw (tb_V wi_477 wi_268 wi_269 wi_23 wi_270) rfl rfl rfl (by decide +kernel) ⟨Nat.le_of_ble_eq_true rfl, Nat.le_of_ble_eq_true rfl⟩) ⟨ct_blind, ct_recv hK hP (q0 := 1) (ci := 2) rfl rfl, ct_pc hZ hK hP hD hS hA [1, 2, 3] rfl (by decide)⟩ rfl rfl hl.1 rfl (lv_room (Nat.le_of_ble_eq_true rfl)) dd_X_time_5 ⟨Nat.le_of_ble_eq_true rfl, Nat.le_of_ble_eq_true rfl⟩) hK hP hD hS hA [1, 2, 3] [0] rfl rfl (by decide) (by decide) (fun E ce q9 H locs hpx hP hD hS hce hcv hcl => ?_) (fun r_5 u_5 H locs hw_5 hP hD hS => ?_)
  · skip
    refine cx_out (ws := [(q, .inr (5, [.ref qp, .ref qs, .ref qb, .ref qc, .int (nI tk)])), (qp, .inr (2, [.ref qt, .ref qv, .int (nI n)])), (qt, .inl (cJ, 3000, .inr (.inl f))), (qv, .inl (cJ, 3000, .inr (.inl g)))]) hex hlocks hce hcv hcl hK hP hD hS ?_ (Nat.le_of_ble_eq_true rfl) (Nat.le_of_ble_eq_true rfl)
    exact hpx
  have hP : va_P D classes [(q, .inr (5, [.ref qp, .ref qs, .ref qb, .ref qc, .int (nI tk)])), (qp, .inr (2, [.ref qt, .ref qv, .int (nI n)])), (qt, .inl (cJ, 3000, .inr (.inl f))), (qv, .inl (cJ, 3000, .inr (.inl g)))] _ := hP
  have hD : va_D A [(q, .inr (5, [.ref qp, .ref qs, .ref qb, .ref qc, .int (nI tk)])), (qp, .inr (2, [.ref qt, .ref qv, .int (nI n)])), (qt, .inl (cJ, 3000, .inr (.inl f))), (qv, .inl (cJ, 3000, .inr (.inl g)))] := hD
  refine vx_ret ?_
  refine W.widen (k := 1) (n := 6) (Nat.le_of_ble_eq_true rfl) (Nat.le_of_ble_eq_true rfl) ?_
  refine ct_lret (u := ()) hx hb hr hlocks hK hP hD hS rfl ?_ dd_X_time_8
  exact hw_5

set_option maxHeartbeats 4000000 in
set_option maxRecDepth 100000 in
theorem cc_X_value (l : Launch) (hlt : l.stackTraces = false) (D : va_G) (cJ cB : ClassId) (q qp qs qb qc tk : Nat) (qt qv : Nat) (n : Nat) (f g : Nat → Int64) (k : Int32) (sz : Nat) (h1 : n ≤ 3000) : cx_l l my_X_value (Cond.code my_X_value mb_X_value 2 (some .long) :: TB) ({ frames := 7, cells := 1, slots := 6, locals := 120 } : Room) D classes cJ cB [.ref q, .int k] [(q, .inr (5, [.ref qp, .ref qs, .ref qb, .ref qc, .int (nI tk)])), (qp, .inr (2, [.ref qt, .ref qv, .int (nI n)])), (qt, .inl (cJ, 3000, .inr (.inl f))), (qv, .inl (cJ, 3000, .inr (.inl g)))] sz (fun (r : Int64) (u : Unit) => ∃ j : Nat, j < n ∧ k = nI j ∧ r = g j) (fun u => [(q, .inr (5, [.ref qp, .ref qs, .ref qb, .ref qc, .int (nI tk)])), (qp, .inr (2, [.ref qt, .ref qv, .int (nI n)])), (qt, .inl (cJ, 3000, .inr (.inl f))), (qv, .inl (cJ, 3000, .inr (.inl g)))]) (fun E => E = ex_I ∧ ¬ cp_ix k n) 1 6 := by
  refine cx_ofW (cc := mb_X_value) (maxL := 2) (ret := some .long) (by decide) rfl (Nat.le_of_ble_eq_true rfl) ?_
  intro p e s m below meth c hx hb hr hml hts hown hlocks hin hsz hK hP hD hA hS hZ hex ls hl
  have hw : ∀ w ∈ TB, w.before _ s = true := fun w h => hts w (List.mem_cons_of_mem _ h)
  have hown : s.vm.findClass cn_X = some m.cls := hown
  have hin : meth.name = "value" := hin
  generalize hAe : va_A [(q, .inr (5, [.ref qp, .ref qs, .ref qb, .ref qc, .int (nI tk)])), (qp, .inr (2, [.ref qt, .ref qv, .int (nI n)])), (qt, .inl (cJ, 3000, .inr (.inl f))), (qv, .inl (cJ, 3000, .inr (.inl g)))] sz = A at hD hA hS hZ ⊢
  clear hAe
  have hl : lv_has ls 2 [(0, .ref q), (1, .int k)] := hl
  have hP : va_P D classes [(q, .inr (5, [.ref qp, .ref qs, .ref qb, .ref qc, .int (nI tk)])), (qp, .inr (2, [.ref qt, .ref qv, .int (nI n)])), (qt, .inl (cJ, 3000, .inr (.inl f))), (qv, .inl (cJ, 3000, .inr (.inl g)))] s.heap := hP
  refine lv_aload_n hx hb dd_X_value_0 rfl (lv_at hl 0 rfl) ?_
  refine va_get (D := D) (ci := 5) (C := cn_X) (T := cf_X) (N := 5) hx hb hw in_X hown hK hP 0 rfl rfl 0 (by decide) (hw _ wi_76) (fun _ h9 => h9) rfl dd_X_value_1 ?_
  refine lv_iload_n hx hb dd_X_value_4 rfl (lv_at hl 1 rfl) ?_
  refine cx_behind_l (wc := [(qp, .inr (2, [.ref qt, .ref qv, .int (nI n)])), (qt, .inl (cJ, 3000, .inr (.inl f))), (qv, .inl (cJ, 3000, .inr (.inl g)))]) (wr := [(q, .inr (5, [.ref qp, .ref qs, .ref qb, .ref qc, .int (nI tk)]))]) (av := [.ref qp, .int k]) (vx_runV (As := [.int k]) (rest := []) ⟨hx, hb, hml, hown, hw⟩ (cx_P_valueAt l hlt D cJ cB qp qt qv n f g k _ h1) (cwV 1 hw (tb_V wi_485 wi_288 wi_289 wi_23 wi_290) rfl rfl rfl (by decide +kernel) ⟨Nat.le_of_ble_eq_true rfl, Nat.le_of_ble_eq_true rfl⟩) ⟨ct_blind, ct_recv hK hP (q0 := 1) (ci := 2) rfl rfl, ct_pc hZ hK hP hD hS hA [1, 2, 3] rfl (by decide)⟩ rfl rfl hl.1 rfl (lv_room (Nat.le_of_ble_eq_true rfl)) dd_X_value_5 ⟨Nat.le_of_ble_eq_true rfl, Nat.le_of_ble_eq_true rfl⟩) hK hP hD hS hA [1, 2, 3] [0] rfl rfl (by decide) (by decide) (fun E ce q9 H locs hpx hP hD hS hce hcv hcl => ?_) (fun r_5 u_5 H locs hw_5 hP hD hS => ?_)
  · skip
    refine cx_out (ws := [(q, .inr (5, [.ref qp, .ref qs, .ref qb, .ref qc, .int (nI tk)])), (qp, .inr (2, [.ref qt, .ref qv, .int (nI n)])), (qt, .inl (cJ, 3000, .inr (.inl f))), (qv, .inl (cJ, 3000, .inr (.inl g)))]) hex hlocks hce hcv hcl hK hP hD hS ?_ (Nat.le_of_ble_eq_true rfl) (Nat.le_of_ble_eq_true rfl)
    exact hpx
  have hP : va_P D classes [(q, .inr (5, [.ref qp, .ref qs, .ref qb, .ref qc, .int (nI tk)])), (qp, .inr (2, [.ref qt, .ref qv, .int (nI n)])), (qt, .inl (cJ, 3000, .inr (.inl f))), (qv, .inl (cJ, 3000, .inr (.inl g)))] _ := hP
  have hD : va_D A [(q, .inr (5, [.ref qp, .ref qs, .ref qb, .ref qc, .int (nI tk)])), (qp, .inr (2, [.ref qt, .ref qv, .int (nI n)])), (qt, .inl (cJ, 3000, .inr (.inl f))), (qv, .inl (cJ, 3000, .inr (.inl g)))] := hD
  refine vx_ret ?_
  refine W.widen (k := 1) (n := 6) (Nat.le_of_ble_eq_true rfl) (Nat.le_of_ble_eq_true rfl) ?_
  refine ct_lret (u := ()) hx hb hr hlocks hK hP hD hS rfl ?_ dd_X_value_8
  exact hw_5

set_option maxHeartbeats 4000000 in
set_option maxRecDepth 100000 in
theorem cc_X_bit (l : Launch) (hlt : l.stackTraces = false) (D : va_G) (cJ cB : ClassId) (q qp qs qb qc tk : Nat) (qw : Nat) (w : Nat → Int64) (L : List Bool) (k : Int32) (sz : Nat) (hL : L.length ≤ 400000) (hR : cp_Rw w L) : cx_i l my_X_bit (Cond.code my_X_bit mb_X_bit 2 (some .boolean) :: TB) ({ frames := 7, cells := 1, slots := 6, locals := 120 } : Room) D classes cJ cB [.ref q, .int k] [(q, .inr (5, [.ref qp, .ref qs, .ref qb, .ref qc, .int (nI tk)])), (qb, .inr (0, [.ref qw, .int (nI L.length)])), (qw, .inl (cJ, 6250, .inr (.inl w)))] sz (fun (r : Int32) (u : Unit) => ∃ j : Nat, j < L.length ∧ k = nI j ∧ r = bI (cp_g L j = true)) (fun u => [(q, .inr (5, [.ref qp, .ref qs, .ref qb, .ref qc, .int (nI tk)])), (qb, .inr (0, [.ref qw, .int (nI L.length)])), (qw, .inl (cJ, 6250, .inr (.inl w)))]) (fun E => E = ex_I ∧ ¬ cp_ix k L.length) 1 6 := by
  refine cx_ofW (cc := mb_X_bit) (maxL := 2) (ret := some .boolean) (by decide) rfl (Nat.le_of_ble_eq_true rfl) ?_
  intro p e s m below meth c hx hb hr hml hts hown hlocks hin hsz hK hP hD hA hS hZ hex ls hl
  have hw : ∀ w ∈ TB, w.before _ s = true := fun w h => hts w (List.mem_cons_of_mem _ h)
  have hown : s.vm.findClass cn_X = some m.cls := hown
  have hin : meth.name = "bit" := hin
  generalize hAe : va_A [(q, .inr (5, [.ref qp, .ref qs, .ref qb, .ref qc, .int (nI tk)])), (qb, .inr (0, [.ref qw, .int (nI L.length)])), (qw, .inl (cJ, 6250, .inr (.inl w)))] sz = A at hD hA hS hZ ⊢
  clear hAe
  have hl : lv_has ls 2 [(0, .ref q), (1, .int k)] := hl
  have hP : va_P D classes [(q, .inr (5, [.ref qp, .ref qs, .ref qb, .ref qc, .int (nI tk)])), (qb, .inr (0, [.ref qw, .int (nI L.length)])), (qw, .inl (cJ, 6250, .inr (.inl w)))] s.heap := hP
  refine lv_aload_n hx hb dd_X_bit_0 rfl (lv_at hl 0 rfl) ?_
  refine va_get (D := D) (ci := 5) (C := cn_X) (T := cf_X) (N := 5) hx hb hw in_X hown hK hP 0 rfl rfl 2 (by decide) (hw _ wi_78) (fun _ h9 => h9) rfl dd_X_bit_1 ?_
  refine lv_iload_n hx hb dd_X_bit_4 rfl (lv_at hl 1 rfl) ?_
  refine cx_behind_i (wc := [(qb, .inr (0, [.ref qw, .int (nI L.length)])), (qw, .inl (cJ, 6250, .inr (.inl w)))]) (wr := [(q, .inr (5, [.ref qp, .ref qs, .ref qb, .ref qc, .int (nI tk)]))]) (av := [.ref qb, .int k]) (vx_runV (As := [.int k]) (rest := []) ⟨hx, hb, hml, hown, hw⟩ (cx_B_isOne l hlt D cJ cB qb qw w L k _ hL hR) (cwV 1 hw (tb_V wi_493 wi_494 wi_495 wi_24 wi_496) rfl rfl rfl (by decide +kernel) ⟨Nat.le_of_ble_eq_true rfl, Nat.le_of_ble_eq_true rfl⟩) ⟨ct_blind, ct_recv hK hP (q0 := 1) (ci := 0) rfl rfl, ct_pc hZ hK hP hD hS hA [1, 2] rfl (by decide)⟩ rfl rfl hl.1 rfl (lv_room (Nat.le_of_ble_eq_true rfl)) dd_X_bit_5 ⟨Nat.le_of_ble_eq_true rfl, Nat.le_of_ble_eq_true rfl⟩) hK hP hD hS hA [1, 2] [0] rfl rfl (by decide) (by decide) (fun E ce q9 H locs hpx hP hD hS hce hcv hcl => ?_) (fun r_5 u_5 H locs hw_5 hP hD hS => ?_)
  · skip
    refine cx_out (ws := [(q, .inr (5, [.ref qp, .ref qs, .ref qb, .ref qc, .int (nI tk)])), (qb, .inr (0, [.ref qw, .int (nI L.length)])), (qw, .inl (cJ, 6250, .inr (.inl w)))]) hex hlocks hce hcv hcl hK hP hD hS ?_ (Nat.le_of_ble_eq_true rfl) (Nat.le_of_ble_eq_true rfl)
    exact hpx
  have hP : va_P D classes [(q, .inr (5, [.ref qp, .ref qs, .ref qb, .ref qc, .int (nI tk)])), (qb, .inr (0, [.ref qw, .int (nI L.length)])), (qw, .inl (cJ, 6250, .inr (.inl w)))] _ := hP
  have hD : va_D A [(q, .inr (5, [.ref qp, .ref qs, .ref qb, .ref qc, .int (nI tk)])), (qb, .inr (0, [.ref qw, .int (nI L.length)])), (qw, .inl (cJ, 6250, .inr (.inl w)))] := hD
  refine vx_ret ?_
  refine W.widen (k := 1) (n := 6) (Nat.le_of_ble_eq_true rfl) (Nat.le_of_ble_eq_true rfl) ?_
  refine ct_zret (u := ()) hx hb hr hlocks (by obtain ⟨j, _, _, e⟩ := hw_5; rw [e]; exact bI_nb) hK hP hD hS rfl ?_ dd_X_bit_8
  exact hw_5

set_option maxHeartbeats 4000000 in
set_option maxRecDepth 100000 in
theorem cc_X_flip (l : Launch) (hlt : l.stackTraces = false) (D : va_G) (cJ cB : ClassId) (q qp qs qb qc tk : Nat) (qw : Nat) (w : Nat → Int64) (L : List Bool) (k : Int32) (sz : Nat) (hL : L.length ≤ 400000) (hR : cp_Rw w L) : cx_v l my_X_flip (Cond.code my_X_flip mb_X_flip 2 none :: TB) ({ frames := 7, cells := 1, slots := 6, locals := 120 } : Room) D classes cJ cB [.ref q, .int k] [(q, .inr (5, [.ref qp, .ref qs, .ref qb, .ref qc, .int (nI tk)])), (qb, .inr (0, [.ref qw, .int (nI L.length)])), (qw, .inl (cJ, 6250, .inr (.inl w)))] sz (fun (u : Nat → Int64) => ∃ j : Nat, j < L.length ∧ k = nI j ∧ cp_Rw u (L.set j (!cp_g L j))) (fun u => [(q, .inr (5, [.ref qp, .ref qs, .ref qb, .ref qc, .int (nI tk)])), (qb, .inr (0, [.ref qw, .int (nI L.length)])), (qw, .inl (cJ, 6250, .inr (.inl u)))]) (fun E => E = ex_I ∧ ¬ cp_ix k L.length) 1 6 := by
  refine cx_ofW (cc := mb_X_flip) (maxL := 2) (ret := none) (by decide) rfl (Nat.le_of_ble_eq_true rfl) ?_
  intro p e s m below meth c hx hb hr hml hts hown hlocks hin hsz hK hP hD hA hS hZ hex ls hl
  have hw : ∀ w ∈ TB, w.before _ s = true := fun w h => hts w (List.mem_cons_of_mem _ h)
  have hown : s.vm.findClass cn_X = some m.cls := hown
  have hin : meth.name = "flip" := hin
  generalize hAe : va_A [(q, .inr (5, [.ref qp, .ref qs, .ref qb, .ref qc, .int (nI tk)])), (qb, .inr (0, [.ref qw, .int (nI L.length)])), (qw, .inl (cJ, 6250, .inr (.inl w)))] sz = A at hD hA hS hZ ⊢
  clear hAe
  have hl : lv_has ls 2 [(0, .ref q), (1, .int k)] := hl
  have hP : va_P D classes [(q, .inr (5, [.ref qp, .ref qs, .ref qb, .ref qc, .int (nI tk)])), (qb, .inr (0, [.ref qw, .int (nI L.length)])), (qw, .inl (cJ, 6250, .inr (.inl w)))] s.heap := hP
  refine lv_aload_n hx hb dd_X_flip_0 rfl (lv_at hl 0 rfl) ?_
  refine va_get (D := D) (ci := 5) (C := cn_X) (T := cf_X) (N := 5) hx hb hw in_X hown hK hP 0 rfl rfl 2 (by decide) (hw _ wi_78) (fun _ h9 => h9) rfl dd_X_flip_1 ?_
  refine lv_iload_n hx hb dd_X_flip_4 rfl (lv_at hl 1 rfl) ?_
  refine cx_behind_v (wc := [(qb, .inr (0, [.ref qw, .int (nI L.length)])), (qw, .inl (cJ, 6250, .inr (.inl w)))]) (wr := [(q, .inr (5, [.ref qp, .ref qs, .ref qb, .ref qc, .int (nI tk)]))]) (av := [.ref qb, .int k]) (vx_runV (As := [.int k]) (rest := []) ⟨hx, hb, hml, hown, hw⟩ (cx_B_invert l hlt D cJ cB qb qw w L k _ hL hR) (cwV 1 hw (tb_V wi_508 wi_509 wi_510 wi_24 wi_511) rfl rfl rfl (by decide +kernel) ⟨Nat.le_of_ble_eq_true rfl, Nat.le_of_ble_eq_true rfl⟩) ⟨ct_blind, ct_recv hK hP (q0 := 1) (ci := 0) rfl rfl, ct_pc hZ hK hP hD hS hA [1, 2] rfl (by decide)⟩ rfl rfl hl.1 rfl (lv_room (Nat.le_of_ble_eq_true rfl)) dd_X_flip_5 ⟨Nat.le_of_ble_eq_true rfl, Nat.le_of_ble_eq_true rfl⟩) hK hP hD hS hA [1, 2] [0] rfl rfl (by decide) (by decide) (fun E ce q9 H locs hpx hP hD hS hce hcv hcl => ?_) (fun u_5 H locs hw_5 hP hD hS => ?_)
  · skip
    refine cx_out (ws := [(q, .inr (5, [.ref qp, .ref qs, .ref qb, .ref qc, .int (nI tk)])), (qb, .inr (0, [.ref qw, .int (nI L.length)])), (qw, .inl (cJ, 6250, .inr (.inl w)))]) hex hlocks hce hcv hcl hK hP hD hS ?_ (Nat.le_of_ble_eq_true rfl) (Nat.le_of_ble_eq_true rfl)
    exact hpx
  have hP : va_P D classes [(q, .inr (5, [.ref qp, .ref qs, .ref qb, .ref qc, .int (nI tk)])), (qb, .inr (0, [.ref qw, .int (nI L.length)])), (qw, .inl (cJ, 6250, .inr (.inl u_5)))] _ := hP
  have hD : va_D A [(q, .inr (5, [.ref qp, .ref qs, .ref qb, .ref qc, .int (nI tk)])), (qb, .inr (0, [.ref qw, .int (nI L.length)])), (qw, .inl (cJ, 6250, .inr (.inl u_5)))] := hD
  refine vx_ret ?_
  refine W.widen (k := 1) (n := 6) (Nat.le_of_ble_eq_true rfl) (Nat.le_of_ble_eq_true rfl) ?_
  refine ct_vret (u := u_5) hx hb hr hlocks hK hP hD hS rfl ?_ dd_X_flip_8
  exact hw_5

set_option maxHeartbeats 4000000 in
set_option maxRecDepth 100000 in
theorem cc_X_put (l : Launch) (hlt : l.stackTraces = false) (D : va_G) (cJ cB : ClassId) (q qp qs qb qc tk : Nat) (qw : Nat) (w : Nat → Int64) (L : List Bool) (v : Int64) (k : Int32) (sz : Nat) (hL : L.length ≤ 400000) (hR : cp_Rw w L) : cx_i l my_X_put (Cond.code my_X_put mb_X_put 4 (some .int) :: TB) ({ frames := 6, cells := 1, slots := 6, locals := 90 } : Room) D classes cJ cB [.ref q, .long v, .int k] [(q, .inr (5, [.ref qp, .ref qs, .ref qb, .ref qc, .int (nI tk)])), (qb, .inr (0, [.ref qw, .int (nI L.length)])), (qw, .inl (cJ, 6250, .inr (.inl w)))] sz (fun (r : Int32) (u : Nat × (Nat → Int64)) => ∃ j : Nat, j ≤ 64 ∧ k = nI j ∧ cp_fit v j ∧ L.length + j ≤ 400000 ∧ r = nI (L.length + j) ∧ u.1 = L.length + j ∧ cp_Rw u.2 (L ++ cp_bl v j)) (fun u => [(q, .inr (5, [.ref qp, .ref qs, .ref qb, .ref qc, .int (nI tk)])), (qb, .inr (0, [.ref qw, .int (nI u.1)])), (qw, .inl (cJ, 6250, .inr (.inl u.2)))]) (fun E => (E = ex_A ∧ ¬ cp_okp k v) ∨ (E = ex_S ∧ ∃ j : Nat, j ≤ 64 ∧ k = nI j ∧ cp_fit v j ∧ 400000 < L.length + j)) 1 6 := by
  refine cx_ofW (cc := mb_X_put) (maxL := 4) (ret := some .int) (by decide) rfl (Nat.le_of_ble_eq_true rfl) ?_
  intro p e s m below meth c hx hb hr hml hts hown hlocks hin hsz hK hP hD hA hS hZ hex ls hl
  have hw : ∀ w ∈ TB, w.before _ s = true := fun w h => hts w (List.mem_cons_of_mem _ h)
  have hown : s.vm.findClass cn_X = some m.cls := hown
  have hin : meth.name = "put" := hin
  generalize hAe : va_A [(q, .inr (5, [.ref qp, .ref qs, .ref qb, .ref qc, .int (nI tk)])), (qb, .inr (0, [.ref qw, .int (nI L.length)])), (qw, .inl (cJ, 6250, .inr (.inl w)))] sz = A at hD hA hS hZ ⊢
  clear hAe
  have hl : lv_has ls 4 [(0, .ref q), (1, .long v), (3, .int k)] := hl
  have hP : va_P D classes [(q, .inr (5, [.ref qp, .ref qs, .ref qb, .ref qc, .int (nI tk)])), (qb, .inr (0, [.ref qw, .int (nI L.length)])), (qw, .inl (cJ, 6250, .inr (.inl w)))] s.heap := hP
  refine lv_iload_n hx hb dd_X_put_0 rfl (lv_at hl 2 rfl) ?_
  refine lv_if_lt (tgt := 10) hx hb dd_X_put_1 (by decide) (fun c_1 => ?_) (fun c_1 => ?_)
  · skip
    refine cx_throw (own := cn_X) (cls := ex_A) (text := "n is not 0 .. 64") (ik := 35) (is := 108) (ic := 39) hx hb hlt hw hZ hown (by decide +kernel) wi_106 wi_29 (by decide +kernel) ht_X_39_1 ht_X_39_2 ht_X_35_39_3 hK hP hD hS (hl.1.trans hml.symm) hex dd_X_put_10 dd_X_put_13 dd_X_put_14 dd_X_put_16 dd_X_put_19 (Nat.le_of_ble_eq_true rfl) (Nat.le_of_ble_eq_true rfl) (Nat.le_of_ble_eq_true rfl) (Nat.le_of_ble_eq_true rfl) hlocks ?_ (Nat.le_of_ble_eq_true rfl) (Nat.le_of_ble_eq_true rfl)
    exact Or.inl ⟨rfl, fun ⟨j, hj, e, _⟩ => cp_ix_nle (n := 64) (by omega) (Or.inl c_1) ⟨j, by omega, e⟩⟩
  refine lv_iload_n hx hb dd_X_put_4 rfl (lv_at hl 2 rfl) ?_
  refine lv_bipush (v := nI 64) hx hb dd_X_put_5 (by decide) ?_
  refine lv_icmp_le (tgt := 20) hx hb dd_X_put_7 (by decide) (fun c_7 => ?_) (fun c_7 => ?_)
  · skip
    obtain ⟨j, hj, hkj⟩ := cp_ix_le (n := 64) (by omega) c_1 c_7
    subst hkj
    refine lv_iload_n hx hb dd_X_put_20 rfl (lv_at hl 2 rfl) ?_
    refine lv_bipush (v := nI 64) hx hb dd_X_put_21 (by decide) ?_
    refine lv_icmp_ge (tgt := 44) hx hb dd_X_put_23 (by decide) (fun c_23 => ?_) (fun c_23 => ?_)
    · skip
      have c_23 : 64 ≤ j := (nI_leI (by omega) (by omega)).mp c_23
      have hfit : cp_fit v j := by rw [show j = 64 by omega]; exact cp_fit_64 v
      refine lv_aload_n hx hb dd_X_put_44 rfl (lv_at hl 0 rfl) ?_
      refine va_get (D := D) (ci := 5) (C := cn_X) (T := cf_X) (N := 5) hx hb hw in_X hown hK hP 0 rfl rfl 2 (by decide) (hw _ wi_78) (fun _ h9 => h9) rfl dd_X_put_45 ?_
      refine lv_lload_n hx hb dd_X_put_48 rfl (lv_at hl 1 rfl) ?_
      refine lv_iload_n hx hb dd_X_put_49 rfl (lv_at hl 2 rfl) ?_
      refine ct_behind_i (wc := [(qb, .inr (0, [.ref qw, .int (nI L.length)])), (qw, .inl (cJ, 6250, .inr (.inl w)))]) (wr := [(q, .inr (5, [.ref qp, .ref qs, .ref qb, .ref qc, .int (nI tk)]))]) (av := [.ref qb, .long v, .int (nI j)]) (va_runV (As := [.long v, .int (nI j)]) (rest := []) ⟨hx, hb, hml, hown, hw⟩ (cc_B_append l D cJ cB qb qw w L v j _ hL hR hj hfit) (cwV 2 hw (tb_V wi_521 wi_296 wi_297 wi_24 wi_298) rfl rfl rfl (by decide +kernel) ⟨Nat.le_of_ble_eq_true rfl, Nat.le_of_ble_eq_true rfl⟩) ⟨ct_blind, ct_recv hK hP (q0 := 1) (ci := 0) rfl rfl, ct_pc hZ hK hP hD hS hA [1, 2] rfl (by decide)⟩ rfl rfl hl.1 rfl (lv_room (Nat.le_of_ble_eq_true rfl)) dd_X_put_50 ⟨Nat.le_of_ble_eq_true rfl, Nat.le_of_ble_eq_true rfl⟩) hK hP hD hS hA [1, 2] [0] rfl rfl (by decide) (by decide) (fun r_50 u_50 H locs hw_50 hP hD hS => ?_)
      obtain ⟨hr_50, hu_50⟩ := hw_50
      subst hr_50
      have hP : va_P D classes [(q, .inr (5, [.ref qp, .ref qs, .ref qb, .ref qc, .int (nI tk)])), (qb, .inr (0, [.ref qw, .int (nI u_50.1)])), (qw, .inl (cJ, 6250, .inr (.inl u_50.2)))] _ := hP
      have hD : va_D A [(q, .inr (5, [.ref qp, .ref qs, .ref qb, .ref qc, .int (nI tk)])), (qb, .inr (0, [.ref qw, .int (nI u_50.1)])), (qw, .inl (cJ, 6250, .inr (.inl u_50.2)))] := hD
      refine lv_if_ne (tgt := 66) hx hb dd_X_put_53 (by decide) (fun c_53 => ?_) (fun c_53 => ?_)
      · skip
        have c_53 : L.length + j ≤ 400000 := bI_n.mp c_53
        rw [if_pos c_53] at hu_50
        refine lv_aload_n hx hb dd_X_put_66 rfl (lv_at hl 0 rfl) ?_
        refine va_get (D := D) (ci := 5) (C := cn_X) (T := cf_X) (N := 5) hx hb hw in_X hown hK hP 0 rfl rfl 2 (by decide) (hw _ wi_78) (fun _ h9 => h9) rfl dd_X_put_67 ?_
        refine ct_behind_i (wc := [(qb, .inr (0, [.ref qw, .int (nI u_50.1)])), (qw, .inl (cJ, 6250, .inr (.inl u_50.2)))]) (wr := [(q, .inr (5, [.ref qp, .ref qs, .ref qb, .ref qc, .int (nI tk)]))]) (av := [.ref qb]) (va_runV (As := []) (rest := []) ⟨hx, hb, hml, hown, hw⟩ (cc_B_size l D cJ cB qb qw u_50.1 u_50.2 _) (cwV 0 hw (tb_V wi_365 wi_366 wi_367 wi_24 wi_368) rfl rfl rfl (by decide +kernel) ⟨Nat.le_of_ble_eq_true rfl, Nat.le_of_ble_eq_true rfl⟩) ⟨ct_blind, ct_recv hK hP (q0 := 1) (ci := 0) rfl rfl, ct_pc hZ hK hP hD hS hA [1, 2] rfl (by decide)⟩ rfl rfl hl.1 rfl (lv_room (Nat.le_of_ble_eq_true rfl)) dd_X_put_70 ⟨Nat.le_of_ble_eq_true rfl, Nat.le_of_ble_eq_true rfl⟩) hK hP hD hS hA [1, 2] [0] rfl rfl (by decide) (by decide) (fun r_70 u_70 H locs hw_70 hP hD hS => ?_)
        subst hw_70
        have hP : va_P D classes [(q, .inr (5, [.ref qp, .ref qs, .ref qb, .ref qc, .int (nI tk)])), (qb, .inr (0, [.ref qw, .int (nI u_50.1)])), (qw, .inl (cJ, 6250, .inr (.inl u_50.2)))] _ := hP
        have hD : va_D A [(q, .inr (5, [.ref qp, .ref qs, .ref qb, .ref qc, .int (nI tk)])), (qb, .inr (0, [.ref qw, .int (nI u_50.1)])), (qw, .inl (cJ, 6250, .inr (.inl u_50.2)))] := hD
        refine vx_ret ?_
        refine W.widen (k := 1) (n := 6) (Nat.le_of_ble_eq_true rfl) (Nat.le_of_ble_eq_true rfl) ?_
        refine ct_iret (u := u_50) hx hb hr hlocks hK hP hD hS rfl ?_ dd_X_put_73
        exact ⟨j, hj, rfl, hfit, c_53, congrArg nI hu_50.1, hu_50.1, hu_50.2⟩
      have c_53 : ¬ (L.length + j ≤ 400000) := bI_z.mp c_53
      rw [if_neg c_53] at hu_50
      subst hu_50
      have hP : va_P D classes [(q, .inr (5, [.ref qp, .ref qs, .ref qb, .ref qc, .int (nI tk)])), (qb, .inr (0, [.ref qw, .int (nI L.length)])), (qw, .inl (cJ, 6250, .inr (.inl w)))] _ := hP
      have hD : va_D A [(q, .inr (5, [.ref qp, .ref qs, .ref qb, .ref qc, .int (nI tk)])), (qb, .inr (0, [.ref qw, .int (nI L.length)])), (qw, .inl (cJ, 6250, .inr (.inl w)))] := hD
      refine cx_throw (own := cn_X) (cls := ex_S) (text := "more than 400000 bits") (ik := 52) (is := 77) (ic := 56) hx hb hlt hw hZ hown (by decide +kernel) wi_184 wi_30 (by decide +kernel) ht_X_56_1 ht_X_56_2 ht_X_52_56_3 hK hP hD hS (hl.1.trans hml.symm) hex dd_X_put_56 dd_X_put_59 dd_X_put_60 dd_X_put_62 dd_X_put_65 (Nat.le_of_ble_eq_true rfl) (Nat.le_of_ble_eq_true rfl) (Nat.le_of_ble_eq_true rfl) (Nat.le_of_ble_eq_true rfl) hlocks ?_ (Nat.le_of_ble_eq_true rfl) (Nat.le_of_ble_eq_true rfl)
      exact Or.inr ⟨rfl, j, hj, rfl, hfit, by omega⟩
    have c_23 : ¬ (64 ≤ j) := fun z => c_23 ((nI_leI (by omega) (by omega)).mpr z)
    refine lv_lload_n hx hb dd_X_put_26 rfl (lv_at hl 1 rfl) ?_
    refine lv_iload_n hx hb dd_X_put_27 rfl (lv_at hl 2 rfl) ?_
    refine lv_lushr (v := (v.toUInt64 >>> ((nI j).toInt64.toUInt64 &&& Int64.toUInt64 63)).toInt64) hx hb dd_X_put_28 rfl ?_
    refine lv_lconst (v := 0) hx hb dd_X_put_29 (by decide) ?_
    refine W.lcmp hx hb dd_X_put_30 ?_
    refine lv_if_eq (tgt := 44) hx hb dd_X_put_31 (by decide) (fun c_31 => ?_) (fun c_31 => ?_)
    · skip
      have c_31 : ((v.toUInt64 >>> ((nI j).toInt64.toUInt64 &&& Int64.toUInt64 63)).toInt64) = 0 := (lg_cmp_eq _ _).mp c_31
      have hfit : cp_fit v j := (cp_ushr0 v (by omega)).mp c_31
      refine lv_aload_n hx hb dd_X_put_44 rfl (lv_at hl 0 rfl) ?_
      refine va_get (D := D) (ci := 5) (C := cn_X) (T := cf_X) (N := 5) hx hb hw in_X hown hK hP 0 rfl rfl 2 (by decide) (hw _ wi_78) (fun _ h9 => h9) rfl dd_X_put_45 ?_
      refine lv_lload_n hx hb dd_X_put_48 rfl (lv_at hl 1 rfl) ?_
      refine lv_iload_n hx hb dd_X_put_49 rfl (lv_at hl 2 rfl) ?_
      refine ct_behind_i (wc := [(qb, .inr (0, [.ref qw, .int (nI L.length)])), (qw, .inl (cJ, 6250, .inr (.inl w)))]) (wr := [(q, .inr (5, [.ref qp, .ref qs, .ref qb, .ref qc, .int (nI tk)]))]) (av := [.ref qb, .long v, .int (nI j)]) (va_runV (As := [.long v, .int (nI j)]) (rest := []) ⟨hx, hb, hml, hown, hw⟩ (cc_B_append l D cJ cB qb qw w L v j _ hL hR hj hfit) (cwV 2 hw (tb_V wi_521 wi_296 wi_297 wi_24 wi_298) rfl rfl rfl (by decide +kernel) ⟨Nat.le_of_ble_eq_true rfl, Nat.le_of_ble_eq_true rfl⟩) ⟨ct_blind, ct_recv hK hP (q0 := 1) (ci := 0) rfl rfl, ct_pc hZ hK hP hD hS hA [1, 2] rfl (by decide)⟩ rfl rfl hl.1 rfl (lv_room (Nat.le_of_ble_eq_true rfl)) dd_X_put_50 ⟨Nat.le_of_ble_eq_true rfl, Nat.le_of_ble_eq_true rfl⟩) hK hP hD hS hA [1, 2] [0] rfl rfl (by decide) (by decide) (fun r_50 u_50 H locs hw_50 hP hD hS => ?_)
      obtain ⟨hr_50, hu_50⟩ := hw_50
      subst hr_50
      have hP : va_P D classes [(q, .inr (5, [.ref qp, .ref qs, .ref qb, .ref qc, .int (nI tk)])), (qb, .inr (0, [.ref qw, .int (nI u_50.1)])), (qw, .inl (cJ, 6250, .inr (.inl u_50.2)))] _ := hP
      have hD : va_D A [(q, .inr (5, [.ref qp, .ref qs, .ref qb, .ref qc, .int (nI tk)])), (qb, .inr (0, [.ref qw, .int (nI u_50.1)])), (qw, .inl (cJ, 6250, .inr (.inl u_50.2)))] := hD
      refine lv_if_ne (tgt := 66) hx hb dd_X_put_53 (by decide) (fun c_53 => ?_) (fun c_53 => ?_)
      · skip
        have c_53 : L.length + j ≤ 400000 := bI_n.mp c_53
        rw [if_pos c_53] at hu_50
        refine lv_aload_n hx hb dd_X_put_66 rfl (lv_at hl 0 rfl) ?_
        refine va_get (D := D) (ci := 5) (C := cn_X) (T := cf_X) (N := 5) hx hb hw in_X hown hK hP 0 rfl rfl 2 (by decide) (hw _ wi_78) (fun _ h9 => h9) rfl dd_X_put_67 ?_
        refine ct_behind_i (wc := [(qb, .inr (0, [.ref qw, .int (nI u_50.1)])), (qw, .inl (cJ, 6250, .inr (.inl u_50.2)))]) (wr := [(q, .inr (5, [.ref qp, .ref qs, .ref qb, .ref qc, .int (nI tk)]))]) (av := [.ref qb]) (va_runV (As := []) (rest := []) ⟨hx, hb, hml, hown, hw⟩ (cc_B_size l D cJ cB qb qw u_50.1 u_50.2 _) (cwV 0 hw (tb_V wi_365 wi_366 wi_367 wi_24 wi_368) rfl rfl rfl (by decide +kernel) ⟨Nat.le_of_ble_eq_true rfl, Nat.le_of_ble_eq_true rfl⟩) ⟨ct_blind, ct_recv hK hP (q0 := 1) (ci := 0) rfl rfl, ct_pc hZ hK hP hD hS hA [1, 2] rfl (by decide)⟩ rfl rfl hl.1 rfl (lv_room (Nat.le_of_ble_eq_true rfl)) dd_X_put_70 ⟨Nat.le_of_ble_eq_true rfl, Nat.le_of_ble_eq_true rfl⟩) hK hP hD hS hA [1, 2] [0] rfl rfl (by decide) (by decide) (fun r_70 u_70 H locs hw_70 hP hD hS => ?_)
        subst hw_70
        have hP : va_P D classes [(q, .inr (5, [.ref qp, .ref qs, .ref qb, .ref qc, .int (nI tk)])), (qb, .inr (0, [.ref qw, .int (nI u_50.1)])), (qw, .inl (cJ, 6250, .inr (.inl u_50.2)))] _ := hP
        have hD : va_D A [(q, .inr (5, [.ref qp, .ref qs, .ref qb, .ref qc, .int (nI tk)])), (qb, .inr (0, [.ref qw, .int (nI u_50.1)])), (qw, .inl (cJ, 6250, .inr (.inl u_50.2)))] := hD
        refine vx_ret ?_
        refine W.widen (k := 1) (n := 6) (Nat.le_of_ble_eq_true rfl) (Nat.le_of_ble_eq_true rfl) ?_
        refine ct_iret (u := u_50) hx hb hr hlocks hK hP hD hS rfl ?_ dd_X_put_73
        exact ⟨j, hj, rfl, hfit, c_53, congrArg nI hu_50.1, hu_50.1, hu_50.2⟩
      have c_53 : ¬ (L.length + j ≤ 400000) := bI_z.mp c_53
      rw [if_neg c_53] at hu_50
      subst hu_50
      have hP : va_P D classes [(q, .inr (5, [.ref qp, .ref qs, .ref qb, .ref qc, .int (nI tk)])), (qb, .inr (0, [.ref qw, .int (nI L.length)])), (qw, .inl (cJ, 6250, .inr (.inl w)))] _ := hP
      have hD : va_D A [(q, .inr (5, [.ref qp, .ref qs, .ref qb, .ref qc, .int (nI tk)])), (qb, .inr (0, [.ref qw, .int (nI L.length)])), (qw, .inl (cJ, 6250, .inr (.inl w)))] := hD
      refine cx_throw (own := cn_X) (cls := ex_S) (text := "more than 400000 bits") (ik := 52) (is := 77) (ic := 56) hx hb hlt hw hZ hown (by decide +kernel) wi_184 wi_30 (by decide +kernel) ht_X_56_1 ht_X_56_2 ht_X_52_56_3 hK hP hD hS (hl.1.trans hml.symm) hex dd_X_put_56 dd_X_put_59 dd_X_put_60 dd_X_put_62 dd_X_put_65 (Nat.le_of_ble_eq_true rfl) (Nat.le_of_ble_eq_true rfl) (Nat.le_of_ble_eq_true rfl) (Nat.le_of_ble_eq_true rfl) hlocks ?_ (Nat.le_of_ble_eq_true rfl) (Nat.le_of_ble_eq_true rfl)
      exact Or.inr ⟨rfl, j, hj, rfl, hfit, by omega⟩
    have c_31 : ¬ (((v.toUInt64 >>> ((nI j).toInt64.toUInt64 &&& Int64.toUInt64 63)).toInt64) = 0) := fun z => c_31 ((lg_cmp_eq _ _).mpr z)
    refine cx_throw (own := cn_X) (cls := ex_A) (text := "v is not a number of n bits") (ik := 35) (is := 110) (ic := 39) hx hb hlt hw hZ hown (by decide +kernel) wi_106 wi_29 (by decide +kernel) ht_X_39_1 ht_X_39_2 ht_X_35_39_3 hK hP hD hS (hl.1.trans hml.symm) hex dd_X_put_34 dd_X_put_37 dd_X_put_38 dd_X_put_40 dd_X_put_43 (Nat.le_of_ble_eq_true rfl) (Nat.le_of_ble_eq_true rfl) (Nat.le_of_ble_eq_true rfl) (Nat.le_of_ble_eq_true rfl) hlocks ?_ (Nat.le_of_ble_eq_true rfl) (Nat.le_of_ble_eq_true rfl)
    exact Or.inl ⟨rfl, fun ⟨i, hi, e, hf⟩ => by
      have := nI_inj (by omega) (by omega) e
      subst this
      exact c_31 ((cp_ushr0 v (by omega)).mpr hf)⟩
  refine cx_throw (own := cn_X) (cls := ex_A) (text := "n is not 0 .. 64") (ik := 35) (is := 108) (ic := 39) hx hb hlt hw hZ hown (by decide +kernel) wi_106 wi_29 (by decide +kernel) ht_X_39_1 ht_X_39_2 ht_X_35_39_3 hK hP hD hS (hl.1.trans hml.symm) hex dd_X_put_10 dd_X_put_13 dd_X_put_14 dd_X_put_16 dd_X_put_19 (Nat.le_of_ble_eq_true rfl) (Nat.le_of_ble_eq_true rfl) (Nat.le_of_ble_eq_true rfl) (Nat.le_of_ble_eq_true rfl) hlocks ?_ (Nat.le_of_ble_eq_true rfl) (Nat.le_of_ble_eq_true rfl)
  exact Or.inl ⟨rfl, fun ⟨j, hj, e, _⟩ => cp_ix_nle (n := 64) (by omega) (Or.inr c_7) ⟨j, by omega, e⟩⟩

set_option maxHeartbeats 4000000 in
set_option maxRecDepth 100000 in
theorem cc_X_cut (l : Launch) (hlt : l.stackTraces = false) (D : va_G) (cJ cB : ClassId) (q qp qs qb qc tk : Nat) (qw : Nat) (w : Nat → Int64) (L : List Bool) (k : Int32) (sz : Nat) (hL : L.length ≤ 400000) (hR : cp_Rw w L) : cx_v l my_X_cut (Cond.code my_X_cut mb_X_cut 2 none :: TB) ({ frames := 6, cells := 1, slots := 6, locals := 90 } : Room) D classes cJ cB [.ref q, .int k] [(q, .inr (5, [.ref qp, .ref qs, .ref qb, .ref qc, .int (nI tk)])), (qb, .inr (0, [.ref qw, .int (nI L.length)])), (qw, .inl (cJ, 6250, .inr (.inl w)))] sz (fun (u : Nat) => u ≤ L.length ∧ k = nI u) (fun u => [(q, .inr (5, [.ref qp, .ref qs, .ref qb, .ref qc, .int (nI tk)])), (qb, .inr (0, [.ref qw, .int (nI u)])), (qw, .inl (cJ, 6250, .inr (.inl w)))]) (fun E => E = ex_A ∧ ¬ cp_ix k (L.length + 1)) 1 6 := by
  refine cx_ofW (cc := mb_X_cut) (maxL := 2) (ret := none) (by decide) rfl (Nat.le_of_ble_eq_true rfl) ?_
  intro p e s m below meth c hx hb hr hml hts hown hlocks hin hsz hK hP hD hA hS hZ hex ls hl
  have hw : ∀ w ∈ TB, w.before _ s = true := fun w h => hts w (List.mem_cons_of_mem _ h)
  have hown : s.vm.findClass cn_X = some m.cls := hown
  have hin : meth.name = "cut" := hin
  generalize hAe : va_A [(q, .inr (5, [.ref qp, .ref qs, .ref qb, .ref qc, .int (nI tk)])), (qb, .inr (0, [.ref qw, .int (nI L.length)])), (qw, .inl (cJ, 6250, .inr (.inl w)))] sz = A at hD hA hS hZ ⊢
  clear hAe
  have hl : lv_has ls 2 [(0, .ref q), (1, .int k)] := hl
  have hP : va_P D classes [(q, .inr (5, [.ref qp, .ref qs, .ref qb, .ref qc, .int (nI tk)])), (qb, .inr (0, [.ref qw, .int (nI L.length)])), (qw, .inl (cJ, 6250, .inr (.inl w)))] s.heap := hP
  refine lv_iload_n hx hb dd_X_cut_0 rfl (lv_at hl 1 rfl) ?_
  refine lv_if_lt (tgt := 15) hx hb dd_X_cut_1 (by decide) (fun c_1 => ?_) (fun c_1 => ?_)
  · skip
    refine cx_throw (own := cn_X) (cls := ex_A) (text := "there are not so many bits") (ik := 35) (is := 115) (ic := 39) hx hb hlt hw hZ hown (by decide +kernel) wi_106 wi_29 (by decide +kernel) ht_X_39_1 ht_X_39_2 ht_X_35_39_3 hK hP hD hS (hl.1.trans hml.symm) hex dd_X_cut_15 dd_X_cut_18 dd_X_cut_19 dd_X_cut_21 dd_X_cut_24 (Nat.le_of_ble_eq_true rfl) (Nat.le_of_ble_eq_true rfl) (Nat.le_of_ble_eq_true rfl) (Nat.le_of_ble_eq_true rfl) hlocks ?_ (Nat.le_of_ble_eq_true rfl) (Nat.le_of_ble_eq_true rfl)
    exact ⟨rfl, cp_ix_nle (by omega) (Or.inl c_1)⟩
  refine lv_iload_n hx hb dd_X_cut_4 rfl (lv_at hl 1 rfl) ?_
  refine lv_aload_n hx hb dd_X_cut_5 rfl (lv_at hl 0 rfl) ?_
  refine va_get (D := D) (ci := 5) (C := cn_X) (T := cf_X) (N := 5) hx hb hw in_X hown hK hP 0 rfl rfl 2 (by decide) (hw _ wi_78) (fun _ h9 => h9) rfl dd_X_cut_6 ?_
  refine ct_behind_i (wc := [(qb, .inr (0, [.ref qw, .int (nI L.length)])), (qw, .inl (cJ, 6250, .inr (.inl w)))]) (wr := [(q, .inr (5, [.ref qp, .ref qs, .ref qb, .ref qc, .int (nI tk)]))]) (av := [.ref qb]) (va_runV (As := []) (rest := [.int k]) ⟨hx, hb, hml, hown, hw⟩ (cc_B_size l D cJ cB qb qw L.length w _) (cwV 0 hw (tb_V wi_365 wi_366 wi_367 wi_24 wi_368) rfl rfl rfl (by decide +kernel) ⟨Nat.le_of_ble_eq_true rfl, Nat.le_of_ble_eq_true rfl⟩) ⟨ct_blind, ct_recv hK hP (q0 := 1) (ci := 0) rfl rfl, ct_pc hZ hK hP hD hS hA [1, 2] rfl (by decide)⟩ rfl rfl hl.1 rfl (lv_room (Nat.le_of_ble_eq_true rfl)) dd_X_cut_9 ⟨Nat.le_of_ble_eq_true rfl, Nat.le_of_ble_eq_true rfl⟩) hK hP hD hS hA [1, 2] [0] rfl rfl (by decide) (by decide) (fun r_9 u_9 H locs hw_9 hP hD hS => ?_)
  subst hw_9
  have hP : va_P D classes [(q, .inr (5, [.ref qp, .ref qs, .ref qb, .ref qc, .int (nI tk)])), (qb, .inr (0, [.ref qw, .int (nI L.length)])), (qw, .inl (cJ, 6250, .inr (.inl w)))] _ := hP
  have hD : va_D A [(q, .inr (5, [.ref qp, .ref qs, .ref qb, .ref qc, .int (nI tk)])), (qb, .inr (0, [.ref qw, .int (nI L.length)])), (qw, .inl (cJ, 6250, .inr (.inl w)))] := hD
  refine lv_icmp_le (tgt := 25) hx hb dd_X_cut_12 (by decide) (fun c_12 => ?_) (fun c_12 => ?_)
  · skip
    obtain ⟨j, hj, hkj⟩ := cp_ix_le (by omega) c_1 c_12
    subst hkj
    refine lv_aload_n hx hb dd_X_cut_25 rfl (lv_at hl 0 rfl) ?_
    refine va_get (D := D) (ci := 5) (C := cn_X) (T := cf_X) (N := 5) hx hb hw in_X hown hK hP 0 rfl rfl 2 (by decide) (hw _ wi_78) (fun _ h9 => h9) rfl dd_X_cut_26 ?_
    refine lv_iload_n hx hb dd_X_cut_29 rfl (lv_at hl 1 rfl) ?_
    refine ct_behind_v (wc := [(qb, .inr (0, [.ref qw, .int (nI L.length)])), (qw, .inl (cJ, 6250, .inr (.inl w)))]) (wr := [(q, .inr (5, [.ref qp, .ref qs, .ref qb, .ref qc, .int (nI tk)]))]) (av := [.ref qb, .int (nI j)]) (va_runV (As := [.int (nI j)]) (rest := []) ⟨hx, hb, hml, hown, hw⟩ (cc_B_shorten l D cJ cB qb qw L.length w j _) (cwV 1 hw (tb_V wi_223 wi_224 wi_225 wi_24 wi_226) rfl rfl rfl (by decide +kernel) ⟨Nat.le_of_ble_eq_true rfl, Nat.le_of_ble_eq_true rfl⟩) ⟨ct_blind, ct_recv hK hP (q0 := 1) (ci := 0) rfl rfl, ct_pc hZ hK hP hD hS hA [1, 2] rfl (by decide)⟩ rfl rfl hl.1 rfl (lv_room (Nat.le_of_ble_eq_true rfl)) dd_X_cut_30 ⟨Nat.le_of_ble_eq_true rfl, Nat.le_of_ble_eq_true rfl⟩) hK hP hD hS hA [1, 2] [0] rfl rfl (by decide) (by decide) (fun u_30 H locs hw_30 hP hD hS => ?_)
    have hP : va_P D classes [(q, .inr (5, [.ref qp, .ref qs, .ref qb, .ref qc, .int (nI tk)])), (qb, .inr (0, [.ref qw, .int (nI j)])), (qw, .inl (cJ, 6250, .inr (.inl w)))] _ := hP
    have hD : va_D A [(q, .inr (5, [.ref qp, .ref qs, .ref qb, .ref qc, .int (nI tk)])), (qb, .inr (0, [.ref qw, .int (nI j)])), (qw, .inl (cJ, 6250, .inr (.inl w)))] := hD
    refine vx_ret ?_
    refine W.widen (k := 1) (n := 6) (Nat.le_of_ble_eq_true rfl) (Nat.le_of_ble_eq_true rfl) ?_
    refine ct_vret (u := j) hx hb hr hlocks hK hP hD hS rfl ?_ dd_X_cut_33
    exact ⟨hj, rfl⟩
  refine cx_throw (own := cn_X) (cls := ex_A) (text := "there are not so many bits") (ik := 35) (is := 115) (ic := 39) hx hb hlt hw hZ hown (by decide +kernel) wi_106 wi_29 (by decide +kernel) ht_X_39_1 ht_X_39_2 ht_X_35_39_3 hK hP hD hS (hl.1.trans hml.symm) hex dd_X_cut_15 dd_X_cut_18 dd_X_cut_19 dd_X_cut_21 dd_X_cut_24 (Nat.le_of_ble_eq_true rfl) (Nat.le_of_ble_eq_true rfl) (Nat.le_of_ble_eq_true rfl) (Nat.le_of_ble_eq_true rfl) hlocks ?_ (Nat.le_of_ble_eq_true rfl) (Nat.le_of_ble_eq_true rfl)
  exact ⟨rfl, cp_ix_nle (by omega) (Or.inr c_12)⟩
