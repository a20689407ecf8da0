/-! reading: helps -/
theorem cp_ng {L : List Bool} {j : Nat} (h : ¬ lN (cp_n L j 1) = 0) : cp_g L j = true := by
  cases hb : cp_g L j with
  | true => rfl
  | false => exact absurd ((cp_n0 L j).mpr hb) h
def cp_kI (o : Option Nat) : Int32 := match o with
  | none => -1
  | some k => nI k
theorem ck_n {L : List Bool} {j p : Nat} (h : ¬ p + 1 ≤ L.length) : cp_k L (j + 1) p = (none, p) := by rw [cp_k, if_neg h]
theorem ck_0 {L : List Bool} {j p : Nat} (h : p + 1 ≤ L.length) (hb : lN (cp_n L p 1) = 0) : cp_k L (j + 1) p = (some 0, p + 1) := by
  rw [cp_k, if_pos h, if_neg (by rw [(cp_n0 L p).mp hb]; decide)]
theorem ck_s {L : List Bool} {j p q : Nat} {r : Option Nat} (h : p + 1 ≤ L.length) (hb : ¬ lN (cp_n L p 1) = 0) (e : cp_k L j (p + 1) = (r, q)) : cp_k L (j + 1) p = (r.map (· + 1), q) := by
  rw [cp_k, if_pos h, if_pos (cp_ng hb), e]
theorem ck_e {L : List Bool} {p : Nat} : cp_k L 0 p = (some 0, p) := rfl
theorem ck_le (L : List Bool) : ∀ (j p k q : Nat), cp_k L j p = (some k, q) → k ≤ j
  | 0, p, k, q, h => by
    rw [cp_k] at h
    cases h
    exact Nat.le_refl 0
  | j + 1, p, k, q, h => by
    rw [cp_k] at h
    by_cases c : p + 1 ≤ L.length
    · rw [if_pos c] at h
      by_cases d : cp_g L p = true
      · rw [if_pos d] at h
        cases e : cp_k L j (p + 1) with
        | mk r q' =>
          rw [e] at h
          cases r with
          | none => cases h
          | some k' =>
            cases h
            have := ck_le L j (p + 1) k' q' e
            show k' + 1 ≤ j + 1
            omega
      · rw [if_neg d] at h
        cases h
        omega
    · rw [if_neg c] at h
      cases h
theorem ck_pos (L : List Bool) : ∀ (j p : Nat), p ≤ L.length → (cp_k L j p).2 ≤ L.length
  | 0, p, h => h
  | j + 1, p, h => by
    rw [cp_k]
    by_cases c : p + 1 ≤ L.length
    · rw [if_pos c]
      by_cases d : cp_g L p = true
      · rw [if_pos d]; exact ck_pos L j (p + 1) c
      · rw [if_neg d]; exact c
    · rw [if_neg c]; exact h
theorem cp_tb_pos {k : Nat} (h : 0 < k) : 0 < cp_tb k := by
  unfold cp_tb
  rw [if_neg (by omega)]
  split
  · decide
  · split
    · decide
    · split <;> decide
theorem cp_m1 {k : Nat} (h : k < 2 ^ 31) : ¬ nI k = -1 := by
  intro z
  have := nI_toInt h
  rw [z, show (-1 : Int32).toInt = -1 by decide] at this
  omega
theorem rt_n {L : List Bool} {p q : Nat} {d : Int64} (e : cp_k L 4 p = (none, q)) : cp_rt L p d = (none, q) := by unfold cp_rt; rw [e]
theorem rt_0 {L : List Bool} {p q k : Nat} {d : Int64} (e : cp_k L 4 p = (some k, q)) (hk : k ≤ 0) : cp_rt L p d = (some d, q) := by
  unfold cp_rt; rw [e]
  show (if k = 0 then _ else _) = _
  rw [if_pos (by omega)]
theorem rt_s {L : List Bool} {p q k : Nat} {d : Int64} (e : cp_k L 4 p = (some k, q)) (hk : ¬ k ≤ 0) (h : q + cp_tb k ≤ L.length) : cp_rt L p d = (some (d + cp_sg (cp_tb k) (cp_n L q (cp_tb k))), q + cp_tb k) := by
  unfold cp_rt; rw [e]
  show (if k = 0 then _ else _) = _
  rw [if_neg (by omega), if_pos h]
theorem rt_f {L : List Bool} {p q k : Nat} {d : Int64} (e : cp_k L 4 p = (some k, q)) (hk : ¬ k ≤ 0) (h : ¬ q + cp_tb k ≤ L.length) : cp_rt L p d = (none, q) := by
  unfold cp_rt; rw [e]
  show (if k = 0 then _ else _) = _
  rw [if_neg (by omega), if_neg h]
theorem rt_pos {L : List Bool} {p : Nat} {d : Int64} (h : p ≤ L.length) : (cp_rt L p d).2 ≤ L.length := by
  have hk := ck_pos L 4 p h
  unfold cp_rt
  cases e : cp_k L 4 p with
  | mk r q =>
    rw [e] at hk
    cases r with
    | none => exact hk
    | some k =>
      show (if k = 0 then (some d, q) else if q + cp_tb k ≤ L.length then (some (d + cp_sg (cp_tb k) (cp_n L q (cp_tb k))), q + cp_tb k) else (none, q)).2 ≤ L.length
      by_cases c : k = 0
      · rw [if_pos c]; exact hk
      · rw [if_neg c]
        by_cases z : q + cp_tb k ≤ L.length
        · rw [if_pos z]; exact z
        · rw [if_neg z]; exact hk

set_option maxHeartbeats 4000000 in
set_option maxRecDepth 100000 in
theorem cc_R_init (l : Launch) (D : va_G) (cJ cB : ClassId) (q qb : Nat) (sz : Nat) : ct_v l my_R_init (Cond.code my_R_init mb_R_init 2 none :: TB) ({ frames := 2, cells := 1, slots := 2, locals := 32 } : Room) D classes cJ cB [.ref q, .ref qb] [(q, .inr (3, [.null, .null, .int 0, .long 0, .long 0, .long 0, .long 0]))] sz (fun (u : Nat) => True) (fun u => [(q, .inr (3, [.ref qb, .ref u, .int (nI 0), .long 0, .long 0, .long 0, .long 0])), (u, .inr (1, [.int (nI 0), .int (nI 0)]))]) 1 2 := by
  refine ct_ofW (cc := mb_R_init) (maxL := 2) (ret := none) (by decide) rfl (Nat.le_of_ble_eq_true rfl) ?_
  intro p e s m below meth c hx hb hr hml hts hown hlocks hin hsz hK hP hD hA hS hZ ls hl
  have hw : ∀ w ∈ TB, w.before _ s = true := fun w h => hts w (List.mem_cons_of_mem _ h)
  have hown : s.vm.findClass cn_R = some m.cls := hown
  have hin : meth.name = "<init>" := hin
  generalize hAe : va_A [(q, .inr (3, [.null, .null, .int 0, .long 0, .long 0, .long 0, .long 0]))] sz = A at hD hA hS hZ ⊢
  clear hAe
  have hl : lv_has ls 2 [(0, .ref q), (1, .ref qb)] := hl
  have hP : va_P D classes [(q, .inr (3, [.null, .null, .int 0, .long 0, .long 0, .long 0, .long 0]))] s.heap := hP
  refine lv_aload_n hx hb dd_R_init_0 rfl (lv_at hl 0 rfl) ?_
  refine W.objInit hx hb hown (hw _ wi_382) (hw _ wi_44) (hw _ wi_obj) rfl (by rw [hml]; exact hl.1) rfl dd_R_init_1 (Nat.le_of_ble_eq_true rfl) (Nat.le_of_ble_eq_true rfl) ?_
  refine W.eq (g2 := F0 m 4 ls []) rfl ?_
  refine lv_aload_n hx hb dd_R_init_4 rfl (lv_at hl 0 rfl) ?_
  refine lv_aload_n hx hb dd_R_init_5 rfl (lv_at hl 1 rfl) ?_
  refine va_putF (D := D) (ci := 3) (v := .ref qb) (ty := .object "ChunkPacker$BitRow") (C := cn_R) (T := cf_R) (N := 7) hx hb hw in_R ty_R to_R nn_R hown hK hP hD hS 0 rfl rfl 0 (by decide) (hw _ wi_385) (fun _ h9 => h9) rfl hin rfl (by decide +kernel) (rfl) (rfl) (Nat.le_of_ble_eq_true rfl) dd_R_init_6 (fun H locs hP hD hS => ?_)
  have hP : va_P D classes [(q, .inr (3, [.ref qb, .null, .int 0, .long 0, .long 0, .long 0, .long 0]))] _ := hP
  have hD : va_D A [(q, .inr (3, [.ref qb, .null, .int 0, .long 0, .long 0, .long 0, .long 0]))] := hD
  refine lv_aload_n hx hb dd_R_init_9 rfl (lv_at hl 0 rfl) ?_
  refine va_new (ci := 1) (fs := [.int 0, .int 0]) (C := cn_F) (T := cf_F) (N := 2) hx hb hw in_F ty_F to_F hown (hw _ wi_383) (hw _ wi_234) (hw _ wi_32) hK hP hD hS hA rfl (fun j hj => by rcases (show j = 0 ∨ j = 1 by omega) with rfl | rfl <;> rfl) (Nat.le_of_ble_eq_true rfl) (Nat.le_of_ble_eq_true rfl) dd_R_init_10 (fun qf H hP hD hS => ?_)
  have hP : va_P D classes [(q, .inr (3, [.ref qb, .null, .int 0, .long 0, .long 0, .long 0, .long 0])), (qf, .inr (1, [.int 0, .int 0]))] _ := hP
  have hD : va_D A [(q, .inr (3, [.ref qb, .null, .int 0, .long 0, .long 0, .long 0, .long 0])), (qf, .inr (1, [.int 0, .int 0]))] := hD
  refine lv_dup hx hb dd_R_init_13 rfl ?_
  refine ct_behind_v (wc := [(qf, .inr (1, [.int 0, .int 0]))]) (wr := [(q, .inr (3, [.ref qb, .null, .int 0, .long 0, .long 0, .long 0, .long 0]))]) (av := [.ref qf]) (va_runI (As := []) (rest := [.ref qf, .ref q]) ⟨hx, hb, hml, hown, hw⟩ (cc_F_init l D cJ cB qf _) (cwI 0 hw (tb_I wi_237) rfl rfl rfl (hw _ wi_32) (hw _ wi_384) (hw _ wi_236) rfl (by decide +kernel) ⟨Nat.le_of_ble_eq_true rfl, Nat.le_of_ble_eq_true rfl⟩) ⟨ct_blind, ct_pc hZ hK hP hD hS hA [1] rfl (by decide)⟩ rfl rfl hl.1 rfl (lv_room (Nat.le_of_ble_eq_true rfl)) dd_R_init_14 ⟨Nat.le_of_ble_eq_true rfl, Nat.le_of_ble_eq_true rfl⟩) hK hP hD hS hA [1] [0] rfl rfl (by decide) (by decide) (fun u_14 H locs hw_14 hP hD hS => ?_)
  have hP : va_P D classes [(q, .inr (3, [.ref qb, .null, .int 0, .long 0, .long 0, .long 0, .long 0])), (qf, .inr (1, [.int (nI 0), .int (nI 0)]))] _ := hP
  have hD : va_D A [(q, .inr (3, [.ref qb, .null, .int 0, .long 0, .long 0, .long 0, .long 0])), (qf, .inr (1, [.int (nI 0), .int (nI 0)]))] := hD
  refine va_putF (D := D) (ci := 3) (v := .ref qf) (ty := .object "ChunkPacker$Frame") (C := cn_R) (T := cf_R) (N := 7) hx hb hw in_R ty_R to_R nn_R hown hK hP hD hS 0 rfl rfl 1 (by decide) (hw _ wi_386) (fun _ h9 => h9) rfl hin rfl (by decide +kernel) (rfl) (rfl) (Nat.le_of_ble_eq_true rfl) dd_R_init_17 (fun H locs hP hD hS => ?_)
  have hP : va_P D classes [(q, .inr (3, [.ref qb, .ref qf, .int 0, .long 0, .long 0, .long 0, .long 0])), (qf, .inr (1, [.int (nI 0), .int (nI 0)]))] _ := hP
  have hD : va_D A [(q, .inr (3, [.ref qb, .ref qf, .int 0, .long 0, .long 0, .long 0, .long 0])), (qf, .inr (1, [.int (nI 0), .int (nI 0)]))] := hD
  refine lv_aload_n hx hb dd_R_init_20 rfl (lv_at hl 0 rfl) ?_
  refine lv_iconst (v := nI 0) hx hb dd_R_init_21 (by decide) ?_
  refine va_put (D := D) (ci := 3) (v := .int (nI 0)) (ty := .int) (C := cn_R) (T := cf_R) (N := 7) hx hb hw in_R ty_R to_R nn_R hown hK hP hD hS 0 rfl rfl 2 (by decide) (hw _ wi_387) (fun _ h9 => h9) rfl (by decide +kernel) (rfl) (rfl) (Nat.le_of_ble_eq_true rfl) dd_R_init_22 (fun H locs hP hD hS => ?_)
  have hP : va_P D classes [(q, .inr (3, [.ref qb, .ref qf, .int (nI 0), .long 0, .long 0, .long 0, .long 0])), (qf, .inr (1, [.int (nI 0), .int (nI 0)]))] _ := hP
  have hD : va_D A [(q, .inr (3, [.ref qb, .ref qf, .int (nI 0), .long 0, .long 0, .long 0, .long 0])), (qf, .inr (1, [.int (nI 0), .int (nI 0)]))] := hD
  refine lv_aload_n hx hb dd_R_init_25 rfl (lv_at hl 0 rfl) ?_
  refine lv_lconst (v := 0) hx hb dd_R_init_26 (by decide) ?_
  refine va_put (D := D) (ci := 3) (v := .long 0) (ty := .long) (C := cn_R) (T := cf_R) (N := 7) hx hb hw in_R ty_R to_R nn_R hown hK hP hD hS 0 rfl rfl 3 (by decide) (hw _ wi_388) (fun _ h9 => h9) rfl (by decide +kernel) (rfl) (rfl) (Nat.le_of_ble_eq_true rfl) dd_R_init_27 (fun H locs hP hD hS => ?_)
  have hP : va_P D classes [(q, .inr (3, [.ref qb, .ref qf, .int (nI 0), .long 0, .long 0, .long 0, .long 0])), (qf, .inr (1, [.int (nI 0), .int (nI 0)]))] _ := hP
  have hD : va_D A [(q, .inr (3, [.ref qb, .ref qf, .int (nI 0), .long 0, .long 0, .long 0, .long 0])), (qf, .inr (1, [.int (nI 0), .int (nI 0)]))] := hD
  refine lv_aload_n hx hb dd_R_init_30 rfl (lv_at hl 0 rfl) ?_
  refine lv_lconst (v := 0) hx hb dd_R_init_31 (by decide) ?_
  refine va_put (D := D) (ci := 3) (v := .long 0) (ty := .long) (C := cn_R) (T := cf_R) (N := 7) hx hb hw in_R ty_R to_R nn_R hown hK hP hD hS 0 rfl rfl 4 (by decide) (hw _ wi_389) (fun _ h9 => h9) rfl (by decide +kernel) (rfl) (rfl) (Nat.le_of_ble_eq_true rfl) dd_R_init_32 (fun H locs hP hD hS => ?_)
  have hP : va_P D classes [(q, .inr (3, [.ref qb, .ref qf, .int (nI 0), .long 0, .long 0, .long 0, .long 0])), (qf, .inr (1, [.int (nI 0), .int (nI 0)]))] _ := hP
  have hD : va_D A [(q, .inr (3, [.ref qb, .ref qf, .int (nI 0), .long 0, .long 0, .long 0, .long 0])), (qf, .inr (1, [.int (nI 0), .int (nI 0)]))] := hD
  refine lv_aload_n hx hb dd_R_init_35 rfl (lv_at hl 0 rfl) ?_
  refine lv_lconst (v := 0) hx hb dd_R_init_36 (by decide) ?_
  refine va_put (D := D) (ci := 3) (v := .long 0) (ty := .long) (C := cn_R) (T := cf_R) (N := 7) hx hb hw in_R ty_R to_R nn_R hown hK hP hD hS 0 rfl rfl 5 (by decide) (hw _ wi_390) (fun _ h9 => h9) rfl (by decide +kernel) (rfl) (rfl) (Nat.le_of_ble_eq_true rfl) dd_R_init_37 (fun H locs hP hD hS => ?_)
  have hP : va_P D classes [(q, .inr (3, [.ref qb, .ref qf, .int (nI 0), .long 0, .long 0, .long 0, .long 0])), (qf, .inr (1, [.int (nI 0), .int (nI 0)]))] _ := hP
  have hD : va_D A [(q, .inr (3, [.ref qb, .ref qf, .int (nI 0), .long 0, .long 0, .long 0, .long 0])), (qf, .inr (1, [.int (nI 0), .int (nI 0)]))] := hD
  refine lv_aload_n hx hb dd_R_init_40 rfl (lv_at hl 0 rfl) ?_
  refine lv_lconst (v := 0) hx hb dd_R_init_41 (by decide) ?_
  refine va_put (D := D) (ci := 3) (v := .long 0) (ty := .long) (C := cn_R) (T := cf_R) (N := 7) hx hb hw in_R ty_R to_R nn_R hown hK hP hD hS 0 rfl rfl 6 (by decide) (hw _ wi_391) (fun _ h9 => h9) rfl (by decide +kernel) (rfl) (rfl) (Nat.le_of_ble_eq_true rfl) dd_R_init_42 (fun H locs hP hD hS => ?_)
  have hP : va_P D classes [(q, .inr (3, [.ref qb, .ref qf, .int (nI 0), .long 0, .long 0, .long 0, .long 0])), (qf, .inr (1, [.int (nI 0), .int (nI 0)]))] _ := hP
  have hD : va_D A [(q, .inr (3, [.ref qb, .ref qf, .int (nI 0), .long 0, .long 0, .long 0, .long 0])), (qf, .inr (1, [.int (nI 0), .int (nI 0)]))] := hD
  refine ct_vret (u := qf) hx hb hr hlocks hK hP hD hS rfl ?_ dd_R_init_45
  trivial

set_option maxHeartbeats 4000000 in
set_option maxRecDepth 100000 in
theorem cc_R_position (l : Launch) (D : va_G) (cJ cB : ClassId) (q qb qf : Nat) (po : Nat) (nu ti de va : Int64) (sz : Nat) : ct_i l my_R_position (Cond.code my_R_position mb_R_position 1 (some .int) :: TB) ({ frames := 0, cells := 0, slots := 0, locals := 0 } : Room) D classes cJ cB [.ref q] [(q, .inr (3, [.ref qb, .ref qf, .int (nI po), .long nu, .long ti, .long de, .long va]))] sz (fun (r : Int32) (u : Unit) => r = nI po) (fun u => [(q, .inr (3, [.ref qb, .ref qf, .int (nI po), .long nu, .long ti, .long de, .long va]))]) 0 0 := by
  refine ct_ofW (cc := mb_R_position) (maxL := 1) (ret := some .int) (by decide) rfl (Nat.le_of_ble_eq_true rfl) ?_
  intro p e s m below meth c hx hb hr hml hts hown hlocks hin hsz hK hP hD hA hS hZ ls hl
  have hw : ∀ w ∈ TB, w.before _ s = true := fun w h => hts w (List.mem_cons_of_mem _ h)
  have hown : s.vm.findClass cn_R = some m.cls := hown
  have hin : meth.name = "position" := hin
  generalize hAe : va_A [(q, .inr (3, [.ref qb, .ref qf, .int (nI po), .long nu, .long ti, .long de, .long va]))] sz = A at hD hA hS hZ ⊢
  clear hAe
  have hl : lv_has ls 1 [(0, .ref q)] := hl
  have hP : va_P D classes [(q, .inr (3, [.ref qb, .ref qf, .int (nI po), .long nu, .long ti, .long de, .long va]))] s.heap := hP
  refine lv_aload_n hx hb dd_R_position_0 rfl (lv_at hl 0 rfl) ?_
  refine va_get (D := D) (ci := 3) (C := cn_R) (T := cf_R) (N := 7) hx hb hw in_R hown hK hP 0 rfl rfl 2 (by decide) (hw _ wi_387) (fun _ h9 => h9) rfl dd_R_position_1 ?_
  refine ct_iret (u := ()) hx hb hr hlocks hK hP hD hS rfl ?_ dd_R_position_4
  rfl

set_option maxHeartbeats 4000000 in
set_option maxRecDepth 100000 in
theorem cc_R_take (l : Launch) (D : va_G) (cJ cB : ClassId) (q qb qw qf : Nat) (po : Nat) (nu ti de va : Int64) (w : Nat → Int64) (L : List Bool) (k : Nat) (sz : Nat) (hL : L.length ≤ 400000) (hR : cp_Rw w L) (hpo : po ≤ L.length) (h1 : 0 < k) (h2 : k ≤ 64) : ct_i l my_R_take (Cond.code my_R_take mb_R_take 2 (some .boolean) :: TB) ({ frames := 1, cells := 0, slots := 0, locals := 26 } : Room) D classes cJ cB [.ref q, .int (nI k)] [(q, .inr (3, [.ref qb, .ref qf, .int (nI po), .long nu, .long ti, .long de, .long va])), (qb, .inr (0, [.ref qw, .int (nI L.length)])), (qw, .inl (cJ, 6250, .inr (.inl w)))] sz (fun (r : Int32) (u : Nat × Int64) => r = bI (po + k ≤ L.length) ∧ u = if po + k ≤ L.length then (po + k, lN (cp_n L po k)) else (po, nu)) (fun u => [(q, .inr (3, [.ref qb, .ref qf, .int (nI u.1), .long u.2, .long ti, .long de, .long va])), (qb, .inr (0, [.ref qw, .int (nI L.length)])), (qw, .inl (cJ, 6250, .inr (.inl w)))]) 0 0 := by
  refine ct_ofW (cc := mb_R_take) (maxL := 2) (ret := some .boolean) (by decide) rfl (Nat.le_of_ble_eq_true rfl) ?_
  intro p e s m below meth c hx hb hr hml hts hown hlocks hin hsz hK hP hD hA hS hZ ls hl
  have hw : ∀ w ∈ TB, w.before _ s = true := fun w h => hts w (List.mem_cons_of_mem _ h)
  have hown : s.vm.findClass cn_R = some m.cls := hown
  have hin : meth.name = "take" := hin
  generalize hAe : va_A [(q, .inr (3, [.ref qb, .ref qf, .int (nI po), .long nu, .long ti, .long de, .long va])), (qb, .inr (0, [.ref qw, .int (nI L.length)])), (qw, .inl (cJ, 6250, .inr (.inl w)))] sz = A at hD hA hS hZ ⊢
  clear hAe
  have hl : lv_has ls 2 [(0, .ref q), (1, .int (nI k))] := hl
  have hP : va_P D classes [(q, .inr (3, [.ref qb, .ref qf, .int (nI po), .long nu, .long ti, .long de, .long va])), (qb, .inr (0, [.ref qw, .int (nI L.length)])), (qw, .inl (cJ, 6250, .inr (.inl w)))] s.heap := hP
  refine lv_aload_n hx hb dd_R_take_0 rfl (lv_at hl 0 rfl) ?_
  refine va_get (D := D) (ci := 3) (C := cn_R) (T := cf_R) (N := 7) hx hb hw in_R hown hK hP 0 rfl rfl 0 (by decide) (hw _ wi_385) (fun _ h9 => h9) rfl dd_R_take_1 ?_
  refine lv_aload_n hx hb dd_R_take_4 rfl (lv_at hl 0 rfl) ?_
  refine va_get (D := D) (ci := 3) (C := cn_R) (T := cf_R) (N := 7) hx hb hw in_R hown hK hP 0 rfl rfl 2 (by decide) (hw _ wi_387) (fun _ h9 => h9) rfl dd_R_take_5 ?_
  refine lv_iload_n hx hb dd_R_take_8 rfl (lv_at hl 1 rfl) ?_
  refine ct_behind_i (wc := [(qb, .inr (0, [.ref qw, .int (nI L.length)])), (qw, .inl (cJ, 6250, .inr (.inl w)))]) (wr := [(q, .inr (3, [.ref qb, .ref qf, .int (nI po), .long nu, .long ti, .long de, .long va]))]) (av := [.ref qb, .int (nI po), .int (nI k)]) (va_runV (As := [.int (nI po), .int (nI k)]) (rest := []) ⟨hx, hb, hml, hown, hw⟩ (cc_B_has l D cJ cB qb qw L.length w po k _ hL (by omega) h2) (cwV 2 hw (tb_V wi_419 wi_420 wi_421 wi_24 wi_422) rfl rfl rfl (by decide +kernel) ⟨Nat.le_of_ble_eq_true rfl, Nat.le_of_ble_eq_true rfl⟩) ⟨ct_blind, ct_recv hK hP (q0 := 1) (ci := 0) rfl rfl, ct_pc hZ hK hP hD hS hA [1, 2] rfl (by decide)⟩ rfl rfl hl.1 rfl (lv_room (Nat.le_of_ble_eq_true rfl)) dd_R_take_9 ⟨Nat.le_of_ble_eq_true rfl, Nat.le_of_ble_eq_true rfl⟩) hK hP hD hS hA [1, 2] [0] rfl rfl (by decide) (by decide) (fun r_9 u_9 H locs hw_9 hP hD hS => ?_)
  subst hw_9
  have hP : va_P D classes [(q, .inr (3, [.ref qb, .ref qf, .int (nI po), .long nu, .long ti, .long de, .long va])), (qb, .inr (0, [.ref qw, .int (nI L.length)])), (qw, .inl (cJ, 6250, .inr (.inl w)))] _ := hP
  have hD : va_D A [(q, .inr (3, [.ref qb, .ref qf, .int (nI po), .long nu, .long ti, .long de, .long va])), (qb, .inr (0, [.ref qw, .int (nI L.length)])), (qw, .inl (cJ, 6250, .inr (.inl w)))] := hD
  refine lv_if_ne (tgt := 17) hx hb dd_R_take_12 (by decide) (fun c_12 => ?_) (fun c_12 => ?_)
  · skip
    have c_12 : po + k ≤ L.length := bI_n.mp c_12
    refine lv_aload_n hx hb dd_R_take_17 rfl (lv_at hl 0 rfl) ?_
    refine lv_aload_n hx hb dd_R_take_18 rfl (lv_at hl 0 rfl) ?_
    refine va_get (D := D) (ci := 3) (C := cn_R) (T := cf_R) (N := 7) hx hb hw in_R hown hK hP 0 rfl rfl 0 (by decide) (hw _ wi_385) (fun _ h9 => h9) rfl dd_R_take_19 ?_
    refine lv_aload_n hx hb dd_R_take_22 rfl (lv_at hl 0 rfl) ?_
    refine va_get (D := D) (ci := 3) (C := cn_R) (T := cf_R) (N := 7) hx hb hw in_R hown hK hP 0 rfl rfl 2 (by decide) (hw _ wi_387) (fun _ h9 => h9) rfl dd_R_take_23 ?_
    refine lv_iload_n hx hb dd_R_take_26 rfl (lv_at hl 1 rfl) ?_
    refine ct_behind_l (wc := [(qb, .inr (0, [.ref qw, .int (nI L.length)])), (qw, .inl (cJ, 6250, .inr (.inl w)))]) (wr := [(q, .inr (3, [.ref qb, .ref qf, .int (nI po), .long nu, .long ti, .long de, .long va]))]) (av := [.ref qb, .int (nI po), .int (nI k)]) (va_runV (As := [.int (nI po), .int (nI k)]) (rest := [.ref q]) ⟨hx, hb, hml, hown, hw⟩ (cc_B_numberAt l D cJ cB qb qw w L po k _ hL hR h1 h2 c_12) (cwV 2 hw (tb_V wi_423 wi_424 wi_425 wi_24 wi_426) rfl rfl rfl (by decide +kernel) ⟨Nat.le_of_ble_eq_true rfl, Nat.le_of_ble_eq_true rfl⟩) ⟨ct_blind, ct_recv hK hP (q0 := 1) (ci := 0) rfl rfl, ct_pc hZ hK hP hD hS hA [1, 2] rfl (by decide)⟩ rfl rfl hl.1 rfl (lv_room (Nat.le_of_ble_eq_true rfl)) dd_R_take_27 ⟨Nat.le_of_ble_eq_true rfl, Nat.le_of_ble_eq_true rfl⟩) hK hP hD hS hA [1, 2] [0] rfl rfl (by decide) (by decide) (fun r_27 u_27 H locs hw_27 hP hD hS => ?_)
    subst hw_27
    have hP : va_P D classes [(q, .inr (3, [.ref qb, .ref qf, .int (nI po), .long nu, .long ti, .long de, .long va])), (qb, .inr (0, [.ref qw, .int (nI L.length)])), (qw, .inl (cJ, 6250, .inr (.inl w)))] _ := hP
    have hD : va_D A [(q, .inr (3, [.ref qb, .ref qf, .int (nI po), .long nu, .long ti, .long de, .long va])), (qb, .inr (0, [.ref qw, .int (nI L.length)])), (qw, .inl (cJ, 6250, .inr (.inl w)))] := hD
    refine va_put (D := D) (ci := 3) (v := .long (lN (cp_n L po k))) (ty := .long) (C := cn_R) (T := cf_R) (N := 7) hx hb hw in_R ty_R to_R nn_R hown hK hP hD hS 0 rfl rfl 3 (by decide) (hw _ wi_388) (fun _ h9 => h9) rfl (by decide +kernel) (rfl) (rfl) (Nat.le_of_ble_eq_true rfl) dd_R_take_30 (fun H locs hP hD hS => ?_)
    have hP : va_P D classes [(q, .inr (3, [.ref qb, .ref qf, .int (nI po), .long (lN (cp_n L po k)), .long ti, .long de, .long va])), (qb, .inr (0, [.ref qw, .int (nI L.length)])), (qw, .inl (cJ, 6250, .inr (.inl w)))] _ := hP
    have hD : va_D A [(q, .inr (3, [.ref qb, .ref qf, .int (nI po), .long (lN (cp_n L po k)), .long ti, .long de, .long va])), (qb, .inr (0, [.ref qw, .int (nI L.length)])), (qw, .inl (cJ, 6250, .inr (.inl w)))] := hD
    refine lv_aload_n hx hb dd_R_take_33 rfl (lv_at hl 0 rfl) ?_
    refine lv_dup hx hb dd_R_take_34 rfl ?_
    refine va_get (D := D) (ci := 3) (C := cn_R) (T := cf_R) (N := 7) hx hb hw in_R hown hK hP 0 rfl rfl 2 (by decide) (hw _ wi_387) (fun _ h9 => h9) rfl dd_R_take_35 ?_
    refine lv_iload_n hx hb dd_R_take_38 rfl (lv_at hl 1 rfl) ?_
    refine lv_iadd hx hb dd_R_take_39 ?_
    refine ct_topi (y := nI (po + k)) (nI_add _ _) ?_
    refine va_put (D := D) (ci := 3) (v := .int (nI (po + k))) (ty := .int) (C := cn_R) (T := cf_R) (N := 7) hx hb hw in_R ty_R to_R nn_R hown hK hP hD hS 0 rfl rfl 2 (by decide) (hw _ wi_387) (fun _ h9 => h9) rfl (by decide +kernel) (rfl) (rfl) (Nat.le_of_ble_eq_true rfl) dd_R_take_40 (fun H locs hP hD hS => ?_)
    have hP : va_P D classes [(q, .inr (3, [.ref qb, .ref qf, .int (nI (po + k)), .long (lN (cp_n L po k)), .long ti, .long de, .long va])), (qb, .inr (0, [.ref qw, .int (nI L.length)])), (qw, .inl (cJ, 6250, .inr (.inl w)))] _ := hP
    have hD : va_D A [(q, .inr (3, [.ref qb, .ref qf, .int (nI (po + k)), .long (lN (cp_n L po k)), .long ti, .long de, .long va])), (qb, .inr (0, [.ref qw, .int (nI L.length)])), (qw, .inl (cJ, 6250, .inr (.inl w)))] := hD
    refine lv_iconst (v := nI 1) hx hb dd_R_take_43 (by decide) ?_
    refine ct_zret (u := (po + k, lN (cp_n L po k))) hx hb hr hlocks (by decide) hK hP hD hS rfl ?_ dd_R_take_44
    exact ⟨bI_t c_12, (if_pos c_12).symm⟩
  have c_12 : ¬ (po + k ≤ L.length) := bI_z.mp c_12
  refine lv_iconst (v := nI 0) hx hb dd_R_take_15 (by decide) ?_
  refine ct_zret (u := (po, nu)) hx hb hr hlocks (by decide) hK hP hD hS rfl ?_ dd_R_take_16
  exact ⟨bI_f c_12, (if_neg c_12).symm⟩

set_option maxHeartbeats 4000000 in
set_option maxRecDepth 100000 in
theorem cc_R_readFirst (l : Launch) (D : va_G) (cJ cB : ClassId) (q qb qw qf : Nat) (nu ti de va : Int64) (w : Nat → Int64) (L : List Bool) (sz : Nat) (hL : L.length ≤ 400000) (hR : cp_Rw w L) : ct_i l my_R_readFirst (Cond.code my_R_readFirst mb_R_readFirst 1 (some .boolean) :: TB) ({ frames := 2, cells := 0, slots := 0, locals := 47 } : Room) D classes cJ cB [.ref q] [(q, .inr (3, [.ref qb, .ref qf, .int (nI 0), .long nu, .long ti, .long de, .long va])), (qb, .inr (0, [.ref qw, .int (nI L.length)])), (qw, .inl (cJ, 6250, .inr (.inl w)))] sz (fun (r : Int32) (u : Nat × Int64 × Int64 × Int64) => r = bI ((cp_r1 L).1 = true) ∧ u.1 = (cp_r1 L).2.1 ∧ ((cp_r1 L).1 = true → u.2.2.1 = (cp_r1 L).2.2.1 ∧ u.2.2.2 = (cp_r1 L).2.2.2.2.1)) (fun u => [(q, .inr (3, [.ref qb, .ref qf, .int (nI u.1), .long u.2.1, .long u.2.2.1, .long de, .long u.2.2.2])), (qb, .inr (0, [.ref qw, .int (nI L.length)])), (qw, .inl (cJ, 6250, .inr (.inl w)))]) 0 0 := by
  refine ct_ofW (cc := mb_R_readFirst) (maxL := 1) (ret := some .boolean) (by decide) rfl (Nat.le_of_ble_eq_true rfl) ?_
  intro p e s m below meth c hx hb hr hml hts hown hlocks hin hsz hK hP hD hA hS hZ ls hl
  have hw : ∀ w ∈ TB, w.before _ s = true := fun w h => hts w (List.mem_cons_of_mem _ h)
  have hown : s.vm.findClass cn_R = some m.cls := hown
  have hin : meth.name = "readFirst" := hin
  generalize hAe : va_A [(q, .inr (3, [.ref qb, .ref qf, .int (nI 0), .long nu, .long ti, .long de, .long va])), (qb, .inr (0, [.ref qw, .int (nI L.length)])), (qw, .inl (cJ, 6250, .inr (.inl w)))] sz = A at hD hA hS hZ ⊢
  clear hAe
  have hl : lv_has ls 1 [(0, .ref q)] := hl
  have hP : va_P D classes [(q, .inr (3, [.ref qb, .ref qf, .int (nI 0), .long nu, .long ti, .long de, .long va])), (qb, .inr (0, [.ref qw, .int (nI L.length)])), (qw, .inl (cJ, 6250, .inr (.inl w)))] s.heap := hP
  refine lv_aload_n hx hb dd_R_readFirst_0 rfl (lv_at hl 0 rfl) ?_
  refine lv_bipush (v := nI 40) hx hb dd_R_readFirst_1 (by decide) ?_
  refine ct_behind_i (wc := [(q, .inr (3, [.ref qb, .ref qf, .int (nI 0), .long nu, .long ti, .long de, .long va])), (qb, .inr (0, [.ref qw, .int (nI L.length)])), (qw, .inl (cJ, 6250, .inr (.inl w)))]) (wr := []) (av := [.ref q, .int (nI 40)]) (va_runV (As := [.int (nI 40)]) (rest := []) ⟨hx, hb, hml, hown, hw⟩ (cc_R_take l D cJ cB q qb qw qf 0 nu ti de va w L 40 _ hL hR (by omega) (by omega) (by omega)) (cwV 1 hw (tb_V wi_415 wi_417 wi_8 wi_37 wi_418) rfl rfl rfl (by decide +kernel) ⟨Nat.le_of_ble_eq_true rfl, Nat.le_of_ble_eq_true rfl⟩) ⟨ct_blind, ct_recv hK hP (q0 := 0) (ci := 3) rfl rfl, ct_pc hZ hK hP hD hS hA [0, 1, 2] rfl (by decide)⟩ rfl rfl hl.1 rfl (lv_room (Nat.le_of_ble_eq_true rfl)) dd_R_readFirst_3 ⟨Nat.le_of_ble_eq_true rfl, Nat.le_of_ble_eq_true rfl⟩) hK hP hD hS hA [0, 1, 2] [] rfl rfl (by decide) (by decide) (fun r_3 u_3 H locs hw_3 hP hD hS => ?_)
  obtain ⟨hr_3, hu_3⟩ := hw_3
  subst hr_3
  obtain ⟨p_3, n_3⟩ := u_3
  have hP : va_P D classes [(q, .inr (3, [.ref qb, .ref qf, .int (nI p_3), .long n_3, .long ti, .long de, .long va])), (qb, .inr (0, [.ref qw, .int (nI L.length)])), (qw, .inl (cJ, 6250, .inr (.inl w)))] _ := hP
  have hD : va_D A [(q, .inr (3, [.ref qb, .ref qf, .int (nI p_3), .long n_3, .long ti, .long de, .long va])), (qb, .inr (0, [.ref qw, .int (nI L.length)])), (qw, .inl (cJ, 6250, .inr (.inl w)))] := hD
  refine lv_if_ne (tgt := 11) hx hb dd_R_readFirst_6 (by decide) (fun c_6 => ?_) (fun c_6 => ?_)
  · skip
    have c_6 : 0 + 40 ≤ L.length := bI_n.mp c_6
    rw [if_pos c_6] at hu_3
    cases hu_3
    have hP : va_P D classes [(q, .inr (3, [.ref qb, .ref qf, .int (nI 40), .long (lN (cp_n L 0 40)), .long ti, .long de, .long va])), (qb, .inr (0, [.ref qw, .int (nI L.length)])), (qw, .inl (cJ, 6250, .inr (.inl w)))] _ := hP
    have hD : va_D A [(q, .inr (3, [.ref qb, .ref qf, .int (nI 40), .long (lN (cp_n L 0 40)), .long ti, .long de, .long va])), (qb, .inr (0, [.ref qw, .int (nI L.length)])), (qw, .inl (cJ, 6250, .inr (.inl w)))] := hD
    refine lv_aload_n hx hb dd_R_readFirst_11 rfl (lv_at hl 0 rfl) ?_
    refine lv_aload_n hx hb dd_R_readFirst_12 rfl (lv_at hl 0 rfl) ?_
    refine va_get (D := D) (ci := 3) (C := cn_R) (T := cf_R) (N := 7) hx hb hw in_R hown hK hP 0 rfl rfl 3 (by decide) (hw _ wi_388) (fun _ h9 => h9) rfl dd_R_readFirst_13 ?_
    refine va_put (D := D) (ci := 3) (v := .long (lN (cp_n L 0 40))) (ty := .long) (C := cn_R) (T := cf_R) (N := 7) hx hb hw in_R ty_R to_R nn_R hown hK hP hD hS 0 rfl rfl 4 (by decide) (hw _ wi_389) (fun _ h9 => h9) rfl (by decide +kernel) (rfl) (rfl) (Nat.le_of_ble_eq_true rfl) dd_R_readFirst_16 (fun H locs hP hD hS => ?_)
    have hP : va_P D classes [(q, .inr (3, [.ref qb, .ref qf, .int (nI 40), .long (lN (cp_n L 0 40)), .long (lN (cp_n L 0 40)), .long de, .long va])), (qb, .inr (0, [.ref qw, .int (nI L.length)])), (qw, .inl (cJ, 6250, .inr (.inl w)))] _ := hP
    have hD : va_D A [(q, .inr (3, [.ref qb, .ref qf, .int (nI 40), .long (lN (cp_n L 0 40)), .long (lN (cp_n L 0 40)), .long de, .long va])), (qb, .inr (0, [.ref qw, .int (nI L.length)])), (qw, .inl (cJ, 6250, .inr (.inl w)))] := hD
    refine lv_aload_n hx hb dd_R_readFirst_19 rfl (lv_at hl 0 rfl) ?_
    refine lv_bipush (v := nI 64) hx hb dd_R_readFirst_20 (by decide) ?_
    refine ct_behind_i (wc := [(q, .inr (3, [.ref qb, .ref qf, .int (nI 40), .long (lN (cp_n L 0 40)), .long (lN (cp_n L 0 40)), .long de, .long va])), (qb, .inr (0, [.ref qw, .int (nI L.length)])), (qw, .inl (cJ, 6250, .inr (.inl w)))]) (wr := []) (av := [.ref q, .int (nI 64)]) (va_runV (As := [.int (nI 64)]) (rest := []) ⟨hx, hb, hml, hown, hw⟩ (cc_R_take l D cJ cB q qb qw qf 40 (lN (cp_n L 0 40)) (lN (cp_n L 0 40)) de va w L 64 _ hL hR (by omega) (by omega) (by omega)) (cwV 1 hw (tb_V wi_415 wi_417 wi_8 wi_37 wi_418) rfl rfl rfl (by decide +kernel) ⟨Nat.le_of_ble_eq_true rfl, Nat.le_of_ble_eq_true rfl⟩) ⟨ct_blind, ct_recv hK hP (q0 := 0) (ci := 3) rfl rfl, ct_pc hZ hK hP hD hS hA [0, 1, 2] rfl (by decide)⟩ rfl rfl hl.1 rfl (lv_room (Nat.le_of_ble_eq_true rfl)) dd_R_readFirst_22 ⟨Nat.le_of_ble_eq_true rfl, Nat.le_of_ble_eq_true rfl⟩) hK hP hD hS hA [0, 1, 2] [] rfl rfl (by decide) (by decide) (fun r_22 u_22 H locs hw_22 hP hD hS => ?_)
    obtain ⟨hr_22, hu_22⟩ := hw_22
    subst hr_22
    obtain ⟨p_22, n_22⟩ := u_22
    have hP : va_P D classes [(q, .inr (3, [.ref qb, .ref qf, .int (nI p_22), .long n_22, .long (lN (cp_n L 0 40)), .long de, .long va])), (qb, .inr (0, [.ref qw, .int (nI L.length)])), (qw, .inl (cJ, 6250, .inr (.inl w)))] _ := hP
    have hD : va_D A [(q, .inr (3, [.ref qb, .ref qf, .int (nI p_22), .long n_22, .long (lN (cp_n L 0 40)), .long de, .long va])), (qb, .inr (0, [.ref qw, .int (nI L.length)])), (qw, .inl (cJ, 6250, .inr (.inl w)))] := hD
    refine lv_if_ne (tgt := 30) hx hb dd_R_readFirst_25 (by decide) (fun c_25 => ?_) (fun c_25 => ?_)
    · skip
      have c_25 : 40 + 64 ≤ L.length := bI_n.mp c_25
      rw [if_pos c_25] at hu_22
      cases hu_22
      have hP : va_P D classes [(q, .inr (3, [.ref qb, .ref qf, .int (nI 104), .long (lN (cp_n L 40 64)), .long (lN (cp_n L 0 40)), .long de, .long va])), (qb, .inr (0, [.ref qw, .int (nI L.length)])), (qw, .inl (cJ, 6250, .inr (.inl w)))] _ := hP
      have hD : va_D A [(q, .inr (3, [.ref qb, .ref qf, .int (nI 104), .long (lN (cp_n L 40 64)), .long (lN (cp_n L 0 40)), .long de, .long va])), (qb, .inr (0, [.ref qw, .int (nI L.length)])), (qw, .inl (cJ, 6250, .inr (.inl w)))] := hD
      refine lv_aload_n hx hb dd_R_readFirst_30 rfl (lv_at hl 0 rfl) ?_
      refine lv_aload_n hx hb dd_R_readFirst_31 rfl (lv_at hl 0 rfl) ?_
      refine va_get (D := D) (ci := 3) (C := cn_R) (T := cf_R) (N := 7) hx hb hw in_R hown hK hP 0 rfl rfl 3 (by decide) (hw _ wi_388) (fun _ h9 => h9) rfl dd_R_readFirst_32 ?_
      refine va_put (D := D) (ci := 3) (v := .long (lN (cp_n L 40 64))) (ty := .long) (C := cn_R) (T := cf_R) (N := 7) hx hb hw in_R ty_R to_R nn_R hown hK hP hD hS 0 rfl rfl 6 (by decide) (hw _ wi_391) (fun _ h9 => h9) rfl (by decide +kernel) (rfl) (rfl) (Nat.le_of_ble_eq_true rfl) dd_R_readFirst_35 (fun H locs hP hD hS => ?_)
      have hP : va_P D classes [(q, .inr (3, [.ref qb, .ref qf, .int (nI 104), .long (lN (cp_n L 40 64)), .long (lN (cp_n L 0 40)), .long de, .long (lN (cp_n L 40 64))])), (qb, .inr (0, [.ref qw, .int (nI L.length)])), (qw, .inl (cJ, 6250, .inr (.inl w)))] _ := hP
      have hD : va_D A [(q, .inr (3, [.ref qb, .ref qf, .int (nI 104), .long (lN (cp_n L 40 64)), .long (lN (cp_n L 0 40)), .long de, .long (lN (cp_n L 40 64))])), (qb, .inr (0, [.ref qw, .int (nI L.length)])), (qw, .inl (cJ, 6250, .inr (.inl w)))] := hD
      refine lv_iconst (v := nI 1) hx hb dd_R_readFirst_38 (by decide) ?_
      refine ct_zret (u := (104, lN (cp_n L 40 64), lN (cp_n L 0 40), lN (cp_n L 40 64))) hx hb hr hlocks (by decide) hK hP hD hS rfl ?_ dd_R_readFirst_39
      have e : cp_r1 L = (true, 104, lN (cp_n L 0 40), 0, lN (cp_n L 40 64), 0, 0) := by unfold cp_r1; rw [if_pos (by omega), if_pos (by omega)]
      rw [e]
      exact ⟨bI_t rfl, rfl, fun _ => ⟨rfl, rfl⟩⟩
    have c_25 : ¬ (40 + 64 ≤ L.length) := bI_z.mp c_25
    rw [if_neg c_25] at hu_22
    cases hu_22
    have hP : va_P D classes [(q, .inr (3, [.ref qb, .ref qf, .int (nI 40), .long (lN (cp_n L 0 40)), .long (lN (cp_n L 0 40)), .long de, .long va])), (qb, .inr (0, [.ref qw, .int (nI L.length)])), (qw, .inl (cJ, 6250, .inr (.inl w)))] _ := hP
    have hD : va_D A [(q, .inr (3, [.ref qb, .ref qf, .int (nI 40), .long (lN (cp_n L 0 40)), .long (lN (cp_n L 0 40)), .long de, .long va])), (qb, .inr (0, [.ref qw, .int (nI L.length)])), (qw, .inl (cJ, 6250, .inr (.inl w)))] := hD
    refine lv_iconst (v := nI 0) hx hb dd_R_readFirst_28 (by decide) ?_
    refine ct_zret (u := (40, lN (cp_n L 0 40), lN (cp_n L 0 40), va)) hx hb hr hlocks (by decide) hK hP hD hS rfl ?_ dd_R_readFirst_29
    have e : cp_r1 L = (false, 40, 0, 0, 0, 0, 0) := by unfold cp_r1; rw [if_pos (by omega), if_neg (by omega)]
    rw [e]
    exact ⟨bI_f (by decide), rfl, fun z => absurd z (by decide)⟩
  have c_6 : ¬ (0 + 40 ≤ L.length) := bI_z.mp c_6
  rw [if_neg c_6] at hu_3
  cases hu_3
  have hP : va_P D classes [(q, .inr (3, [.ref qb, .ref qf, .int (nI 0), .long nu, .long ti, .long de, .long va])), (qb, .inr (0, [.ref qw, .int (nI L.length)])), (qw, .inl (cJ, 6250, .inr (.inl w)))] _ := hP
  have hD : va_D A [(q, .inr (3, [.ref qb, .ref qf, .int (nI 0), .long nu, .long ti, .long de, .long va])), (qb, .inr (0, [.ref qw, .int (nI L.length)])), (qw, .inl (cJ, 6250, .inr (.inl w)))] := hD
  refine lv_iconst (v := nI 0) hx hb dd_R_readFirst_9 (by decide) ?_
  refine ct_zret (u := (0, nu, ti, va)) hx hb hr hlocks (by decide) hK hP hD hS rfl ?_ dd_R_readFirst_10
  have e : cp_r1 L = (false, 0, 0, 0, 0, 0, 0) := by unfold cp_r1; rw [if_neg (by omega)]
  rw [e]
  exact ⟨bI_f (by decide), rfl, fun z => absurd z (by decide)⟩

set_option maxHeartbeats 4000000 in
set_option maxRecDepth 100000 in
theorem cc_R_readKind (l : Launch) (D : va_G) (cJ cB : ClassId) (q qb qw qf : Nat) (po : Nat) (nu ti de va : Int64) (w : Nat → Int64) (L : List Bool) (sz : Nat) (hL : L.length ≤ 400000) (hR : cp_Rw w L) (hpo : po ≤ L.length) : ct_i l my_R_readKind (Cond.code my_R_readKind mb_R_readKind 2 (some .int) :: TB) ({ frames := 2, cells := 0, slots := 0, locals := 47 } : Room) D classes cJ cB [.ref q] [(q, .inr (3, [.ref qb, .ref qf, .int (nI po), .long nu, .long ti, .long de, .long va])), (qb, .inr (0, [.ref qw, .int (nI L.length)])), (qw, .inl (cJ, 6250, .inr (.inl w)))] sz (fun (r : Int32) (u : Nat × Int64) => r = cp_kI (cp_k L 4 po).1 ∧ u.1 = (cp_k L 4 po).2) (fun u => [(q, .inr (3, [.ref qb, .ref qf, .int (nI u.1), .long u.2, .long ti, .long de, .long va])), (qb, .inr (0, [.ref qw, .int (nI L.length)])), (qw, .inl (cJ, 6250, .inr (.inl w)))]) 0 0 := by
  refine ct_ofW (cc := mb_R_readKind) (maxL := 2) (ret := some .int) (by decide) rfl (Nat.le_of_ble_eq_true rfl) ?_
  intro p e s m below meth c hx hb hr hml hts hown hlocks hin hsz hK hP hD hA hS hZ ls hl
  have hw : ∀ w ∈ TB, w.before _ s = true := fun w h => hts w (List.mem_cons_of_mem _ h)
  have hown : s.vm.findClass cn_R = some m.cls := hown
  have hin : meth.name = "readKind" := hin
  generalize hAe : va_A [(q, .inr (3, [.ref qb, .ref qf, .int (nI po), .long nu, .long ti, .long de, .long va])), (qb, .inr (0, [.ref qw, .int (nI L.length)])), (qw, .inl (cJ, 6250, .inr (.inl w)))] sz = A at hD hA hS hZ ⊢
  clear hAe
  have hl : lv_has ls 2 [(0, .ref q)] := hl
  have hP : va_P D classes [(q, .inr (3, [.ref qb, .ref qf, .int (nI po), .long nu, .long ti, .long de, .long va])), (qb, .inr (0, [.ref qw, .int (nI L.length)])), (qw, .inl (cJ, 6250, .inr (.inl w)))] s.heap := hP
  refine lv_iconst (v := nI 0) hx hb dd_R_readKind_0 (by decide) ?_
  refine lv_istore_n (lv' := [(1, .int (nI 0)), (0, .ref q)]) hx hb dd_R_readKind_1 rfl hl (by decide) rfl (fun ls hl => ?_)
  refine lv_iload_n hx hb dd_R_readKind_2 rfl (lv_at hl 0 rfl) ?_
  refine lv_iconst (v := nI 4) hx hb dd_R_readKind_3 (by decide) ?_
  refine lv_icmp_ge (tgt := 34) hx hb dd_R_readKind_4 (by decide) (fun c_4 => ?_) (fun c_4 => ?_)
  · skip
    have c_4 : 4 ≤ 0 := (nI_leI (by omega) (by omega)).mp c_4
    exfalso
    omega
  have c_4 : ¬ (4 ≤ 0) := fun z => c_4 ((nI_leI (by omega) (by omega)).mpr z)
  refine lv_aload_n hx hb dd_R_readKind_7 rfl (lv_at hl 1 rfl) ?_
  refine lv_iconst (v := nI 1) hx hb dd_R_readKind_8 (by decide) ?_
  refine ct_behind_i (wc := [(q, .inr (3, [.ref qb, .ref qf, .int (nI po), .long nu, .long ti, .long de, .long va])), (qb, .inr (0, [.ref qw, .int (nI L.length)])), (qw, .inl (cJ, 6250, .inr (.inl w)))]) (wr := []) (av := [.ref q, .int (nI 1)]) (va_runV (As := [.int (nI 1)]) (rest := []) ⟨hx, hb, hml, hown, hw⟩ (cc_R_take l D cJ cB q qb qw qf po nu ti de va w L 1 _ hL hR (by omega) (by omega) (by omega)) (cwV 1 hw (tb_V wi_415 wi_417 wi_8 wi_37 wi_418) rfl rfl rfl (by decide +kernel) ⟨Nat.le_of_ble_eq_true rfl, Nat.le_of_ble_eq_true rfl⟩) ⟨ct_blind, ct_recv hK hP (q0 := 0) (ci := 3) rfl rfl, ct_pc hZ hK hP hD hS hA [0, 1, 2] rfl (by decide)⟩ rfl rfl hl.1 rfl (lv_room (Nat.le_of_ble_eq_true rfl)) dd_R_readKind_9 ⟨Nat.le_of_ble_eq_true rfl, Nat.le_of_ble_eq_true rfl⟩) hK hP hD hS hA [0, 1, 2] [] rfl rfl (by decide) (by decide) (fun r_9 u_9 H locs hw_9 hP hD hS => ?_)
  obtain ⟨hr_9, hu_9⟩ := hw_9
  subst hr_9
  obtain ⟨p_9, n_9⟩ := u_9
  have hP : va_P D classes [(q, .inr (3, [.ref qb, .ref qf, .int (nI p_9), .long n_9, .long ti, .long de, .long va])), (qb, .inr (0, [.ref qw, .int (nI L.length)])), (qw, .inl (cJ, 6250, .inr (.inl w)))] _ := hP
  have hD : va_D A [(q, .inr (3, [.ref qb, .ref qf, .int (nI p_9), .long n_9, .long ti, .long de, .long va])), (qb, .inr (0, [.ref qw, .int (nI L.length)])), (qw, .inl (cJ, 6250, .inr (.inl w)))] := hD
  refine lv_if_ne (tgt := 17) hx hb dd_R_readKind_12 (by decide) (fun c_12 => ?_) (fun c_12 => ?_)
  · skip
    have c_12 : po + 1 ≤ L.length := bI_n.mp c_12
    rw [if_pos c_12] at hu_9
    cases hu_9
    have hP : va_P D classes [(q, .inr (3, [.ref qb, .ref qf, .int (nI (po + 1)), .long (lN (cp_n L po 1)), .long ti, .long de, .long va])), (qb, .inr (0, [.ref qw, .int (nI L.length)])), (qw, .inl (cJ, 6250, .inr (.inl w)))] _ := hP
    have hD : va_D A [(q, .inr (3, [.ref qb, .ref qf, .int (nI (po + 1)), .long (lN (cp_n L po 1)), .long ti, .long de, .long va])), (qb, .inr (0, [.ref qw, .int (nI L.length)])), (qw, .inl (cJ, 6250, .inr (.inl w)))] := hD
    refine lv_aload_n hx hb dd_R_readKind_17 rfl (lv_at hl 1 rfl) ?_
    refine va_get (D := D) (ci := 3) (C := cn_R) (T := cf_R) (N := 7) hx hb hw in_R hown hK hP 0 rfl rfl 3 (by decide) (hw _ wi_388) (fun _ h9 => h9) rfl dd_R_readKind_18 ?_
    refine lv_lconst (v := 0) hx hb dd_R_readKind_21 (by decide) ?_
    refine W.lcmp hx hb dd_R_readKind_22 ?_
    refine lv_if_ne (tgt := 28) hx hb dd_R_readKind_23 (by decide) (fun c_23 => ?_) (fun c_23 => ?_)
    · skip
      have c_23 : ¬ ((lN (cp_n L po 1)) = 0) := fun z => c_23 ((lg_cmp_eq _ _).mpr z)
      refine lv_iinc (v := nI 1) (lv' := [(1, .int (nI 1)), (0, .ref q)]) hx hb dd_R_readKind_28 hl (k := 0) rfl (nI_1 0) (by decide) rfl (fun ls hl => ?_)
      refine lv_goto (tgt := 2) hx hb dd_R_readKind_31 (by decide) ?_
      refine lv_iload_n hx hb dd_R_readKind_2 rfl (lv_at hl 0 rfl) ?_
      refine lv_iconst (v := nI 4) hx hb dd_R_readKind_3 (by decide) ?_
      refine lv_icmp_ge (tgt := 34) hx hb dd_R_readKind_4 (by decide) (fun c_4_1 => ?_) (fun c_4_1 => ?_)
      · skip
        have c_4_1 : 4 ≤ 1 := (nI_leI (by omega) (by omega)).mp c_4_1
        exfalso
        omega
      have c_4_1 : ¬ (4 ≤ 1) := fun z => c_4_1 ((nI_leI (by omega) (by omega)).mpr z)
      refine lv_aload_n hx hb dd_R_readKind_7 rfl (lv_at hl 1 rfl) ?_
      refine lv_iconst (v := nI 1) hx hb dd_R_readKind_8 (by decide) ?_
      refine ct_behind_i (wc := [(q, .inr (3, [.ref qb, .ref qf, .int (nI (po + 1)), .long (lN (cp_n L po 1)), .long ti, .long de, .long va])), (qb, .inr (0, [.ref qw, .int (nI L.length)])), (qw, .inl (cJ, 6250, .inr (.inl w)))]) (wr := []) (av := [.ref q, .int (nI 1)]) (va_runV (As := [.int (nI 1)]) (rest := []) ⟨hx, hb, hml, hown, hw⟩ (cc_R_take l D cJ cB q qb qw qf (po + 1) (lN (cp_n L po 1)) ti de va w L 1 _ hL hR (by omega) (by omega) (by omega)) (cwV 1 hw (tb_V wi_415 wi_417 wi_8 wi_37 wi_418) rfl rfl rfl (by decide +kernel) ⟨Nat.le_of_ble_eq_true rfl, Nat.le_of_ble_eq_true rfl⟩) ⟨ct_blind, ct_recv hK hP (q0 := 0) (ci := 3) rfl rfl, ct_pc hZ hK hP hD hS hA [0, 1, 2] rfl (by decide)⟩ rfl rfl hl.1 rfl (lv_room (Nat.le_of_ble_eq_true rfl)) dd_R_readKind_9 ⟨Nat.le_of_ble_eq_true rfl, Nat.le_of_ble_eq_true rfl⟩) hK hP hD hS hA [0, 1, 2] [] rfl rfl (by decide) (by decide) (fun r_9 u_9 H locs hw_9 hP hD hS => ?_)
      obtain ⟨hr_9, hu_9_1⟩ := hw_9
      subst hr_9
      obtain ⟨p_9_1, n_9_1⟩ := u_9
      have hP : va_P D classes [(q, .inr (3, [.ref qb, .ref qf, .int (nI p_9_1), .long n_9_1, .long ti, .long de, .long va])), (qb, .inr (0, [.ref qw, .int (nI L.length)])), (qw, .inl (cJ, 6250, .inr (.inl w)))] _ := hP
      have hD : va_D A [(q, .inr (3, [.ref qb, .ref qf, .int (nI p_9_1), .long n_9_1, .long ti, .long de, .long va])), (qb, .inr (0, [.ref qw, .int (nI L.length)])), (qw, .inl (cJ, 6250, .inr (.inl w)))] := hD
      refine lv_if_ne (tgt := 17) hx hb dd_R_readKind_12 (by decide) (fun c_12_1 => ?_) (fun c_12_1 => ?_)
      · skip
        have c_12_1 : po + 1 + 1 ≤ L.length := bI_n.mp c_12_1
        rw [if_pos c_12_1] at hu_9_1
        cases hu_9_1
        have hP : va_P D classes [(q, .inr (3, [.ref qb, .ref qf, .int (nI (po + 1 + 1)), .long (lN (cp_n L (po + 1) 1)), .long ti, .long de, .long va])), (qb, .inr (0, [.ref qw, .int (nI L.length)])), (qw, .inl (cJ, 6250, .inr (.inl w)))] _ := hP
        have hD : va_D A [(q, .inr (3, [.ref qb, .ref qf, .int (nI (po + 1 + 1)), .long (lN (cp_n L (po + 1) 1)), .long ti, .long de, .long va])), (qb, .inr (0, [.ref qw, .int (nI L.length)])), (qw, .inl (cJ, 6250, .inr (.inl w)))] := hD
        refine lv_aload_n hx hb dd_R_readKind_17 rfl (lv_at hl 1 rfl) ?_
        refine va_get (D := D) (ci := 3) (C := cn_R) (T := cf_R) (N := 7) hx hb hw in_R hown hK hP 0 rfl rfl 3 (by decide) (hw _ wi_388) (fun _ h9 => h9) rfl dd_R_readKind_18 ?_
        refine lv_lconst (v := 0) hx hb dd_R_readKind_21 (by decide) ?_
        refine W.lcmp hx hb dd_R_readKind_22 ?_
        refine lv_if_ne (tgt := 28) hx hb dd_R_readKind_23 (by decide) (fun c_23_1 => ?_) (fun c_23_1 => ?_)
        · skip
          have c_23_1 : ¬ ((lN (cp_n L (po + 1) 1)) = 0) := fun z => c_23_1 ((lg_cmp_eq _ _).mpr z)
          refine lv_iinc (v := nI 2) (lv' := [(1, .int (nI 2)), (0, .ref q)]) hx hb dd_R_readKind_28 hl (k := 0) rfl (nI_1 1) (by decide) rfl (fun ls hl => ?_)
          refine lv_goto (tgt := 2) hx hb dd_R_readKind_31 (by decide) ?_
          refine lv_iload_n hx hb dd_R_readKind_2 rfl (lv_at hl 0 rfl) ?_
          refine lv_iconst (v := nI 4) hx hb dd_R_readKind_3 (by decide) ?_
          refine lv_icmp_ge (tgt := 34) hx hb dd_R_readKind_4 (by decide) (fun c_4_2 => ?_) (fun c_4_2 => ?_)
          · skip
            have c_4_2 : 4 ≤ 2 := (nI_leI (by omega) (by omega)).mp c_4_2
            exfalso
            omega
          have c_4_2 : ¬ (4 ≤ 2) := fun z => c_4_2 ((nI_leI (by omega) (by omega)).mpr z)
          refine lv_aload_n hx hb dd_R_readKind_7 rfl (lv_at hl 1 rfl) ?_
          refine lv_iconst (v := nI 1) hx hb dd_R_readKind_8 (by decide) ?_
          refine ct_behind_i (wc := [(q, .inr (3, [.ref qb, .ref qf, .int (nI (po + 1 + 1)), .long (lN (cp_n L (po + 1) 1)), .long ti, .long de, .long va])), (qb, .inr (0, [.ref qw, .int (nI L.length)])), (qw, .inl (cJ, 6250, .inr (.inl w)))]) (wr := []) (av := [.ref q, .int (nI 1)]) (va_runV (As := [.int (nI 1)]) (rest := []) ⟨hx, hb, hml, hown, hw⟩ (cc_R_take l D cJ cB q qb qw qf (po + 1 + 1) (lN (cp_n L (po + 1) 1)) ti de va w L 1 _ hL hR (by omega) (by omega) (by omega)) (cwV 1 hw (tb_V wi_415 wi_417 wi_8 wi_37 wi_418) rfl rfl rfl (by decide +kernel) ⟨Nat.le_of_ble_eq_true rfl, Nat.le_of_ble_eq_true rfl⟩) ⟨ct_blind, ct_recv hK hP (q0 := 0) (ci := 3) rfl rfl, ct_pc hZ hK hP hD hS hA [0, 1, 2] rfl (by decide)⟩ rfl rfl hl.1 rfl (lv_room (Nat.le_of_ble_eq_true rfl)) dd_R_readKind_9 ⟨Nat.le_of_ble_eq_true rfl, Nat.le_of_ble_eq_true rfl⟩) hK hP hD hS hA [0, 1, 2] [] rfl rfl (by decide) (by decide) (fun r_9 u_9 H locs hw_9 hP hD hS => ?_)
          obtain ⟨hr_9, hu_9_2⟩ := hw_9
          subst hr_9
          obtain ⟨p_9_2, n_9_2⟩ := u_9
          have hP : va_P D classes [(q, .inr (3, [.ref qb, .ref qf, .int (nI p_9_2), .long n_9_2, .long ti, .long de, .long va])), (qb, .inr (0, [.ref qw, .int (nI L.length)])), (qw, .inl (cJ, 6250, .inr (.inl w)))] _ := hP
          have hD : va_D A [(q, .inr (3, [.ref qb, .ref qf, .int (nI p_9_2), .long n_9_2, .long ti, .long de, .long va])), (qb, .inr (0, [.ref qw, .int (nI L.length)])), (qw, .inl (cJ, 6250, .inr (.inl w)))] := hD
          refine lv_if_ne (tgt := 17) hx hb dd_R_readKind_12 (by decide) (fun c_12_2 => ?_) (fun c_12_2 => ?_)
          · skip
            have c_12_2 : po + 1 + 1 + 1 ≤ L.length := bI_n.mp c_12_2
            rw [if_pos c_12_2] at hu_9_2
            cases hu_9_2
            have hP : va_P D classes [(q, .inr (3, [.ref qb, .ref qf, .int (nI (po + 1 + 1 + 1)), .long (lN (cp_n L (po + 1 + 1) 1)), .long ti, .long de, .long va])), (qb, .inr (0, [.ref qw, .int (nI L.length)])), (qw, .inl (cJ, 6250, .inr (.inl w)))] _ := hP
            have hD : va_D A [(q, .inr (3, [.ref qb, .ref qf, .int (nI (po + 1 + 1 + 1)), .long (lN (cp_n L (po + 1 + 1) 1)), .long ti, .long de, .long va])), (qb, .inr (0, [.ref qw, .int (nI L.length)])), (qw, .inl (cJ, 6250, .inr (.inl w)))] := hD
            refine lv_aload_n hx hb dd_R_readKind_17 rfl (lv_at hl 1 rfl) ?_
            refine va_get (D := D) (ci := 3) (C := cn_R) (T := cf_R) (N := 7) hx hb hw in_R hown hK hP 0 rfl rfl 3 (by decide) (hw _ wi_388) (fun _ h9 => h9) rfl dd_R_readKind_18 ?_
            refine lv_lconst (v := 0) hx hb dd_R_readKind_21 (by decide) ?_
            refine W.lcmp hx hb dd_R_readKind_22 ?_
            refine lv_if_ne (tgt := 28) hx hb dd_R_readKind_23 (by decide) (fun c_23_2 => ?_) (fun c_23_2 => ?_)
            · skip
              have c_23_2 : ¬ ((lN (cp_n L (po + 1 + 1) 1)) = 0) := fun z => c_23_2 ((lg_cmp_eq _ _).mpr z)
              refine lv_iinc (v := nI 3) (lv' := [(1, .int (nI 3)), (0, .ref q)]) hx hb dd_R_readKind_28 hl (k := 0) rfl (nI_1 2) (by decide) rfl (fun ls hl => ?_)
              refine lv_goto (tgt := 2) hx hb dd_R_readKind_31 (by decide) ?_
              refine lv_iload_n hx hb dd_R_readKind_2 rfl (lv_at hl 0 rfl) ?_
              refine lv_iconst (v := nI 4) hx hb dd_R_readKind_3 (by decide) ?_
              refine lv_icmp_ge (tgt := 34) hx hb dd_R_readKind_4 (by decide) (fun c_4_3 => ?_) (fun c_4_3 => ?_)
              · skip
                have c_4_3 : 4 ≤ 3 := (nI_leI (by omega) (by omega)).mp c_4_3
                exfalso
                omega
              have c_4_3 : ¬ (4 ≤ 3) := fun z => c_4_3 ((nI_leI (by omega) (by omega)).mpr z)
              refine lv_aload_n hx hb dd_R_readKind_7 rfl (lv_at hl 1 rfl) ?_
              refine lv_iconst (v := nI 1) hx hb dd_R_readKind_8 (by decide) ?_
              refine ct_behind_i (wc := [(q, .inr (3, [.ref qb, .ref qf, .int (nI (po + 1 + 1 + 1)), .long (lN (cp_n L (po + 1 + 1) 1)), .long ti, .long de, .long va])), (qb, .inr (0, [.ref qw, .int (nI L.length)])), (qw, .inl (cJ, 6250, .inr (.inl w)))]) (wr := []) (av := [.ref q, .int (nI 1)]) (va_runV (As := [.int (nI 1)]) (rest := []) ⟨hx, hb, hml, hown, hw⟩ (cc_R_take l D cJ cB q qb qw qf (po + 1 + 1 + 1) (lN (cp_n L (po + 1 + 1) 1)) ti de va w L 1 _ hL hR (by omega) (by omega) (by omega)) (cwV 1 hw (tb_V wi_415 wi_417 wi_8 wi_37 wi_418) rfl rfl rfl (by decide +kernel) ⟨Nat.le_of_ble_eq_true rfl, Nat.le_of_ble_eq_true rfl⟩) ⟨ct_blind, ct_recv hK hP (q0 := 0) (ci := 3) rfl rfl, ct_pc hZ hK hP hD hS hA [0, 1, 2] rfl (by decide)⟩ rfl rfl hl.1 rfl (lv_room (Nat.le_of_ble_eq_true rfl)) dd_R_readKind_9 ⟨Nat.le_of_ble_eq_true rfl, Nat.le_of_ble_eq_true rfl⟩) hK hP hD hS hA [0, 1, 2] [] rfl rfl (by decide) (by decide) (fun r_9 u_9 H locs hw_9 hP hD hS => ?_)
              obtain ⟨hr_9, hu_9_3⟩ := hw_9
              subst hr_9
              obtain ⟨p_9_3, n_9_3⟩ := u_9
              have hP : va_P D classes [(q, .inr (3, [.ref qb, .ref qf, .int (nI p_9_3), .long n_9_3, .long ti, .long de, .long va])), (qb, .inr (0, [.ref qw, .int (nI L.length)])), (qw, .inl (cJ, 6250, .inr (.inl w)))] _ := hP
              have hD : va_D A [(q, .inr (3, [.ref qb, .ref qf, .int (nI p_9_3), .long n_9_3, .long ti, .long de, .long va])), (qb, .inr (0, [.ref qw, .int (nI L.length)])), (qw, .inl (cJ, 6250, .inr (.inl w)))] := hD
              refine lv_if_ne (tgt := 17) hx hb dd_R_readKind_12 (by decide) (fun c_12_3 => ?_) (fun c_12_3 => ?_)
              · skip
                have c_12_3 : po + 1 + 1 + 1 + 1 ≤ L.length := bI_n.mp c_12_3
                rw [if_pos c_12_3] at hu_9_3
                cases hu_9_3
                have hP : va_P D classes [(q, .inr (3, [.ref qb, .ref qf, .int (nI (po + 1 + 1 + 1 + 1)), .long (lN (cp_n L (po + 1 + 1 + 1) 1)), .long ti, .long de, .long va])), (qb, .inr (0, [.ref qw, .int (nI L.length)])), (qw, .inl (cJ, 6250, .inr (.inl w)))] _ := hP
                have hD : va_D A [(q, .inr (3, [.ref qb, .ref qf, .int (nI (po + 1 + 1 + 1 + 1)), .long (lN (cp_n L (po + 1 + 1 + 1) 1)), .long ti, .long de, .long va])), (qb, .inr (0, [.ref qw, .int (nI L.length)])), (qw, .inl (cJ, 6250, .inr (.inl w)))] := hD
                refine lv_aload_n hx hb dd_R_readKind_17 rfl (lv_at hl 1 rfl) ?_
                refine va_get (D := D) (ci := 3) (C := cn_R) (T := cf_R) (N := 7) hx hb hw in_R hown hK hP 0 rfl rfl 3 (by decide) (hw _ wi_388) (fun _ h9 => h9) rfl dd_R_readKind_18 ?_
                refine lv_lconst (v := 0) hx hb dd_R_readKind_21 (by decide) ?_
                refine W.lcmp hx hb dd_R_readKind_22 ?_
                refine lv_if_ne (tgt := 28) hx hb dd_R_readKind_23 (by decide) (fun c_23_3 => ?_) (fun c_23_3 => ?_)
                · skip
                  have c_23_3 : ¬ ((lN (cp_n L (po + 1 + 1 + 1) 1)) = 0) := fun z => c_23_3 ((lg_cmp_eq _ _).mpr z)
                  refine lv_iinc (v := nI 4) (lv' := [(1, .int (nI 4)), (0, .ref q)]) hx hb dd_R_readKind_28 hl (k := 0) rfl (nI_1 3) (by decide) rfl (fun ls hl => ?_)
                  refine lv_goto (tgt := 2) hx hb dd_R_readKind_31 (by decide) ?_
                  refine lv_iload_n hx hb dd_R_readKind_2 rfl (lv_at hl 0 rfl) ?_
                  refine lv_iconst (v := nI 4) hx hb dd_R_readKind_3 (by decide) ?_
                  refine lv_icmp_ge (tgt := 34) hx hb dd_R_readKind_4 (by decide) (fun c_4_4 => ?_) (fun c_4_4 => ?_)
                  · skip
                    have c_4_4 : 4 ≤ 4 := (nI_leI (by omega) (by omega)).mp c_4_4
                    refine lv_iconst (v := nI 4) hx hb dd_R_readKind_34 (by decide) ?_
                    refine ct_iret (u := (po + 1 + 1 + 1 + 1, lN (cp_n L (po + 1 + 1 + 1) 1))) hx hb hr hlocks hK hP hD hS rfl ?_ dd_R_readKind_35
                    rw [show cp_k L 4 po = _ from ck_s c_12 c_23 (ck_s c_12_1 c_23_1 (ck_s c_12_2 c_23_2 (ck_s c_12_3 c_23_3 (ck_e))))]
                    exact ⟨rfl, rfl⟩
                  have c_4_4 : ¬ (4 ≤ 4) := fun z => c_4_4 ((nI_leI (by omega) (by omega)).mpr z)
                  exfalso
                  omega
                have c_23_3 : (lN (cp_n L (po + 1 + 1 + 1) 1)) = 0 := (lg_cmp_eq _ _).mp c_23_3
                refine lv_iload_n hx hb dd_R_readKind_26 rfl (lv_at hl 0 rfl) ?_
                refine ct_iret (u := (po + 1 + 1 + 1 + 1, lN (cp_n L (po + 1 + 1 + 1) 1))) hx hb hr hlocks hK hP hD hS rfl ?_ dd_R_readKind_27
                rw [show cp_k L 4 po = _ from ck_s c_12 c_23 (ck_s c_12_1 c_23_1 (ck_s c_12_2 c_23_2 (ck_0 c_12_3 c_23_3)))]
                exact ⟨rfl, rfl⟩
              have c_12_3 : ¬ (po + 1 + 1 + 1 + 1 ≤ L.length) := bI_z.mp c_12_3
              rw [if_neg c_12_3] at hu_9_3
              cases hu_9_3
              have hP : va_P D classes [(q, .inr (3, [.ref qb, .ref qf, .int (nI (po + 1 + 1 + 1)), .long (lN (cp_n L (po + 1 + 1) 1)), .long ti, .long de, .long va])), (qb, .inr (0, [.ref qw, .int (nI L.length)])), (qw, .inl (cJ, 6250, .inr (.inl w)))] _ := hP
              have hD : va_D A [(q, .inr (3, [.ref qb, .ref qf, .int (nI (po + 1 + 1 + 1)), .long (lN (cp_n L (po + 1 + 1) 1)), .long ti, .long de, .long va])), (qb, .inr (0, [.ref qw, .int (nI L.length)])), (qw, .inl (cJ, 6250, .inr (.inl w)))] := hD
              refine lv_iconst (v := (-1)) hx hb dd_R_readKind_15 (by decide) ?_
              refine ct_iret (u := (po + 1 + 1 + 1, lN (cp_n L (po + 1 + 1) 1))) hx hb hr hlocks hK hP hD hS rfl ?_ dd_R_readKind_16
              rw [show cp_k L 4 po = _ from ck_s c_12 c_23 (ck_s c_12_1 c_23_1 (ck_s c_12_2 c_23_2 (ck_n c_12_3)))]
              exact ⟨rfl, rfl⟩
            have c_23_2 : (lN (cp_n L (po + 1 + 1) 1)) = 0 := (lg_cmp_eq _ _).mp c_23_2
            refine lv_iload_n hx hb dd_R_readKind_26 rfl (lv_at hl 0 rfl) ?_
            refine ct_iret (u := (po + 1 + 1 + 1, lN (cp_n L (po + 1 + 1) 1))) hx hb hr hlocks hK hP hD hS rfl ?_ dd_R_readKind_27
            rw [show cp_k L 4 po = _ from ck_s c_12 c_23 (ck_s c_12_1 c_23_1 (ck_0 c_12_2 c_23_2))]
            exact ⟨rfl, rfl⟩
          have c_12_2 : ¬ (po + 1 + 1 + 1 ≤ L.length) := bI_z.mp c_12_2
          rw [if_neg c_12_2] at hu_9_2
          cases hu_9_2
          have hP : va_P D classes [(q, .inr (3, [.ref qb, .ref qf, .int (nI (po + 1 + 1)), .long (lN (cp_n L (po + 1) 1)), .long ti, .long de, .long va])), (qb, .inr (0, [.ref qw, .int (nI L.length)])), (qw, .inl (cJ, 6250, .inr (.inl w)))] _ := hP
          have hD : va_D A [(q, .inr (3, [.ref qb, .ref qf, .int (nI (po + 1 + 1)), .long (lN (cp_n L (po + 1) 1)), .long ti, .long de, .long va])), (qb, .inr (0, [.ref qw, .int (nI L.length)])), (qw, .inl (cJ, 6250, .inr (.inl w)))] := hD
          refine lv_iconst (v := (-1)) hx hb dd_R_readKind_15 (by decide) ?_
          refine ct_iret (u := (po + 1 + 1, lN (cp_n L (po + 1) 1))) hx hb hr hlocks hK hP hD hS rfl ?_ dd_R_readKind_16
          rw [show cp_k L 4 po = _ from ck_s c_12 c_23 (ck_s c_12_1 c_23_1 (ck_n c_12_2))]
          exact ⟨rfl, rfl⟩
        have c_23_1 : (lN (cp_n L (po + 1) 1)) = 0 := (lg_cmp_eq _ _).mp c_23_1
        refine lv_iload_n hx hb dd_R_readKind_26 rfl (lv_at hl 0 rfl) ?_
        refine ct_iret (u := (po + 1 + 1, lN (cp_n L (po + 1) 1))) hx hb hr hlocks hK hP hD hS rfl ?_ dd_R_readKind_27
        rw [show cp_k L 4 po = _ from ck_s c_12 c_23 (ck_0 c_12_1 c_23_1)]
        exact ⟨rfl, rfl⟩
      have c_12_1 : ¬ (po + 1 + 1 ≤ L.length) := bI_z.mp c_12_1
      rw [if_neg c_12_1] at hu_9_1
      cases hu_9_1
      have hP : va_P D classes [(q, .inr (3, [.ref qb, .ref qf, .int (nI (po + 1)), .long (lN (cp_n L po 1)), .long ti, .long de, .long va])), (qb, .inr (0, [.ref qw, .int (nI L.length)])), (qw, .inl (cJ, 6250, .inr (.inl w)))] _ := hP
      have hD : va_D A [(q, .inr (3, [.ref qb, .ref qf, .int (nI (po + 1)), .long (lN (cp_n L po 1)), .long ti, .long de, .long va])), (qb, .inr (0, [.ref qw, .int (nI L.length)])), (qw, .inl (cJ, 6250, .inr (.inl w)))] := hD
      refine lv_iconst (v := (-1)) hx hb dd_R_readKind_15 (by decide) ?_
      refine ct_iret (u := (po + 1, lN (cp_n L po 1))) hx hb hr hlocks hK hP hD hS rfl ?_ dd_R_readKind_16
      rw [show cp_k L 4 po = _ from ck_s c_12 c_23 (ck_n c_12_1)]
      exact ⟨rfl, rfl⟩
    have c_23 : (lN (cp_n L po 1)) = 0 := (lg_cmp_eq _ _).mp c_23
    refine lv_iload_n hx hb dd_R_readKind_26 rfl (lv_at hl 0 rfl) ?_
    refine ct_iret (u := (po + 1, lN (cp_n L po 1))) hx hb hr hlocks hK hP hD hS rfl ?_ dd_R_readKind_27
    rw [show cp_k L 4 po = _ from ck_0 c_12 c_23]
    exact ⟨rfl, rfl⟩
  have c_12 : ¬ (po + 1 ≤ L.length) := bI_z.mp c_12
  rw [if_neg c_12] at hu_9
  cases hu_9
  have hP : va_P D classes [(q, .inr (3, [.ref qb, .ref qf, .int (nI po), .long nu, .long ti, .long de, .long va])), (qb, .inr (0, [.ref qw, .int (nI L.length)])), (qw, .inl (cJ, 6250, .inr (.inl w)))] _ := hP
  have hD : va_D A [(q, .inr (3, [.ref qb, .ref qf, .int (nI po), .long nu, .long ti, .long de, .long va])), (qb, .inr (0, [.ref qw, .int (nI L.length)])), (qw, .inl (cJ, 6250, .inr (.inl w)))] := hD
  refine lv_iconst (v := (-1)) hx hb dd_R_readKind_15 (by decide) ?_
  refine ct_iret (u := (po, nu)) hx hb hr hlocks hK hP hD hS rfl ?_ dd_R_readKind_16
  rw [show cp_k L 4 po = _ from ck_n c_12]
  exact ⟨rfl, rfl⟩

set_option maxHeartbeats 4000000 in
set_option maxRecDepth 100000 in
theorem cc_R_withSign (l : Launch) (D : va_G) (cJ cB : ClassId) (a n : Nat) (sz : Nat) (h1 : 0 < n) (h2 : n < 64) (h3 : a < 2 ^ n) : ct_l l my_R_withSign (Cond.code my_R_withSign mb_R_withSign 4 (some .long) :: TB) ({ frames := 0, cells := 0, slots := 0, locals := 0 } : Room) D classes cJ cB [.long (lN a), .int (nI n)] [] sz (fun (r : Int64) (u : Unit) => r = cp_sg n a) (fun u => ([] : va_W)) 0 0 := by
  refine ct_ofW (cc := mb_R_withSign) (maxL := 4) (ret := some .long) (by decide) rfl (Nat.le_of_ble_eq_true rfl) ?_
  intro p e s m below meth c hx hb hr hml hts hown hlocks hin hsz hK hP hD hA hS hZ ls hl
  have hw : ∀ w ∈ TB, w.before _ s = true := fun w h => hts w (List.mem_cons_of_mem _ h)
  have hown : s.vm.findClass cn_R = some m.cls := hown
  have hin : meth.name = "withSign" := hin
  generalize hAe : va_A [] sz = A at hD hA hS hZ ⊢
  clear hAe
  have hl : lv_has ls 4 [(0, .long (lN a)), (2, .int (nI n))] := hl
  have hP : va_P D classes [] s.heap := hP
  refine lv_bipush (v := nI 64) hx hb dd_R_withSign_0 (by decide) ?_
  refine lv_iload_n hx hb dd_R_withSign_2 rfl (lv_at hl 1 rfl) ?_
  refine lv_isub hx hb dd_R_withSign_3 ?_
  refine ct_topi (y := nI (64 - n)) (pk_sub (by omega)) ?_
  refine lv_istore_n (lv' := [(3, .int (nI (64 - n))), (0, .long (lN a)), (2, .int (nI n))]) hx hb dd_R_withSign_4 rfl hl (by decide) rfl (fun ls hl => ?_)
  refine lv_lload_n hx hb dd_R_withSign_5 rfl (lv_at hl 1 rfl) ?_
  refine lv_iload_n hx hb dd_R_withSign_6 rfl (lv_at hl 0 rfl) ?_
  refine lv_lshl (v := (lN a) <<< ((nI (64 - n)).toInt64 &&& 63)) hx hb dd_R_withSign_7 rfl ?_
  refine lv_iload_n hx hb dd_R_withSign_8 rfl (lv_at hl 0 rfl) ?_
  refine lv_lshr (v := ((lN a) <<< ((nI (64 - n)).toInt64 &&& 63)) >>> ((nI (64 - n)).toInt64 &&& 63)) hx hb dd_R_withSign_9 rfl ?_
  refine ct_lret (u := ()) hx hb hr hlocks hK hP hD hS rfl ?_ dd_R_withSign_10
  exact cp_sg_c h1 h2 h3

set_option maxHeartbeats 4000000 in
set_option maxRecDepth 100000 in
theorem cc_R_readTurn (l : Launch) (D : va_G) (cJ cB : ClassId) (q qb qw qf : Nat) (po : Nat) (nu ti de va : Int64) (w : Nat → Int64) (L : List Bool) (sz : Nat) (hL : L.length ≤ 400000) (hR : cp_Rw w L) (hpo : po ≤ L.length) : ct_i l my_R_readTurn (Cond.code my_R_readTurn mb_R_readTurn 3 (some .boolean) :: TB) ({ frames := 3, cells := 0, slots := 0, locals := 68 } : Room) D classes cJ cB [.ref q] [(q, .inr (3, [.ref qb, .ref qf, .int (nI po), .long nu, .long ti, .long de, .long va])), (qb, .inr (0, [.ref qw, .int (nI L.length)])), (qw, .inl (cJ, 6250, .inr (.inl w)))] sz (fun (r : Int32) (u : Nat × Int64 × Int64 × Int64) => (∀ q9, cp_rt L po de = (none, q9) → r = nI 0 ∧ u.1 = q9) ∧ (∀ d9 q9, cp_rt L po de = (some d9, q9) → r = bI (1 ≤ d9 ∧ ti + d9 ≤ cp_max) ∧ u = (q9, u.2.1, ti + d9, d9))) (fun u => [(q, .inr (3, [.ref qb, .ref qf, .int (nI u.1), .long u.2.1, .long u.2.2.1, .long u.2.2.2, .long va])), (qb, .inr (0, [.ref qw, .int (nI L.length)])), (qw, .inl (cJ, 6250, .inr (.inl w)))]) 0 0 := by
  refine ct_ofW (cc := mb_R_readTurn) (maxL := 3) (ret := some .boolean) (by decide) rfl (Nat.le_of_ble_eq_true rfl) ?_
  intro p e s m below meth c hx hb hr hml hts hown hlocks hin hsz hK hP hD hA hS hZ ls hl
  have hw : ∀ w ∈ TB, w.before _ s = true := fun w h => hts w (List.mem_cons_of_mem _ h)
  have hown : s.vm.findClass cn_R = some m.cls := hown
  have hin : meth.name = "readTurn" := hin
  generalize hAe : va_A [(q, .inr (3, [.ref qb, .ref qf, .int (nI po), .long nu, .long ti, .long de, .long va])), (qb, .inr (0, [.ref qw, .int (nI L.length)])), (qw, .inl (cJ, 6250, .inr (.inl w)))] sz = A at hD hA hS hZ ⊢
  clear hAe
  have hl : lv_has ls 3 [(0, .ref q)] := hl
  have hP : va_P D classes [(q, .inr (3, [.ref qb, .ref qf, .int (nI po), .long nu, .long ti, .long de, .long va])), (qb, .inr (0, [.ref qw, .int (nI L.length)])), (qw, .inl (cJ, 6250, .inr (.inl w)))] s.heap := hP
  refine lv_aload_n hx hb dd_R_readTurn_0 rfl (lv_at hl 0 rfl) ?_
  refine ct_behind_i (wc := [(q, .inr (3, [.ref qb, .ref qf, .int (nI po), .long nu, .long ti, .long de, .long va])), (qb, .inr (0, [.ref qw, .int (nI L.length)])), (qw, .inl (cJ, 6250, .inr (.inl w)))]) (wr := []) (av := [.ref q]) (va_runV (As := []) (rest := []) ⟨hx, hb, hml, hown, hw⟩ (cc_R_readKind l D cJ cB q qb qw qf po nu ti de va w L _ hL hR hpo) (cwV 0 hw (tb_V wi_435 wi_437 wi_11 wi_37 wi_438) rfl rfl rfl (by decide +kernel) ⟨Nat.le_of_ble_eq_true rfl, Nat.le_of_ble_eq_true rfl⟩) ⟨ct_blind, ct_recv hK hP (q0 := 0) (ci := 3) rfl rfl, ct_pc hZ hK hP hD hS hA [0, 1, 2] rfl (by decide)⟩ rfl rfl hl.1 rfl (lv_room (Nat.le_of_ble_eq_true rfl)) dd_R_readTurn_1 ⟨Nat.le_of_ble_eq_true rfl, Nat.le_of_ble_eq_true rfl⟩) hK hP hD hS hA [0, 1, 2] [] rfl rfl (by decide) (by decide) (fun r_1 u_1 H locs hw_1 hP hD hS => ?_)
  obtain ⟨hr_1, hu_1⟩ := hw_1
  obtain ⟨kq, kn⟩ := u_1
  have hkq : kq ≤ L.length := by rw [show kq = _ from hu_1]; exact ck_pos L 4 po hpo
  have hP : va_P D classes [(q, .inr (3, [.ref qb, .ref qf, .int (nI kq), .long kn, .long ti, .long de, .long va])), (qb, .inr (0, [.ref qw, .int (nI L.length)])), (qw, .inl (cJ, 6250, .inr (.inl w)))] _ := hP
  have hD : va_D A [(q, .inr (3, [.ref qb, .ref qf, .int (nI kq), .long kn, .long ti, .long de, .long va])), (qb, .inr (0, [.ref qw, .int (nI L.length)])), (qw, .inl (cJ, 6250, .inr (.inl w)))] := hD
  have ek : cp_k L 4 po = ((cp_k L 4 po).1, kq) := by rw [show kq = _ from hu_1]
  rcases hk : (cp_k L 4 po).1 with _ | k
  · skip
    rw [hk] at hr_1 ek
    have hr_1 : r_1 = -1 := hr_1
    subst hr_1
    refine lv_istore_n (lv' := [(1, .int (-1)), (0, .ref q)]) hx hb dd_R_readTurn_4 rfl hl (by decide) rfl (fun ls hl => ?_)
    refine lv_iload_n hx hb dd_R_readTurn_5 rfl (lv_at hl 0 rfl) ?_
    refine lv_iconst (v := (-1)) hx hb dd_R_readTurn_6 (by decide) ?_
    refine lv_icmp_ne (tgt := 12) hx hb dd_R_readTurn_7 (by decide) (fun c_7 => ?_) (fun c_7 => ?_)
    · skip
      exfalso
      first | exact c_7 rfl | exact cp_m1 (by omega) c_7
    refine lv_iconst (v := nI 0) hx hb dd_R_readTurn_10 (by decide) ?_
    refine ct_zret (u := (kq, kn, ti, de)) hx hb hr hlocks (by decide) hK hP hD hS rfl ?_ dd_R_readTurn_11
    have e : cp_rt L po de = _ := rt_n ek
    refine ⟨fun q9 h => ?_, fun d9 q9 h => ?_⟩
    · rw [e] at h
      cases h
      exact ⟨rfl, rfl⟩
    · rw [e] at h
      cases h
  rw [hk] at hr_1 ek
  have hr_1 : r_1 = nI k := hr_1
  subst hr_1
  have hk4 := ck_le L 4 po k kq ek
  refine lv_istore_n (lv' := [(1, .int (nI k)), (0, .ref q)]) hx hb dd_R_readTurn_4 rfl hl (by decide) rfl (fun ls hl => ?_)
  refine lv_iload_n hx hb dd_R_readTurn_5 rfl (lv_at hl 0 rfl) ?_
  refine lv_iconst (v := (-1)) hx hb dd_R_readTurn_6 (by decide) ?_
  refine lv_icmp_ne (tgt := 12) hx hb dd_R_readTurn_7 (by decide) (fun c_7 => ?_) (fun c_7 => ?_)
  · skip
    refine lv_iload_n hx hb dd_R_readTurn_12 rfl (lv_at hl 0 rfl) ?_
    refine lv_if_le (tgt := 49) hx hb dd_R_readTurn_13 (by decide) (fun c_13 => ?_) (fun c_13 => ?_)
    · skip
      have c_13 : k ≤ 0 := (ct_zle (by omega)).mp c_13
      refine lv_aload_n hx hb dd_R_readTurn_49 rfl (lv_at hl 1 rfl) ?_
      refine lv_dup hx hb dd_R_readTurn_50 rfl ?_
      refine va_get (D := D) (ci := 3) (C := cn_R) (T := cf_R) (N := 7) hx hb hw in_R hown hK hP 0 rfl rfl 4 (by decide) (hw _ wi_389) (fun _ h9 => h9) rfl dd_R_readTurn_51 ?_
      refine lv_aload_n hx hb dd_R_readTurn_54 rfl (lv_at hl 1 rfl) ?_
      refine va_get (D := D) (ci := 3) (C := cn_R) (T := cf_R) (N := 7) hx hb hw in_R hown hK hP 0 rfl rfl 5 (by decide) (hw _ wi_390) (fun _ h9 => h9) rfl dd_R_readTurn_55 ?_
      refine lv_ladd hx hb dd_R_readTurn_58 ?_
      refine va_put (D := D) (ci := 3) (v := .long (ti + de)) (ty := .long) (C := cn_R) (T := cf_R) (N := 7) hx hb hw in_R ty_R to_R nn_R hown hK hP hD hS 0 rfl rfl 4 (by decide) (hw _ wi_389) (fun _ h9 => h9) rfl (by decide +kernel) (rfl) (rfl) (Nat.le_of_ble_eq_true rfl) dd_R_readTurn_59 (fun H locs hP hD hS => ?_)
      have hP : va_P D classes [(q, .inr (3, [.ref qb, .ref qf, .int (nI kq), .long kn, .long (ti + de), .long de, .long va])), (qb, .inr (0, [.ref qw, .int (nI L.length)])), (qw, .inl (cJ, 6250, .inr (.inl w)))] _ := hP
      have hD : va_D A [(q, .inr (3, [.ref qb, .ref qf, .int (nI kq), .long kn, .long (ti + de), .long de, .long va])), (qb, .inr (0, [.ref qw, .int (nI L.length)])), (qw, .inl (cJ, 6250, .inr (.inl w)))] := hD
      refine lv_aload_n hx hb dd_R_readTurn_62 rfl (lv_at hl 1 rfl) ?_
      refine va_get (D := D) (ci := 3) (C := cn_R) (T := cf_R) (N := 7) hx hb hw in_R hown hK hP 0 rfl rfl 5 (by decide) (hw _ wi_390) (fun _ h9 => h9) rfl dd_R_readTurn_63 ?_
      refine lv_lconst (v := 1) hx hb dd_R_readTurn_66 (by decide) ?_
      refine W.lcmp hx hb dd_R_readTurn_67 ?_
      refine lv_if_lt (tgt := 86) hx hb dd_R_readTurn_68 (by decide) (fun c_68 => ?_) (fun c_68 => ?_)
      · skip
        have c_68 : de < 1 := (lg_cmp_lt _ _).mp c_68
        refine lv_iconst (v := nI 0) hx hb dd_R_readTurn_86 (by decide) ?_
        refine ct_zret (u := (kq, kn, ti + de, de)) hx hb hr hlocks (by decide) hK hP hD hS rfl ?_ dd_R_readTurn_87
        have e : cp_rt L po de = _ := rt_0 ek c_13
        refine ⟨fun q9 h => ?_, fun d9 q9 h => ?_⟩
        · rw [e] at h
          cases h
        · rw [e] at h
          cases h
          exact ⟨bI_f (fun z => absurd z.1 (Int64.not_le.mpr c_68)), rfl⟩
      have c_68 : ¬ (de < 1) := fun z => c_68 ((lg_cmp_lt _ _).mpr z)
      refine lv_aload_n hx hb dd_R_readTurn_71 rfl (lv_at hl 1 rfl) ?_
      refine va_get (D := D) (ci := 3) (C := cn_R) (T := cf_R) (N := 7) hx hb hw in_R hown hK hP 0 rfl rfl 4 (by decide) (hw _ wi_389) (fun _ h9 => h9) rfl dd_R_readTurn_72 ?_
      refine lv_ldc2 (v := 1099511627775) hx hb hown (hw _ wi_443) dd_R_readTurn_75 ?_
      refine W.lcmp hx hb dd_R_readTurn_78 ?_
      refine lv_if_gt (tgt := 86) hx hb dd_R_readTurn_79 (by decide) (fun c_79 => ?_) (fun c_79 => ?_)
      · skip
        have c_79 : 1099511627775 < (ti + de) := (lg_cmp_gt _ _).mp c_79
        refine lv_iconst (v := nI 0) hx hb dd_R_readTurn_86 (by decide) ?_
        refine ct_zret (u := (kq, kn, ti + de, de)) hx hb hr hlocks (by decide) hK hP hD hS rfl ?_ dd_R_readTurn_87
        have e : cp_rt L po de = _ := rt_0 ek c_13
        refine ⟨fun q9 h => ?_, fun d9 q9 h => ?_⟩
        · rw [e] at h
          cases h
        · rw [e] at h
          cases h
          exact ⟨bI_f (fun z => absurd z.2 (Int64.not_le.mpr c_79)), rfl⟩
      have c_79 : ¬ (1099511627775 < (ti + de)) := fun z => c_79 ((lg_cmp_gt _ _).mpr z)
      refine lv_iconst (v := nI 1) hx hb dd_R_readTurn_82 (by decide) ?_
      refine lv_goto (tgt := 87) hx hb dd_R_readTurn_83 (by decide) ?_
      refine ct_zret (u := (kq, kn, ti + de, de)) hx hb hr hlocks (by decide) hK hP hD hS rfl ?_ dd_R_readTurn_87
      have e : cp_rt L po de = _ := rt_0 ek c_13
      refine ⟨fun q9 h => ?_, fun d9 q9 h => ?_⟩
      · rw [e] at h
        cases h
      · rw [e] at h
        cases h
        exact ⟨bI_t ⟨Int64.not_lt.mp c_68, Int64.not_lt.mp c_79⟩, rfl⟩
    have c_13 : ¬ (k ≤ 0) := fun z => c_13 ((ct_zle (by omega)).mpr z)
    obtain ⟨tq, hTz, hTt⟩ := id hZ.2.1
    refine va_getsN (C := cn_X) (v := .ref tq) hx hb hTz hS hown (va_Nw.use rfl (hZ.2.2.1 (.fieldLinkNest cn_R 76 cn_X "TURN_BITS" "[I" cn_X) (by decide +kernel))) (fun _ h9 => h9) dd_R_readTurn_16 ?_
    refine lv_iload_n hx hb dd_R_readTurn_19 rfl (lv_at hl 0 rfl) ?_
    refine va_ti (v := .int (nI (cp_tb k))) hx hb hTt hS (vp_in_nI (by omega) (by decide)) (congrArg (fun z => Value.int (nI (cp_tb z))) (nI_clamp (by omega))) dd_R_readTurn_20 ?_
    refine lv_istore_n (lv' := [(2, .int (nI (cp_tb k))), (1, .int (nI k)), (0, .ref q)]) hx hb dd_R_readTurn_21 rfl hl (by decide) rfl (fun ls hl => ?_)
    refine lv_aload_n hx hb dd_R_readTurn_22 rfl (lv_at hl 2 rfl) ?_
    refine lv_iload_n hx hb dd_R_readTurn_23 rfl (lv_at hl 0 rfl) ?_
    refine ct_behind_i (wc := [(q, .inr (3, [.ref qb, .ref qf, .int (nI kq), .long kn, .long ti, .long de, .long va])), (qb, .inr (0, [.ref qw, .int (nI L.length)])), (qw, .inl (cJ, 6250, .inr (.inl w)))]) (wr := []) (av := [.ref q, .int (nI (cp_tb k))]) (va_runV (As := [.int (nI (cp_tb k))]) (rest := []) ⟨hx, hb, hml, hown, hw⟩ (cc_R_take l D cJ cB q qb qw qf kq kn ti de va w L (cp_tb k) _ hL hR (by omega) (cp_tb_pos (by omega)) (by have := cp_tb_le k; omega)) (cwV 1 hw (tb_V wi_415 wi_417 wi_8 wi_37 wi_418) rfl rfl rfl (by decide +kernel) ⟨Nat.le_of_ble_eq_true rfl, Nat.le_of_ble_eq_true rfl⟩) ⟨ct_blind, ct_recv hK hP (q0 := 0) (ci := 3) rfl rfl, ct_pc hZ hK hP hD hS hA [0, 1, 2] rfl (by decide)⟩ rfl rfl hl.1 rfl (lv_room (Nat.le_of_ble_eq_true rfl)) dd_R_readTurn_24 ⟨Nat.le_of_ble_eq_true rfl, Nat.le_of_ble_eq_true rfl⟩) hK hP hD hS hA [0, 1, 2] [] rfl rfl (by decide) (by decide) (fun r_24 u_24 H locs hw_24 hP hD hS => ?_)
    obtain ⟨hr_24, hu_24⟩ := hw_24
    subst hr_24
    obtain ⟨p_24, n_24⟩ := u_24
    have hP : va_P D classes [(q, .inr (3, [.ref qb, .ref qf, .int (nI p_24), .long n_24, .long ti, .long de, .long va])), (qb, .inr (0, [.ref qw, .int (nI L.length)])), (qw, .inl (cJ, 6250, .inr (.inl w)))] _ := hP
    have hD : va_D A [(q, .inr (3, [.ref qb, .ref qf, .int (nI p_24), .long n_24, .long ti, .long de, .long va])), (qb, .inr (0, [.ref qw, .int (nI L.length)])), (qw, .inl (cJ, 6250, .inr (.inl w)))] := hD
    refine lv_if_ne (tgt := 32) hx hb dd_R_readTurn_27 (by decide) (fun c_27 => ?_) (fun c_27 => ?_)
    · skip
      have c_27 : kq + (cp_tb k) ≤ L.length := bI_n.mp c_27
      rw [if_pos c_27] at hu_24
      cases hu_24
      have hP : va_P D classes [(q, .inr (3, [.ref qb, .ref qf, .int (nI (kq + (cp_tb k))), .long (lN (cp_n L kq (cp_tb k))), .long ti, .long de, .long va])), (qb, .inr (0, [.ref qw, .int (nI L.length)])), (qw, .inl (cJ, 6250, .inr (.inl w)))] _ := hP
      have hD : va_D A [(q, .inr (3, [.ref qb, .ref qf, .int (nI (kq + (cp_tb k))), .long (lN (cp_n L kq (cp_tb k))), .long ti, .long de, .long va])), (qb, .inr (0, [.ref qw, .int (nI L.length)])), (qw, .inl (cJ, 6250, .inr (.inl w)))] := hD
      refine lv_aload_n hx hb dd_R_readTurn_32 rfl (lv_at hl 2 rfl) ?_
      refine lv_dup hx hb dd_R_readTurn_33 rfl ?_
      refine va_get (D := D) (ci := 3) (C := cn_R) (T := cf_R) (N := 7) hx hb hw in_R hown hK hP 0 rfl rfl 5 (by decide) (hw _ wi_390) (fun _ h9 => h9) rfl dd_R_readTurn_34 ?_
      refine lv_aload_n hx hb dd_R_readTurn_37 rfl (lv_at hl 2 rfl) ?_
      refine va_get (D := D) (ci := 3) (C := cn_R) (T := cf_R) (N := 7) hx hb hw in_R hown hK hP 0 rfl rfl 3 (by decide) (hw _ wi_388) (fun _ h9 => h9) rfl dd_R_readTurn_38 ?_
      refine lv_iload_n hx hb dd_R_readTurn_41 rfl (lv_at hl 0 rfl) ?_
      refine ct_behind_l (wc := []) (wr := [(q, .inr (3, [.ref qb, .ref qf, .int (nI (kq + (cp_tb k))), .long (lN (cp_n L kq (cp_tb k))), .long ti, .long de, .long va])), (qb, .inr (0, [.ref qw, .int (nI L.length)])), (qw, .inl (cJ, 6250, .inr (.inl w)))]) (av := [.long (lN (cp_n L kq (cp_tb k))), .int (nI (cp_tb k))]) (va_runS (As := [.long (lN (cp_n L kq (cp_tb k))), .int (nI (cp_tb k))]) (rest := [.long de, .ref q]) ⟨hx, hb, hml, hown, hw⟩ (cc_R_withSign l D cJ cB (cp_n L kq (cp_tb k)) (cp_tb k) _ (cp_tb_pos (by omega)) (by have := cp_tb_le k; omega) (cp_n_lt _ _ _)) (va_cwS 2 hw (tb_S wi_440 wi_441 wi_37 wi_442) rfl rfl rfl (by decide +kernel) ⟨Nat.le_of_ble_eq_true rfl, Nat.le_of_ble_eq_true rfl⟩) ⟨ct_blind, ct_pc hZ hK hP hD hS hA [] rfl (by decide)⟩ rfl rfl hl.1 rfl (lv_room (Nat.le_of_ble_eq_true rfl)) dd_R_readTurn_42 ⟨Nat.le_of_ble_eq_true rfl, Nat.le_of_ble_eq_true rfl⟩) hK hP hD hS hA [] [0, 1, 2] rfl rfl (by decide) (by decide) (fun r_42 u_42 H locs hw_42 hP hD hS => ?_)
      subst hw_42
      have hP : va_P D classes [(q, .inr (3, [.ref qb, .ref qf, .int (nI (kq + (cp_tb k))), .long (lN (cp_n L kq (cp_tb k))), .long ti, .long de, .long va])), (qb, .inr (0, [.ref qw, .int (nI L.length)])), (qw, .inl (cJ, 6250, .inr (.inl w)))] _ := hP
      have hD : va_D A [(q, .inr (3, [.ref qb, .ref qf, .int (nI (kq + (cp_tb k))), .long (lN (cp_n L kq (cp_tb k))), .long ti, .long de, .long va])), (qb, .inr (0, [.ref qw, .int (nI L.length)])), (qw, .inl (cJ, 6250, .inr (.inl w)))] := hD
      refine lv_ladd hx hb dd_R_readTurn_45 ?_
      refine va_put (D := D) (ci := 3) (v := .long (de + (cp_sg (cp_tb k) (cp_n L kq (cp_tb k))))) (ty := .long) (C := cn_R) (T := cf_R) (N := 7) hx hb hw in_R ty_R to_R nn_R hown hK hP hD hS 0 rfl rfl 5 (by decide) (hw _ wi_390) (fun _ h9 => h9) rfl (by decide +kernel) (rfl) (rfl) (Nat.le_of_ble_eq_true rfl) dd_R_readTurn_46 (fun H locs hP hD hS => ?_)
      have hP : va_P D classes [(q, .inr (3, [.ref qb, .ref qf, .int (nI (kq + (cp_tb k))), .long (lN (cp_n L kq (cp_tb k))), .long ti, .long (de + (cp_sg (cp_tb k) (cp_n L kq (cp_tb k)))), .long va])), (qb, .inr (0, [.ref qw, .int (nI L.length)])), (qw, .inl (cJ, 6250, .inr (.inl w)))] _ := hP
      have hD : va_D A [(q, .inr (3, [.ref qb, .ref qf, .int (nI (kq + (cp_tb k))), .long (lN (cp_n L kq (cp_tb k))), .long ti, .long (de + (cp_sg (cp_tb k) (cp_n L kq (cp_tb k)))), .long va])), (qb, .inr (0, [.ref qw, .int (nI L.length)])), (qw, .inl (cJ, 6250, .inr (.inl w)))] := hD
      refine lv_aload_n hx hb dd_R_readTurn_49 rfl (lv_at hl 2 rfl) ?_
      refine lv_dup hx hb dd_R_readTurn_50 rfl ?_
      refine va_get (D := D) (ci := 3) (C := cn_R) (T := cf_R) (N := 7) hx hb hw in_R hown hK hP 0 rfl rfl 4 (by decide) (hw _ wi_389) (fun _ h9 => h9) rfl dd_R_readTurn_51 ?_
      refine lv_aload_n hx hb dd_R_readTurn_54 rfl (lv_at hl 2 rfl) ?_
      refine va_get (D := D) (ci := 3) (C := cn_R) (T := cf_R) (N := 7) hx hb hw in_R hown hK hP 0 rfl rfl 5 (by decide) (hw _ wi_390) (fun _ h9 => h9) rfl dd_R_readTurn_55 ?_
      refine lv_ladd hx hb dd_R_readTurn_58 ?_
      refine va_put (D := D) (ci := 3) (v := .long (ti + (de + (cp_sg (cp_tb k) (cp_n L kq (cp_tb k)))))) (ty := .long) (C := cn_R) (T := cf_R) (N := 7) hx hb hw in_R ty_R to_R nn_R hown hK hP hD hS 0 rfl rfl 4 (by decide) (hw _ wi_389) (fun _ h9 => h9) rfl (by decide +kernel) (rfl) (rfl) (Nat.le_of_ble_eq_true rfl) dd_R_readTurn_59 (fun H locs hP hD hS => ?_)
      have hP : va_P D classes [(q, .inr (3, [.ref qb, .ref qf, .int (nI (kq + (cp_tb k))), .long (lN (cp_n L kq (cp_tb k))), .long (ti + (de + (cp_sg (cp_tb k) (cp_n L kq (cp_tb k))))), .long (de + (cp_sg (cp_tb k) (cp_n L kq (cp_tb k)))), .long va])), (qb, .inr (0, [.ref qw, .int (nI L.length)])), (qw, .inl (cJ, 6250, .inr (.inl w)))] _ := hP
      have hD : va_D A [(q, .inr (3, [.ref qb, .ref qf, .int (nI (kq + (cp_tb k))), .long (lN (cp_n L kq (cp_tb k))), .long (ti + (de + (cp_sg (cp_tb k) (cp_n L kq (cp_tb k))))), .long (de + (cp_sg (cp_tb k) (cp_n L kq (cp_tb k)))), .long va])), (qb, .inr (0, [.ref qw, .int (nI L.length)])), (qw, .inl (cJ, 6250, .inr (.inl w)))] := hD
      refine lv_aload_n hx hb dd_R_readTurn_62 rfl (lv_at hl 2 rfl) ?_
      refine va_get (D := D) (ci := 3) (C := cn_R) (T := cf_R) (N := 7) hx hb hw in_R hown hK hP 0 rfl rfl 5 (by decide) (hw _ wi_390) (fun _ h9 => h9) rfl dd_R_readTurn_63 ?_
      refine lv_lconst (v := 1) hx hb dd_R_readTurn_66 (by decide) ?_
      refine W.lcmp hx hb dd_R_readTurn_67 ?_
      refine lv_if_lt (tgt := 86) hx hb dd_R_readTurn_68 (by decide) (fun c_68 => ?_) (fun c_68 => ?_)
      · skip
        have c_68 : (de + (cp_sg (cp_tb k) (cp_n L kq (cp_tb k)))) < 1 := (lg_cmp_lt _ _).mp c_68
        refine lv_iconst (v := nI 0) hx hb dd_R_readTurn_86 (by decide) ?_
        refine ct_zret (u := (kq + (cp_tb k), lN (cp_n L kq (cp_tb k)), ti + (de + (cp_sg (cp_tb k) (cp_n L kq (cp_tb k)))), de + (cp_sg (cp_tb k) (cp_n L kq (cp_tb k))))) hx hb hr hlocks (by decide) hK hP hD hS rfl ?_ dd_R_readTurn_87
        have e : cp_rt L po de = _ := rt_s ek c_13 c_27
        refine ⟨fun q9 h => ?_, fun d9 q9 h => ?_⟩
        · rw [e] at h
          cases h
        · rw [e] at h
          cases h
          exact ⟨bI_f (fun z => absurd z.1 (Int64.not_le.mpr c_68)), rfl⟩
      have c_68 : ¬ ((de + (cp_sg (cp_tb k) (cp_n L kq (cp_tb k)))) < 1) := fun z => c_68 ((lg_cmp_lt _ _).mpr z)
      refine lv_aload_n hx hb dd_R_readTurn_71 rfl (lv_at hl 2 rfl) ?_
      refine va_get (D := D) (ci := 3) (C := cn_R) (T := cf_R) (N := 7) hx hb hw in_R hown hK hP 0 rfl rfl 4 (by decide) (hw _ wi_389) (fun _ h9 => h9) rfl dd_R_readTurn_72 ?_
      refine lv_ldc2 (v := 1099511627775) hx hb hown (hw _ wi_443) dd_R_readTurn_75 ?_
      refine W.lcmp hx hb dd_R_readTurn_78 ?_
      refine lv_if_gt (tgt := 86) hx hb dd_R_readTurn_79 (by decide) (fun c_79 => ?_) (fun c_79 => ?_)
      · skip
        have c_79 : 1099511627775 < (ti + (de + (cp_sg (cp_tb k) (cp_n L kq (cp_tb k))))) := (lg_cmp_gt _ _).mp c_79
        refine lv_iconst (v := nI 0) hx hb dd_R_readTurn_86 (by decide) ?_
        refine ct_zret (u := (kq + (cp_tb k), lN (cp_n L kq (cp_tb k)), ti + (de + (cp_sg (cp_tb k) (cp_n L kq (cp_tb k)))), de + (cp_sg (cp_tb k) (cp_n L kq (cp_tb k))))) hx hb hr hlocks (by decide) hK hP hD hS rfl ?_ dd_R_readTurn_87
        have e : cp_rt L po de = _ := rt_s ek c_13 c_27
        refine ⟨fun q9 h => ?_, fun d9 q9 h => ?_⟩
        · rw [e] at h
          cases h
        · rw [e] at h
          cases h
          exact ⟨bI_f (fun z => absurd z.2 (Int64.not_le.mpr c_79)), rfl⟩
      have c_79 : ¬ (1099511627775 < (ti + (de + (cp_sg (cp_tb k) (cp_n L kq (cp_tb k)))))) := fun z => c_79 ((lg_cmp_gt _ _).mpr z)
      refine lv_iconst (v := nI 1) hx hb dd_R_readTurn_82 (by decide) ?_
      refine lv_goto (tgt := 87) hx hb dd_R_readTurn_83 (by decide) ?_
      refine ct_zret (u := (kq + (cp_tb k), lN (cp_n L kq (cp_tb k)), ti + (de + (cp_sg (cp_tb k) (cp_n L kq (cp_tb k)))), de + (cp_sg (cp_tb k) (cp_n L kq (cp_tb k))))) hx hb hr hlocks (by decide) hK hP hD hS rfl ?_ dd_R_readTurn_87
      have e : cp_rt L po de = _ := rt_s ek c_13 c_27
      refine ⟨fun q9 h => ?_, fun d9 q9 h => ?_⟩
      · rw [e] at h
        cases h
      · rw [e] at h
        cases h
        exact ⟨bI_t ⟨Int64.not_lt.mp c_68, Int64.not_lt.mp c_79⟩, rfl⟩
    have c_27 : ¬ (kq + (cp_tb k) ≤ L.length) := bI_z.mp c_27
    rw [if_neg c_27] at hu_24
    cases hu_24
    have hP : va_P D classes [(q, .inr (3, [.ref qb, .ref qf, .int (nI kq), .long kn, .long ti, .long de, .long va])), (qb, .inr (0, [.ref qw, .int (nI L.length)])), (qw, .inl (cJ, 6250, .inr (.inl w)))] _ := hP
    have hD : va_D A [(q, .inr (3, [.ref qb, .ref qf, .int (nI kq), .long kn, .long ti, .long de, .long va])), (qb, .inr (0, [.ref qw, .int (nI L.length)])), (qw, .inl (cJ, 6250, .inr (.inl w)))] := hD
    refine lv_iconst (v := nI 0) hx hb dd_R_readTurn_30 (by decide) ?_
    refine ct_zret (u := (kq, kn, ti, de)) hx hb hr hlocks (by decide) hK hP hD hS rfl ?_ dd_R_readTurn_31
    have e : cp_rt L po de = _ := rt_f ek c_13 c_27
    refine ⟨fun q9 h => ?_, fun d9 q9 h => ?_⟩
    · rw [e] at h
      cases h
      exact ⟨rfl, rfl⟩
    · rw [e] at h
      cases h
  exfalso
  first | exact c_7 rfl | exact cp_m1 (by omega) c_7
