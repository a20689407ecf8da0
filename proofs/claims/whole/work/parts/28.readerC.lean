/-! reading points one after another -/
section RN
variable {L : List Bool} {po q9 : Nat} {ti de va d : Int64} {z n : Nat}
theorem rn_n (e : cp_rt L po de = (none, q9)) : cp_rn L (true, po, ti, de, va, z, n) = (false, q9, ti, de, va, z, n) := by unfold cp_rn; rw [e]
theorem rn_f (e : cp_rt L po de = (some d, q9)) (h : ¬ (1 ≤ d ∧ ti + d ≤ cp_max)) : cp_rn L (true, po, ti, de, va, z, n) = (false, q9, ti, de, va, z, n) := by
  unfold cp_rn; rw [e]
  show (if 1 ≤ d ∧ ti + d ≤ cp_max then _ else _) = _
  rw [if_neg h]
theorem rn_s (e : cp_rt L po de = (some d, q9)) (h : 1 ≤ d ∧ ti + d ≤ cp_max) : cp_rn L (true, po, ti, de, va, z, n) = cp_rv L q9 (ti + d) d va z n := by
  unfold cp_rn; rw [e]
  show (if 1 ≤ d ∧ ti + d ≤ cp_max then _ else _) = _
  rw [if_pos h]
end RN
theorem rv_td {L : List Bool} {p : Nat} {t d v : Int64} {z n : Nat} (h : (cp_rv L p t d v z n).1 = true) : (cp_rv L p t d v z n).2.2.1 = t ∧ (cp_rv L p t d v z n).2.2.2.1 = d := by
  have rd : ∀ (p z n : Nat), (cp_rd L p t d v z n).2.2.1 = t ∧ (cp_rd L p t d v z n).2.2.2.1 = d := by
    intro p z n
    by_cases c : p + n ≤ L.length
    · rw [rd_ok c]; exact ⟨rfl, rfl⟩
    · rw [rd_no c]; exact ⟨rfl, rfl⟩
  by_cases c : p + 1 ≤ L.length
  · by_cases hb : lN (cp_n L p 1) = 0
    · rw [rv_1 c hb]; exact ⟨rfl, rfl⟩
    · by_cases c2 : p + 1 + 1 ≤ L.length
      · by_cases hc : lN (cp_n L (p + 1) 1) = 0
        · by_cases hn : 0 < n
          · rw [rv_4 c hb c2 hc hn]; exact rd _ _ _
          · rw [rv_3 c hb c2 hc hn]; exact ⟨rfl, rfl⟩
        · by_cases hf : (cp_rf L (p + 1 + 1)).1 = true
          · rw [rv_5 c hb c2 hc hf]; exact rd _ _ _
          · rw [rv_6 c hb c2 hc hf]; exact ⟨rfl, rfl⟩
      · rw [rv_2 c hb c2]; exact ⟨rfl, rfl⟩
  · rw [rv_0 c]; exact ⟨rfl, rfl⟩
theorem r1_ok {L : List Bool} (h : (cp_r1 L).1 = true) : (cp_r1 L).2.2.2.1 = 0 ∧ (cp_r1 L).2.2.2.2.2.1 = 0 ∧ (cp_r1 L).2.2.2.2.2.2 = 0 := by
  unfold cp_r1
  by_cases c : 40 ≤ L.length
  · rw [if_pos c]
    by_cases d : 104 ≤ L.length
    · rw [if_pos d]; exact ⟨rfl, rfl, rfl⟩
    · rw [if_neg d]; exact ⟨rfl, rfl, rfl⟩
  · rw [if_neg c]; exact ⟨rfl, rfl, rfl⟩
theorem ru_1 (L : List Bool) : cp_ru L 1 = cp_r1 L := ru_s (i := 0) rfl
theorem ru_ext {L : List Bool} {i : Nat} {f g : Nat → Int64} (h : ∀ j, j < i → f j = (cp_ru L (j + 1)).2.2.1 ∧ g j = (cp_ru L (j + 1)).2.2.2.2.1) : ∀ j, j < i + 1 → vp_updL f i (cp_ru L (i + 1)).2.2.1 j = (cp_ru L (j + 1)).2.2.1 ∧ vp_updL g i (cp_ru L (i + 1)).2.2.2.2.1 j = (cp_ru L (j + 1)).2.2.2.2.1 := by
  intro j hj
  by_cases c : j = i
  · subst c; exact ⟨pk_uLs, pk_uLs⟩
  · rw [pk_uLn c, pk_uLn c]; exact h j (by omega)
theorem ru_eta {L : List Bool} {i : Nat} (h : (cp_ru L i).1 = true) : (true, (cp_ru L i).2.1, (cp_ru L i).2.2.1, (cp_ru L i).2.2.2.1, (cp_ru L i).2.2.2.2.1, (cp_ru L i).2.2.2.2.2.1, (cp_ru L i).2.2.2.2.2.2) = cp_ru L i := by rw [← h]

set_option maxHeartbeats 4000000 in
set_option maxRecDepth 100000 in
theorem cc_R_readNext (l : Launch) (D : va_G) (cJ cB : ClassId) (q qb qw qf : Nat) (po : Nat) (nu ti de va : Int64) (w : Nat → Int64) (L : List Bool) (z n : Nat) (sz : Nat) (hL : L.length ≤ 400000) (hR : cp_Rw w L) (hpo : po ≤ L.length) (hzn : z + n ≤ 64) : ct_i l my_R_readNext (Cond.code my_R_readNext mb_R_readNext 1 (some .boolean) :: TB) ({ frames := 4, cells := 0, slots := 0, locals := 90 } : Room) D classes cJ cB [.ref q] [(q, .inr (3, [.ref qb, .ref qf, .int (nI po), .long nu, .long ti, .long de, .long va])), (qb, .inr (0, [.ref qw, .int (nI L.length)])), (qw, .inl (cJ, 6250, .inr (.inl w))), (qf, .inr (1, [.int (nI z), .int (nI n)]))] sz (fun (r : Int32) (u : Nat × Int64 × Int64 × Int64 × Int64 × Nat × Nat) => r = bI ((cp_rn L (true, po, ti, de, va, z, n)).1 = true) ∧ u.1 = (cp_rn L (true, po, ti, de, va, z, n)).2.1 ∧ ((cp_rn L (true, po, ti, de, va, z, n)).1 = true → u.2.2.1 = (cp_rn L (true, po, ti, de, va, z, n)).2.2.1 ∧ u.2.2.2.1 = (cp_rn L (true, po, ti, de, va, z, n)).2.2.2.1 ∧ u.2.2.2.2.1 = (cp_rn L (true, po, ti, de, va, z, n)).2.2.2.2.1 ∧ u.2.2.2.2.2.1 = (cp_rn L (true, po, ti, de, va, z, n)).2.2.2.2.2.1 ∧ u.2.2.2.2.2.2 = (cp_rn L (true, po, ti, de, va, z, n)).2.2.2.2.2.2)) (fun u => [(q, .inr (3, [.ref qb, .ref qf, .int (nI u.1), .long u.2.1, .long u.2.2.1, .long u.2.2.2.1, .long u.2.2.2.2.1])), (qb, .inr (0, [.ref qw, .int (nI L.length)])), (qw, .inl (cJ, 6250, .inr (.inl w))), (qf, .inr (1, [.int (nI u.2.2.2.2.2.1), .int (nI u.2.2.2.2.2.2)]))]) 0 0 := by
  refine ct_ofW (cc := mb_R_readNext) (maxL := 1) (ret := some .boolean) (by decide) rfl (Nat.le_of_ble_eq_true rfl) ?_
  intro p e s m below meth c hx hb hr hml hts hown hlocks hin hsz hK hP hD hA hS hZ ls hl
  have hw : ∀ w ∈ TB, w.before _ s = true := fun w h => hts w (List.mem_cons_of_mem _ h)
  have hown : s.vm.findClass cn_R = some m.cls := hown
  have hin : meth.name = "readNext" := hin
  generalize hAe : va_A [(q, .inr (3, [.ref qb, .ref qf, .int (nI po), .long nu, .long ti, .long de, .long va])), (qb, .inr (0, [.ref qw, .int (nI L.length)])), (qw, .inl (cJ, 6250, .inr (.inl w))), (qf, .inr (1, [.int (nI z), .int (nI n)]))] sz = A at hD hA hS hZ ⊢
  clear hAe
  have hl : lv_has ls 1 [(0, .ref q)] := hl
  have hP : va_P D classes [(q, .inr (3, [.ref qb, .ref qf, .int (nI po), .long nu, .long ti, .long de, .long va])), (qb, .inr (0, [.ref qw, .int (nI L.length)])), (qw, .inl (cJ, 6250, .inr (.inl w))), (qf, .inr (1, [.int (nI z), .int (nI n)]))] s.heap := hP
  refine lv_aload_n hx hb dd_R_readNext_0 rfl (lv_at hl 0 rfl) ?_
  refine ct_behind_i (wc := [(q, .inr (3, [.ref qb, .ref qf, .int (nI po), .long nu, .long ti, .long de, .long va])), (qb, .inr (0, [.ref qw, .int (nI L.length)])), (qw, .inl (cJ, 6250, .inr (.inl w)))]) (wr := [(qf, .inr (1, [.int (nI z), .int (nI n)]))]) (av := [.ref q]) (va_runV (As := []) (rest := []) ⟨hx, hb, hml, hown, hw⟩ (cc_R_readTurn l D cJ cB q qb qw qf po nu ti de va w L _ hL hR hpo) (cwV 0 hw (tb_V wi_431 wi_433 wi_10 wi_37 wi_434) rfl rfl rfl (by decide +kernel) ⟨Nat.le_of_ble_eq_true rfl, Nat.le_of_ble_eq_true rfl⟩) ⟨ct_blind, ct_recv hK hP (q0 := 0) (ci := 3) rfl rfl, ct_pc hZ hK hP hD hS hA [0, 1, 2] rfl (by decide)⟩ rfl rfl hl.1 rfl (lv_room (Nat.le_of_ble_eq_true rfl)) dd_R_readNext_1 ⟨Nat.le_of_ble_eq_true rfl, Nat.le_of_ble_eq_true rfl⟩) hK hP hD hS hA [0, 1, 2] [3] rfl rfl (by decide) (by decide) (fun r_1 u_1 H locs hw_1 hP hD hS => ?_)
  obtain ⟨p1, n1, t1, d1⟩ := u_1
  have hP : va_P D classes [(qf, .inr (1, [.int (nI z), .int (nI n)])), (q, .inr (3, [.ref qb, .ref qf, .int (nI p1), .long n1, .long t1, .long d1, .long va])), (qb, .inr (0, [.ref qw, .int (nI L.length)])), (qw, .inl (cJ, 6250, .inr (.inl w)))] _ := hP
  have hD : va_D A [(qf, .inr (1, [.int (nI z), .int (nI n)])), (q, .inr (3, [.ref qb, .ref qf, .int (nI p1), .long n1, .long t1, .long d1, .long va])), (qb, .inr (0, [.ref qw, .int (nI L.length)])), (qw, .inl (cJ, 6250, .inr (.inl w)))] := hD
  have hq9 := rt_pos (d := de) hpo
  rcases hrt : cp_rt L po de with ⟨_ | d, q9⟩
  · skip
    obtain ⟨hr_1, hu_1⟩ := hw_1.1 q9 hrt
    subst hr_1
    refine lv_if_eq (tgt := 18) hx hb dd_R_readNext_4 (by decide) (fun c_4 => ?_) (fun c_4 => ?_)
    · skip
      have c_4 : 0 = 0 := (ct_zeq (by omega)).mp c_4
      refine lv_iconst (v := nI 0) hx hb dd_R_readNext_18 (by decide) ?_
      refine ct_zret (u := (p1, n1, t1, d1, va, z, n)) hx hb hr hlocks (by decide) hK (hP.sub [1, 2, 3, 0] rfl) (hD.sub [1, 2, 3, 0] (by decide) rfl) hS rfl ?_ dd_R_readNext_19
      rw [rn_n hrt]
      exact ⟨bI_f Bool.false_ne_true, hu_1, fun z => absurd z Bool.false_ne_true⟩
    have c_4 : ¬ (0 = 0) := fun z => c_4 ((ct_zeq (by omega)).mpr z)
    exfalso
    exact c_4 rfl
  obtain ⟨hr_1, hu_1⟩ := hw_1.2 d q9 hrt
  subst hr_1
  rw [hrt] at hq9
  have hq9 : q9 ≤ L.length := hq9
  have a1 : q9 = p1 := (congrArg (fun z => z.1) hu_1).symm
  have a2 : ti + d = t1 := (congrArg (fun z => z.2.2.1) hu_1).symm
  have a3 : d = d1 := (congrArg (fun z => z.2.2.2) hu_1).symm
  subst a1 a2 a3
  have hP : va_P D classes [(qf, .inr (1, [.int (nI z), .int (nI n)])), (q, .inr (3, [.ref qb, .ref qf, .int (nI q9), .long n1, .long (ti + d), .long d, .long va])), (qb, .inr (0, [.ref qw, .int (nI L.length)])), (qw, .inl (cJ, 6250, .inr (.inl w)))] _ := hP
  have hD : va_D A [(qf, .inr (1, [.int (nI z), .int (nI n)])), (q, .inr (3, [.ref qb, .ref qf, .int (nI q9), .long n1, .long (ti + d), .long d, .long va])), (qb, .inr (0, [.ref qw, .int (nI L.length)])), (qw, .inl (cJ, 6250, .inr (.inl w)))] := hD
  refine lv_if_eq (tgt := 18) hx hb dd_R_readNext_4 (by decide) (fun c_4 => ?_) (fun c_4 => ?_)
  · skip
    have c_4 : ¬ (1 ≤ d ∧ ti + d ≤ cp_max) := bI_z.mp c_4
    refine lv_iconst (v := nI 0) hx hb dd_R_readNext_18 (by decide) ?_
    refine ct_zret (u := (q9, n1, ti + d, d, va, z, n)) hx hb hr hlocks (by decide) hK (hP.sub [1, 2, 3, 0] rfl) (hD.sub [1, 2, 3, 0] (by decide) rfl) hS rfl ?_ dd_R_readNext_19
    rw [rn_f hrt c_4]
    exact ⟨bI_f Bool.false_ne_true, rfl, fun z => absurd z Bool.false_ne_true⟩
  have c_4 : 1 ≤ d ∧ ti + d ≤ cp_max := bI_n.mp c_4
  refine lv_aload_n hx hb dd_R_readNext_7 rfl (lv_at hl 0 rfl) ?_
  refine ct_behind_i (wc := [(q, .inr (3, [.ref qb, .ref qf, .int (nI q9), .long n1, .long (ti + d), .long d, .long va])), (qb, .inr (0, [.ref qw, .int (nI L.length)])), (qw, .inl (cJ, 6250, .inr (.inl w))), (qf, .inr (1, [.int (nI z), .int (nI n)]))]) (wr := []) (av := [.ref q]) (va_runV (As := []) (rest := []) ⟨hx, hb, hml, hown, hw⟩ (cc_R_readDifference l D cJ cB q qb qw qf q9 n1 (ti + d) d va w L z n _ hL hR hq9 hzn) (cwV 0 hw (tb_V wi_444 wi_446 wi_12 wi_37 wi_447) rfl rfl rfl (by decide +kernel) ⟨Nat.le_of_ble_eq_true rfl, Nat.le_of_ble_eq_true rfl⟩) ⟨ct_blind, ct_recv hK hP (q0 := 1) (ci := 3) rfl rfl, ct_pc hZ hK hP hD hS hA [1, 2, 3, 0] rfl (by decide)⟩ rfl rfl hl.1 rfl (lv_room (Nat.le_of_ble_eq_true rfl)) dd_R_readNext_8 ⟨Nat.le_of_ble_eq_true rfl, Nat.le_of_ble_eq_true rfl⟩) hK hP hD hS hA [1, 2, 3, 0] [] rfl rfl (by decide) (by decide) (fun r_8 u_8 H locs hw_8 hP hD hS => ?_)
  obtain ⟨hr_8, hu_8, hv_8⟩ := hw_8
  subst hr_8
  obtain ⟨p8, n8, v8, z8, m8⟩ := u_8
  have hP : va_P D classes [(q, .inr (3, [.ref qb, .ref qf, .int (nI p8), .long n8, .long (ti + d), .long d, .long v8])), (qb, .inr (0, [.ref qw, .int (nI L.length)])), (qw, .inl (cJ, 6250, .inr (.inl w))), (qf, .inr (1, [.int (nI z8), .int (nI m8)]))] _ := hP
  have hD : va_D A [(q, .inr (3, [.ref qb, .ref qf, .int (nI p8), .long n8, .long (ti + d), .long d, .long v8])), (qb, .inr (0, [.ref qw, .int (nI L.length)])), (qw, .inl (cJ, 6250, .inr (.inl w))), (qf, .inr (1, [.int (nI z8), .int (nI m8)]))] := hD
  refine lv_if_eq (tgt := 18) hx hb dd_R_readNext_11 (by decide) (fun c_11 => ?_) (fun c_11 => ?_)
  · skip
    have c_11 : ¬ ((cp_rv L q9 (ti + d) d va z n).1 = true) := bI_z.mp c_11
    refine lv_iconst (v := nI 0) hx hb dd_R_readNext_18 (by decide) ?_
    refine ct_zret (u := (p8, n8, ti + d, d, v8, z8, m8)) hx hb hr hlocks (by decide) hK hP hD hS rfl ?_ dd_R_readNext_19
    rw [rn_s hrt c_4]
    exact ⟨bI_f c_11, hu_8, fun z => absurd z c_11⟩
  have c_11 : (cp_rv L q9 (ti + d) d va z n).1 = true := bI_n.mp c_11
  refine lv_iconst (v := nI 1) hx hb dd_R_readNext_14 (by decide) ?_
  refine lv_goto (tgt := 19) hx hb dd_R_readNext_15 (by decide) ?_
  refine ct_zret (u := (p8, n8, ti + d, d, v8, z8, m8)) hx hb hr hlocks (by decide) hK hP hD hS rfl ?_ dd_R_readNext_19
  rw [rn_s hrt c_4]
  obtain ⟨g1, g2, g3⟩ := hv_8 c_11
  have g4 := rv_td c_11
  exact ⟨bI_t c_11, hu_8, fun _ => ⟨g4.1.symm, g4.2.symm, g1, g2, g3⟩⟩

set_option maxHeartbeats 4000000 in
set_option maxRecDepth 100000 in
theorem cc_R_readAll (l : Launch) (D : va_G) (cJ cB : ClassId) (q qb qw qf qp qt qv : Nat) (nu : Int64) (w : Nat → Int64) (L : List Bool) (k : Nat) (f g : Nat → Int64) (sz : Nat) (hL : L.length ≤ 400000) (hR : cp_Rw w L) (hk : k ≤ 3000) : ct_i l my_R_readAll (Cond.code my_R_readAll mb_R_readAll 5 (some .boolean) :: TB) ({ frames := 5, cells := 0, slots := 0, locals := 110 } : Room) D classes cJ cB [.ref q, .int (nI k), .ref qp] [(q, .inr (3, [.ref qb, .ref qf, .int (nI 0), .long nu, .long 0, .long 0, .long 0])), (qb, .inr (0, [.ref qw, .int (nI L.length)])), (qw, .inl (cJ, 6250, .inr (.inl w))), (qf, .inr (1, [.int (nI 0), .int (nI 0)])), (qp, .inr (2, [.ref qt, .ref qv, .int (nI 0)])), (qt, .inl (cJ, 3000, .inr (.inl f))), (qv, .inl (cJ, 3000, .inr (.inl g)))] sz (fun (r : Int32) (u : Nat × Int64 × Int64 × Int64 × Int64 × Nat × Nat × Nat × (Nat → Int64) × (Nat → Int64)) => r = bI ((cp_ru L k).1 = true) ∧ u.1 = (cp_ru L k).2.1 ∧ ((cp_ru L k).1 = true → u.2.2.2.2.2.2.2.1 = k ∧ ∀ j, j < k → u.2.2.2.2.2.2.2.2.1 j = (cp_ru L (j + 1)).2.2.1 ∧ u.2.2.2.2.2.2.2.2.2 j = (cp_ru L (j + 1)).2.2.2.2.1)) (fun u => [(q, .inr (3, [.ref qb, .ref qf, .int (nI u.1), .long u.2.1, .long u.2.2.1, .long u.2.2.2.1, .long u.2.2.2.2.1])), (qb, .inr (0, [.ref qw, .int (nI L.length)])), (qw, .inl (cJ, 6250, .inr (.inl w))), (qf, .inr (1, [.int (nI u.2.2.2.2.2.1), .int (nI u.2.2.2.2.2.2.1)])), (qp, .inr (2, [.ref qt, .ref qv, .int (nI u.2.2.2.2.2.2.2.1)])), (qt, .inl (cJ, 3000, .inr (.inl u.2.2.2.2.2.2.2.2.1))), (qv, .inl (cJ, 3000, .inr (.inl u.2.2.2.2.2.2.2.2.2)))]) 0 0 := by
  refine ct_ofW (cc := mb_R_readAll) (maxL := 5) (ret := some .boolean) (by decide) rfl (Nat.le_of_ble_eq_true rfl) ?_
  intro p e s m below meth c hx hb hr hml hts hown hlocks hin hsz hK hP hD hA hS hZ ls hl
  have hw : ∀ w ∈ TB, w.before _ s = true := fun w h => hts w (List.mem_cons_of_mem _ h)
  have hown : s.vm.findClass cn_R = some m.cls := hown
  have hin : meth.name = "readAll" := hin
  generalize hAe : va_A [(q, .inr (3, [.ref qb, .ref qf, .int (nI 0), .long nu, .long 0, .long 0, .long 0])), (qb, .inr (0, [.ref qw, .int (nI L.length)])), (qw, .inl (cJ, 6250, .inr (.inl w))), (qf, .inr (1, [.int (nI 0), .int (nI 0)])), (qp, .inr (2, [.ref qt, .ref qv, .int (nI 0)])), (qt, .inl (cJ, 3000, .inr (.inl f))), (qv, .inl (cJ, 3000, .inr (.inl g)))] sz = A at hD hA hS hZ ⊢
  clear hAe
  have hl : lv_has ls 5 [(0, .ref q), (1, .int (nI k)), (2, .ref qp)] := hl
  have hP : va_P D classes [(q, .inr (3, [.ref qb, .ref qf, .int (nI 0), .long nu, .long 0, .long 0, .long 0])), (qb, .inr (0, [.ref qw, .int (nI L.length)])), (qw, .inl (cJ, 6250, .inr (.inl w))), (qf, .inr (1, [.int (nI 0), .int (nI 0)])), (qp, .inr (2, [.ref qt, .ref qv, .int (nI 0)])), (qt, .inl (cJ, 3000, .inr (.inl f))), (qv, .inl (cJ, 3000, .inr (.inl g)))] s.heap := hP
  refine lv_iconst (v := nI 0) hx hb dd_R_readAll_0 (by decide) ?_
  refine lv_istore_n (lv' := [(3, .int (nI 0)), (0, .ref q), (1, .int (nI k)), (2, .ref qp)]) hx hb dd_R_readAll_1 rfl hl (by decide) rfl (fun ls hl => ?_)
  refine ct_loop (σ := Nat × Int64 × (Nat → Int64) × (Nat → Int64)) (fun a H locs ls => va_P D classes [(q, .inr (3, [.ref qb, .ref qf, .int (nI ((cp_ru L a.1).2.1)), .long a.2.1, .long ((cp_ru L a.1).2.2.1), .long ((cp_ru L a.1).2.2.2.1), .long ((cp_ru L a.1).2.2.2.2.1)])), (qb, .inr (0, [.ref qw, .int (nI L.length)])), (qw, .inl (cJ, 6250, .inr (.inl w))), (qf, .inr (1, [.int (nI ((cp_ru L a.1).2.2.2.2.2.1)), .int (nI ((cp_ru L a.1).2.2.2.2.2.2))])), (qp, .inr (2, [.ref qt, .ref qv, .int (nI a.1)])), (qt, .inl (cJ, 3000, .inr (.inl a.2.2.1))), (qv, .inl (cJ, 3000, .inr (.inl a.2.2.2)))] H ∧ va_D A [(q, .inr (3, [.ref qb, .ref qf, .int (nI ((cp_ru L a.1).2.1)), .long a.2.1, .long ((cp_ru L a.1).2.2.1), .long ((cp_ru L a.1).2.2.2.1), .long ((cp_ru L a.1).2.2.2.2.1)])), (qb, .inr (0, [.ref qw, .int (nI L.length)])), (qw, .inl (cJ, 6250, .inr (.inl w))), (qf, .inr (1, [.int (nI ((cp_ru L a.1).2.2.2.2.2.1)), .int (nI ((cp_ru L a.1).2.2.2.2.2.2))])), (qp, .inr (2, [.ref qt, .ref qv, .int (nI a.1)])), (qt, .inl (cJ, 3000, .inr (.inl a.2.2.1))), (qv, .inl (cJ, 3000, .inr (.inl a.2.2.2)))] ∧ va_S A s.heap H locs ∧ lv_has ls 5 [(0, .ref q), (1, .int (nI k)), (2, .ref qp), (3, .int (nI a.1))] ∧ (a.1 ≤ k) ∧ ((cp_ru L a.1).1 = true) ∧ (∀ j, j < a.1 → a.2.2.1 j = (cp_ru L (j + 1)).2.2.1 ∧ a.2.2.2 j = (cp_ru L (j + 1)).2.2.2.2.1)) (fun a => k - a.1) ?_ (0, nu, f, g) ⟨hP, hD, hS, lv_sub hl [1, 2, 3, 0] rfl, Nat.zero_le k, rfl, fun j h => absurd h (Nat.not_lt_zero j)⟩
  rintro ⟨i, nu, f, g⟩ H locs ls ⟨hP, hD, hS, hl, hi, hok, hpt⟩ ih
  have hP : va_P D classes [(q, .inr (3, [.ref qb, .ref qf, .int (nI ((cp_ru L i).2.1)), .long nu, .long ((cp_ru L i).2.2.1), .long ((cp_ru L i).2.2.2.1), .long ((cp_ru L i).2.2.2.2.1)])), (qb, .inr (0, [.ref qw, .int (nI L.length)])), (qw, .inl (cJ, 6250, .inr (.inl w))), (qf, .inr (1, [.int (nI ((cp_ru L i).2.2.2.2.2.1)), .int (nI ((cp_ru L i).2.2.2.2.2.2))])), (qp, .inr (2, [.ref qt, .ref qv, .int (nI i)])), (qt, .inl (cJ, 3000, .inr (.inl f))), (qv, .inl (cJ, 3000, .inr (.inl g)))] _ := hP
  have hD : va_D A [(q, .inr (3, [.ref qb, .ref qf, .int (nI ((cp_ru L i).2.1)), .long nu, .long ((cp_ru L i).2.2.1), .long ((cp_ru L i).2.2.2.1), .long ((cp_ru L i).2.2.2.2.1)])), (qb, .inr (0, [.ref qw, .int (nI L.length)])), (qw, .inl (cJ, 6250, .inr (.inl w))), (qf, .inr (1, [.int (nI ((cp_ru L i).2.2.2.2.2.1)), .int (nI ((cp_ru L i).2.2.2.2.2.2))])), (qp, .inr (2, [.ref qt, .ref qv, .int (nI i)])), (qt, .inl (cJ, 3000, .inr (.inl f))), (qv, .inl (cJ, 3000, .inr (.inl g)))] := hD
  have hl : lv_has ls 5 [(0, .ref q), (1, .int (nI k)), (2, .ref qp), (3, .int (nI i))] := hl
  have hi : i ≤ k := hi
  have hok : (cp_ru L i).1 = true := hok
  have hpt : ∀ j, j < i → f j = (cp_ru L (j + 1)).2.2.1 ∧ g j = (cp_ru L (j + 1)).2.2.2.2.1 := hpt
  refine lv_iload_n hx hb dd_R_readAll_2 rfl (lv_at hl 3 rfl) ?_
  refine lv_iload_n hx hb dd_R_readAll_3 rfl (lv_at hl 1 rfl) ?_
  refine lv_icmp_ge (tgt := 52) hx hb dd_R_readAll_4 (by decide) (fun c_4 => ?_) (fun c_4 => ?_)
  · skip
    have c_4 : k ≤ i := (nI_leI (by omega) (by omega)).mp c_4
    have hik : i = k := by omega
    subst hik
    refine lv_iconst (v := nI 1) hx hb dd_R_readAll_52 (by decide) ?_
    refine ct_zret (u := ((cp_ru L i).2.1, nu, (cp_ru L i).2.2.1, (cp_ru L i).2.2.2.1, (cp_ru L i).2.2.2.2.1, (cp_ru L i).2.2.2.2.2.1, (cp_ru L i).2.2.2.2.2.2, i, f, g)) hx hb hr hlocks (by decide) hK hP hD hS rfl ?_ dd_R_readAll_53
    exact ⟨bI_t hok, rfl, fun _ => ⟨rfl, hpt⟩⟩
  have c_4 : ¬ (k ≤ i) := fun z => c_4 ((nI_leI (by omega) (by omega)).mpr z)
  refine lv_iload_n hx hb dd_R_readAll_7 rfl (lv_at hl 3 rfl) ?_
  refine lv_if_ne (tgt := 18) hx hb dd_R_readAll_8 (by decide) (fun c_8 => ?_) (fun c_8 => ?_)
  · skip
    have c_8 : ¬ (i = 0) := fun z => c_8 ((ct_zeq (by omega)).mpr z)
    refine lv_aload_n hx hb dd_R_readAll_18 rfl (lv_at hl 0 rfl) ?_
    refine ct_behind_i (wc := [(q, .inr (3, [.ref qb, .ref qf, .int (nI ((cp_ru L i).2.1)), .long nu, .long ((cp_ru L i).2.2.1), .long ((cp_ru L i).2.2.2.1), .long ((cp_ru L i).2.2.2.2.1)])), (qb, .inr (0, [.ref qw, .int (nI L.length)])), (qw, .inl (cJ, 6250, .inr (.inl w))), (qf, .inr (1, [.int (nI ((cp_ru L i).2.2.2.2.2.1)), .int (nI ((cp_ru L i).2.2.2.2.2.2))]))]) (wr := [(qp, .inr (2, [.ref qt, .ref qv, .int (nI i)])), (qt, .inl (cJ, 3000, .inr (.inl f))), (qv, .inl (cJ, 3000, .inr (.inl g)))]) (av := [.ref q]) (va_runV (As := []) (rest := []) ⟨hx, hb, hml, hown, hw⟩ (cc_R_readNext l D cJ cB q qb qw qf (cp_ru L i).2.1 nu (cp_ru L i).2.2.1 (cp_ru L i).2.2.2.1 (cp_ru L i).2.2.2.2.1 w L (cp_ru L i).2.2.2.2.2.1 (cp_ru L i).2.2.2.2.2.2 _ hL hR (ru_inv L i).1 ((ru_inv L i).2 hok)) (cwV 0 hw (tb_V wi_427 wi_429 wi_9 wi_37 wi_430) rfl rfl rfl (by decide +kernel) ⟨Nat.le_of_ble_eq_true rfl, Nat.le_of_ble_eq_true rfl⟩) ⟨ct_blind, ct_recv hK hP (q0 := 0) (ci := 3) rfl rfl, ct_pc hZ hK hP hD hS hA [0, 1, 2, 3] rfl (by decide)⟩ rfl rfl hl.1 rfl (lv_room (Nat.le_of_ble_eq_true rfl)) dd_R_readAll_19 ⟨Nat.le_of_ble_eq_true rfl, Nat.le_of_ble_eq_true rfl⟩) hK hP hD hS hA [0, 1, 2, 3] [4, 5, 6] rfl rfl (by decide) (by decide) (fun r_19 u_19 H locs hw_19 hP hD hS => ?_)
    rw [ru_eta hok] at hw_19
    obtain ⟨hr_19, hu_19, hv_19⟩ := hw_19
    subst hr_19
    obtain ⟨p19, n19, t19, d19, v19, z19, m19⟩ := u_19
    have hP : va_P D classes [(qp, .inr (2, [.ref qt, .ref qv, .int (nI i)])), (qt, .inl (cJ, 3000, .inr (.inl f))), (qv, .inl (cJ, 3000, .inr (.inl g))), (q, .inr (3, [.ref qb, .ref qf, .int (nI p19), .long n19, .long t19, .long d19, .long v19])), (qb, .inr (0, [.ref qw, .int (nI L.length)])), (qw, .inl (cJ, 6250, .inr (.inl w))), (qf, .inr (1, [.int (nI z19), .int (nI m19)]))] _ := hP
    have hD : va_D A [(qp, .inr (2, [.ref qt, .ref qv, .int (nI i)])), (qt, .inl (cJ, 3000, .inr (.inl f))), (qv, .inl (cJ, 3000, .inr (.inl g))), (q, .inr (3, [.ref qb, .ref qf, .int (nI p19), .long n19, .long t19, .long d19, .long v19])), (qb, .inr (0, [.ref qw, .int (nI L.length)])), (qw, .inl (cJ, 6250, .inr (.inl w))), (qf, .inr (1, [.int (nI z19), .int (nI m19)]))] := hD
    refine lv_istore (lv' := [(4, .int (bI ((cp_rn L (cp_ru L i)).1 = true))), (0, .ref q), (1, .int (nI k)), (2, .ref qp), (3, .int (nI i))]) hx hb dd_R_readAll_22 hl (by decide) rfl (fun ls hl => ?_)
    refine lv_iload hx hb dd_R_readAll_24 (lv_at hl 0 rfl) ?_
    refine lv_if_eq (tgt := 44) hx hb dd_R_readAll_26 (by decide) (fun c_26 => ?_) (fun c_26 => ?_)
    · skip
      have c_26 : ¬ ((cp_rn L (cp_ru L i)).1 = true) := bI_z.mp c_26
      refine lv_iconst (v := nI 0) hx hb dd_R_readAll_44 (by decide) ?_
      refine ct_zret (u := (p19, n19, t19, d19, v19, z19, m19, i, f, g)) hx hb hr hlocks (by decide) hK (hP.sub [3, 4, 5, 6, 0, 1, 2] rfl) (hD.sub [3, 4, 5, 6, 0, 1, 2] (by decide) rfl) hS rfl ?_ dd_R_readAll_45
      have er : (cp_ru L (i + 1)) = cp_rn L (cp_ru L i) := by rw [ru_s hok, if_neg c_8]
      have ek := ru_stop (L := L) (i := i + 1) (by rw [er]; exact c_26) k (by omega)
      rw [ek, er]
      exact ⟨bI_f c_26, hu_19, fun z => absurd z c_26⟩
    have c_26 : (cp_rn L (cp_ru L i)).1 = true := bI_n.mp c_26
    obtain ⟨g1, g2, g3, g4, g5⟩ := hv_19 c_26
    have er : (cp_ru L (i + 1)) = cp_rn L (cp_ru L i) := by rw [ru_s hok, if_neg c_8]
    have hok1 : (cp_ru L (i + 1)).1 = true := by rw [er]; exact c_26
    have e_p19 : p19 = (cp_ru L (i + 1)).2.1 := by rw [er]; exact hu_19
    subst e_p19
    have e_t19 : t19 = (cp_ru L (i + 1)).2.2.1 := by rw [er]; exact g1
    subst e_t19
    have e_d19 : d19 = (cp_ru L (i + 1)).2.2.2.1 := by rw [er]; exact g2
    subst e_d19
    have e_v19 : v19 = (cp_ru L (i + 1)).2.2.2.2.1 := by rw [er]; exact g3
    subst e_v19
    have e_z19 : z19 = (cp_ru L (i + 1)).2.2.2.2.2.1 := by rw [er]; exact g4
    subst e_z19
    have e_m19 : m19 = (cp_ru L (i + 1)).2.2.2.2.2.2 := by rw [er]; exact g5
    subst e_m19
    have hP : va_P D classes [(qp, .inr (2, [.ref qt, .ref qv, .int (nI i)])), (qt, .inl (cJ, 3000, .inr (.inl f))), (qv, .inl (cJ, 3000, .inr (.inl g))), (q, .inr (3, [.ref qb, .ref qf, .int (nI ((cp_ru L (i + 1)).2.1)), .long n19, .long ((cp_ru L (i + 1)).2.2.1), .long ((cp_ru L (i + 1)).2.2.2.1), .long ((cp_ru L (i + 1)).2.2.2.2.1)])), (qb, .inr (0, [.ref qw, .int (nI L.length)])), (qw, .inl (cJ, 6250, .inr (.inl w))), (qf, .inr (1, [.int (nI ((cp_ru L (i + 1)).2.2.2.2.2.1)), .int (nI ((cp_ru L (i + 1)).2.2.2.2.2.2))]))] _ := hP
    have hD : va_D A [(qp, .inr (2, [.ref qt, .ref qv, .int (nI i)])), (qt, .inl (cJ, 3000, .inr (.inl f))), (qv, .inl (cJ, 3000, .inr (.inl g))), (q, .inr (3, [.ref qb, .ref qf, .int (nI ((cp_ru L (i + 1)).2.1)), .long n19, .long ((cp_ru L (i + 1)).2.2.1), .long ((cp_ru L (i + 1)).2.2.2.1), .long ((cp_ru L (i + 1)).2.2.2.2.1)])), (qb, .inr (0, [.ref qw, .int (nI L.length)])), (qw, .inl (cJ, 6250, .inr (.inl w))), (qf, .inr (1, [.int (nI ((cp_ru L (i + 1)).2.2.2.2.2.1)), .int (nI ((cp_ru L (i + 1)).2.2.2.2.2.2))]))] := hD
    refine lv_aload_n hx hb dd_R_readAll_29 rfl (lv_at hl 3 rfl) ?_
    refine lv_aload_n hx hb dd_R_readAll_30 rfl (lv_at hl 1 rfl) ?_
    refine va_get (D := D) (ci := 3) (C := cn_R) (T := cf_R) (N := 7) hx hb hw in_R hown hK hP 3 rfl rfl 4 (by decide) (hw _ wi_389) (fun _ h9 => h9) rfl dd_R_readAll_31 ?_
    refine lv_aload_n hx hb dd_R_readAll_34 rfl (lv_at hl 1 rfl) ?_
    refine va_get (D := D) (ci := 3) (C := cn_R) (T := cf_R) (N := 7) hx hb hw in_R hown hK hP 3 rfl rfl 6 (by decide) (hw _ wi_391) (fun _ h9 => h9) rfl dd_R_readAll_35 ?_
    refine ct_behind_i (wc := [(qp, .inr (2, [.ref qt, .ref qv, .int (nI i)])), (qt, .inl (cJ, 3000, .inr (.inl f))), (qv, .inl (cJ, 3000, .inr (.inl g)))]) (wr := [(q, .inr (3, [.ref qb, .ref qf, .int (nI ((cp_ru L (i + 1)).2.1)), .long n19, .long ((cp_ru L (i + 1)).2.2.1), .long ((cp_ru L (i + 1)).2.2.2.1), .long ((cp_ru L (i + 1)).2.2.2.2.1)])), (qb, .inr (0, [.ref qw, .int (nI L.length)])), (qw, .inl (cJ, 6250, .inr (.inl w))), (qf, .inr (1, [.int (nI ((cp_ru L (i + 1)).2.2.2.2.2.1)), .int (nI ((cp_ru L (i + 1)).2.2.2.2.2.2))]))]) (av := [.ref qp, .long ((cp_ru L (i + 1)).2.2.1), .long ((cp_ru L (i + 1)).2.2.2.2.1)]) (va_runV (As := [.long ((cp_ru L (i + 1)).2.2.1), .long ((cp_ru L (i + 1)).2.2.2.2.1)]) (rest := []) ⟨hx, hb, hml, hown, hw⟩ (cc_P_append l D cJ cB qp qt qv i f g (cp_ru L (i + 1)).2.2.1 (cp_ru L (i + 1)).2.2.2.2.1 _ (by omega)) (cwV 2 hw (tb_V wi_456 wi_181 wi_182 wi_23 wi_183) rfl rfl rfl (by decide +kernel) ⟨Nat.le_of_ble_eq_true rfl, Nat.le_of_ble_eq_true rfl⟩) ⟨ct_blind, ct_recv hK hP (q0 := 0) (ci := 2) rfl rfl, ct_pc hZ hK hP hD hS hA [0, 1, 2] rfl (by decide)⟩ rfl rfl hl.1 rfl (lv_room (Nat.le_of_ble_eq_true rfl)) dd_R_readAll_38 ⟨Nat.le_of_ble_eq_true rfl, Nat.le_of_ble_eq_true rfl⟩) hK hP hD hS hA [0, 1, 2] [3, 4, 5, 6] rfl rfl (by decide) (by decide) (fun r_38 u_38 H locs hw_38 hP hD hS => ?_)
    obtain ⟨hr_38, hu_38⟩ := hw_38
    rw [if_pos (by omega)] at hu_38
    subst hr_38 hu_38
    have hP : va_P D classes [(q, .inr (3, [.ref qb, .ref qf, .int (nI ((cp_ru L (i + 1)).2.1)), .long n19, .long ((cp_ru L (i + 1)).2.2.1), .long ((cp_ru L (i + 1)).2.2.2.1), .long ((cp_ru L (i + 1)).2.2.2.2.1)])), (qb, .inr (0, [.ref qw, .int (nI L.length)])), (qw, .inl (cJ, 6250, .inr (.inl w))), (qf, .inr (1, [.int (nI ((cp_ru L (i + 1)).2.2.2.2.2.1)), .int (nI ((cp_ru L (i + 1)).2.2.2.2.2.2))])), (qp, .inr (2, [.ref qt, .ref qv, .int (nI (i + 1))])), (qt, .inl (cJ, 3000, .inr (.inl (vp_updL f i (cp_ru L (i + 1)).2.2.1)))), (qv, .inl (cJ, 3000, .inr (.inl (vp_updL g i (cp_ru L (i + 1)).2.2.2.2.1))))] _ := hP
    have hD : va_D A [(q, .inr (3, [.ref qb, .ref qf, .int (nI ((cp_ru L (i + 1)).2.1)), .long n19, .long ((cp_ru L (i + 1)).2.2.1), .long ((cp_ru L (i + 1)).2.2.2.1), .long ((cp_ru L (i + 1)).2.2.2.2.1)])), (qb, .inr (0, [.ref qw, .int (nI L.length)])), (qw, .inl (cJ, 6250, .inr (.inl w))), (qf, .inr (1, [.int (nI ((cp_ru L (i + 1)).2.2.2.2.2.1)), .int (nI ((cp_ru L (i + 1)).2.2.2.2.2.2))])), (qp, .inr (2, [.ref qt, .ref qv, .int (nI (i + 1))])), (qt, .inl (cJ, 3000, .inr (.inl (vp_updL f i (cp_ru L (i + 1)).2.2.1)))), (qv, .inl (cJ, 3000, .inr (.inl (vp_updL g i (cp_ru L (i + 1)).2.2.2.2.1))))] := hD
    refine lv_if_ne (tgt := 46) hx hb dd_R_readAll_41 (by decide) (fun c_41 => ?_) (fun c_41 => ?_)
    · skip
      have c_41 : i < 3000 := bI_n.mp c_41
      refine lv_iinc (v := nI (i + 1)) (lv' := [(3, .int (nI (i + 1))), (4, .int (bI ((cp_rn L (cp_ru L i)).1 = true))), (0, .ref q), (1, .int (nI k)), (2, .ref qp)]) hx hb dd_R_readAll_46 hl (k := 4) rfl (nI_1 i) (by decide) rfl (fun ls hl => ?_)
      refine lv_goto (tgt := 2) hx hb dd_R_readAll_49 (by decide) ?_
      refine ih (i + 1, n19, vp_updL f i (cp_ru L (i + 1)).2.2.1, vp_updL g i (cp_ru L (i + 1)).2.2.2.2.1) _ _ _ (by show k - (i + 1) < k - i; omega) ⟨hP, hD, hS, lv_sub hl [2, 3, 4, 0] rfl, by omega, hok1, ru_ext hpt⟩
    have c_41 : ¬ (i < 3000) := bI_z.mp c_41
    exfalso
    omega
  have c_8 : i = 0 := (ct_zeq (by omega)).mp c_8
  subst c_8
  have hP : va_P D classes [(q, .inr (3, [.ref qb, .ref qf, .int (nI ((cp_ru L 0).2.1)), .long nu, .long ((cp_ru L 0).2.2.1), .long ((cp_ru L 0).2.2.2.1), .long ((cp_ru L 0).2.2.2.2.1)])), (qb, .inr (0, [.ref qw, .int (nI L.length)])), (qw, .inl (cJ, 6250, .inr (.inl w))), (qf, .inr (1, [.int (nI ((cp_ru L 0).2.2.2.2.2.1)), .int (nI ((cp_ru L 0).2.2.2.2.2.2))])), (qp, .inr (2, [.ref qt, .ref qv, .int (nI 0)])), (qt, .inl (cJ, 3000, .inr (.inl f))), (qv, .inl (cJ, 3000, .inr (.inl g)))] _ := hP
  have hD : va_D A [(q, .inr (3, [.ref qb, .ref qf, .int (nI ((cp_ru L 0).2.1)), .long nu, .long ((cp_ru L 0).2.2.1), .long ((cp_ru L 0).2.2.2.1), .long ((cp_ru L 0).2.2.2.2.1)])), (qb, .inr (0, [.ref qw, .int (nI L.length)])), (qw, .inl (cJ, 6250, .inr (.inl w))), (qf, .inr (1, [.int (nI ((cp_ru L 0).2.2.2.2.2.1)), .int (nI ((cp_ru L 0).2.2.2.2.2.2))])), (qp, .inr (2, [.ref qt, .ref qv, .int (nI 0)])), (qt, .inl (cJ, 3000, .inr (.inl f))), (qv, .inl (cJ, 3000, .inr (.inl g)))] := hD
  have hl : lv_has ls 5 [(0, .ref q), (1, .int (nI k)), (2, .ref qp), (3, .int (nI 0))] := hl
  refine lv_aload_n hx hb dd_R_readAll_11 rfl (lv_at hl 0 rfl) ?_
  refine ct_behind_i (wc := [(q, .inr (3, [.ref qb, .ref qf, .int (nI ((cp_ru L 0).2.1)), .long nu, .long ((cp_ru L 0).2.2.1), .long ((cp_ru L 0).2.2.2.1), .long ((cp_ru L 0).2.2.2.2.1)])), (qb, .inr (0, [.ref qw, .int (nI L.length)])), (qw, .inl (cJ, 6250, .inr (.inl w)))]) (wr := [(qf, .inr (1, [.int (nI ((cp_ru L 0).2.2.2.2.2.1)), .int (nI ((cp_ru L 0).2.2.2.2.2.2))])), (qp, .inr (2, [.ref qt, .ref qv, .int (nI 0)])), (qt, .inl (cJ, 3000, .inr (.inl f))), (qv, .inl (cJ, 3000, .inr (.inl g)))]) (av := [.ref q]) (va_runV (As := []) (rest := []) ⟨hx, hb, hml, hown, hw⟩ (cc_R_readFirst l D cJ cB q qb qw qf nu (cp_ru L 0).2.2.1 (cp_ru L 0).2.2.2.1 (cp_ru L 0).2.2.2.2.1 w L _ hL hR) (cwV 0 hw (tb_V wi_411 wi_413 wi_7 wi_37 wi_414) rfl rfl rfl (by decide +kernel) ⟨Nat.le_of_ble_eq_true rfl, Nat.le_of_ble_eq_true rfl⟩) ⟨ct_blind, ct_recv hK hP (q0 := 0) (ci := 3) rfl rfl, ct_pc hZ hK hP hD hS hA [0, 1, 2] rfl (by decide)⟩ rfl rfl hl.1 rfl (lv_room (Nat.le_of_ble_eq_true rfl)) dd_R_readAll_12 ⟨Nat.le_of_ble_eq_true rfl, Nat.le_of_ble_eq_true rfl⟩) hK hP hD hS hA [0, 1, 2] [3, 4, 5, 6] rfl rfl (by decide) (by decide) (fun r_12 u_12 H locs hw_12 hP hD hS => ?_)
  obtain ⟨hr_12, hu_12, hv_12⟩ := hw_12
  subst hr_12
  obtain ⟨p12, n12, t12, v12⟩ := u_12
  have hP : va_P D classes [(qf, .inr (1, [.int (nI ((cp_ru L 0).2.2.2.2.2.1)), .int (nI ((cp_ru L 0).2.2.2.2.2.2))])), (qp, .inr (2, [.ref qt, .ref qv, .int (nI 0)])), (qt, .inl (cJ, 3000, .inr (.inl f))), (qv, .inl (cJ, 3000, .inr (.inl g))), (q, .inr (3, [.ref qb, .ref qf, .int (nI p12), .long n12, .long t12, .long ((cp_ru L 0).2.2.2.1), .long v12])), (qb, .inr (0, [.ref qw, .int (nI L.length)])), (qw, .inl (cJ, 6250, .inr (.inl w)))] _ := hP
  have hD : va_D A [(qf, .inr (1, [.int (nI ((cp_ru L 0).2.2.2.2.2.1)), .int (nI ((cp_ru L 0).2.2.2.2.2.2))])), (qp, .inr (2, [.ref qt, .ref qv, .int (nI 0)])), (qt, .inl (cJ, 3000, .inr (.inl f))), (qv, .inl (cJ, 3000, .inr (.inl g))), (q, .inr (3, [.ref qb, .ref qf, .int (nI p12), .long n12, .long t12, .long ((cp_ru L 0).2.2.2.1), .long v12])), (qb, .inr (0, [.ref qw, .int (nI L.length)])), (qw, .inl (cJ, 6250, .inr (.inl w)))] := hD
  refine lv_goto (tgt := 22) hx hb dd_R_readAll_15 (by decide) ?_
  refine lv_istore (lv' := [(4, .int (bI ((cp_r1 L).1 = true))), (0, .ref q), (1, .int (nI k)), (2, .ref qp), (3, .int (nI 0))]) hx hb dd_R_readAll_22 hl (by decide) rfl (fun ls hl => ?_)
  refine lv_iload hx hb dd_R_readAll_24 (lv_at hl 0 rfl) ?_
  refine lv_if_eq (tgt := 44) hx hb dd_R_readAll_26 (by decide) (fun c_26 => ?_) (fun c_26 => ?_)
  · skip
    have c_26 : ¬ ((cp_r1 L).1 = true) := bI_z.mp c_26
    refine lv_iconst (v := nI 0) hx hb dd_R_readAll_44 (by decide) ?_
    refine ct_zret (u := (p12, n12, t12, (cp_ru L 0).2.2.2.1, v12, (cp_ru L 0).2.2.2.2.2.1, (cp_ru L 0).2.2.2.2.2.2, 0, f, g)) hx hb hr hlocks (by decide) hK (hP.sub [4, 5, 6, 0, 1, 2, 3] rfl) (hD.sub [4, 5, 6, 0, 1, 2, 3] (by decide) rfl) hS rfl ?_ dd_R_readAll_45
    have ek := ru_stop (L := L) (i := 1) (by rw [ru_1]; exact c_26) k (by omega)
    rw [ek, ru_1]
    exact ⟨bI_f c_26, hu_12, fun z => absurd z c_26⟩
  have c_26 : (cp_r1 L).1 = true := bI_n.mp c_26
  obtain ⟨g1, g2⟩ := hv_12 c_26
  obtain ⟨g3, g4, g5⟩ := r1_ok c_26
  have hok1 : (cp_ru L (0 + 1)).1 = true := by rw [ru_1]; exact c_26
  have e1 : p12 = (cp_ru L (0 + 1)).2.1 := by rw [ru_1]; exact hu_12
  have e2 : t12 = (cp_ru L (0 + 1)).2.2.1 := by rw [ru_1]; exact g1
  have e3 : v12 = (cp_ru L (0 + 1)).2.2.2.2.1 := by rw [ru_1]; exact g2
  subst e1 e2 e3
  have e4 : (cp_ru L 0).2.2.2.1 = (cp_ru L (0 + 1)).2.2.2.1 := by rw [ru_1]; exact g3.symm
  have e5 : (cp_ru L 0).2.2.2.2.2.1 = (cp_ru L (0 + 1)).2.2.2.2.2.1 := by rw [ru_1]; exact g4.symm
  have e6 : (cp_ru L 0).2.2.2.2.2.2 = (cp_ru L (0 + 1)).2.2.2.2.2.2 := by rw [ru_1]; exact g5.symm
  rw [e4, e5, e6] at hP hD
  have hP : va_P D classes [(qf, .inr (1, [.int (nI ((cp_ru L (0 + 1)).2.2.2.2.2.1)), .int (nI ((cp_ru L (0 + 1)).2.2.2.2.2.2))])), (qp, .inr (2, [.ref qt, .ref qv, .int (nI 0)])), (qt, .inl (cJ, 3000, .inr (.inl f))), (qv, .inl (cJ, 3000, .inr (.inl g))), (q, .inr (3, [.ref qb, .ref qf, .int (nI ((cp_ru L (0 + 1)).2.1)), .long n12, .long ((cp_ru L (0 + 1)).2.2.1), .long ((cp_ru L (0 + 1)).2.2.2.1), .long ((cp_ru L (0 + 1)).2.2.2.2.1)])), (qb, .inr (0, [.ref qw, .int (nI L.length)])), (qw, .inl (cJ, 6250, .inr (.inl w)))] _ := hP
  have hD : va_D A [(qf, .inr (1, [.int (nI ((cp_ru L (0 + 1)).2.2.2.2.2.1)), .int (nI ((cp_ru L (0 + 1)).2.2.2.2.2.2))])), (qp, .inr (2, [.ref qt, .ref qv, .int (nI 0)])), (qt, .inl (cJ, 3000, .inr (.inl f))), (qv, .inl (cJ, 3000, .inr (.inl g))), (q, .inr (3, [.ref qb, .ref qf, .int (nI ((cp_ru L (0 + 1)).2.1)), .long n12, .long ((cp_ru L (0 + 1)).2.2.1), .long ((cp_ru L (0 + 1)).2.2.2.1), .long ((cp_ru L (0 + 1)).2.2.2.2.1)])), (qb, .inr (0, [.ref qw, .int (nI L.length)])), (qw, .inl (cJ, 6250, .inr (.inl w)))] := hD
  refine lv_aload_n hx hb dd_R_readAll_29 rfl (lv_at hl 3 rfl) ?_
  refine lv_aload_n hx hb dd_R_readAll_30 rfl (lv_at hl 1 rfl) ?_
  refine va_get (D := D) (ci := 3) (C := cn_R) (T := cf_R) (N := 7) hx hb hw in_R hown hK hP 4 rfl rfl 4 (by decide) (hw _ wi_389) (fun _ h9 => h9) rfl dd_R_readAll_31 ?_
  refine lv_aload_n hx hb dd_R_readAll_34 rfl (lv_at hl 1 rfl) ?_
  refine va_get (D := D) (ci := 3) (C := cn_R) (T := cf_R) (N := 7) hx hb hw in_R hown hK hP 4 rfl rfl 6 (by decide) (hw _ wi_391) (fun _ h9 => h9) rfl dd_R_readAll_35 ?_
  refine ct_behind_i (wc := [(qp, .inr (2, [.ref qt, .ref qv, .int (nI 0)])), (qt, .inl (cJ, 3000, .inr (.inl f))), (qv, .inl (cJ, 3000, .inr (.inl g)))]) (wr := [(qf, .inr (1, [.int (nI ((cp_ru L (0 + 1)).2.2.2.2.2.1)), .int (nI ((cp_ru L (0 + 1)).2.2.2.2.2.2))])), (q, .inr (3, [.ref qb, .ref qf, .int (nI ((cp_ru L (0 + 1)).2.1)), .long n12, .long ((cp_ru L (0 + 1)).2.2.1), .long ((cp_ru L (0 + 1)).2.2.2.1), .long ((cp_ru L (0 + 1)).2.2.2.2.1)])), (qb, .inr (0, [.ref qw, .int (nI L.length)])), (qw, .inl (cJ, 6250, .inr (.inl w)))]) (av := [.ref qp, .long ((cp_ru L (0 + 1)).2.2.1), .long ((cp_ru L (0 + 1)).2.2.2.2.1)]) (va_runV (As := [.long ((cp_ru L (0 + 1)).2.2.1), .long ((cp_ru L (0 + 1)).2.2.2.2.1)]) (rest := []) ⟨hx, hb, hml, hown, hw⟩ (cc_P_append l D cJ cB qp qt qv 0 f g (cp_ru L (0 + 1)).2.2.1 (cp_ru L (0 + 1)).2.2.2.2.1 _ (by omega)) (cwV 2 hw (tb_V wi_456 wi_181 wi_182 wi_23 wi_183) rfl rfl rfl (by decide +kernel) ⟨Nat.le_of_ble_eq_true rfl, Nat.le_of_ble_eq_true rfl⟩) ⟨ct_blind, ct_recv hK hP (q0 := 1) (ci := 2) rfl rfl, ct_pc hZ hK hP hD hS hA [1, 2, 3] rfl (by decide)⟩ rfl rfl hl.1 rfl (lv_room (Nat.le_of_ble_eq_true rfl)) dd_R_readAll_38 ⟨Nat.le_of_ble_eq_true rfl, Nat.le_of_ble_eq_true rfl⟩) hK hP hD hS hA [1, 2, 3] [0, 4, 5, 6] rfl rfl (by decide) (by decide) (fun r_38 u_38 H locs hw_38 hP hD hS => ?_)
  obtain ⟨hr_38, hu_38⟩ := hw_38
  rw [if_pos (by omega)] at hu_38
  subst hr_38 hu_38
  have hP : va_P D classes [(qf, .inr (1, [.int (nI ((cp_ru L (0 + 1)).2.2.2.2.2.1)), .int (nI ((cp_ru L (0 + 1)).2.2.2.2.2.2))])), (q, .inr (3, [.ref qb, .ref qf, .int (nI ((cp_ru L (0 + 1)).2.1)), .long n12, .long ((cp_ru L (0 + 1)).2.2.1), .long ((cp_ru L (0 + 1)).2.2.2.1), .long ((cp_ru L (0 + 1)).2.2.2.2.1)])), (qb, .inr (0, [.ref qw, .int (nI L.length)])), (qw, .inl (cJ, 6250, .inr (.inl w))), (qp, .inr (2, [.ref qt, .ref qv, .int (nI (0 + 1))])), (qt, .inl (cJ, 3000, .inr (.inl (vp_updL f 0 (cp_ru L (0 + 1)).2.2.1)))), (qv, .inl (cJ, 3000, .inr (.inl (vp_updL g 0 (cp_ru L (0 + 1)).2.2.2.2.1))))] _ := hP
  have hD : va_D A [(qf, .inr (1, [.int (nI ((cp_ru L (0 + 1)).2.2.2.2.2.1)), .int (nI ((cp_ru L (0 + 1)).2.2.2.2.2.2))])), (q, .inr (3, [.ref qb, .ref qf, .int (nI ((cp_ru L (0 + 1)).2.1)), .long n12, .long ((cp_ru L (0 + 1)).2.2.1), .long ((cp_ru L (0 + 1)).2.2.2.1), .long ((cp_ru L (0 + 1)).2.2.2.2.1)])), (qb, .inr (0, [.ref qw, .int (nI L.length)])), (qw, .inl (cJ, 6250, .inr (.inl w))), (qp, .inr (2, [.ref qt, .ref qv, .int (nI (0 + 1))])), (qt, .inl (cJ, 3000, .inr (.inl (vp_updL f 0 (cp_ru L (0 + 1)).2.2.1)))), (qv, .inl (cJ, 3000, .inr (.inl (vp_updL g 0 (cp_ru L (0 + 1)).2.2.2.2.1))))] := hD
  refine lv_if_ne (tgt := 46) hx hb dd_R_readAll_41 (by decide) (fun c_41 => ?_) (fun c_41 => ?_)
  · skip
    have c_41 : 0 < 3000 := bI_n.mp c_41
    refine lv_iinc (v := nI 1) (lv' := [(3, .int (nI 1)), (4, .int (bI ((cp_r1 L).1 = true))), (0, .ref q), (1, .int (nI k)), (2, .ref qp)]) hx hb dd_R_readAll_46 hl (k := 4) rfl (nI_1 0) (by decide) rfl (fun ls hl => ?_)
    refine lv_goto (tgt := 2) hx hb dd_R_readAll_49 (by decide) ?_
    refine ih (0 + 1, n12, vp_updL f 0 (cp_ru L (0 + 1)).2.2.1, vp_updL g 0 (cp_ru L (0 + 1)).2.2.2.2.1) _ _ _ (by show k - (0 + 1) < k - 0; omega) ⟨hP.sub [1, 2, 3, 0, 4, 5, 6] rfl, hD.sub [1, 2, 3, 0, 4, 5, 6] (by decide) rfl, hS, lv_sub hl [2, 3, 4, 0] rfl, by omega, hok1, ru_ext hpt⟩
  have c_41 : ¬ (0 < 3000) := bI_z.mp c_41
  exfalso
  omega
