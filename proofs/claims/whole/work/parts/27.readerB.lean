/-! reading values and points -/
theorem rd_ok {L : List Bool} {p : Nat} {t d v : Int64} {z n : Nat} (h : p + n ≤ L.length) : cp_rd L p t d v z n = (true, p + n, t, d, v ^^^ (lN (cp_n L p n) <<< ((nI (64 - z - n)).toInt64 &&& 63)), z, n) := by unfold cp_rd; rw [if_pos h]
theorem rd_no {L : List Bool} {p : Nat} {t d v : Int64} {z n : Nat} (h : ¬ p + n ≤ L.length) : cp_rd L p t d v z n = (false, p, t, d, v, z, n) := by unfold cp_rd; rw [if_neg h]
section RV
variable {L : List Bool} {p : Nat} {t d v : Int64} {z n : Nat}
theorem rv_0 (h : ¬ p + 1 ≤ L.length) : cp_rv L p t d v z n = (false, p, t, d, v, z, n) := by unfold cp_rv; rw [if_neg h]
theorem rv_1 (h : p + 1 ≤ L.length) (hb : lN (cp_n L p 1) = 0) : cp_rv L p t d v z n = (true, p + 1, t, d, v, z, n) := by
  unfold cp_rv; rw [if_pos h, if_neg (by rw [(cp_n0 L p).mp hb]; decide)]
theorem rv_2 (h : p + 1 ≤ L.length) (hb : ¬ lN (cp_n L p 1) = 0) (h2 : ¬ p + 1 + 1 ≤ L.length) : cp_rv L p t d v z n = (false, p + 1, t, d, v, z, n) := by
  unfold cp_rv; rw [if_pos h, if_pos (cp_ng hb), if_neg h2]
theorem rv_3 (h : p + 1 ≤ L.length) (hb : ¬ lN (cp_n L p 1) = 0) (h2 : p + 1 + 1 ≤ L.length) (hc : lN (cp_n L (p + 1) 1) = 0) (hn : ¬ 0 < n) : cp_rv L p t d v z n = (false, p + 1 + 1, t, d, v, z, n) := by
  unfold cp_rv; rw [if_pos h, if_pos (cp_ng hb), if_pos h2, if_neg (by rw [(cp_n0 L (p + 1)).mp hc]; decide), if_pos (by omega)]
theorem rv_4 (h : p + 1 ≤ L.length) (hb : ¬ lN (cp_n L p 1) = 0) (h2 : p + 1 + 1 ≤ L.length) (hc : lN (cp_n L (p + 1) 1) = 0) (hn : 0 < n) : cp_rv L p t d v z n = cp_rd L (p + 1 + 1) t d v z n := by
  unfold cp_rv; rw [if_pos h, if_pos (cp_ng hb), if_pos h2, if_neg (by rw [(cp_n0 L (p + 1)).mp hc]; decide), if_neg (by omega)]
/-- what readFrame reads: right, the place behind it -/
def cp_rf (L : List Bool) (p : Nat) : Bool × Nat :=
  if p + 5 ≤ L.length then (if p + 5 + 6 ≤ L.length then (decide (cp_n L p 5 + (cp_n L (p + 5) 6 + 1) ≤ 64), p + 5 + 6) else (false, p + 5)) else (false, p)
theorem rv_5 (h : p + 1 ≤ L.length) (hb : ¬ lN (cp_n L p 1) = 0) (h2 : p + 1 + 1 ≤ L.length) (hc : ¬ lN (cp_n L (p + 1) 1) = 0) (hf : (cp_rf L (p + 1 + 1)).1 = true) : cp_rv L p t d v z n = cp_rd L (p + 1 + 1 + 5 + 6) t d v (cp_n L (p + 1 + 1) 5) (cp_n L (p + 1 + 1 + 5) 6 + 1) := by
  unfold cp_rf at hf
  by_cases c : p + 1 + 1 + 5 ≤ L.length
  · rw [if_pos c] at hf
    by_cases e : p + 1 + 1 + 5 + 6 ≤ L.length
    · rw [if_pos e] at hf
      have hf := of_decide_eq_true hf
      unfold cp_rv; rw [if_pos h, if_pos (cp_ng hb), if_pos h2, if_pos (cp_ng hc), if_pos c, if_pos e, if_pos hf]
    · rw [if_neg e] at hf; cases hf
  · rw [if_neg c] at hf; cases hf
theorem rv_6 (h : p + 1 ≤ L.length) (hb : ¬ lN (cp_n L p 1) = 0) (h2 : p + 1 + 1 ≤ L.length) (hc : ¬ lN (cp_n L (p + 1) 1) = 0) (hf : ¬ (cp_rf L (p + 1 + 1)).1 = true) : cp_rv L p t d v z n = (false, (cp_rf L (p + 1 + 1)).2, t, d, v, z, n) := by
  unfold cp_rf at hf ⊢
  unfold cp_rv; rw [if_pos h, if_pos (cp_ng hb), if_pos h2, if_pos (cp_ng hc)]
  by_cases c : p + 1 + 1 + 5 ≤ L.length
  · rw [if_pos c] at hf ⊢
    rw [show p + 7 = p + 1 + 1 + 5 from rfl, if_pos c]
    by_cases e : p + 1 + 1 + 5 + 6 ≤ L.length
    · rw [if_pos e] at hf ⊢
      rw [show p + 13 = p + 1 + 1 + 5 + 6 from rfl, if_pos e, show p + 2 = p + 1 + 1 from rfl, if_neg (fun z => hf (decide_eq_true z))]
    · rw [if_neg e, show p + 13 = p + 1 + 1 + 5 + 6 from rfl, if_neg e]
  · rw [if_neg c, show p + 7 = p + 1 + 1 + 5 from rfl, if_neg c]
theorem rv_inv (hp : p ≤ L.length) (hz : z + n ≤ 64) : (cp_rv L p t d v z n).2.1 ≤ L.length ∧ ((cp_rv L p t d v z n).1 = true → (cp_rv L p t d v z n).2.2.2.2.2.1 + (cp_rv L p t d v z n).2.2.2.2.2.2 ≤ 64) := by
  have rd : ∀ (p z n : Nat), p ≤ L.length → z + n ≤ 64 → (cp_rd L p t d v z n).2.1 ≤ L.length ∧ ((cp_rd L p t d v z n).1 = true → (cp_rd L p t d v z n).2.2.2.2.2.1 + (cp_rd L p t d v z n).2.2.2.2.2.2 ≤ 64) := by
    intro p z n hp hz
    by_cases c : p + n ≤ L.length
    · rw [rd_ok c]; exact ⟨c, fun _ => hz⟩
    · rw [rd_no c]; exact ⟨hp, fun _ => hz⟩
  by_cases c : p + 1 ≤ L.length
  · by_cases hb : lN (cp_n L p 1) = 0
    · rw [rv_1 c hb]; exact ⟨c, fun _ => hz⟩
    · by_cases c2 : p + 1 + 1 ≤ L.length
      · by_cases hc : lN (cp_n L (p + 1) 1) = 0
        · by_cases hn : 0 < n
          · rw [rv_4 c hb c2 hc hn]; exact rd _ _ _ c2 hz
          · rw [rv_3 c hb c2 hc hn]; exact ⟨c2, fun _ => hz⟩
        · by_cases hf : (cp_rf L (p + 1 + 1)).1 = true
          · rw [rv_5 c hb c2 hc hf]
            unfold cp_rf at hf
            by_cases e1 : p + 1 + 1 + 5 ≤ L.length
            · rw [if_pos e1] at hf
              by_cases e2 : p + 1 + 1 + 5 + 6 ≤ L.length
              · rw [if_pos e2] at hf
                exact rd _ _ _ e2 (of_decide_eq_true hf)
              · rw [if_neg e2] at hf; cases hf
            · rw [if_neg e1] at hf; cases hf
          · rw [rv_6 c hb c2 hc hf]
            refine ⟨?_, fun z => absurd z Bool.false_ne_true⟩
            unfold cp_rf
            show (if _ then _ else _ : Bool × Nat).2 ≤ _
            by_cases e1 : p + 1 + 1 + 5 ≤ L.length
            · rw [if_pos e1]
              by_cases e2 : p + 1 + 1 + 5 + 6 ≤ L.length
              · rw [if_pos e2]; exact e2
              · rw [if_neg e2]; exact e1
            · rw [if_neg e1]; exact c2
      · rw [rv_2 c hb c2]; exact ⟨c, fun _ => hz⟩
  · rw [rv_0 c]; exact ⟨hp, fun _ => hz⟩
end RV
theorem r1_inv (L : List Bool) : (cp_r1 L).2.1 ≤ L.length ∧ (cp_r1 L).2.2.2.2.2.1 + (cp_r1 L).2.2.2.2.2.2 ≤ 64 := by
  unfold cp_r1
  by_cases c : 40 ≤ L.length
  · rw [if_pos c]
    by_cases d : 104 ≤ L.length
    · rw [if_pos d]; exact ⟨d, Nat.zero_le 64⟩
    · rw [if_neg d]; exact ⟨c, Nat.zero_le 64⟩
  · rw [if_neg c]; exact ⟨Nat.zero_le _, Nat.zero_le 64⟩
theorem rn_inv {L : List Bool} {a : cp_S} (hp : a.2.1 ≤ L.length) (hz : a.2.2.2.2.2.1 + a.2.2.2.2.2.2 ≤ 64) : (cp_rn L a).2.1 ≤ L.length ∧ ((cp_rn L a).1 = true → (cp_rn L a).2.2.2.2.2.1 + (cp_rn L a).2.2.2.2.2.2 ≤ 64) := by
  have ht := rt_pos (d := a.2.2.2.1) hp
  unfold cp_rn
  cases e : cp_rt L a.2.1 a.2.2.2.1 with
  | mk r q =>
    rw [e] at ht
    cases r with
    | none => exact ⟨ht, fun z => absurd z Bool.false_ne_true⟩
    | some d =>
      show (if 1 ≤ d ∧ a.2.2.1 + d ≤ cp_max then cp_rv L q (a.2.2.1 + d) d a.2.2.2.2.1 a.2.2.2.2.2.1 a.2.2.2.2.2.2 else (false, q, a.2.2)).2.1 ≤ L.length ∧ ((if 1 ≤ d ∧ a.2.2.1 + d ≤ cp_max then cp_rv L q (a.2.2.1 + d) d a.2.2.2.2.1 a.2.2.2.2.2.1 a.2.2.2.2.2.2 else (false, q, a.2.2)).1 = true → _)
      by_cases c : 1 ≤ d ∧ a.2.2.1 + d ≤ cp_max
      · simp only [if_pos c]; exact rv_inv ht hz
      · simp only [if_neg c]; exact ⟨ht, fun z => absurd z Bool.false_ne_true⟩
theorem ru_s {L : List Bool} {i : Nat} (h : (cp_ru L i).1 = true) : cp_ru L (i + 1) = if i = 0 then cp_r1 L else cp_rn L (cp_ru L i) := by rw [cp_ru, if_pos h]
theorem ru_x {L : List Bool} {i : Nat} (h : ¬ (cp_ru L i).1 = true) : cp_ru L (i + 1) = cp_ru L i := by rw [cp_ru, if_neg h]
theorem ru_inv (L : List Bool) : ∀ i, (cp_ru L i).2.1 ≤ L.length ∧ ((cp_ru L i).1 = true → (cp_ru L i).2.2.2.2.2.1 + (cp_ru L i).2.2.2.2.2.2 ≤ 64)
  | 0 => ⟨Nat.zero_le _, fun _ => Nat.zero_le 64⟩
  | i + 1 => by
    by_cases h : (cp_ru L i).1 = true
    · rw [ru_s h]
      by_cases c : i = 0
      · rw [if_pos c]; exact ⟨(r1_inv L).1, fun _ => (r1_inv L).2⟩
      · rw [if_neg c]; exact rn_inv (ru_inv L i).1 ((ru_inv L i).2 h)
    · rw [ru_x h]; exact ru_inv L i
theorem ru_stop {L : List Bool} {i : Nat} (h : ¬ (cp_ru L i).1 = true) : ∀ k, i ≤ k → cp_ru L k = cp_ru L i
  | 0, hk => by rw [show i = 0 by omega]
  | k + 1, hk => by
    by_cases c : i = k + 1
    · rw [c]
    · have e := ru_stop h k (by omega)
      rw [ru_x (by rw [e]; exact h), e]
theorem rf_in {L : List Bool} {p : Nat} (hf : (cp_rf L p).1 = true) : p + 5 + 6 ≤ L.length ∧ cp_n L p 5 + (cp_n L (p + 5) 6 + 1) ≤ 64 ∧ (cp_rf L p).2 = p + 5 + 6 := by
  unfold cp_rf at hf ⊢
  by_cases e1 : p + 5 ≤ L.length
  · rw [if_pos e1] at hf ⊢
    by_cases e2 : p + 5 + 6 ≤ L.length
    · rw [if_pos e2] at hf ⊢
      exact ⟨e2, of_decide_eq_true hf, rfl⟩
    · rw [if_neg e2] at hf; cases hf
  · rw [if_neg e1] at hf; cases hf

set_option maxHeartbeats 4000000 in
set_option maxRecDepth 100000 in
theorem cc_R_readFrame (l : Launch) (D : va_G) (cJ cB : ClassId) (q qb qw qf : Nat) (po : Nat) (nu ti de va : Int64) (w : Nat → Int64) (L : List Bool) (z n : Nat) (sz : Nat) (hL : L.length ≤ 400000) (hR : cp_Rw w L) (hpo : po ≤ L.length) : ct_i l my_R_readFrame (Cond.code my_R_readFrame mb_R_readFrame 3 (some .boolean) :: TB) ({ frames := 2, cells := 0, slots := 0, locals := 47 } : Room) D classes cJ cB [.ref q] [(q, .inr (3, [.ref qb, .ref qf, .int (nI po), .long nu, .long ti, .long de, .long va])), (qb, .inr (0, [.ref qw, .int (nI L.length)])), (qw, .inl (cJ, 6250, .inr (.inl w))), (qf, .inr (1, [.int (nI z), .int (nI n)]))] sz (fun (r : Int32) (u : Nat × Int64 × Nat × Nat) => r = bI ((cp_rf L po).1 = true) ∧ u.1 = (cp_rf L po).2 ∧ ((cp_rf L po).1 = true → u.2.2.1 = cp_n L po 5 ∧ u.2.2.2 = cp_n L (po + 5) 6 + 1)) (fun u => [(q, .inr (3, [.ref qb, .ref qf, .int (nI u.1), .long u.2.1, .long ti, .long de, .long va])), (qb, .inr (0, [.ref qw, .int (nI L.length)])), (qw, .inl (cJ, 6250, .inr (.inl w))), (qf, .inr (1, [.int (nI u.2.2.1), .int (nI u.2.2.2)]))]) 0 0 := by
  refine ct_ofW (cc := mb_R_readFrame) (maxL := 3) (ret := some .boolean) (by decide) rfl (Nat.le_of_ble_eq_true rfl) ?_
  intro p e s m below meth c hx hb hr hml hts hown hlocks hin hsz hK hP hD hA hS hZ ls hl
  have hw : ∀ w ∈ TB, w.before _ s = true := fun w h => hts w (List.mem_cons_of_mem _ h)
  have hown : s.vm.findClass cn_R = some m.cls := hown
  have hin : meth.name = "readFrame" := hin
  generalize hAe : va_A [(q, .inr (3, [.ref qb, .ref qf, .int (nI po), .long nu, .long ti, .long de, .long va])), (qb, .inr (0, [.ref qw, .int (nI L.length)])), (qw, .inl (cJ, 6250, .inr (.inl w))), (qf, .inr (1, [.int (nI z), .int (nI n)]))] sz = A at hD hA hS hZ ⊢
  clear hAe
  have b5 : cp_n L po 5 < 32 := cp_n_lt L po 5
  have b6 : cp_n L (po + 5) 6 < 64 := cp_n_lt L (po + 5) 6
  have hl : lv_has ls 3 [(0, .ref q)] := hl
  have hP : va_P D classes [(q, .inr (3, [.ref qb, .ref qf, .int (nI po), .long nu, .long ti, .long de, .long va])), (qb, .inr (0, [.ref qw, .int (nI L.length)])), (qw, .inl (cJ, 6250, .inr (.inl w))), (qf, .inr (1, [.int (nI z), .int (nI n)]))] s.heap := hP
  refine lv_aload_n hx hb dd_R_readFrame_0 rfl (lv_at hl 0 rfl) ?_
  refine lv_iconst (v := nI 5) hx hb dd_R_readFrame_1 (by decide) ?_
  refine ct_behind_i (wc := [(q, .inr (3, [.ref qb, .ref qf, .int (nI po), .long nu, .long ti, .long de, .long va])), (qb, .inr (0, [.ref qw, .int (nI L.length)])), (qw, .inl (cJ, 6250, .inr (.inl w)))]) (wr := [(qf, .inr (1, [.int (nI z), .int (nI n)]))]) (av := [.ref q, .int (nI 5)]) (va_runV (As := [.int (nI 5)]) (rest := []) ⟨hx, hb, hml, hown, hw⟩ (cc_R_take l D cJ cB q qb qw qf po nu ti de va w L 5 _ hL hR (by omega) (by omega) (by omega)) (cwV 1 hw (tb_V wi_415 wi_417 wi_8 wi_37 wi_418) rfl rfl rfl (by decide +kernel) ⟨Nat.le_of_ble_eq_true rfl, Nat.le_of_ble_eq_true rfl⟩) ⟨ct_blind, ct_recv hK hP (q0 := 0) (ci := 3) rfl rfl, ct_pc hZ hK hP hD hS hA [0, 1, 2] rfl (by decide)⟩ rfl rfl hl.1 rfl (lv_room (Nat.le_of_ble_eq_true rfl)) dd_R_readFrame_2 ⟨Nat.le_of_ble_eq_true rfl, Nat.le_of_ble_eq_true rfl⟩) hK hP hD hS hA [0, 1, 2] [3] rfl rfl (by decide) (by decide) (fun r_2 u_2 H locs hw_2 hP hD hS => ?_)
  obtain ⟨hr_2, hu_2⟩ := hw_2
  subst hr_2
  obtain ⟨p_2, n_2⟩ := u_2
  have hP : va_P D classes [(qf, .inr (1, [.int (nI z), .int (nI n)])), (q, .inr (3, [.ref qb, .ref qf, .int (nI p_2), .long n_2, .long ti, .long de, .long va])), (qb, .inr (0, [.ref qw, .int (nI L.length)])), (qw, .inl (cJ, 6250, .inr (.inl w)))] _ := hP
  have hD : va_D A [(qf, .inr (1, [.int (nI z), .int (nI n)])), (q, .inr (3, [.ref qb, .ref qf, .int (nI p_2), .long n_2, .long ti, .long de, .long va])), (qb, .inr (0, [.ref qw, .int (nI L.length)])), (qw, .inl (cJ, 6250, .inr (.inl w)))] := hD
  refine lv_if_ne (tgt := 10) hx hb dd_R_readFrame_5 (by decide) (fun c_5 => ?_) (fun c_5 => ?_)
  · skip
    have c_5 : po + 5 ≤ L.length := bI_n.mp c_5
    rw [if_pos c_5] at hu_2
    cases hu_2
    have hP : va_P D classes [(qf, .inr (1, [.int (nI z), .int (nI n)])), (q, .inr (3, [.ref qb, .ref qf, .int (nI (po + 5)), .long (lN (cp_n L po 5)), .long ti, .long de, .long va])), (qb, .inr (0, [.ref qw, .int (nI L.length)])), (qw, .inl (cJ, 6250, .inr (.inl w)))] _ := hP
    have hD : va_D A [(qf, .inr (1, [.int (nI z), .int (nI n)])), (q, .inr (3, [.ref qb, .ref qf, .int (nI (po + 5)), .long (lN (cp_n L po 5)), .long ti, .long de, .long va])), (qb, .inr (0, [.ref qw, .int (nI L.length)])), (qw, .inl (cJ, 6250, .inr (.inl w)))] := hD
    refine lv_aload_n hx hb dd_R_readFrame_10 rfl (lv_at hl 0 rfl) ?_
    refine va_get (D := D) (ci := 3) (C := cn_R) (T := cf_R) (N := 7) hx hb hw in_R hown hK hP 1 rfl rfl 3 (by decide) (hw _ wi_388) (fun _ h9 => h9) rfl dd_R_readFrame_11 ?_
    refine lv_l2i (v := (lN (cp_n L po 5)).toInt32) hx hb dd_R_readFrame_14 rfl ?_
    refine ct_topi (y := nI (cp_n L po 5)) (lN_i _) ?_
    refine lv_istore_n (lv' := [(1, .int (nI (cp_n L po 5))), (0, .ref q)]) hx hb dd_R_readFrame_15 rfl hl (by decide) rfl (fun ls hl => ?_)
    refine lv_aload_n hx hb dd_R_readFrame_16 rfl (lv_at hl 1 rfl) ?_
    refine lv_bipush (v := nI 6) hx hb dd_R_readFrame_17 (by decide) ?_
    refine ct_behind_i (wc := [(q, .inr (3, [.ref qb, .ref qf, .int (nI (po + 5)), .long (lN (cp_n L po 5)), .long ti, .long de, .long va])), (qb, .inr (0, [.ref qw, .int (nI L.length)])), (qw, .inl (cJ, 6250, .inr (.inl w)))]) (wr := [(qf, .inr (1, [.int (nI z), .int (nI n)]))]) (av := [.ref q, .int (nI 6)]) (va_runV (As := [.int (nI 6)]) (rest := []) ⟨hx, hb, hml, hown, hw⟩ (cc_R_take l D cJ cB q qb qw qf (po + 5) (lN (cp_n L po 5)) ti de va w L 6 _ hL hR (by omega) (by omega) (by omega)) (cwV 1 hw (tb_V wi_415 wi_417 wi_8 wi_37 wi_418) rfl rfl rfl (by decide +kernel) ⟨Nat.le_of_ble_eq_true rfl, Nat.le_of_ble_eq_true rfl⟩) ⟨ct_blind, ct_recv hK hP (q0 := 1) (ci := 3) rfl rfl, ct_pc hZ hK hP hD hS hA [1, 2, 3] rfl (by decide)⟩ rfl rfl hl.1 rfl (lv_room (Nat.le_of_ble_eq_true rfl)) dd_R_readFrame_19 ⟨Nat.le_of_ble_eq_true rfl, Nat.le_of_ble_eq_true rfl⟩) hK hP hD hS hA [1, 2, 3] [0] rfl rfl (by decide) (by decide) (fun r_19 u_19 H locs hw_19 hP hD hS => ?_)
    obtain ⟨hr_19, hu_19⟩ := hw_19
    subst hr_19
    obtain ⟨p_19, n_19⟩ := u_19
    have hP : va_P D classes [(qf, .inr (1, [.int (nI z), .int (nI n)])), (q, .inr (3, [.ref qb, .ref qf, .int (nI p_19), .long n_19, .long ti, .long de, .long va])), (qb, .inr (0, [.ref qw, .int (nI L.length)])), (qw, .inl (cJ, 6250, .inr (.inl w)))] _ := hP
    have hD : va_D A [(qf, .inr (1, [.int (nI z), .int (nI n)])), (q, .inr (3, [.ref qb, .ref qf, .int (nI p_19), .long n_19, .long ti, .long de, .long va])), (qb, .inr (0, [.ref qw, .int (nI L.length)])), (qw, .inl (cJ, 6250, .inr (.inl w)))] := hD
    refine lv_if_ne (tgt := 27) hx hb dd_R_readFrame_22 (by decide) (fun c_22 => ?_) (fun c_22 => ?_)
    · skip
      have c_22 : po + 5 + 6 ≤ L.length := bI_n.mp c_22
      rw [if_pos c_22] at hu_19
      cases hu_19
      have hP : va_P D classes [(qf, .inr (1, [.int (nI z), .int (nI n)])), (q, .inr (3, [.ref qb, .ref qf, .int (nI (po + 5 + 6)), .long (lN (cp_n L (po + 5) 6)), .long ti, .long de, .long va])), (qb, .inr (0, [.ref qw, .int (nI L.length)])), (qw, .inl (cJ, 6250, .inr (.inl w)))] _ := hP
      have hD : va_D A [(qf, .inr (1, [.int (nI z), .int (nI n)])), (q, .inr (3, [.ref qb, .ref qf, .int (nI (po + 5 + 6)), .long (lN (cp_n L (po + 5) 6)), .long ti, .long de, .long va])), (qb, .inr (0, [.ref qw, .int (nI L.length)])), (qw, .inl (cJ, 6250, .inr (.inl w)))] := hD
      refine lv_aload_n hx hb dd_R_readFrame_27 rfl (lv_at hl 1 rfl) ?_
      refine va_get (D := D) (ci := 3) (C := cn_R) (T := cf_R) (N := 7) hx hb hw in_R hown hK hP 1 rfl rfl 3 (by decide) (hw _ wi_388) (fun _ h9 => h9) rfl dd_R_readFrame_28 ?_
      refine lv_l2i (v := (lN (cp_n L (po + 5) 6)).toInt32) hx hb dd_R_readFrame_31 rfl ?_
      refine ct_topi (y := nI (cp_n L (po + 5) 6)) (lN_i _) ?_
      refine lv_iconst (v := nI 1) hx hb dd_R_readFrame_32 (by decide) ?_
      refine lv_iadd hx hb dd_R_readFrame_33 ?_
      refine ct_topi (y := nI (cp_n L (po + 5) 6 + 1)) (nI_add _ _) ?_
      refine lv_istore_n (lv' := [(2, .int (nI (cp_n L (po + 5) 6 + 1))), (1, .int (nI (cp_n L po 5))), (0, .ref q)]) hx hb dd_R_readFrame_34 rfl hl (by decide) rfl (fun ls hl => ?_)
      refine lv_iload_n hx hb dd_R_readFrame_35 rfl (lv_at hl 1 rfl) ?_
      refine lv_iload_n hx hb dd_R_readFrame_36 rfl (lv_at hl 0 rfl) ?_
      refine lv_iadd hx hb dd_R_readFrame_37 ?_
      refine ct_topi (y := nI (cp_n L po 5 + (cp_n L (po + 5) 6 + 1))) (nI_add _ _) ?_
      refine lv_bipush (v := nI 64) hx hb dd_R_readFrame_38 (by decide) ?_
      refine lv_icmp_le (tgt := 45) hx hb dd_R_readFrame_40 (by decide) (fun c_40 => ?_) (fun c_40 => ?_)
      · skip
        have c_40 : (cp_n L po 5 + (cp_n L (po + 5) 6 + 1)) ≤ 64 := (nI_leI (by omega) (by omega)).mp c_40
        refine lv_aload_n hx hb dd_R_readFrame_45 rfl (lv_at hl 2 rfl) ?_
        refine va_get (D := D) (ci := 3) (C := cn_R) (T := cf_R) (N := 7) hx hb hw in_R hown hK hP 1 rfl rfl 1 (by decide) (hw _ wi_386) (fun _ h9 => h9) rfl dd_R_readFrame_46 ?_
        refine lv_iload_n hx hb dd_R_readFrame_49 rfl (lv_at hl 1 rfl) ?_
        refine lv_iload_n hx hb dd_R_readFrame_50 rfl (lv_at hl 0 rfl) ?_
        refine ct_behind_v (wc := [(qf, .inr (1, [.int (nI z), .int (nI n)]))]) (wr := [(q, .inr (3, [.ref qb, .ref qf, .int (nI (po + 5 + 6)), .long (lN (cp_n L (po + 5) 6)), .long ti, .long de, .long va])), (qb, .inr (0, [.ref qw, .int (nI L.length)])), (qw, .inl (cJ, 6250, .inr (.inl w)))]) (av := [.ref qf, .int (nI (cp_n L po 5)), .int (nI (cp_n L (po + 5) 6 + 1))]) (va_runV (As := [.int (nI (cp_n L po 5)), .int (nI (cp_n L (po + 5) 6 + 1))]) (rest := []) ⟨hx, hb, hml, hown, hw⟩ (cc_F_become l D cJ cB qf z n (cp_n L po 5) (cp_n L (po + 5) 6 + 1) _) (cwV 2 hw (tb_V wi_453 wi_355 wi_356 wi_32 wi_357) rfl rfl rfl (by decide +kernel) ⟨Nat.le_of_ble_eq_true rfl, Nat.le_of_ble_eq_true rfl⟩) ⟨ct_blind, ct_recv hK hP (q0 := 0) (ci := 1) rfl rfl, ct_pc hZ hK hP hD hS hA [0] rfl (by decide)⟩ rfl rfl hl.1 rfl (lv_room (Nat.le_of_ble_eq_true rfl)) dd_R_readFrame_51 ⟨Nat.le_of_ble_eq_true rfl, Nat.le_of_ble_eq_true rfl⟩) hK hP hD hS hA [0] [1, 2, 3] rfl rfl (by decide) (by decide) (fun u_51 H locs hw_51 hP hD hS => ?_)
        have hP : va_P D classes [(q, .inr (3, [.ref qb, .ref qf, .int (nI (po + 5 + 6)), .long (lN (cp_n L (po + 5) 6)), .long ti, .long de, .long va])), (qb, .inr (0, [.ref qw, .int (nI L.length)])), (qw, .inl (cJ, 6250, .inr (.inl w))), (qf, .inr (1, [.int (nI (cp_n L po 5)), .int (nI (cp_n L (po + 5) 6 + 1))]))] _ := hP
        have hD : va_D A [(q, .inr (3, [.ref qb, .ref qf, .int (nI (po + 5 + 6)), .long (lN (cp_n L (po + 5) 6)), .long ti, .long de, .long va])), (qb, .inr (0, [.ref qw, .int (nI L.length)])), (qw, .inl (cJ, 6250, .inr (.inl w))), (qf, .inr (1, [.int (nI (cp_n L po 5)), .int (nI (cp_n L (po + 5) 6 + 1))]))] := hD
        refine lv_iconst (v := nI 1) hx hb dd_R_readFrame_54 (by decide) ?_
        refine ct_zret (u := (po + 5 + 6, lN (cp_n L (po + 5) 6), cp_n L po 5, cp_n L (po + 5) 6 + 1)) hx hb hr hlocks (by decide) hK hP hD hS rfl ?_ dd_R_readFrame_55
        have e : cp_rf L po = (true, po + 5 + 6) := by unfold cp_rf; rw [if_pos c_5, if_pos c_22, decide_eq_true c_40]
        rw [e]
        exact ⟨bI_t rfl, rfl, fun _ => ⟨rfl, rfl⟩⟩
      have c_40 : ¬ ((cp_n L po 5 + (cp_n L (po + 5) 6 + 1)) ≤ 64) := fun z => c_40 ((nI_leI (by omega) (by omega)).mpr z)
      refine lv_iconst (v := nI 0) hx hb dd_R_readFrame_43 (by decide) ?_
      refine ct_zret (u := (po + 5 + 6, lN (cp_n L (po + 5) 6), z, n)) hx hb hr hlocks (by decide) hK (hP.sub [1, 2, 3, 0] rfl) (hD.sub [1, 2, 3, 0] (by decide) rfl) hS rfl ?_ dd_R_readFrame_44
      have e : cp_rf L po = (false, po + 5 + 6) := by unfold cp_rf; rw [if_pos c_5, if_pos c_22, decide_eq_false c_40]
      rw [e]
      exact ⟨bI_f Bool.false_ne_true, rfl, fun z => absurd z Bool.false_ne_true⟩
    have c_22 : ¬ (po + 5 + 6 ≤ L.length) := bI_z.mp c_22
    rw [if_neg c_22] at hu_19
    cases hu_19
    have hP : va_P D classes [(qf, .inr (1, [.int (nI z), .int (nI n)])), (q, .inr (3, [.ref qb, .ref qf, .int (nI (po + 5)), .long (lN (cp_n L po 5)), .long ti, .long de, .long va])), (qb, .inr (0, [.ref qw, .int (nI L.length)])), (qw, .inl (cJ, 6250, .inr (.inl w)))] _ := hP
    have hD : va_D A [(qf, .inr (1, [.int (nI z), .int (nI n)])), (q, .inr (3, [.ref qb, .ref qf, .int (nI (po + 5)), .long (lN (cp_n L po 5)), .long ti, .long de, .long va])), (qb, .inr (0, [.ref qw, .int (nI L.length)])), (qw, .inl (cJ, 6250, .inr (.inl w)))] := hD
    refine lv_iconst (v := nI 0) hx hb dd_R_readFrame_25 (by decide) ?_
    refine ct_zret (u := (po + 5, lN (cp_n L po 5), z, n)) hx hb hr hlocks (by decide) hK (hP.sub [1, 2, 3, 0] rfl) (hD.sub [1, 2, 3, 0] (by decide) rfl) hS rfl ?_ dd_R_readFrame_26
    have e : cp_rf L po = (false, po + 5) := by unfold cp_rf; rw [if_pos c_5, if_neg c_22]
    rw [e]
    exact ⟨bI_f Bool.false_ne_true, rfl, fun z => absurd z Bool.false_ne_true⟩
  have c_5 : ¬ (po + 5 ≤ L.length) := bI_z.mp c_5
  rw [if_neg c_5] at hu_2
  cases hu_2
  have hP : va_P D classes [(qf, .inr (1, [.int (nI z), .int (nI n)])), (q, .inr (3, [.ref qb, .ref qf, .int (nI po), .long nu, .long ti, .long de, .long va])), (qb, .inr (0, [.ref qw, .int (nI L.length)])), (qw, .inl (cJ, 6250, .inr (.inl w)))] _ := hP
  have hD : va_D A [(qf, .inr (1, [.int (nI z), .int (nI n)])), (q, .inr (3, [.ref qb, .ref qf, .int (nI po), .long nu, .long ti, .long de, .long va])), (qb, .inr (0, [.ref qw, .int (nI L.length)])), (qw, .inl (cJ, 6250, .inr (.inl w)))] := hD
  refine lv_iconst (v := nI 0) hx hb dd_R_readFrame_8 (by decide) ?_
  refine ct_zret (u := (po, nu, z, n)) hx hb hr hlocks (by decide) hK (hP.sub [1, 2, 3, 0] rfl) (hD.sub [1, 2, 3, 0] (by decide) rfl) hS rfl ?_ dd_R_readFrame_9
  have e : cp_rf L po = (false, po) := by unfold cp_rf; rw [if_neg c_5]
  rw [e]
  exact ⟨bI_f Bool.false_ne_true, rfl, fun z => absurd z Bool.false_ne_true⟩

set_option maxHeartbeats 4000000 in
set_option maxRecDepth 100000 in
theorem cc_R_readDifference (l : Launch) (D : va_G) (cJ cB : ClassId) (q qb qw qf : Nat) (po : Nat) (nu ti de va : Int64) (w : Nat → Int64) (L : List Bool) (z n : Nat) (sz : Nat) (hL : L.length ≤ 400000) (hR : cp_Rw w L) (hpo : po ≤ L.length) (hzn : z + n ≤ 64) : ct_i l my_R_readDifference (Cond.code my_R_readDifference mb_R_readDifference 2 (some .boolean) :: TB) ({ frames := 3, cells := 0, slots := 0, locals := 69 } : Room) D classes cJ cB [.ref q] [(q, .inr (3, [.ref qb, .ref qf, .int (nI po), .long nu, .long ti, .long de, .long va])), (qb, .inr (0, [.ref qw, .int (nI L.length)])), (qw, .inl (cJ, 6250, .inr (.inl w))), (qf, .inr (1, [.int (nI z), .int (nI n)]))] sz (fun (r : Int32) (u : Nat × Int64 × Int64 × Nat × Nat) => r = bI ((cp_rv L po ti de va z n).1 = true) ∧ u.1 = (cp_rv L po ti de va z n).2.1 ∧ ((cp_rv L po ti de va z n).1 = true → u.2.2.1 = (cp_rv L po ti de va z n).2.2.2.2.1 ∧ u.2.2.2.1 = (cp_rv L po ti de va z n).2.2.2.2.2.1 ∧ u.2.2.2.2 = (cp_rv L po ti de va z n).2.2.2.2.2.2)) (fun u => [(q, .inr (3, [.ref qb, .ref qf, .int (nI u.1), .long u.2.1, .long ti, .long de, .long u.2.2.1])), (qb, .inr (0, [.ref qw, .int (nI L.length)])), (qw, .inl (cJ, 6250, .inr (.inl w))), (qf, .inr (1, [.int (nI u.2.2.2.1), .int (nI u.2.2.2.2)]))]) 0 0 := by
  refine ct_ofW (cc := mb_R_readDifference) (maxL := 2) (ret := some .boolean) (by decide) rfl (Nat.le_of_ble_eq_true rfl) ?_
  intro p e s m below meth c hx hb hr hml hts hown hlocks hin hsz hK hP hD hA hS hZ ls hl
  have hw : ∀ w ∈ TB, w.before _ s = true := fun w h => hts w (List.mem_cons_of_mem _ h)
  have hown : s.vm.findClass cn_R = some m.cls := hown
  have hin : meth.name = "readDifference" := hin
  generalize hAe : va_A [(q, .inr (3, [.ref qb, .ref qf, .int (nI po), .long nu, .long ti, .long de, .long va])), (qb, .inr (0, [.ref qw, .int (nI L.length)])), (qw, .inl (cJ, 6250, .inr (.inl w))), (qf, .inr (1, [.int (nI z), .int (nI n)]))] sz = A at hD hA hS hZ ⊢
  clear hAe
  have hl : lv_has ls 2 [(0, .ref q)] := hl
  have hP : va_P D classes [(q, .inr (3, [.ref qb, .ref qf, .int (nI po), .long nu, .long ti, .long de, .long va])), (qb, .inr (0, [.ref qw, .int (nI L.length)])), (qw, .inl (cJ, 6250, .inr (.inl w))), (qf, .inr (1, [.int (nI z), .int (nI n)]))] s.heap := hP
  refine lv_aload_n hx hb dd_R_readDifference_0 rfl (lv_at hl 0 rfl) ?_
  refine lv_iconst (v := nI 1) hx hb dd_R_readDifference_1 (by decide) ?_
  refine ct_behind_i (wc := [(q, .inr (3, [.ref qb, .ref qf, .int (nI po), .long nu, .long ti, .long de, .long va])), (qb, .inr (0, [.ref qw, .int (nI L.length)])), (qw, .inl (cJ, 6250, .inr (.inl w)))]) (wr := [(qf, .inr (1, [.int (nI z), .int (nI n)]))]) (av := [.ref q, .int (nI 1)]) (va_runV (As := [.int (nI 1)]) (rest := []) ⟨hx, hb, hml, hown, hw⟩ (cc_R_take l D cJ cB q qb qw qf po nu ti de va w L 1 _ hL hR (by omega) (by omega) (by omega)) (cwV 1 hw (tb_V wi_415 wi_417 wi_8 wi_37 wi_418) rfl rfl rfl (by decide +kernel) ⟨Nat.le_of_ble_eq_true rfl, Nat.le_of_ble_eq_true rfl⟩) ⟨ct_blind, ct_recv hK hP (q0 := 0) (ci := 3) rfl rfl, ct_pc hZ hK hP hD hS hA [0, 1, 2] rfl (by decide)⟩ rfl rfl hl.1 rfl (lv_room (Nat.le_of_ble_eq_true rfl)) dd_R_readDifference_2 ⟨Nat.le_of_ble_eq_true rfl, Nat.le_of_ble_eq_true rfl⟩) hK hP hD hS hA [0, 1, 2] [3] rfl rfl (by decide) (by decide) (fun r_2 u_2 H locs hw_2 hP hD hS => ?_)
  obtain ⟨hr_2, hu_2⟩ := hw_2
  subst hr_2
  obtain ⟨p_2, n_2⟩ := u_2
  have hP : va_P D classes [(qf, .inr (1, [.int (nI z), .int (nI n)])), (q, .inr (3, [.ref qb, .ref qf, .int (nI p_2), .long n_2, .long ti, .long de, .long va])), (qb, .inr (0, [.ref qw, .int (nI L.length)])), (qw, .inl (cJ, 6250, .inr (.inl w)))] _ := hP
  have hD : va_D A [(qf, .inr (1, [.int (nI z), .int (nI n)])), (q, .inr (3, [.ref qb, .ref qf, .int (nI p_2), .long n_2, .long ti, .long de, .long va])), (qb, .inr (0, [.ref qw, .int (nI L.length)])), (qw, .inl (cJ, 6250, .inr (.inl w)))] := hD
  refine lv_if_ne (tgt := 10) hx hb dd_R_readDifference_5 (by decide) (fun c_5 => ?_) (fun c_5 => ?_)
  · skip
    have c_5 : po + 1 ≤ L.length := bI_n.mp c_5
    rw [if_pos c_5] at hu_2
    cases hu_2
    have hP : va_P D classes [(qf, .inr (1, [.int (nI z), .int (nI n)])), (q, .inr (3, [.ref qb, .ref qf, .int (nI (po + 1)), .long (lN (cp_n L po 1)), .long ti, .long de, .long va])), (qb, .inr (0, [.ref qw, .int (nI L.length)])), (qw, .inl (cJ, 6250, .inr (.inl w)))] _ := hP
    have hD : va_D A [(qf, .inr (1, [.int (nI z), .int (nI n)])), (q, .inr (3, [.ref qb, .ref qf, .int (nI (po + 1)), .long (lN (cp_n L po 1)), .long ti, .long de, .long va])), (qb, .inr (0, [.ref qw, .int (nI L.length)])), (qw, .inl (cJ, 6250, .inr (.inl w)))] := hD
    refine lv_aload_n hx hb dd_R_readDifference_10 rfl (lv_at hl 0 rfl) ?_
    refine va_get (D := D) (ci := 3) (C := cn_R) (T := cf_R) (N := 7) hx hb hw in_R hown hK hP 1 rfl rfl 3 (by decide) (hw _ wi_388) (fun _ h9 => h9) rfl dd_R_readDifference_11 ?_
    refine lv_lconst (v := 0) hx hb dd_R_readDifference_14 (by decide) ?_
    refine W.lcmp hx hb dd_R_readDifference_15 ?_
    refine lv_if_ne (tgt := 21) hx hb dd_R_readDifference_16 (by decide) (fun c_16 => ?_) (fun c_16 => ?_)
    · skip
      have c_16 : ¬ ((lN (cp_n L po 1)) = 0) := fun z => c_16 ((lg_cmp_eq _ _).mpr z)
      refine lv_aload_n hx hb dd_R_readDifference_21 rfl (lv_at hl 0 rfl) ?_
      refine lv_iconst (v := nI 1) hx hb dd_R_readDifference_22 (by decide) ?_
      refine ct_behind_i (wc := [(q, .inr (3, [.ref qb, .ref qf, .int (nI (po + 1)), .long (lN (cp_n L po 1)), .long ti, .long de, .long va])), (qb, .inr (0, [.ref qw, .int (nI L.length)])), (qw, .inl (cJ, 6250, .inr (.inl w)))]) (wr := [(qf, .inr (1, [.int (nI z), .int (nI n)]))]) (av := [.ref q, .int (nI 1)]) (va_runV (As := [.int (nI 1)]) (rest := []) ⟨hx, hb, hml, hown, hw⟩ (cc_R_take l D cJ cB q qb qw qf (po + 1) (lN (cp_n L po 1)) ti de va w L 1 _ hL hR (by omega) (by omega) (by omega)) (cwV 1 hw (tb_V wi_415 wi_417 wi_8 wi_37 wi_418) rfl rfl rfl (by decide +kernel) ⟨Nat.le_of_ble_eq_true rfl, Nat.le_of_ble_eq_true rfl⟩) ⟨ct_blind, ct_recv hK hP (q0 := 1) (ci := 3) rfl rfl, ct_pc hZ hK hP hD hS hA [1, 2, 3] rfl (by decide)⟩ rfl rfl hl.1 rfl (lv_room (Nat.le_of_ble_eq_true rfl)) dd_R_readDifference_23 ⟨Nat.le_of_ble_eq_true rfl, Nat.le_of_ble_eq_true rfl⟩) hK hP hD hS hA [1, 2, 3] [0] rfl rfl (by decide) (by decide) (fun r_23 u_23 H locs hw_23 hP hD hS => ?_)
      obtain ⟨hr_23, hu_23⟩ := hw_23
      subst hr_23
      obtain ⟨p_23, n_23⟩ := u_23
      have hP : va_P D classes [(qf, .inr (1, [.int (nI z), .int (nI n)])), (q, .inr (3, [.ref qb, .ref qf, .int (nI p_23), .long n_23, .long ti, .long de, .long va])), (qb, .inr (0, [.ref qw, .int (nI L.length)])), (qw, .inl (cJ, 6250, .inr (.inl w)))] _ := hP
      have hD : va_D A [(qf, .inr (1, [.int (nI z), .int (nI n)])), (q, .inr (3, [.ref qb, .ref qf, .int (nI p_23), .long n_23, .long ti, .long de, .long va])), (qb, .inr (0, [.ref qw, .int (nI L.length)])), (qw, .inl (cJ, 6250, .inr (.inl w)))] := hD
      refine lv_if_ne (tgt := 31) hx hb dd_R_readDifference_26 (by decide) (fun c_26 => ?_) (fun c_26 => ?_)
      · skip
        have c_26 : po + 1 + 1 ≤ L.length := bI_n.mp c_26
        rw [if_pos c_26] at hu_23
        cases hu_23
        have hP : va_P D classes [(qf, .inr (1, [.int (nI z), .int (nI n)])), (q, .inr (3, [.ref qb, .ref qf, .int (nI (po + 1 + 1)), .long (lN (cp_n L (po + 1) 1)), .long ti, .long de, .long va])), (qb, .inr (0, [.ref qw, .int (nI L.length)])), (qw, .inl (cJ, 6250, .inr (.inl w)))] _ := hP
        have hD : va_D A [(qf, .inr (1, [.int (nI z), .int (nI n)])), (q, .inr (3, [.ref qb, .ref qf, .int (nI (po + 1 + 1)), .long (lN (cp_n L (po + 1) 1)), .long ti, .long de, .long va])), (qb, .inr (0, [.ref qw, .int (nI L.length)])), (qw, .inl (cJ, 6250, .inr (.inl w)))] := hD
        refine lv_aload_n hx hb dd_R_readDifference_31 rfl (lv_at hl 0 rfl) ?_
        refine va_get (D := D) (ci := 3) (C := cn_R) (T := cf_R) (N := 7) hx hb hw in_R hown hK hP 1 rfl rfl 3 (by decide) (hw _ wi_388) (fun _ h9 => h9) rfl dd_R_readDifference_32 ?_
        refine lv_lconst (v := 0) hx hb dd_R_readDifference_35 (by decide) ?_
        refine W.lcmp hx hb dd_R_readDifference_36 ?_
        refine lv_if_ne (tgt := 50) hx hb dd_R_readDifference_37 (by decide) (fun c_37 => ?_) (fun c_37 => ?_)
        · skip
          have c_37 : ¬ ((lN (cp_n L (po + 1) 1)) = 0) := fun z => c_37 ((lg_cmp_eq _ _).mpr z)
          refine lv_aload_n hx hb dd_R_readDifference_50 rfl (lv_at hl 0 rfl) ?_
          refine ct_behind_i (wc := [(q, .inr (3, [.ref qb, .ref qf, .int (nI (po + 1 + 1)), .long (lN (cp_n L (po + 1) 1)), .long ti, .long de, .long va])), (qb, .inr (0, [.ref qw, .int (nI L.length)])), (qw, .inl (cJ, 6250, .inr (.inl w))), (qf, .inr (1, [.int (nI z), .int (nI n)]))]) (wr := []) (av := [.ref q]) (va_runV (As := []) (rest := []) ⟨hx, hb, hml, hown, hw⟩ (cc_R_readFrame l D cJ cB q qb qw qf (po + 1 + 1) (lN (cp_n L (po + 1) 1)) ti de va w L z n _ hL hR (by omega)) (cwV 0 hw (tb_V wi_449 wi_451 wi_13 wi_37 wi_452) rfl rfl rfl (by decide +kernel) ⟨Nat.le_of_ble_eq_true rfl, Nat.le_of_ble_eq_true rfl⟩) ⟨ct_blind, ct_recv hK hP (q0 := 1) (ci := 3) rfl rfl, ct_pc hZ hK hP hD hS hA [1, 2, 3, 0] rfl (by decide)⟩ rfl rfl hl.1 rfl (lv_room (Nat.le_of_ble_eq_true rfl)) dd_R_readDifference_51 ⟨Nat.le_of_ble_eq_true rfl, Nat.le_of_ble_eq_true rfl⟩) hK hP hD hS hA [1, 2, 3, 0] [] rfl rfl (by decide) (by decide) (fun r_51 u_51 H locs hw_51 hP hD hS => ?_)
          obtain ⟨hr_51, hu_51, hv_51⟩ := hw_51
          subst hr_51
          obtain ⟨p_51, n_51, z_51, m_51⟩ := u_51
          have hP : va_P D classes [(q, .inr (3, [.ref qb, .ref qf, .int (nI p_51), .long n_51, .long ti, .long de, .long va])), (qb, .inr (0, [.ref qw, .int (nI L.length)])), (qw, .inl (cJ, 6250, .inr (.inl w))), (qf, .inr (1, [.int (nI z_51), .int (nI m_51)]))] _ := hP
          have hD : va_D A [(q, .inr (3, [.ref qb, .ref qf, .int (nI p_51), .long n_51, .long ti, .long de, .long va])), (qb, .inr (0, [.ref qw, .int (nI L.length)])), (qw, .inl (cJ, 6250, .inr (.inl w))), (qf, .inr (1, [.int (nI z_51), .int (nI m_51)]))] := hD
          refine lv_istore_n (lv' := [(1, .int (bI ((cp_rf L (po + 1 + 1)).1 = true))), (0, .ref q)]) hx hb dd_R_readDifference_54 rfl hl (by decide) rfl (fun ls hl => ?_)
          refine lv_iload_n hx hb dd_R_readDifference_55 rfl (lv_at hl 0 rfl) ?_
          refine lv_if_eq (tgt := 73) hx hb dd_R_readDifference_56 (by decide) (fun c_56 => ?_) (fun c_56 => ?_)
          · skip
            have c_56 : ¬ ((cp_rf L (po + 1 + 1)).1 = true) := bI_z.mp c_56
            refine lv_iconst (v := nI 0) hx hb dd_R_readDifference_73 (by decide) ?_
            refine ct_zret (u := (p_51, n_51, va, z_51, m_51)) hx hb hr hlocks (by decide) hK hP hD hS rfl ?_ dd_R_readDifference_74
            have e : cp_rv L po ti de va z n = _ := rv_6 c_5 c_16 c_26 c_37 c_56
            rw [e]
            exact ⟨bI_f Bool.false_ne_true, hu_51, fun z => absurd z Bool.false_ne_true⟩
          have c_56 : (cp_rf L (po + 1 + 1)).1 = true := bI_n.mp c_56
          obtain ⟨hz9, hm9⟩ := hv_51 c_56
          have hz9 : z_51 = _ := hz9
          have hm9 : m_51 = _ := hm9
          subst hz9 hm9
          have hfr := rf_in c_56
          have hp9 : p_51 = po + 1 + 1 + 5 + 6 := by rw [show p_51 = _ from hu_51]; exact hfr.2.2
          subst hp9
          have b5 : cp_n L (po + 1 + 1) 5 < 32 := cp_n_lt L _ 5
          have b6 : cp_n L (po + 1 + 1 + 5) 6 < 64 := cp_n_lt L _ 6
          have hP : va_P D classes [(q, .inr (3, [.ref qb, .ref qf, .int (nI (po + 1 + 1 + 5 + 6)), .long n_51, .long ti, .long de, .long va])), (qb, .inr (0, [.ref qw, .int (nI L.length)])), (qw, .inl (cJ, 6250, .inr (.inl w))), (qf, .inr (1, [.int (nI (cp_n L (po + 1 + 1) 5)), .int (nI (cp_n L (po + 1 + 1 + 5) 6 + 1))]))] _ := hP
          have hD : va_D A [(q, .inr (3, [.ref qb, .ref qf, .int (nI (po + 1 + 1 + 5 + 6)), .long n_51, .long ti, .long de, .long va])), (qb, .inr (0, [.ref qw, .int (nI L.length)])), (qw, .inl (cJ, 6250, .inr (.inl w))), (qf, .inr (1, [.int (nI (cp_n L (po + 1 + 1) 5)), .int (nI (cp_n L (po + 1 + 1 + 5) 6 + 1))]))] := hD
          refine lv_aload_n hx hb dd_R_readDifference_59 rfl (lv_at hl 1 rfl) ?_
          refine lv_aload_n hx hb dd_R_readDifference_60 rfl (lv_at hl 1 rfl) ?_
          refine va_get (D := D) (ci := 3) (C := cn_R) (T := cf_R) (N := 7) hx hb hw in_R hown hK hP 0 rfl rfl 1 (by decide) (hw _ wi_386) (fun _ h9 => h9) rfl dd_R_readDifference_61 ?_
          refine ct_behind_i (wc := [(qf, .inr (1, [.int (nI (cp_n L (po + 1 + 1) 5)), .int (nI (cp_n L (po + 1 + 1 + 5) 6 + 1))]))]) (wr := [(q, .inr (3, [.ref qb, .ref qf, .int (nI (po + 1 + 1 + 5 + 6)), .long n_51, .long ti, .long de, .long va])), (qb, .inr (0, [.ref qw, .int (nI L.length)])), (qw, .inl (cJ, 6250, .inr (.inl w)))]) (av := [.ref qf]) (va_runV (As := []) (rest := [.ref q]) ⟨hx, hb, hml, hown, hw⟩ (cc_F_width l D cJ cB qf (cp_n L (po + 1 + 1) 5) (cp_n L (po + 1 + 1 + 5) 6 + 1) _ (by omega)) (cwV 0 hw (tb_V wi_454 wi_361 wi_362 wi_32 wi_363) rfl rfl rfl (by decide +kernel) ⟨Nat.le_of_ble_eq_true rfl, Nat.le_of_ble_eq_true rfl⟩) ⟨ct_blind, ct_recv hK hP (q0 := 3) (ci := 1) rfl rfl, ct_pc hZ hK hP hD hS hA [3] rfl (by decide)⟩ rfl rfl hl.1 rfl (lv_room (Nat.le_of_ble_eq_true rfl)) dd_R_readDifference_64 ⟨Nat.le_of_ble_eq_true rfl, Nat.le_of_ble_eq_true rfl⟩) hK hP hD hS hA [3] [0, 1, 2] rfl rfl (by decide) (by decide) (fun r_64 u_64 H locs hw_64 hP hD hS => ?_)
          subst hw_64
          have hP : va_P D classes [(q, .inr (3, [.ref qb, .ref qf, .int (nI (po + 1 + 1 + 5 + 6)), .long n_51, .long ti, .long de, .long va])), (qb, .inr (0, [.ref qw, .int (nI L.length)])), (qw, .inl (cJ, 6250, .inr (.inl w))), (qf, .inr (1, [.int (nI (cp_n L (po + 1 + 1) 5)), .int (nI (cp_n L (po + 1 + 1 + 5) 6 + 1))]))] _ := hP
          have hD : va_D A [(q, .inr (3, [.ref qb, .ref qf, .int (nI (po + 1 + 1 + 5 + 6)), .long n_51, .long ti, .long de, .long va])), (qb, .inr (0, [.ref qw, .int (nI L.length)])), (qw, .inl (cJ, 6250, .inr (.inl w))), (qf, .inr (1, [.int (nI (cp_n L (po + 1 + 1) 5)), .int (nI (cp_n L (po + 1 + 1 + 5) 6 + 1))]))] := hD
          refine ct_behind_i (wc := [(q, .inr (3, [.ref qb, .ref qf, .int (nI (po + 1 + 1 + 5 + 6)), .long n_51, .long ti, .long de, .long va])), (qb, .inr (0, [.ref qw, .int (nI L.length)])), (qw, .inl (cJ, 6250, .inr (.inl w)))]) (wr := [(qf, .inr (1, [.int (nI (cp_n L (po + 1 + 1) 5)), .int (nI (cp_n L (po + 1 + 1 + 5) 6 + 1))]))]) (av := [.ref q, .int (nI (cp_n L (po + 1 + 1 + 5) 6 + 1))]) (va_runV (As := [.int (nI (cp_n L (po + 1 + 1 + 5) 6 + 1))]) (rest := []) ⟨hx, hb, hml, hown, hw⟩ (cc_R_take l D cJ cB q qb qw qf (po + 1 + 1 + 5 + 6) n_51 ti de va w L (cp_n L (po + 1 + 1 + 5) 6 + 1) _ hL hR (by omega) (by omega) (by omega)) (cwV 1 hw (tb_V wi_415 wi_417 wi_8 wi_37 wi_418) rfl rfl rfl (by decide +kernel) ⟨Nat.le_of_ble_eq_true rfl, Nat.le_of_ble_eq_true rfl⟩) ⟨ct_blind, ct_recv hK hP (q0 := 0) (ci := 3) rfl rfl, ct_pc hZ hK hP hD hS hA [0, 1, 2] rfl (by decide)⟩ rfl rfl hl.1 rfl (lv_room (Nat.le_of_ble_eq_true rfl)) dd_R_readDifference_67 ⟨Nat.le_of_ble_eq_true rfl, Nat.le_of_ble_eq_true rfl⟩) hK hP hD hS hA [0, 1, 2] [3] rfl rfl (by decide) (by decide) (fun r_67 u_67 H locs hw_67 hP hD hS => ?_)
          obtain ⟨hr_67, hu_67⟩ := hw_67
          subst hr_67
          obtain ⟨p_67, n_67⟩ := u_67
          have hP : va_P D classes [(qf, .inr (1, [.int (nI (cp_n L (po + 1 + 1) 5)), .int (nI (cp_n L (po + 1 + 1 + 5) 6 + 1))])), (q, .inr (3, [.ref qb, .ref qf, .int (nI p_67), .long n_67, .long ti, .long de, .long va])), (qb, .inr (0, [.ref qw, .int (nI L.length)])), (qw, .inl (cJ, 6250, .inr (.inl w)))] _ := hP
          have hD : va_D A [(qf, .inr (1, [.int (nI (cp_n L (po + 1 + 1) 5)), .int (nI (cp_n L (po + 1 + 1 + 5) 6 + 1))])), (q, .inr (3, [.ref qb, .ref qf, .int (nI p_67), .long n_67, .long ti, .long de, .long va])), (qb, .inr (0, [.ref qw, .int (nI L.length)])), (qw, .inl (cJ, 6250, .inr (.inl w)))] := hD
          refine lv_if_ne (tgt := 75) hx hb dd_R_readDifference_70 (by decide) (fun c_70 => ?_) (fun c_70 => ?_)
          · skip
            have c_70 : po + 1 + 1 + 5 + 6 + (cp_n L (po + 1 + 1 + 5) 6 + 1) ≤ L.length := bI_n.mp c_70
            rw [if_pos c_70] at hu_67
            cases hu_67
            have hP : va_P D classes [(qf, .inr (1, [.int (nI (cp_n L (po + 1 + 1) 5)), .int (nI (cp_n L (po + 1 + 1 + 5) 6 + 1))])), (q, .inr (3, [.ref qb, .ref qf, .int (nI (po + 1 + 1 + 5 + 6 + (cp_n L (po + 1 + 1 + 5) 6 + 1))), .long (lN (cp_n L (po + 1 + 1 + 5 + 6) (cp_n L (po + 1 + 1 + 5) 6 + 1))), .long ti, .long de, .long va])), (qb, .inr (0, [.ref qw, .int (nI L.length)])), (qw, .inl (cJ, 6250, .inr (.inl w)))] _ := hP
            have hD : va_D A [(qf, .inr (1, [.int (nI (cp_n L (po + 1 + 1) 5)), .int (nI (cp_n L (po + 1 + 1 + 5) 6 + 1))])), (q, .inr (3, [.ref qb, .ref qf, .int (nI (po + 1 + 1 + 5 + 6 + (cp_n L (po + 1 + 1 + 5) 6 + 1))), .long (lN (cp_n L (po + 1 + 1 + 5 + 6) (cp_n L (po + 1 + 1 + 5) 6 + 1))), .long ti, .long de, .long va])), (qb, .inr (0, [.ref qw, .int (nI L.length)])), (qw, .inl (cJ, 6250, .inr (.inl w)))] := hD
            refine lv_aload_n hx hb dd_R_readDifference_75 rfl (lv_at hl 1 rfl) ?_
            refine lv_dup hx hb dd_R_readDifference_76 rfl ?_
            refine va_get (D := D) (ci := 3) (C := cn_R) (T := cf_R) (N := 7) hx hb hw in_R hown hK hP 1 rfl rfl 6 (by decide) (hw _ wi_391) (fun _ h9 => h9) rfl dd_R_readDifference_77 ?_
            refine lv_aload_n hx hb dd_R_readDifference_80 rfl (lv_at hl 1 rfl) ?_
            refine va_get (D := D) (ci := 3) (C := cn_R) (T := cf_R) (N := 7) hx hb hw in_R hown hK hP 1 rfl rfl 3 (by decide) (hw _ wi_388) (fun _ h9 => h9) rfl dd_R_readDifference_81 ?_
            refine lv_aload_n hx hb dd_R_readDifference_84 rfl (lv_at hl 1 rfl) ?_
            refine va_get (D := D) (ci := 3) (C := cn_R) (T := cf_R) (N := 7) hx hb hw in_R hown hK hP 1 rfl rfl 1 (by decide) (hw _ wi_386) (fun _ h9 => h9) rfl dd_R_readDifference_85 ?_
            refine ct_behind_i (wc := [(qf, .inr (1, [.int (nI (cp_n L (po + 1 + 1) 5)), .int (nI (cp_n L (po + 1 + 1 + 5) 6 + 1))]))]) (wr := [(q, .inr (3, [.ref qb, .ref qf, .int (nI (po + 1 + 1 + 5 + 6 + (cp_n L (po + 1 + 1 + 5) 6 + 1))), .long (lN (cp_n L (po + 1 + 1 + 5 + 6) (cp_n L (po + 1 + 1 + 5) 6 + 1))), .long ti, .long de, .long va])), (qb, .inr (0, [.ref qw, .int (nI L.length)])), (qw, .inl (cJ, 6250, .inr (.inl w)))]) (av := [.ref qf]) (va_runV (As := []) (rest := [.long (lN (cp_n L (po + 1 + 1 + 5 + 6) (cp_n L (po + 1 + 1 + 5) 6 + 1))), .long va, .ref q]) ⟨hx, hb, hml, hown, hw⟩ (cc_F_below l D cJ cB qf (cp_n L (po + 1 + 1) 5) (cp_n L (po + 1 + 1 + 5) 6 + 1) _ (by omega)) (cwV 0 hw (tb_V wi_455 wi_346 wi_347 wi_32 wi_348) rfl rfl rfl (by decide +kernel) ⟨Nat.le_of_ble_eq_true rfl, Nat.le_of_ble_eq_true rfl⟩) ⟨ct_blind, ct_recv hK hP (q0 := 0) (ci := 1) rfl rfl, ct_pc hZ hK hP hD hS hA [0] rfl (by decide)⟩ rfl rfl hl.1 rfl (lv_room (Nat.le_of_ble_eq_true rfl)) dd_R_readDifference_88 ⟨Nat.le_of_ble_eq_true rfl, Nat.le_of_ble_eq_true rfl⟩) hK hP hD hS hA [0] [1, 2, 3] rfl rfl (by decide) (by decide) (fun r_88 u_88 H locs hw_88 hP hD hS => ?_)
            subst hw_88
            have hP : va_P D classes [(q, .inr (3, [.ref qb, .ref qf, .int (nI (po + 1 + 1 + 5 + 6 + (cp_n L (po + 1 + 1 + 5) 6 + 1))), .long (lN (cp_n L (po + 1 + 1 + 5 + 6) (cp_n L (po + 1 + 1 + 5) 6 + 1))), .long ti, .long de, .long va])), (qb, .inr (0, [.ref qw, .int (nI L.length)])), (qw, .inl (cJ, 6250, .inr (.inl w))), (qf, .inr (1, [.int (nI (cp_n L (po + 1 + 1) 5)), .int (nI (cp_n L (po + 1 + 1 + 5) 6 + 1))]))] _ := hP
            have hD : va_D A [(q, .inr (3, [.ref qb, .ref qf, .int (nI (po + 1 + 1 + 5 + 6 + (cp_n L (po + 1 + 1 + 5) 6 + 1))), .long (lN (cp_n L (po + 1 + 1 + 5 + 6) (cp_n L (po + 1 + 1 + 5) 6 + 1))), .long ti, .long de, .long va])), (qb, .inr (0, [.ref qw, .int (nI L.length)])), (qw, .inl (cJ, 6250, .inr (.inl w))), (qf, .inr (1, [.int (nI (cp_n L (po + 1 + 1) 5)), .int (nI (cp_n L (po + 1 + 1 + 5) 6 + 1))]))] := hD
            refine lv_lshl (v := (lN (cp_n L (po + 1 + 1 + 5 + 6) (cp_n L (po + 1 + 1 + 5) 6 + 1))) <<< ((nI (64 - (cp_n L (po + 1 + 1) 5) - (cp_n L (po + 1 + 1 + 5) 6 + 1))).toInt64 &&& 63)) hx hb dd_R_readDifference_91 rfl ?_
            refine lv_lxor hx hb dd_R_readDifference_92 ?_
            refine va_put (D := D) (ci := 3) (v := .long (va ^^^ ((lN (cp_n L (po + 1 + 1 + 5 + 6) (cp_n L (po + 1 + 1 + 5) 6 + 1))) <<< ((nI (64 - (cp_n L (po + 1 + 1) 5) - (cp_n L (po + 1 + 1 + 5) 6 + 1))).toInt64 &&& 63)))) (ty := .long) (C := cn_R) (T := cf_R) (N := 7) hx hb hw in_R ty_R to_R nn_R hown hK hP hD hS 0 rfl rfl 6 (by decide) (hw _ wi_391) (fun _ h9 => h9) rfl (by decide +kernel) (rfl) (rfl) (Nat.le_of_ble_eq_true rfl) dd_R_readDifference_93 (fun H locs hP hD hS => ?_)
            have hP : va_P D classes [(q, .inr (3, [.ref qb, .ref qf, .int (nI (po + 1 + 1 + 5 + 6 + (cp_n L (po + 1 + 1 + 5) 6 + 1))), .long (lN (cp_n L (po + 1 + 1 + 5 + 6) (cp_n L (po + 1 + 1 + 5) 6 + 1))), .long ti, .long de, .long (va ^^^ ((lN (cp_n L (po + 1 + 1 + 5 + 6) (cp_n L (po + 1 + 1 + 5) 6 + 1))) <<< ((nI (64 - (cp_n L (po + 1 + 1) 5) - (cp_n L (po + 1 + 1 + 5) 6 + 1))).toInt64 &&& 63)))])), (qb, .inr (0, [.ref qw, .int (nI L.length)])), (qw, .inl (cJ, 6250, .inr (.inl w))), (qf, .inr (1, [.int (nI (cp_n L (po + 1 + 1) 5)), .int (nI (cp_n L (po + 1 + 1 + 5) 6 + 1))]))] _ := hP
            have hD : va_D A [(q, .inr (3, [.ref qb, .ref qf, .int (nI (po + 1 + 1 + 5 + 6 + (cp_n L (po + 1 + 1 + 5) 6 + 1))), .long (lN (cp_n L (po + 1 + 1 + 5 + 6) (cp_n L (po + 1 + 1 + 5) 6 + 1))), .long ti, .long de, .long (va ^^^ ((lN (cp_n L (po + 1 + 1 + 5 + 6) (cp_n L (po + 1 + 1 + 5) 6 + 1))) <<< ((nI (64 - (cp_n L (po + 1 + 1) 5) - (cp_n L (po + 1 + 1 + 5) 6 + 1))).toInt64 &&& 63)))])), (qb, .inr (0, [.ref qw, .int (nI L.length)])), (qw, .inl (cJ, 6250, .inr (.inl w))), (qf, .inr (1, [.int (nI (cp_n L (po + 1 + 1) 5)), .int (nI (cp_n L (po + 1 + 1 + 5) 6 + 1))]))] := hD
            refine lv_iconst (v := nI 1) hx hb dd_R_readDifference_96 (by decide) ?_
            refine ct_zret (u := (po + 1 + 1 + 5 + 6 + (cp_n L (po + 1 + 1 + 5) 6 + 1), lN (cp_n L (po + 1 + 1 + 5 + 6) (cp_n L (po + 1 + 1 + 5) 6 + 1)), va ^^^ ((lN (cp_n L (po + 1 + 1 + 5 + 6) (cp_n L (po + 1 + 1 + 5) 6 + 1))) <<< ((nI (64 - (cp_n L (po + 1 + 1) 5) - (cp_n L (po + 1 + 1 + 5) 6 + 1))).toInt64 &&& 63)), cp_n L (po + 1 + 1) 5, cp_n L (po + 1 + 1 + 5) 6 + 1)) hx hb hr hlocks (by decide) hK hP hD hS rfl ?_ dd_R_readDifference_97
            have e : cp_rv L po ti de va z n = _ := (rv_5 c_5 c_16 c_26 c_37 c_56).trans (rd_ok c_70)
            rw [e]
            exact ⟨bI_t rfl, rfl, fun _ => ⟨rfl, rfl, rfl⟩⟩
          have c_70 : ¬ (po + 1 + 1 + 5 + 6 + (cp_n L (po + 1 + 1 + 5) 6 + 1) ≤ L.length) := bI_z.mp c_70
          rw [if_neg c_70] at hu_67
          cases hu_67
          have hP : va_P D classes [(qf, .inr (1, [.int (nI (cp_n L (po + 1 + 1) 5)), .int (nI (cp_n L (po + 1 + 1 + 5) 6 + 1))])), (q, .inr (3, [.ref qb, .ref qf, .int (nI (po + 1 + 1 + 5 + 6)), .long n_51, .long ti, .long de, .long va])), (qb, .inr (0, [.ref qw, .int (nI L.length)])), (qw, .inl (cJ, 6250, .inr (.inl w)))] _ := hP
          have hD : va_D A [(qf, .inr (1, [.int (nI (cp_n L (po + 1 + 1) 5)), .int (nI (cp_n L (po + 1 + 1 + 5) 6 + 1))])), (q, .inr (3, [.ref qb, .ref qf, .int (nI (po + 1 + 1 + 5 + 6)), .long n_51, .long ti, .long de, .long va])), (qb, .inr (0, [.ref qw, .int (nI L.length)])), (qw, .inl (cJ, 6250, .inr (.inl w)))] := hD
          refine lv_iconst (v := nI 0) hx hb dd_R_readDifference_73 (by decide) ?_
          refine ct_zret (u := (po + 1 + 1 + 5 + 6, n_51, va, cp_n L (po + 1 + 1) 5, cp_n L (po + 1 + 1 + 5) 6 + 1)) hx hb hr hlocks (by decide) hK (hP.sub [1, 2, 3, 0] rfl) (hD.sub [1, 2, 3, 0] (by decide) rfl) hS rfl ?_ dd_R_readDifference_74
          have e : cp_rv L po ti de va z n = _ := (rv_5 c_5 c_16 c_26 c_37 c_56).trans (rd_no c_70)
          rw [e]
          exact ⟨bI_f Bool.false_ne_true, rfl, fun z => absurd z Bool.false_ne_true⟩
        have c_37 : (lN (cp_n L (po + 1) 1)) = 0 := (lg_cmp_eq _ _).mp c_37
        refine lv_aload_n hx hb dd_R_readDifference_40 rfl (lv_at hl 0 rfl) ?_
        refine va_get (D := D) (ci := 3) (C := cn_R) (T := cf_R) (N := 7) hx hb hw in_R hown hK hP 1 rfl rfl 1 (by decide) (hw _ wi_386) (fun _ h9 => h9) rfl dd_R_readDifference_41 ?_
        refine ct_behind_i (wc := [(qf, .inr (1, [.int (nI z), .int (nI n)]))]) (wr := [(q, .inr (3, [.ref qb, .ref qf, .int (nI (po + 1 + 1)), .long (lN (cp_n L (po + 1) 1)), .long ti, .long de, .long va])), (qb, .inr (0, [.ref qw, .int (nI L.length)])), (qw, .inl (cJ, 6250, .inr (.inl w)))]) (av := [.ref qf]) (va_runV (As := []) (rest := []) ⟨hx, hb, hml, hown, hw⟩ (cc_F_isThere l D cJ cB qf z n _ hzn) (cwV 0 hw (tb_V wi_448 wi_342 wi_343 wi_32 wi_344) rfl rfl rfl (by decide +kernel) ⟨Nat.le_of_ble_eq_true rfl, Nat.le_of_ble_eq_true rfl⟩) ⟨ct_blind, ct_recv hK hP (q0 := 0) (ci := 1) rfl rfl, ct_pc hZ hK hP hD hS hA [0] rfl (by decide)⟩ rfl rfl hl.1 rfl (lv_room (Nat.le_of_ble_eq_true rfl)) dd_R_readDifference_44 ⟨Nat.le_of_ble_eq_true rfl, Nat.le_of_ble_eq_true rfl⟩) hK hP hD hS hA [0] [1, 2, 3] rfl rfl (by decide) (by decide) (fun r_44 u_44 H locs hw_44 hP hD hS => ?_)
        subst hw_44
        have hP : va_P D classes [(q, .inr (3, [.ref qb, .ref qf, .int (nI (po + 1 + 1)), .long (lN (cp_n L (po + 1) 1)), .long ti, .long de, .long va])), (qb, .inr (0, [.ref qw, .int (nI L.length)])), (qw, .inl (cJ, 6250, .inr (.inl w))), (qf, .inr (1, [.int (nI z), .int (nI n)]))] _ := hP
        have hD : va_D A [(q, .inr (3, [.ref qb, .ref qf, .int (nI (po + 1 + 1)), .long (lN (cp_n L (po + 1) 1)), .long ti, .long de, .long va])), (qb, .inr (0, [.ref qw, .int (nI L.length)])), (qw, .inl (cJ, 6250, .inr (.inl w))), (qf, .inr (1, [.int (nI z), .int (nI n)]))] := hD
        refine lv_goto (tgt := 54) hx hb dd_R_readDifference_47 (by decide) ?_
        refine lv_istore_n (lv' := [(1, .int (bI (0 < n))), (0, .ref q)]) hx hb dd_R_readDifference_54 rfl hl (by decide) rfl (fun ls hl => ?_)
        refine lv_iload_n hx hb dd_R_readDifference_55 rfl (lv_at hl 0 rfl) ?_
        refine lv_if_eq (tgt := 73) hx hb dd_R_readDifference_56 (by decide) (fun c_56 => ?_) (fun c_56 => ?_)
        · skip
          have c_56 : ¬ (0 < n) := bI_z.mp c_56
          refine lv_iconst (v := nI 0) hx hb dd_R_readDifference_73 (by decide) ?_
          refine ct_zret (u := (po + 1 + 1, lN (cp_n L (po + 1) 1), va, z, n)) hx hb hr hlocks (by decide) hK hP hD hS rfl ?_ dd_R_readDifference_74
          have e : cp_rv L po ti de va z n = _ := rv_3 c_5 c_16 c_26 c_37 c_56
          rw [e]
          exact ⟨bI_f Bool.false_ne_true, rfl, fun z => absurd z Bool.false_ne_true⟩
        have c_56 : 0 < n := bI_n.mp c_56
        refine lv_aload_n hx hb dd_R_readDifference_59 rfl (lv_at hl 1 rfl) ?_
        refine lv_aload_n hx hb dd_R_readDifference_60 rfl (lv_at hl 1 rfl) ?_
        refine va_get (D := D) (ci := 3) (C := cn_R) (T := cf_R) (N := 7) hx hb hw in_R hown hK hP 0 rfl rfl 1 (by decide) (hw _ wi_386) (fun _ h9 => h9) rfl dd_R_readDifference_61 ?_
        refine ct_behind_i (wc := [(qf, .inr (1, [.int (nI z), .int (nI n)]))]) (wr := [(q, .inr (3, [.ref qb, .ref qf, .int (nI (po + 1 + 1)), .long (lN (cp_n L (po + 1) 1)), .long ti, .long de, .long va])), (qb, .inr (0, [.ref qw, .int (nI L.length)])), (qw, .inl (cJ, 6250, .inr (.inl w)))]) (av := [.ref qf]) (va_runV (As := []) (rest := [.ref q]) ⟨hx, hb, hml, hown, hw⟩ (cc_F_width l D cJ cB qf z n _ hzn) (cwV 0 hw (tb_V wi_454 wi_361 wi_362 wi_32 wi_363) rfl rfl rfl (by decide +kernel) ⟨Nat.le_of_ble_eq_true rfl, Nat.le_of_ble_eq_true rfl⟩) ⟨ct_blind, ct_recv hK hP (q0 := 3) (ci := 1) rfl rfl, ct_pc hZ hK hP hD hS hA [3] rfl (by decide)⟩ rfl rfl hl.1 rfl (lv_room (Nat.le_of_ble_eq_true rfl)) dd_R_readDifference_64 ⟨Nat.le_of_ble_eq_true rfl, Nat.le_of_ble_eq_true rfl⟩) hK hP hD hS hA [3] [0, 1, 2] rfl rfl (by decide) (by decide) (fun r_64 u_64 H locs hw_64 hP hD hS => ?_)
        subst hw_64
        have hP : va_P D classes [(q, .inr (3, [.ref qb, .ref qf, .int (nI (po + 1 + 1)), .long (lN (cp_n L (po + 1) 1)), .long ti, .long de, .long va])), (qb, .inr (0, [.ref qw, .int (nI L.length)])), (qw, .inl (cJ, 6250, .inr (.inl w))), (qf, .inr (1, [.int (nI z), .int (nI n)]))] _ := hP
        have hD : va_D A [(q, .inr (3, [.ref qb, .ref qf, .int (nI (po + 1 + 1)), .long (lN (cp_n L (po + 1) 1)), .long ti, .long de, .long va])), (qb, .inr (0, [.ref qw, .int (nI L.length)])), (qw, .inl (cJ, 6250, .inr (.inl w))), (qf, .inr (1, [.int (nI z), .int (nI n)]))] := hD
        refine ct_behind_i (wc := [(q, .inr (3, [.ref qb, .ref qf, .int (nI (po + 1 + 1)), .long (lN (cp_n L (po + 1) 1)), .long ti, .long de, .long va])), (qb, .inr (0, [.ref qw, .int (nI L.length)])), (qw, .inl (cJ, 6250, .inr (.inl w)))]) (wr := [(qf, .inr (1, [.int (nI z), .int (nI n)]))]) (av := [.ref q, .int (nI n)]) (va_runV (As := [.int (nI n)]) (rest := []) ⟨hx, hb, hml, hown, hw⟩ (cc_R_take l D cJ cB q qb qw qf (po + 1 + 1) (lN (cp_n L (po + 1) 1)) ti de va w L n _ hL hR (by omega) (by omega) (by omega)) (cwV 1 hw (tb_V wi_415 wi_417 wi_8 wi_37 wi_418) rfl rfl rfl (by decide +kernel) ⟨Nat.le_of_ble_eq_true rfl, Nat.le_of_ble_eq_true rfl⟩) ⟨ct_blind, ct_recv hK hP (q0 := 0) (ci := 3) rfl rfl, ct_pc hZ hK hP hD hS hA [0, 1, 2] rfl (by decide)⟩ rfl rfl hl.1 rfl (lv_room (Nat.le_of_ble_eq_true rfl)) dd_R_readDifference_67 ⟨Nat.le_of_ble_eq_true rfl, Nat.le_of_ble_eq_true rfl⟩) hK hP hD hS hA [0, 1, 2] [3] rfl rfl (by decide) (by decide) (fun r_67 u_67 H locs hw_67 hP hD hS => ?_)
        obtain ⟨hr_67, hu_67⟩ := hw_67
        subst hr_67
        obtain ⟨p_67, n_67⟩ := u_67
        have hP : va_P D classes [(qf, .inr (1, [.int (nI z), .int (nI n)])), (q, .inr (3, [.ref qb, .ref qf, .int (nI p_67), .long n_67, .long ti, .long de, .long va])), (qb, .inr (0, [.ref qw, .int (nI L.length)])), (qw, .inl (cJ, 6250, .inr (.inl w)))] _ := hP
        have hD : va_D A [(qf, .inr (1, [.int (nI z), .int (nI n)])), (q, .inr (3, [.ref qb, .ref qf, .int (nI p_67), .long n_67, .long ti, .long de, .long va])), (qb, .inr (0, [.ref qw, .int (nI L.length)])), (qw, .inl (cJ, 6250, .inr (.inl w)))] := hD
        refine lv_if_ne (tgt := 75) hx hb dd_R_readDifference_70 (by decide) (fun c_70 => ?_) (fun c_70 => ?_)
        · skip
          have c_70 : po + 1 + 1 + n ≤ L.length := bI_n.mp c_70
          rw [if_pos c_70] at hu_67
          cases hu_67
          have hP : va_P D classes [(qf, .inr (1, [.int (nI z), .int (nI n)])), (q, .inr (3, [.ref qb, .ref qf, .int (nI (po + 1 + 1 + n)), .long (lN (cp_n L (po + 1 + 1) n)), .long ti, .long de, .long va])), (qb, .inr (0, [.ref qw, .int (nI L.length)])), (qw, .inl (cJ, 6250, .inr (.inl w)))] _ := hP
          have hD : va_D A [(qf, .inr (1, [.int (nI z), .int (nI n)])), (q, .inr (3, [.ref qb, .ref qf, .int (nI (po + 1 + 1 + n)), .long (lN (cp_n L (po + 1 + 1) n)), .long ti, .long de, .long va])), (qb, .inr (0, [.ref qw, .int (nI L.length)])), (qw, .inl (cJ, 6250, .inr (.inl w)))] := hD
          refine lv_aload_n hx hb dd_R_readDifference_75 rfl (lv_at hl 1 rfl) ?_
          refine lv_dup hx hb dd_R_readDifference_76 rfl ?_
          refine va_get (D := D) (ci := 3) (C := cn_R) (T := cf_R) (N := 7) hx hb hw in_R hown hK hP 1 rfl rfl 6 (by decide) (hw _ wi_391) (fun _ h9 => h9) rfl dd_R_readDifference_77 ?_
          refine lv_aload_n hx hb dd_R_readDifference_80 rfl (lv_at hl 1 rfl) ?_
          refine va_get (D := D) (ci := 3) (C := cn_R) (T := cf_R) (N := 7) hx hb hw in_R hown hK hP 1 rfl rfl 3 (by decide) (hw _ wi_388) (fun _ h9 => h9) rfl dd_R_readDifference_81 ?_
          refine lv_aload_n hx hb dd_R_readDifference_84 rfl (lv_at hl 1 rfl) ?_
          refine va_get (D := D) (ci := 3) (C := cn_R) (T := cf_R) (N := 7) hx hb hw in_R hown hK hP 1 rfl rfl 1 (by decide) (hw _ wi_386) (fun _ h9 => h9) rfl dd_R_readDifference_85 ?_
          refine ct_behind_i (wc := [(qf, .inr (1, [.int (nI z), .int (nI n)]))]) (wr := [(q, .inr (3, [.ref qb, .ref qf, .int (nI (po + 1 + 1 + n)), .long (lN (cp_n L (po + 1 + 1) n)), .long ti, .long de, .long va])), (qb, .inr (0, [.ref qw, .int (nI L.length)])), (qw, .inl (cJ, 6250, .inr (.inl w)))]) (av := [.ref qf]) (va_runV (As := []) (rest := [.long (lN (cp_n L (po + 1 + 1) n)), .long va, .ref q]) ⟨hx, hb, hml, hown, hw⟩ (cc_F_below l D cJ cB qf z n _ hzn) (cwV 0 hw (tb_V wi_455 wi_346 wi_347 wi_32 wi_348) rfl rfl rfl (by decide +kernel) ⟨Nat.le_of_ble_eq_true rfl, Nat.le_of_ble_eq_true rfl⟩) ⟨ct_blind, ct_recv hK hP (q0 := 0) (ci := 1) rfl rfl, ct_pc hZ hK hP hD hS hA [0] rfl (by decide)⟩ rfl rfl hl.1 rfl (lv_room (Nat.le_of_ble_eq_true rfl)) dd_R_readDifference_88 ⟨Nat.le_of_ble_eq_true rfl, Nat.le_of_ble_eq_true rfl⟩) hK hP hD hS hA [0] [1, 2, 3] rfl rfl (by decide) (by decide) (fun r_88 u_88 H locs hw_88 hP hD hS => ?_)
          subst hw_88
          have hP : va_P D classes [(q, .inr (3, [.ref qb, .ref qf, .int (nI (po + 1 + 1 + n)), .long (lN (cp_n L (po + 1 + 1) n)), .long ti, .long de, .long va])), (qb, .inr (0, [.ref qw, .int (nI L.length)])), (qw, .inl (cJ, 6250, .inr (.inl w))), (qf, .inr (1, [.int (nI z), .int (nI n)]))] _ := hP
          have hD : va_D A [(q, .inr (3, [.ref qb, .ref qf, .int (nI (po + 1 + 1 + n)), .long (lN (cp_n L (po + 1 + 1) n)), .long ti, .long de, .long va])), (qb, .inr (0, [.ref qw, .int (nI L.length)])), (qw, .inl (cJ, 6250, .inr (.inl w))), (qf, .inr (1, [.int (nI z), .int (nI n)]))] := hD
          refine lv_lshl (v := (lN (cp_n L (po + 1 + 1) n)) <<< ((nI (64 - z - n)).toInt64 &&& 63)) hx hb dd_R_readDifference_91 rfl ?_
          refine lv_lxor hx hb dd_R_readDifference_92 ?_
          refine va_put (D := D) (ci := 3) (v := .long (va ^^^ ((lN (cp_n L (po + 1 + 1) n)) <<< ((nI (64 - z - n)).toInt64 &&& 63)))) (ty := .long) (C := cn_R) (T := cf_R) (N := 7) hx hb hw in_R ty_R to_R nn_R hown hK hP hD hS 0 rfl rfl 6 (by decide) (hw _ wi_391) (fun _ h9 => h9) rfl (by decide +kernel) (rfl) (rfl) (Nat.le_of_ble_eq_true rfl) dd_R_readDifference_93 (fun H locs hP hD hS => ?_)
          have hP : va_P D classes [(q, .inr (3, [.ref qb, .ref qf, .int (nI (po + 1 + 1 + n)), .long (lN (cp_n L (po + 1 + 1) n)), .long ti, .long de, .long (va ^^^ ((lN (cp_n L (po + 1 + 1) n)) <<< ((nI (64 - z - n)).toInt64 &&& 63)))])), (qb, .inr (0, [.ref qw, .int (nI L.length)])), (qw, .inl (cJ, 6250, .inr (.inl w))), (qf, .inr (1, [.int (nI z), .int (nI n)]))] _ := hP
          have hD : va_D A [(q, .inr (3, [.ref qb, .ref qf, .int (nI (po + 1 + 1 + n)), .long (lN (cp_n L (po + 1 + 1) n)), .long ti, .long de, .long (va ^^^ ((lN (cp_n L (po + 1 + 1) n)) <<< ((nI (64 - z - n)).toInt64 &&& 63)))])), (qb, .inr (0, [.ref qw, .int (nI L.length)])), (qw, .inl (cJ, 6250, .inr (.inl w))), (qf, .inr (1, [.int (nI z), .int (nI n)]))] := hD
          refine lv_iconst (v := nI 1) hx hb dd_R_readDifference_96 (by decide) ?_
          refine ct_zret (u := (po + 1 + 1 + n, lN (cp_n L (po + 1 + 1) n), va ^^^ ((lN (cp_n L (po + 1 + 1) n)) <<< ((nI (64 - z - n)).toInt64 &&& 63)), z, n)) hx hb hr hlocks (by decide) hK hP hD hS rfl ?_ dd_R_readDifference_97
          have e : cp_rv L po ti de va z n = _ := (rv_4 c_5 c_16 c_26 c_37 c_56).trans (rd_ok c_70)
          rw [e]
          exact ⟨bI_t rfl, rfl, fun _ => ⟨rfl, rfl, rfl⟩⟩
        have c_70 : ¬ (po + 1 + 1 + n ≤ L.length) := bI_z.mp c_70
        rw [if_neg c_70] at hu_67
        cases hu_67
        have hP : va_P D classes [(qf, .inr (1, [.int (nI z), .int (nI n)])), (q, .inr (3, [.ref qb, .ref qf, .int (nI (po + 1 + 1)), .long (lN (cp_n L (po + 1) 1)), .long ti, .long de, .long va])), (qb, .inr (0, [.ref qw, .int (nI L.length)])), (qw, .inl (cJ, 6250, .inr (.inl w)))] _ := hP
        have hD : va_D A [(qf, .inr (1, [.int (nI z), .int (nI n)])), (q, .inr (3, [.ref qb, .ref qf, .int (nI (po + 1 + 1)), .long (lN (cp_n L (po + 1) 1)), .long ti, .long de, .long va])), (qb, .inr (0, [.ref qw, .int (nI L.length)])), (qw, .inl (cJ, 6250, .inr (.inl w)))] := hD
        refine lv_iconst (v := nI 0) hx hb dd_R_readDifference_73 (by decide) ?_
        refine ct_zret (u := (po + 1 + 1, lN (cp_n L (po + 1) 1), va, z, n)) hx hb hr hlocks (by decide) hK (hP.sub [1, 2, 3, 0] rfl) (hD.sub [1, 2, 3, 0] (by decide) rfl) hS rfl ?_ dd_R_readDifference_74
        have e : cp_rv L po ti de va z n = _ := (rv_4 c_5 c_16 c_26 c_37 c_56).trans (rd_no c_70)
        rw [e]
        exact ⟨bI_f Bool.false_ne_true, rfl, fun z => absurd z Bool.false_ne_true⟩
      have c_26 : ¬ (po + 1 + 1 ≤ L.length) := bI_z.mp c_26
      rw [if_neg c_26] at hu_23
      cases hu_23
      have hP : va_P D classes [(qf, .inr (1, [.int (nI z), .int (nI n)])), (q, .inr (3, [.ref qb, .ref qf, .int (nI (po + 1)), .long (lN (cp_n L po 1)), .long ti, .long de, .long va])), (qb, .inr (0, [.ref qw, .int (nI L.length)])), (qw, .inl (cJ, 6250, .inr (.inl w)))] _ := hP
      have hD : va_D A [(qf, .inr (1, [.int (nI z), .int (nI n)])), (q, .inr (3, [.ref qb, .ref qf, .int (nI (po + 1)), .long (lN (cp_n L po 1)), .long ti, .long de, .long va])), (qb, .inr (0, [.ref qw, .int (nI L.length)])), (qw, .inl (cJ, 6250, .inr (.inl w)))] := hD
      refine lv_iconst (v := nI 0) hx hb dd_R_readDifference_29 (by decide) ?_
      refine ct_zret (u := (po + 1, lN (cp_n L po 1), va, z, n)) hx hb hr hlocks (by decide) hK (hP.sub [1, 2, 3, 0] rfl) (hD.sub [1, 2, 3, 0] (by decide) rfl) hS rfl ?_ dd_R_readDifference_30
      have e : cp_rv L po ti de va z n = _ := rv_2 c_5 c_16 c_26
      rw [e]
      exact ⟨bI_f Bool.false_ne_true, rfl, fun z => absurd z Bool.false_ne_true⟩
    have c_16 : (lN (cp_n L po 1)) = 0 := (lg_cmp_eq _ _).mp c_16
    refine lv_iconst (v := nI 1) hx hb dd_R_readDifference_19 (by decide) ?_
    refine ct_zret (u := (po + 1, lN (cp_n L po 1), va, z, n)) hx hb hr hlocks (by decide) hK (hP.sub [1, 2, 3, 0] rfl) (hD.sub [1, 2, 3, 0] (by decide) rfl) hS rfl ?_ dd_R_readDifference_20
    have e : cp_rv L po ti de va z n = _ := rv_1 c_5 c_16
    rw [e]
    exact ⟨bI_t rfl, rfl, fun _ => ⟨rfl, rfl, rfl⟩⟩
  have c_5 : ¬ (po + 1 ≤ L.length) := bI_z.mp c_5
  rw [if_neg c_5] at hu_2
  cases hu_2
  have hP : va_P D classes [(qf, .inr (1, [.int (nI z), .int (nI n)])), (q, .inr (3, [.ref qb, .ref qf, .int (nI po), .long nu, .long ti, .long de, .long va])), (qb, .inr (0, [.ref qw, .int (nI L.length)])), (qw, .inl (cJ, 6250, .inr (.inl w)))] _ := hP
  have hD : va_D A [(qf, .inr (1, [.int (nI z), .int (nI n)])), (q, .inr (3, [.ref qb, .ref qf, .int (nI po), .long nu, .long ti, .long de, .long va])), (qb, .inr (0, [.ref qw, .int (nI L.length)])), (qw, .inl (cJ, 6250, .inr (.inl w)))] := hD
  refine lv_iconst (v := nI 0) hx hb dd_R_readDifference_8 (by decide) ?_
  refine ct_zret (u := (po, nu, va, z, n)) hx hb hr hlocks (by decide) hK (hP.sub [1, 2, 3, 0] rfl) (hD.sub [1, 2, 3, 0] (by decide) rfl) hS rfl ?_ dd_R_readDifference_9
  have e : cp_rv L po ti de va z n = _ := rv_0 c_5
  rw [e]
  exact ⟨bI_f Bool.false_ne_true, rfl, fun z => absurd z Bool.false_ne_true⟩
