theorem la_cmp {NN k : Nat} (h1 : NN ≤ 2560) (h2 : 5 * k ≤ NN) : nI NN - nI 5 < nI (5 * k) ↔ NN < 5 * k + 5 := by
  by_cases c : 5 ≤ NN
  · rw [pk_sub c, nI_ltI (by omega) (by omega)]; omega
  · constructor
    · intro _; omega
    · intro _
      have h0 : nI NN - nI 5 < 0 := by
        rcases (show NN = 0 ∨ NN = 1 ∨ NN = 2 ∨ NN = 3 ∨ NN = 4 by omega) with rfl | rfl | rfl | rfl | rfl <;> decide
      have h3 : ¬ nI (5 * k) < 0 := nI_pos (by omega)
      rw [Int32.lt_iff_toInt_lt] at h0 h3 ⊢
      omega
theorem la_16 (v : Int32) : ∃ j : Nat, j < 16 ∧ v &&& nI 15 = nI j := by
  refine ⟨(v &&& nI 15).toBitVec.toNat, ?_, Int32.toBitVec_inj.mp (by show _ = BitVec.ofNat 32 _; simp)⟩
  rw [Int32.toBitVec_and, BitVec.toNat_and]
  exact Nat.lt_of_le_of_lt Nat.and_le_right (by decide)
set_option maxHeartbeats 4000000 in
set_option maxRecDepth 100000 in
theorem lw_step {p : Program} {l : Launch} {e : Env} {s : State} {m : MethodId} {args : Array Value} {below : List Frame} {meth : Method} {c : Code} {Q : State → Prop} (hlt : l.stackTraces = false) {D : va_G} {cJ cB : ClassId} {A : Nat → Prop} {b NN : Nat} {xs : Nat → Int32} (C : lw_C p s m args c D cJ cB A b NN xs) {k : Nat} (hk : 5 * k ≤ NN) {H : Heap} {locs : List Loc} {ls : Array Slot} (I : lw_I D cJ cB A s b k H locs ls)
    (out : NN < 5 * k + 5 → W p l e room_1 s m args below meth c H locs (18 + 2 * k) (436529 + 9 * k) Q (F0 m 808 ls []))
    (tail : 5 * k + 5 ≤ NN → ∀ (H : Heap) (locs : List Loc) (ls : Array Slot), lw_I D cJ cB A s b (k + 1) H locs ls → W p l e room_1 s m args below meth c H locs (18 + 2 * (k + 1)) (436529 + 9 * (k + 1)) Q (F0 m 23 ls [])) : W p l e room_1 s m args below meth c H locs (18 + 2 * k) (436529 + 9 * k) Q (F0 m 23 ls []) := by
  obtain ⟨hx, hb, hml, hown, hw, hK, hA, hZ, hX, hbl, hbA, hN⟩ := id C
  obtain ⟨q, qp, qt, qv, qs, qs1, qs2, qb, qw, qc, qd, tk, n, n2, n3, f, g, f2, g2, w, w2, L, mq, ta, vb, ba, na, nb, cd, pl, wr, fz, fb, mf, mg, mf2, mg2, by0, qo, fo, hP, hD, hS, hl, h1, hL, hR, hB, hf0, hag⟩ := id I
  refine lv_iload hx hb dd_L_law_23 (lv_at hl 4 rfl) ?_
  refine lv_aload_n hx hb dd_L_law_25 rfl (lv_at hl 0 rfl) ?_
  refine va_slen hx hb hX hbl hbA hS dd_L_law_26 ?_
  refine ct_topi (y := nI NN) rfl ?_
  refine lv_iconst (v := nI 5) hx hb dd_L_law_27 (by decide) ?_
  refine lv_isub hx hb dd_L_law_28 ?_
  refine lv_icmp_gt (tgt := 808) hx hb dd_L_law_29 (by decide) (fun c29 => ?_) (fun c29 => ?_)
  · exact out ((la_cmp hN hk).mp c29)
  have hk5 : 5 * k + 5 ≤ NN := by
    have : ¬ NN < 5 * k + 5 := fun z => c29 ((la_cmp hN hk).mpr z)
    omega
  refine lv_aload_n hx hb dd_L_law_32 rfl (lv_at hl 0 rfl) ?_
  refine lv_iload hx hb dd_L_law_33 (lv_at hl 4 rfl) ?_
  refine va_sld hx hb hX hbl hbA hS (vp_in_nI (by omega) (by omega)) dd_L_law_35 ?_
  refine ct_topi (y := xs (5 * k)) (congrArg xs (nI_clamp (by omega))) ?_
  refine lv_bipush (v := nI 15) hx hb dd_L_law_36 (by decide) ?_
  refine lv_iand hx hb dd_L_law_38 ?_
  obtain ⟨j, hj, ej⟩ := la_16 (xs (5 * k))
  refine ct_topi (y := nI j) ej ?_
  rcases (show j = 0 ∨ j = 1 ∨ j = 2 ∨ j = 3 ∨ j = 4 ∨ j = 5 ∨ j = 6 ∨ j = 7 ∨ j = 8 ∨ j = 9 ∨ j = 10 ∨ j = 11 ∨ j = 12 ∨ j = 13 ∨ j = 14 ∨ j = 15 by omega) with rfl | rfl | rfl | rfl | rfl | rfl | rfl | rfl | rfl | rfl | rfl | rfl | rfl | rfl | rfl | rfl
  · exact lv_tableIn (tgt := 100) hx hb dd_L_law_39 (by decide) (by decide) rfl (by decide) (lc_add hlt C hk5 I (tail hk5))
  · exact lv_tableIn (tgt := 232) hx hb dd_L_law_39 (by decide) (by decide) rfl (by decide) (lc_keep hlt C hk5 I (tail hk5))
  · exact lv_tableIn (tgt := 288) hx hb dd_L_law_39 (by decide) (by decide) rfl (by decide) (lc_pack hlt C hk5 I (tail hk5))
  · exact lv_tableIn (tgt := 332) hx hb dd_L_law_39 (by decide) (by decide) rfl (by decide) (lc_unpack hlt C hk5 I (tail hk5))
  · exact lv_tableIn (tgt := 388) hx hb dd_L_law_39 (by decide) (by decide) rfl (by decide) (lc_taken hlt C hk5 I (tail hk5))
  · exact lv_tableIn (tgt := 401) hx hb dd_L_law_39 (by decide) (by decide) rfl (by decide) (lc_count hlt C hk5 I (tail hk5))
  · exact lv_tableIn (tgt := 457) hx hb dd_L_law_39 (by decide) (by decide) rfl (by decide) (lc_time hlt C hk5 I (tail hk5))
  · exact lv_tableIn (tgt := 512) hx hb dd_L_law_39 (by decide) (by decide) rfl (by decide) (lc_value hlt C hk5 I (tail hk5))
  · exact lv_tableIn (tgt := 567) hx hb dd_L_law_39 (by decide) (by decide) rfl (by decide) (lc_bit hlt C hk5 I (tail hk5))
  · exact lv_tableIn (tgt := 630) hx hb dd_L_law_39 (by decide) (by decide) rfl (by decide) (lc_flip hlt C hk5 I (tail hk5))
  · exact lv_tableIn (tgt := 666) hx hb dd_L_law_39 (by decide) (by decide) rfl (by decide) (lc_put hlt C hk5 I (tail hk5))
  · exact lv_tableIn (tgt := 766) hx hb dd_L_law_39 (by decide) (by decide) rfl (by decide) (lc_cut hlt C hk5 I (tail hk5))
  · exact lv_tableOut (tgt := 802) hx hb dd_L_law_39 (Or.inr (by decide)) (by decide) (lc_none hlt C hk5 I (tail hk5))
  · exact lv_tableOut (tgt := 802) hx hb dd_L_law_39 (Or.inr (by decide)) (by decide) (lc_none hlt C hk5 I (tail hk5))
  · exact lv_tableOut (tgt := 802) hx hb dd_L_law_39 (Or.inr (by decide)) (by decide) (lc_none hlt C hk5 I (tail hk5))
  · exact lv_tableOut (tgt := 802) hx hb dd_L_law_39 (Or.inr (by decide)) (by decide) (lc_none hlt C hk5 I (tail hk5))

theorem lw_loop {p : Program} {l : Launch} {e : Env} {s : State} {m : MethodId} {args : Array Value} {below : List Frame} {meth : Method} {c : Code} {Q : State → Prop} (hlt : l.stackTraces = false) {D : va_G} {cJ cB : ClassId} {A : Nat → Prop} {b NN : Nat} {xs : Nat → Int32} (C : lw_C p s m args c D cJ cB A b NN xs) (out : ∀ (k : Nat) (H : Heap) (locs : List Loc) (ls : Array Slot), k ≤ 512 → lw_I D cJ cB A s b k H locs ls → W p l e room_1 s m args below meth c H locs (18 + 2 * k) (436529 + 9 * k) Q (F0 m 808 ls [])) :
    ∀ (f k : Nat), NN < 5 * k + 5 * f → 5 * k ≤ NN → ∀ (H : Heap) (locs : List Loc) (ls : Array Slot), lw_I D cJ cB A s b k H locs ls → W p l e room_1 s m args below meth c H locs (18 + 2 * k) (436529 + 9 * k) Q (F0 m 23 ls [])
  | 0, k, h1, h2, H, locs, ls, I => absurd h1 (by omega)
  | f + 1, k, h1, h2, H, locs, ls, I => by
    have hN : NN ≤ 2560 := C.2.2.2.2.2.2.2.2.2.2.2
    exact lw_step hlt C h2 I (fun _ => out k H locs ls (by omega) I) (fun h5 H locs ls I' => lw_loop hlt C out f (k + 1) (by omega) (by omega) H locs ls I')

/-! THE CLAIM OUT OF ONE WALK OF THE LAW'S BODY. Your part is whole_start (and what it stands on); all else here is the same for every law, but numbers. -/
def R_law : String := "ChunkPackerLaw"
def lw_P (b : Addr) (xs : List Int32) (args : Array Value) (s : State) : Prop := args = #[.ref b] ∧ s.IntsAt b xs ∧ xs.length ≤ 2560 ∧ (Jvm.Cond.and given_1 narrow_1).before args s = true
def lw_Q (_ : Array Value) (s : State) (o : Outcome) (t : State) : Prop := o = .returned (some (.int 1)) ∧ Framed s o t [] 601024 7293034
def lw_Z (below : List Frame) (a : Array Value) (s : State) : State → Prop := fun t => ∃ o, t.status = .running ∧ Ended t below o ∧ lw_Q a s o t
/-- the law's own end, with 1 on the stack, nothing written that was there before, its room as the claim has it -/
theorem lw_ret {p : Program} {l : Launch} {e : Env} {s : State} {m : MethodId} {below : List Frame} {meth : Method} {c : Code} {b : Nat} (hx : p.tables.exec = Jvm.exec) (hb : c.code = code) (hr : meth.sig.returnType = ret) (hlocks : meth.locks = false) {pc : Nat} {H : Heap} {ls : Array Slot} (hdg : decode code pc = .ok (.ireturn, 1)) : W p l e room_1 s m #[Value.ref b] below meth c H [] 601024 7293034 (lw_Z below #[Value.ref b] s) (F0 m pc ls [.int 1]) := by
  intro T hT X
  obtain ⟨fs, hret, hrun, hended, hW, hframe⟩ := X.leave (v := some (.int 1)) (hlocks := hlocks) (fun h => by rw [hr] at h; cases h)
  have hmeth' : T.vm.method? m = some meth := X.method'
  refine ⟨T.setFrames fs, ?_, .returned (some (.int 1)), hrun, hended, rfl, ⟨_, rfl⟩, hW, hframe⟩
  jvm_step X.here [X.here.top, hx, hb, hdg, hmeth', hr, ret, narrow_b1]
  (try refine ⟨rfl, ?_⟩); (try refine ⟨rfl, ?_⟩)
  first | (intro acts; rw [hret _ acts rfl rfl rfl]) | rw [hret _ _ rfl rfl rfl]
  exact Steps.refl _
/-- what holds at the law's entry: the machine, the code, the tables' words (any of lw_tbl by 'hts w (by decide +kernel)'), the script of L ints xs at the cell b, what the Statement gives of the start (any of its parts by flat_of_before) -/
def lw_At (p : Program) (s : State) (m : MethodId) (meth : Method) (c : Code) (b L : Nat) (xs : Nat → Int32) : Prop :=
  p.tables.exec = Jvm.exec ∧ c.code = code ∧ meth.sig.returnType = ret ∧ c.maxLocals = 8 ∧ s.vm.findClass R_law = some m.cls ∧ (∀ w ∈ lw_tbl, w.before #[Value.ref b] s = true) ∧ va_X b L xs s s.heap ∧ b < s.heap.size ∧ meth.locks = false ∧ (Jvm.Cond.and given_1 narrow_1).before #[Value.ref b] s = true

theorem lw_zi : ∀ w ∈ ct_BW, w ∈ lw_tbl := by decide +kernel
theorem lw_zs : ∀ q ∈ ct_SW, Cond.stringRef q.1 q.2.1 q.2.2 ∈ lw_tbl := by decide +kernel
theorem lw_Z0 {s : State} {b : Nat} (hts : ∀ w ∈ lw_tbl, w.before #[Value.ref b] s = true) (hgv : (Jvm.Cond.and given_1 narrow_1).before #[Value.ref b] s = true) : ct_Z (fun q : Nat => s.heap.size ≤ q) s s.heap := by
  have hs := flat_of_before _ hgv
  have hA : ∀ a : Nat, a < s.heap.size → ¬ (fun q : Nat => s.heap.size ≤ q) a := fun a h => Nat.not_le.mpr h
  refine ⟨⟨vx_Zqof (hts _ (by decide +kernel)) (hts _ (by decide +kernel)) (hs _ (by decide +kernel)) hA, vx_Zqof (hts _ (by decide +kernel)) (hts _ (by decide +kernel)) (hs _ (by decide +kernel)) hA⟩, ?_, fun w hw => va_Nw.of (ct_BW_t w hw) (hts w (lw_zi w hw)), ?_, va_Nc.of (hs _ (by decide +kernel))⟩
  · obtain ⟨t, h1, h2⟩ := va_Tof (args := #[Value.ref b]) (s := s) (tm := .static cn_X "TURN_BITS" "[I") (ty := .int) (N := 5) (f := fun j => .int (nI (cp_tb j))) (A := fun q : Nat => s.heap.size ≤ q) (by decide) (hs _ (by decide +kernel)) (va_eqt (hs _ (by decide +kernel))) (fun j hj => by
      rcases (show j = 0 ∨ j = 1 ∨ j = 2 ∨ j = 3 ∨ j = 4 by omega) with rfl | rfl | rfl | rfl | rfl
      · exact va_eqt (hs _ (by decide +kernel))
      · exact va_eqt (hs _ (by decide +kernel))
      · exact va_eqt (hs _ (by decide +kernel))
      · exact va_eqt (hs _ (by decide +kernel))
      · exact va_eqt (hs _ (by decide +kernel))) hA
    exact ⟨t, va_Zref (hts _ (by decide +kernel)) (hts _ (by decide +kernel)) h1 hA, h2⟩
  · intro q hq
    have hr := hts _ (lw_zs q hq)
    simp only [ct_SW, List.mem_cons, List.not_mem_nil, or_false] at hq
    rcases hq with rfl | rfl | rfl | rfl | rfl | rfl | rfl | rfl | rfl | rfl | rfl | rfl
    · obtain ⟨a, -, -, -, h2, -⟩ := Cond.exactly_spec (hs (Cond.exactly (.string cn_X 37) "java/lang/String") (by decide +kernel))
      exact ⟨a, vk_R.of hr h2⟩
    · obtain ⟨a, -, -, -, h2, -⟩ := Cond.exactly_spec (hs (Cond.exactly (.string cn_X 46) "java/lang/String") (by decide +kernel))
      exact ⟨a, vk_R.of hr h2⟩
    · obtain ⟨a, -, -, -, h2, -⟩ := Cond.exactly_spec (hs (Cond.exactly (.string cn_X 54) "java/lang/String") (by decide +kernel))
      exact ⟨a, vk_R.of hr h2⟩
    · obtain ⟨a, -, -, -, h2, -⟩ := Cond.exactly_spec (hs (Cond.exactly (.string cn_X 61) "java/lang/String") (by decide +kernel))
      exact ⟨a, vk_R.of hr h2⟩
    · obtain ⟨a, -, -, -, h2, -⟩ := Cond.exactly_spec (hs (Cond.exactly (.string cn_P 26) "java/lang/String") (by decide +kernel))
      exact ⟨a, vk_R.of hr h2⟩
    · obtain ⟨a, -, -, -, h2, -⟩ := Cond.exactly_spec (hs (Cond.exactly (.string cn_X 77) "java/lang/String") (by decide +kernel))
      exact ⟨a, vk_R.of hr h2⟩
    · obtain ⟨a, -, -, -, h2, -⟩ := Cond.exactly_spec (hs (Cond.exactly (.string cn_X 80) "java/lang/String") (by decide +kernel))
      exact ⟨a, vk_R.of hr h2⟩
    · obtain ⟨a, -, -, -, h2, -⟩ := Cond.exactly_spec (hs (Cond.exactly (.string cn_X 92) "java/lang/String") (by decide +kernel))
      exact ⟨a, vk_R.of hr h2⟩
    · obtain ⟨a, -, -, -, h2, -⟩ := Cond.exactly_spec (hs (Cond.exactly (.string cn_B 21) "java/lang/String") (by decide +kernel))
      exact ⟨a, vk_R.of hr h2⟩
    · obtain ⟨a, -, -, -, h2, -⟩ := Cond.exactly_spec (hs (Cond.exactly (.string cn_X 108) "java/lang/String") (by decide +kernel))
      exact ⟨a, vk_R.of hr h2⟩
    · obtain ⟨a, -, -, -, h2, -⟩ := Cond.exactly_spec (hs (Cond.exactly (.string cn_X 110) "java/lang/String") (by decide +kernel))
      exact ⟨a, vk_R.of hr h2⟩
    · obtain ⟨a, -, -, -, h2, -⟩ := Cond.exactly_spec (hs (Cond.exactly (.string cn_X 115) "java/lang/String") (by decide +kernel))
      exact ⟨a, vk_R.of hr h2⟩

set_option maxHeartbeats 4000000 in
set_option maxRecDepth 100000 in
/-- THE LAW, from its entry -/
theorem whole_start {p : Program} {e : Env} {s : State} {m : MethodId} {below : List Frame} {meth : Method} {c : Code} (l : Launch) (hlt : l.stackTraces = false) {b L : Nat} {xs : Nat → Int32} (hL : L ≤ 2560) (C0 : lw_At p s m meth c b L xs) : W p l e room_1 s m #[Value.ref b] below meth c s.heap [] 0 0 (lw_Z below #[Value.ref b] s) (entryFrame m ([Value.ref b] : List Value).toArray 8) := by
  obtain ⟨hx, hb, hr, hml, hown, hts, hX, hbl, hlocks, hgv⟩ := C0
  have hw : ∀ w ∈ TB, w.before #[Value.ref b] s = true := fun w h => hts w (List.mem_filter.mp h).1
  have hown : s.vm.findClass cn_L = some m.cls := hown
  have hA : ∀ q : Nat, s.heap.size ≤ q → (fun q : Nat => s.heap.size ≤ q) q := fun _ h => h
  have hbA : ¬ (fun q : Nat => s.heap.size ≤ q) b := Nat.not_le.mpr hbl
  obtain ⟨c0, iS0, hKn0⟩ := u_known (C := cn_B) (T := cf_B) (N := 2) (n := 2) hw in_B (hw _ wi_64)
  obtain ⟨c1, iS1, hKn1⟩ := u_known (C := cn_F) (T := cf_F) (N := 2) (n := 2) hw in_F (hw _ wi_234)
  obtain ⟨c2, iS2, hKn2⟩ := u_known (C := cn_P) (T := cf_P) (N := 3) (n := 3) hw in_P (hw _ wi_47)
  obtain ⟨c3, iS3, hKn3⟩ := u_known (C := cn_R) (T := cf_R) (N := 7) (n := 7) hw in_R (hw _ wi_378)
  obtain ⟨c4, iS4, hKn4⟩ := u_known (C := cn_W) (T := cf_W) (N := 5) (n := 5) hw in_W (hw _ wi_228)
  obtain ⟨c5, iS5, hKn5⟩ := u_known (C := cn_X) (T := cf_X) (N := 5) (n := 5) hw in_X (hw _ wi_39)
  obtain ⟨c6, iS6, hKn6⟩ := u_known (C := cn_M) (T := cf_M) (N := 13) (n := 13) hw in_M (hw _ wi_531)
  obtain ⟨dC, dI, hKc⟩ : ∃ (dC : Nat → ClassId) (dI : Nat → Nat → Nat), ∀ (k : Nat) (q : vw_C), classes[k]? = some q → u_Kn s q.1 q.2.1 q.2.2 (dC k) (dI k) := by
    refine ⟨fun k => if k = 0 then c0 else if k = 1 then c1 else if k = 2 then c2 else if k = 3 then c3 else if k = 4 then c4 else if k = 5 then c5 else c6, fun k => if k = 0 then iS0 else if k = 1 then iS1 else if k = 2 then iS2 else if k = 3 then iS3 else if k = 4 then iS4 else if k = 5 then iS5 else iS6, ?_⟩
    intro k q hq
    match k, hq with
    | 0, hq => cases hq; exact hKn0
    | 1, hq => cases hq; exact hKn1
    | 2, hq => cases hq; exact hKn2
    | 3, hq => cases hq; exact hKn3
    | 4, hq => cases hq; exact hKn4
    | 5, hq => cases hq; exact hKn5
    | 6, hq => cases hq; exact hKn6
    | k + 7, hq => simp [classes] at hq
  obtain ⟨cJ, kJ, compJ, fJ, kkJ, kdJ⟩ := Cond.arrayClass_spec (hw _ wi_62)
  obtain ⟨cB, kB, compB, fB, kkB, kdB⟩ := Cond.arrayClass_spec (hw _ wi_173)
  have hK : va_K (dC, dI) classes (ct_ty cJ cB) s := ⟨hKc, fun k q h => by
    match k, h with
    | 0, h => cases h; exact ⟨fun n z => ⟨fun k h => (by cases h), kJ, kkJ, compJ, kdJ⟩, fJ⟩
    | 1, h => cases h; exact ⟨fun n z => ⟨fun k h => (by cases h), kB, kkB, compB, kdB⟩, fB⟩
    | k + 2, h => simp at h⟩
  have hZ := lw_Z0 hts hgv
  have hC : lw_C p s m #[Value.ref b] c (dC, dI) cJ cB (fun q : Nat => s.heap.size ≤ q) b L xs := ⟨hx, hb, hml, hown, hw, hK, hA, hZ, hX, hbl, hbA, hL⟩
  have hout : ∀ (k : Nat) (H : Heap) (locs : List Loc) (ls : Array Slot), k ≤ 512 → lw_I (dC, dI) cJ cB (fun q : Nat => s.heap.size ≤ q) s b k H locs ls → W p l e room_1 s m #[Value.ref b] below meth c H locs (18 + 2 * k) (436529 + 9 * k) (lw_Z below #[Value.ref b] s) (F0 m 808 ls []) := by
    intro k H locs ls hk I
    obtain ⟨q, qp, qt, qv, qs, qs1, qs2, qb, qw, qc, qd, tk, n, n2, n3, f, g, f2, g2, w, w2, L, mq, ta, vb, ba, na, nb, cd, pl, wr, fz, fb, mf, mg, mf2, mg2, by0, qo, fo, hP, hD, hS, hl, h1, hL, hR, hB, hf0, hag⟩ := I
    refine lv_iconst (v := nI 1) hx hb dd_L_law_808 (by decide) ?_
    refine va_forget (fun q hq => hS.2.2 q hq) ?_
    refine W.widen (k := 601024) (n := 7293034) (by omega) (by omega) ?_
    exact lw_ret hx hb hr hlocks dd_L_law_809
  have hS : va_S (fun q : Nat => s.heap.size ≤ q) s.heap s.heap [] := va_S.rf
  generalize (dC, dI) = D at hK hC hout
  have hP : va_P D classes [] s.heap := fun k q h => by simp at h
  have hD : va_D (fun q : Nat => s.heap.size ≤ q) [] := ⟨fun i j p q h => by simp at h, fun k q h => by simp at h⟩
  have hl := lv_entry ([.ref b]) (n := 8) (Nat.le_of_ble_eq_true rfl)
  rw [lg_entry_eq]
  generalize (lg_sl ([.ref b]) ++ List.replicate (8 - (lg_sl ([.ref b])).length) Slot.unset).toArray = ls at hl ⊢
  have hl : lv_has ls 8 [(0, .ref b)] := hl
  generalize hAe : (fun q : Nat => s.heap.size ≤ q) = A at hA hbA hZ hC hout hS hD
  refine va_new (ci := 5) (fs := [.null, .null, .null, .null, .int 0]) (C := cn_X) (T := cf_X) (N := 5) hx hb hw in_X ty_X to_X hown (hw _ wi_38) (hw _ wi_39) (hw _ wi_22) hK hP hD hS hA rfl (fun j hj => by rcases (show j = 0 ∨ j = 1 ∨ j = 2 ∨ j = 3 ∨ j = 4 by omega) with rfl | rfl | rfl | rfl | rfl <;> rfl) (Nat.le_of_ble_eq_true rfl) (Nat.le_of_ble_eq_true rfl) dd_L_law_0 (fun q H hP hD hS => ?_)
  have hP : va_P D classes [(q, .inr (5, [.null, .null, .null, .null, .int 0]))] _ := hP
  have hD : va_D A [(q, .inr (5, [.null, .null, .null, .null, .int 0]))] := hD
  refine lv_dup hx hb dd_L_law_3 rfl ?_
  refine ct_behind_v (wc := [(q, .inr (5, [.null, .null, .null, .null, .int 0]))]) (wr := []) (av := [.ref q]) (va_runI (As := []) (rest := [.ref q]) ⟨hx, hb, hml, hown, hw⟩ (cc_X_init l D cJ cB q _) (cwI 0 hw (tb_I wi_42) rfl rfl rfl (hw _ wi_22) (hw _ wi_40) (hw _ wi_41) rfl (by decide +kernel) ⟨Nat.le_of_ble_eq_true rfl, Nat.le_of_ble_eq_true rfl⟩) ⟨ct_blind, ct_pc hZ hK hP hD hS hA [0] rfl (by decide)⟩ rfl rfl hl.1 rfl (lv_room (Nat.le_of_ble_eq_true rfl)) dd_L_law_4 ⟨Nat.le_of_ble_eq_true rfl, Nat.le_of_ble_eq_true rfl⟩) hK hP hD hS hA [0] [] rfl rfl (by decide) (by decide) (fun u_4 H locs hw_4 hP hD hS => ?_)
  obtain ⟨qp, qt, qv, qs, qs1, qs2, qb, qw, qc, qd⟩ := u_4
  have hP : va_P D classes [(q, .inr (5, [.ref qp, .ref qs, .ref qb, .ref qc, .int (nI 0)])), (qp, .inr (2, [.ref qt, .ref qv, .int (nI 0)])), (qt, .inl (cJ, 3000, .inr (.inl (fun _ => 0)))), (qv, .inl (cJ, 3000, .inr (.inl (fun _ => 0)))), (qs, .inr (2, [.ref qs1, .ref qs2, .int (nI 0)])), (qs1, .inl (cJ, 3000, .inr (.inl (fun _ => 0)))), (qs2, .inl (cJ, 3000, .inr (.inl (fun _ => 0)))), (qb, .inr (0, [.ref qw, .int (nI 0)])), (qw, .inl (cJ, 6250, .inr (.inl (fun _ => 0)))), (qc, .inr (0, [.ref qd, .int (nI 0)])), (qd, .inl (cJ, 6250, .inr (.inl (fun _ => 0))))] _ := hP
  have hD : va_D A [(q, .inr (5, [.ref qp, .ref qs, .ref qb, .ref qc, .int (nI 0)])), (qp, .inr (2, [.ref qt, .ref qv, .int (nI 0)])), (qt, .inl (cJ, 3000, .inr (.inl (fun _ => 0)))), (qv, .inl (cJ, 3000, .inr (.inl (fun _ => 0)))), (qs, .inr (2, [.ref qs1, .ref qs2, .int (nI 0)])), (qs1, .inl (cJ, 3000, .inr (.inl (fun _ => 0)))), (qs2, .inl (cJ, 3000, .inr (.inl (fun _ => 0)))), (qb, .inr (0, [.ref qw, .int (nI 0)])), (qw, .inl (cJ, 6250, .inr (.inl (fun _ => 0)))), (qc, .inr (0, [.ref qd, .int (nI 0)])), (qd, .inl (cJ, 6250, .inr (.inl (fun _ => 0))))] := hD
  refine lv_astore_n (lv' := [(1, .ref q), (0, .ref b)]) hx hb dd_L_law_7 rfl hl (by decide) rfl (fun ls hl => ?_)
  refine va_new (ci := 6) (fs := [.int 0, .null, .null, .int 0, .null, .int 0, .int 0, .null, .null, .int 0, .int 0, .int 0, .int 0]) (C := cn_M) (T := cf_M) (N := 13) hx hb hw in_M ty_M to_M hown (hw _ wi_530) (hw _ wi_531) (hw _ wi_25) hK hP hD hS hA rfl (fun j hj => by rcases (show j = 0 ∨ j = 1 ∨ j = 2 ∨ j = 3 ∨ j = 4 ∨ j = 5 ∨ j = 6 ∨ j = 7 ∨ j = 8 ∨ j = 9 ∨ j = 10 ∨ j = 11 ∨ j = 12 by omega) with rfl | rfl | rfl | rfl | rfl | rfl | rfl | rfl | rfl | rfl | rfl | rfl | rfl <;> rfl) (Nat.le_of_ble_eq_true rfl) (Nat.le_of_ble_eq_true rfl) dd_L_law_8 (fun mq H hP hD hS => ?_)
  have hP : va_P D classes [(q, .inr (5, [.ref qp, .ref qs, .ref qb, .ref qc, .int (nI 0)])), (qp, .inr (2, [.ref qt, .ref qv, .int (nI 0)])), (qt, .inl (cJ, 3000, .inr (.inl (fun _ => 0)))), (qv, .inl (cJ, 3000, .inr (.inl (fun _ => 0)))), (qs, .inr (2, [.ref qs1, .ref qs2, .int (nI 0)])), (qs1, .inl (cJ, 3000, .inr (.inl (fun _ => 0)))), (qs2, .inl (cJ, 3000, .inr (.inl (fun _ => 0)))), (qb, .inr (0, [.ref qw, .int (nI 0)])), (qw, .inl (cJ, 6250, .inr (.inl (fun _ => 0)))), (qc, .inr (0, [.ref qd, .int (nI 0)])), (qd, .inl (cJ, 6250, .inr (.inl (fun _ => 0)))), (mq, .inr (6, [.int 0, .null, .null, .int 0, .null, .int 0, .int 0, .null, .null, .int 0, .int 0, .int 0, .int 0]))] _ := hP
  have hD : va_D A [(q, .inr (5, [.ref qp, .ref qs, .ref qb, .ref qc, .int (nI 0)])), (qp, .inr (2, [.ref qt, .ref qv, .int (nI 0)])), (qt, .inl (cJ, 3000, .inr (.inl (fun _ => 0)))), (qv, .inl (cJ, 3000, .inr (.inl (fun _ => 0)))), (qs, .inr (2, [.ref qs1, .ref qs2, .int (nI 0)])), (qs1, .inl (cJ, 3000, .inr (.inl (fun _ => 0)))), (qs2, .inl (cJ, 3000, .inr (.inl (fun _ => 0)))), (qb, .inr (0, [.ref qw, .int (nI 0)])), (qw, .inl (cJ, 6250, .inr (.inl (fun _ => 0)))), (qc, .inr (0, [.ref qd, .int (nI 0)])), (qd, .inl (cJ, 6250, .inr (.inl (fun _ => 0)))), (mq, .inr (6, [.int 0, .null, .null, .int 0, .null, .int 0, .int 0, .null, .null, .int 0, .int 0, .int 0, .int 0]))] := hD
  refine lv_dup hx hb dd_L_law_11 rfl ?_
  refine ct_behind_v (wc := [(mq, .inr (6, [.int 0, .null, .null, .int 0, .null, .int 0, .int 0, .null, .null, .int 0, .int 0, .int 0, .int 0]))]) (wr := [(q, .inr (5, [.ref qp, .ref qs, .ref qb, .ref qc, .int (nI 0)])), (qp, .inr (2, [.ref qt, .ref qv, .int (nI 0)])), (qt, .inl (cJ, 3000, .inr (.inl (fun _ => 0)))), (qv, .inl (cJ, 3000, .inr (.inl (fun _ => 0)))), (qs, .inr (2, [.ref qs1, .ref qs2, .int (nI 0)])), (qs1, .inl (cJ, 3000, .inr (.inl (fun _ => 0)))), (qs2, .inl (cJ, 3000, .inr (.inl (fun _ => 0)))), (qb, .inr (0, [.ref qw, .int (nI 0)])), (qw, .inl (cJ, 6250, .inr (.inl (fun _ => 0)))), (qc, .inr (0, [.ref qd, .int (nI 0)])), (qd, .inl (cJ, 6250, .inr (.inl (fun _ => 0))))]) (av := [.ref mq]) (va_runI (As := []) (rest := [.ref mq]) ⟨hx, hb, hml, hown, hw⟩ (cc_M_init l D cJ cB mq _) (cwI 0 hw (tb_I wi_534) rfl rfl rfl (hw _ wi_25) (hw _ wi_532) (hw _ wi_533) rfl (by decide +kernel) ⟨Nat.le_of_ble_eq_true rfl, Nat.le_of_ble_eq_true rfl⟩) ⟨ct_blind, ct_pc hZ hK hP hD hS hA [11] rfl (by decide)⟩ rfl rfl hl.1 rfl (lv_room (Nat.le_of_ble_eq_true rfl)) dd_L_law_12 ⟨Nat.le_of_ble_eq_true rfl, Nat.le_of_ble_eq_true rfl⟩) hK hP hD hS hA [11] [0, 1, 2, 3, 4, 5, 6, 7, 8, 9, 10] rfl rfl (by decide) (by decide) (fun u_12 H locs hw_12 hP hD hS => ?_)
  obtain ⟨ta, vb, ba, na, nb⟩ := u_12
  have hP : va_P D classes [(q, .inr (5, [.ref qp, .ref qs, .ref qb, .ref qc, .int (nI 0)])), (qp, .inr (2, [.ref qt, .ref qv, .int (nI 0)])), (qt, .inl (cJ, 3000, .inr (.inl (fun _ => 0)))), (qv, .inl (cJ, 3000, .inr (.inl (fun _ => 0)))), (qs, .inr (2, [.ref qs1, .ref qs2, .int (nI 0)])), (qs1, .inl (cJ, 3000, .inr (.inl (fun _ => 0)))), (qs2, .inl (cJ, 3000, .inr (.inl (fun _ => 0)))), (qb, .inr (0, [.ref qw, .int (nI 0)])), (qw, .inl (cJ, 6250, .inr (.inl (fun _ => 0)))), (qc, .inr (0, [.ref qd, .int (nI 0)])), (qd, .inl (cJ, 6250, .inr (.inl (fun _ => 0)))), (mq, .inr (6, [.int 0, .ref ta, .ref vb, .int 0, .ref ba, .int 0, .int 0, .ref na, .ref nb, .int 0, .int 0, .int 0, .int 0])), (ta, .inl (cJ, 3000, .inr (.inl (fun _ => 0)))), (vb, .inl (cJ, 3000, .inr (.inl (fun _ => 0)))), (ba, .inl (cB, 400000, .inl (fun _ => 0))), (na, .inl (cJ, 3000, .inr (.inl (fun _ => 0)))), (nb, .inl (cJ, 3000, .inr (.inl (fun _ => 0))))] _ := hP
  have hD : va_D A [(q, .inr (5, [.ref qp, .ref qs, .ref qb, .ref qc, .int (nI 0)])), (qp, .inr (2, [.ref qt, .ref qv, .int (nI 0)])), (qt, .inl (cJ, 3000, .inr (.inl (fun _ => 0)))), (qv, .inl (cJ, 3000, .inr (.inl (fun _ => 0)))), (qs, .inr (2, [.ref qs1, .ref qs2, .int (nI 0)])), (qs1, .inl (cJ, 3000, .inr (.inl (fun _ => 0)))), (qs2, .inl (cJ, 3000, .inr (.inl (fun _ => 0)))), (qb, .inr (0, [.ref qw, .int (nI 0)])), (qw, .inl (cJ, 6250, .inr (.inl (fun _ => 0)))), (qc, .inr (0, [.ref qd, .int (nI 0)])), (qd, .inl (cJ, 6250, .inr (.inl (fun _ => 0)))), (mq, .inr (6, [.int 0, .ref ta, .ref vb, .int 0, .ref ba, .int 0, .int 0, .ref na, .ref nb, .int 0, .int 0, .int 0, .int 0])), (ta, .inl (cJ, 3000, .inr (.inl (fun _ => 0)))), (vb, .inl (cJ, 3000, .inr (.inl (fun _ => 0)))), (ba, .inl (cB, 400000, .inl (fun _ => 0))), (na, .inl (cJ, 3000, .inr (.inl (fun _ => 0)))), (nb, .inl (cJ, 3000, .inr (.inl (fun _ => 0))))] := hD
  refine lv_astore_n (lv' := [(2, .ref mq), (1, .ref q), (0, .ref b)]) hx hb dd_L_law_15 rfl hl (by decide) rfl (fun ls hl => ?_)
  refine lv_iconst (v := nI 1) hx hb dd_L_law_16 (by decide) ?_
  refine ct_newa (atype := .long) (ty := .long) (N' := 1) (a0 := (1, .inr (.inl (fun _ => 0)))) hx hb (hw _ wi_62) rfl hK hP hD hS hA (ct_J hK) (fun cA => vp_cell_l cA _ _) (nI_pos (by decide)) (nI_clamp (by decide)) (by decide) (Nat.le_of_ble_eq_true rfl) (Nat.le_of_ble_eq_true rfl) dd_L_law_17 (fun qo H hP hD hS => ?_)
  have hP : va_P D classes [(q, .inr (5, [.ref qp, .ref qs, .ref qb, .ref qc, .int (nI 0)])), (qp, .inr (2, [.ref qt, .ref qv, .int (nI 0)])), (qt, .inl (cJ, 3000, .inr (.inl (fun _ => 0)))), (qv, .inl (cJ, 3000, .inr (.inl (fun _ => 0)))), (qs, .inr (2, [.ref qs1, .ref qs2, .int (nI 0)])), (qs1, .inl (cJ, 3000, .inr (.inl (fun _ => 0)))), (qs2, .inl (cJ, 3000, .inr (.inl (fun _ => 0)))), (qb, .inr (0, [.ref qw, .int (nI 0)])), (qw, .inl (cJ, 6250, .inr (.inl (fun _ => 0)))), (qc, .inr (0, [.ref qd, .int (nI 0)])), (qd, .inl (cJ, 6250, .inr (.inl (fun _ => 0)))), (mq, .inr (6, [.int 0, .ref ta, .ref vb, .int 0, .ref ba, .int 0, .int 0, .ref na, .ref nb, .int 0, .int 0, .int 0, .int 0])), (ta, .inl (cJ, 3000, .inr (.inl (fun _ => 0)))), (vb, .inl (cJ, 3000, .inr (.inl (fun _ => 0)))), (ba, .inl (cB, 400000, .inl (fun _ => 0))), (na, .inl (cJ, 3000, .inr (.inl (fun _ => 0)))), (nb, .inl (cJ, 3000, .inr (.inl (fun _ => 0)))), (qo, .inl (cJ, 1, .inr (.inl (fun _ => 0))))] _ := hP
  have hD : va_D A [(q, .inr (5, [.ref qp, .ref qs, .ref qb, .ref qc, .int (nI 0)])), (qp, .inr (2, [.ref qt, .ref qv, .int (nI 0)])), (qt, .inl (cJ, 3000, .inr (.inl (fun _ => 0)))), (qv, .inl (cJ, 3000, .inr (.inl (fun _ => 0)))), (qs, .inr (2, [.ref qs1, .ref qs2, .int (nI 0)])), (qs1, .inl (cJ, 3000, .inr (.inl (fun _ => 0)))), (qs2, .inl (cJ, 3000, .inr (.inl (fun _ => 0)))), (qb, .inr (0, [.ref qw, .int (nI 0)])), (qw, .inl (cJ, 6250, .inr (.inl (fun _ => 0)))), (qc, .inr (0, [.ref qd, .int (nI 0)])), (qd, .inl (cJ, 6250, .inr (.inl (fun _ => 0)))), (mq, .inr (6, [.int 0, .ref ta, .ref vb, .int 0, .ref ba, .int 0, .int 0, .ref na, .ref nb, .int 0, .int 0, .int 0, .int 0])), (ta, .inl (cJ, 3000, .inr (.inl (fun _ => 0)))), (vb, .inl (cJ, 3000, .inr (.inl (fun _ => 0)))), (ba, .inl (cB, 400000, .inl (fun _ => 0))), (na, .inl (cJ, 3000, .inr (.inl (fun _ => 0)))), (nb, .inl (cJ, 3000, .inr (.inl (fun _ => 0)))), (qo, .inl (cJ, 1, .inr (.inl (fun _ => 0))))] := hD
  refine lv_astore_n (lv' := [(3, .ref qo), (2, .ref mq), (1, .ref q), (0, .ref b)]) hx hb dd_L_law_19 rfl hl (by decide) rfl (fun ls hl => ?_)
  refine lv_iconst (v := nI 0) hx hb dd_L_law_20 (by decide) ?_
  refine lv_istore (lv' := [(4, .int (nI 0)), (3, .ref qo), (2, .ref mq), (1, .ref q), (0, .ref b)]) hx hb dd_L_law_21 hl (by decide) rfl (fun ls hl => ?_)
  refine W.widen (k := 18 + 2 * 0) (n := 436529 + 9 * 0) (by decide) (by decide) ?_
  exact lw_loop hlt hC hout (L + 1) 0 (by omega) (by omega) _ _ _ ⟨q, qp, qt, qv, qs, qs1, qs2, qb, qw, qc, qd, 0, 0, 0, 0, (fun _ => 0), (fun _ => 0), (fun _ => 0), (fun _ => 0), (fun _ => 0), (fun _ => 0), [], mq, ta, vb, ba, na, nb, 0, 0, 0, 0, 0, (fun _ => 0), (fun _ => 0), (fun _ => 0), (fun _ => 0), (fun _ => 0), qo, (fun _ => 0), hP.sub [0, 1, 2, 3, 4, 5, 6, 7, 8, 9, 10, 11, 12, 13, 14, 15, 16, 17] rfl, hD.sub [0, 1, 2, 3, 4, 5, 6, 7, 8, 9, 10, 11, 12, 13, 14, 15, 16, 17] (by decide) rfl, hS, lv_sub hl [4, 3, 2, 1, 0] rfl, Nat.zero_le _, Nat.zero_le _, fun i h => absurd h (Nat.not_lt_zero i), fun i h => absurd h (Nat.not_lt_zero i), fun h => absurd rfl h, fun j h => absurd h (Nat.not_lt_zero j)⟩
