/-! What every method may count on beside its own cells: the statics that a throw reads, the table TURN_BITS, words that aren't good ones, the texts of the throws -/
abbrev ex_A : String := "java/lang/IllegalArgumentException"
abbrev ex_S : String := "java/lang/IllegalStateException"
abbrev ex_I : String := "java/lang/IndexOutOfBoundsException"
abbrev ex_N : List String := ["java/lang/RuntimeException", "java/lang/Exception"]
def ct_BW : List Cond := [.castable ex_A ex_A, .castable ex_S ex_S, .castable ex_I ex_I, .declares ⟨"java/lang/RuntimeException", "<init>", "(Ljava/lang/String;)V"⟩, .declares ⟨"java/lang/Exception", "<init>", "(Ljava/lang/String;)V"⟩, .declares ⟨"java/lang/Throwable", "<init>", "(Ljava/lang/String;)V"⟩, .fieldLinkNest cn_W 69 cn_X "TURN_BITS" "[I" cn_X, .fieldLinkNest cn_R 76 cn_X "TURN_BITS" "[I" cn_X]
def ct_SW : List (String × Nat × String) := [(cn_X, 37, "no time"), (cn_X, 46, "the time is not above the latest one"), (cn_X, 54, "there are 3000 points"), (cn_X, 61, "there are not so many points"), (cn_P, 26, "no such point"), (cn_X, 77, "more than 400000 bits"), (cn_X, 80, "k is not 0 .. 3000"), (cn_X, 92, "neither points nor bits"), (cn_B, 21, "no such bit"), (cn_X, 108, "n is not 0 .. 64"), (cn_X, 110, "v is not a number of n bits"), (cn_X, 115, "there are not so many bits")]
def ct_tb (A : Nat → Prop) (U : State) (H : Heap) : Prop := ∃ t : Nat, va_Z cn_X "TURN_BITS" "[I" (.ref t) A U H ∧ va_T .int t 5 (fun j => .int (nI (cp_tb j))) A U H
def ct_Z (A : Nat → Prop) (U : State) (H : Heap) : Prop :=
  (vx_Zq Bundle.tN "UNASSIGNED_STACK" Bundle.steD A U H ∧ vx_Zq Bundle.tN "SUPPRESSED_SENTINEL" Bundle.listD A U H) ∧ ct_tb A U H ∧ (∀ w ∈ ct_BW, va_Nw w U) ∧ (∀ q ∈ ct_SW, ∃ a, vk_R q.1 q.2.1 q.2.2 a U) ∧ va_Nc ex_S ex_A U
theorem ct_BW_t : ∀ w ∈ ct_BW, w.onTables = true := by decide +kernel
theorem ct_BW_warm {s U : State} (hW : s.WarmedH U.vm) (h : ∀ w ∈ ct_BW, va_Nw w s) : ∀ w ∈ ct_BW, va_Nw w U := by
  intro w hw
  have h' := h w hw
  simp only [ct_BW, List.mem_cons, List.not_mem_nil, or_false] at hw
  rcases hw with rfl | rfl | rfl | rfl | rfl | rfl | rfl | rfl
  · exact va_Nw.warmC hW h'
  · exact va_Nw.warmC hW h'
  · exact va_Nw.warmC hW h'
  · exact va_Nw.warmD hW h'
  · exact va_Nw.warmD hW h'
  · exact va_Nw.warmD hW h'
  · exact va_Nw.warmF hW h'
  · exact va_Nw.warmF hW h'
theorem ct_Z.same {A : Nat → Prop} {u U : State} {H : Heap} (hv : u.vm = U.vm) (h : ct_Z A u H) : ct_Z A U H := by
  obtain ⟨⟨h1, h2⟩, ⟨t, h3, h4⟩, h5, h6, h7⟩ := h
  have ha : u.vm.Alike U.vm := by rw [hv]; exact Vm.Alike.refl _
  exact ⟨⟨h1.moved ha, h2.moved ha⟩, ⟨t, h3.moved ha, h4.moved ha⟩, fun w hw => va_Nw.same (ct_BW_t w hw) hv (h5 w hw), fun q hq => by
    obtain ⟨a, ha⟩ := h6 q hq
    exact ⟨a, vk_R.same hv.symm ha⟩, h7.moved ha⟩
theorem ct_Z.warm {A : Nat → Prop} {s U : State} {H : Heap} (hW : s.WarmedH U.vm) (h : ct_Z A s H) : ct_Z A U H := by
  obtain ⟨⟨h1, h2⟩, ⟨t, h3, h4⟩, h5, h6, h7⟩ := h
  exact ⟨⟨h1.moved hW.alike, h2.moved hW.alike⟩, ⟨t, h3.moved hW.alike, h4.moved hW.alike⟩, ct_BW_warm hW h5, fun q hq => by
    obtain ⟨a, ha⟩ := h6 q hq
    exact ⟨a, vk_R.warm hW ha⟩, h7.moved hW.alike⟩
theorem ct_Z.kept {A : Nat → Prop} {U : State} {H H1 : Heap} (h : ct_Z A U H) (hq : ∀ a : Nat, a < H.size → ¬ A a → H1[a]? = H[a]?) : ct_Z A U H1 := by
  obtain ⟨⟨h1, h2⟩, ⟨t, h3, h4⟩, h5, h6, h7⟩ := h
  exact ⟨⟨h1.kept hq, h2.kept hq⟩, ⟨t, h3.kept hq, h4.kept hq⟩, h5, h6, h7⟩
theorem ct_Z.narrow {A B : Nat → Prop} {U : State} {H : Heap} (h : ct_Z A U H) (hAB : ∀ q, B q → A q) : ct_Z B U H := by
  obtain ⟨⟨h1, h2⟩, ⟨t, h3, h4⟩, h5, h6, h7⟩ := h
  exact ⟨⟨h1.narrow hAB, h2.narrow hAB⟩, ⟨t, h3.narrow hAB, h4.narrow hAB⟩, h5, h6, h7⟩
/-! Contracts over worlds, in one form; calls by that form. 'ct_ty': the two array classes (longs, bytes) -/
abbrev ct_ty (cJ cB : ClassId) : List (ClassId × FieldType) := [(cJ, .long), (cB, .byte)]
def ct_pre (D : va_G) (cl : List vw_C) (cJ cB : ClassId) (ws : va_W) (sz : Nat) : State → Prop := fun U => U.heap.size = sz ∧ va_P D cl ws U.heap ∧ va_K D cl (ct_ty cJ cB) U ∧ va_D (fun _ => True) ws ∧ ct_Z (va_A ws sz) U U.heap
def ct_at (D : va_G) (cl : List vw_C) (cJ cB : ClassId) (A : Nat → Prop) (ws : va_W) : State → Prop := fun t => va_P D cl ws t.heap ∧ va_K D cl (ct_ty cJ cB) t ∧ va_D A ws
abbrev ct_i {S : Type} (l : Launch) (y : MethodName) (wd : List Cond) (rm : Room) (D : va_G) (cl : List vw_C) (cJ cB : ClassId) (av : List Value) (ws : va_W) (sz : Nat) (post : Int32 → S → Prop) (F : S → va_W) (mc ms : Nat) : Prop :=
  Met l y wd rm (va_Pc av (ct_pre D cl cJ cB ws sz)) (va_Qi post (fun u => ct_at D cl cJ cB (va_A ws sz) (F u)) (va_A ws sz)) mc ms (va_A ws sz)
abbrev ct_l {S : Type} (l : Launch) (y : MethodName) (wd : List Cond) (rm : Room) (D : va_G) (cl : List vw_C) (cJ cB : ClassId) (av : List Value) (ws : va_W) (sz : Nat) (post : Int64 → S → Prop) (F : S → va_W) (mc ms : Nat) : Prop :=
  Met l y wd rm (va_Pc av (ct_pre D cl cJ cB ws sz)) (va_Ql post (fun u => ct_at D cl cJ cB (va_A ws sz) (F u)) (va_A ws sz)) mc ms (va_A ws sz)
abbrev ct_v {S : Type} (l : Launch) (y : MethodName) (wd : List Cond) (rm : Room) (D : va_G) (cl : List vw_C) (cJ cB : ClassId) (av : List Value) (ws : va_W) (sz : Nat) (post : S → Prop) (F : S → va_W) (mc ms : Nat) : Prop :=
  Met l y wd rm (va_Pc av (ct_pre D cl cJ cB ws sz)) (va_Qv post (fun u => ct_at D cl cJ cB (va_A ws sz) (F u)) (va_A ws sz)) mc ms (va_A ws sz)
theorem ct_blind {D : va_G} {cl : List vw_C} {cJ cB : ClassId} {av : List Value} {ws : va_W} {sz : Nat} : FrameBlind (va_Pc av (ct_pre D cl cJ cB ws sz)) := fun a U g mk q => by
  obtain ⟨q0, q1, qP, qK, qD, qZ⟩ := q
  exact ⟨q0, q1, qP, va_K.moved (u := U) (U := U.calling g mk a) (Vm.Alike.refl U.vm) qK, qD, ct_Z.same (u := U) (U := U.calling g mk a) rfl qZ⟩
/-- the walk of a method's body gives its contract -/
theorem ct_ofW {l : Launch} {y : MethodName} {wd wd' : List Cond} {rm : Room} {D : va_G} {cl : List vw_C} {cJ cB : ClassId} {av : List Value} {ws : va_W} {sz : Nat} {Qc : Array Value → State → Outcome → State → Prop} {mc ms : Nat} {cc : ByteArray} {maxL : Nat} {ret : Option FieldType}
    (hy : plainName y.cls = true) (hw : wd = Cond.code y cc maxL ret :: wd') (hn : (lg_sl av).length ≤ maxL)
    (body : ∀ (p : Program) (e : Env) (s : State) (m : MethodId) (below : List Frame) (meth : Method) (c : Code), p.tables.exec = Jvm.exec → c.code = cc → meth.sig.returnType = ret → c.maxLocals = maxL → (∀ w ∈ wd, w.before av.toArray s = true) → s.vm.findClass y.cls = some m.cls → meth.locks = false → meth.name = y.name → s.heap.size = sz →
      va_K D cl (ct_ty cJ cB) s → va_P D cl ws s.heap → va_D (va_A ws sz) ws → (∀ q, s.heap.size ≤ q → va_A ws sz q) → va_S (va_A ws sz) s.heap s.heap [] → ct_Z (va_A ws sz) s s.heap → ∀ ls : Array Slot, lv_has ls maxL (lv_args 0 av) →
      W p l e rm s m av.toArray below meth c s.heap [] 0 0 (MQ below Qc av.toArray s mc ms (va_A ws sz)) (F0 m 0 ls [])) :
    Met l y wd rm (va_Pc av (ct_pre D cl cJ cB ws sz)) Qc mc ms (va_A ws sz) := by
  refine Met.ofW (cc := cc) (maxL := maxL) (ret := ret) hy hw ?_
  intro p e s m args below meth c s₁ B hml hv
  obtain ⟨rfl, hsz, hP, hK, hD0, hZ⟩ := hv
  have hts := atoms_spec (ws := wd) B.pre
  have hown := findClass_of_methodNamed B.named
  have hin : meth.name = y.name := (name_of_methodNamed B.named B.method).1
  have hl := lv_entry av (n := maxL) hn
  rw [lg_entry_eq]
  exact body p e s m below meth c B.exec B.bytes B.returns hml hts hown B.notSynchronized hin hsz hK hP (hD0.self (sz := sz)) (fun q h => Or.inr (by rw [← hsz]; exact h)) va_S.rf hZ _ hl
section CT
variable {p : Program} {l : Launch} {e : Env} {R : Room} {s : State} {m : MethodId} {args : Array Value} {below : List Frame} {meth : Method} {c : Code} {H H0 : Heap} {locs : List Loc} {cells slots : Nat} {Q : State → Prop}
variable {D : va_G} {cl : List vw_C} {cJ cB : ClassId} {A : Nat → Prop} {cc : ByteArray} {pc : Nat} {ls : Array Slot} {rest : List Value}
theorem ct_top {x y : Value} (h : x = y) (k : W p l e R s m args below meth c H locs cells slots Q (F0 m pc ls (y :: rest))) : W p l e R s m args below meth c H locs cells slots Q (F0 m pc ls (x :: rest)) := by
  subst h; exact k
theorem ct_topi {x y : Int32} (h : x = y) (k : W p l e R s m args below meth c H locs cells slots Q (F0 m pc ls (.int y :: rest))) : W p l e R s m args below meth c H locs cells slots Q (F0 m pc ls (.int x :: rest)) := by
  subst h; exact k
theorem ct_topl {x y : Int64} (h : x = y) (k : W p l e R s m args below meth c H locs cells slots Q (F0 m pc ls (.long y :: rest))) : W p l e R s m args below meth c H locs cells slots Q (F0 m pc ls (.long x :: rest)) := by
  subst h; exact k
/-- ends -/
theorem ct_iret {S : Type} {post : Int32 → S → Prop} {F : S → va_W} {v : Int32} {u : S} {ws : va_W} (hx : p.tables.exec = Jvm.exec) (hb : c.code = cc) (hr : meth.sig.returnType = some .int) (hlocks : meth.locks = false) (hK : va_K D cl (ct_ty cJ cB) s) (hP : va_P D cl ws H) (hD : va_D A ws) (hS : va_S A s.heap H locs) (hF : F u = ws) (hp : post v u) (hdg : decode cc pc = .ok (.ireturn, 1)) :
    W p l e R s m args below meth c H locs cells slots (MQ below (va_Qi post (fun u => ct_at D cl cJ cB A (F u)) A) args s cells slots A) (F0 m pc ls [.int v]) := by
  subst hF
  exact W.iret hx hb hr (fun t ht hW => ⟨⟨v, u, rfl, hp, by rw [ht]; exact hP, va_K.moved hW.alike hK, hD⟩, hS.F ht⟩) hS.2.2 hdg hlocks
theorem ct_zret {S : Type} {post : Int32 → S → Prop} {F : S → va_W} {v : Int32} {u : S} {ws : va_W} (hx : p.tables.exec = Jvm.exec) (hb : c.code = cc) (hr : meth.sig.returnType = some .boolean) (hlocks : meth.locks = false) (hn : narrow .boolean (.int v) = .int v) (hK : va_K D cl (ct_ty cJ cB) s) (hP : va_P D cl ws H) (hD : va_D A ws) (hS : va_S A s.heap H locs) (hF : F u = ws) (hp : post v u) (hdg : decode cc pc = .ok (.ireturn, 1)) :
    W p l e R s m args below meth c H locs cells slots (MQ below (va_Qi post (fun u => ct_at D cl cJ cB A (F u)) A) args s cells slots A) (F0 m pc ls [.int v]) := by
  subst hF
  exact W.zret hx hb hr hn (fun t ht hW => ⟨⟨v, u, rfl, hp, by rw [ht]; exact hP, va_K.moved hW.alike hK, hD⟩, hS.F ht⟩) hS.2.2 hdg hlocks
theorem ct_lret {S : Type} {post : Int64 → S → Prop} {F : S → va_W} {v : Int64} {u : S} {ws : va_W} (hx : p.tables.exec = Jvm.exec) (hb : c.code = cc) (hr : meth.sig.returnType = some .long) (hlocks : meth.locks = false) (hK : va_K D cl (ct_ty cJ cB) s) (hP : va_P D cl ws H) (hD : va_D A ws) (hS : va_S A s.heap H locs) (hF : F u = ws) (hp : post v u) (hdg : decode cc pc = .ok (.lreturn, 1)) :
    W p l e R s m args below meth c H locs cells slots (MQ below (va_Ql post (fun u => ct_at D cl cJ cB A (F u)) A) args s cells slots A) (F0 m pc ls [.long v]) := by
  subst hF
  exact W.lret hx hb hr (fun t ht hW => ⟨⟨v, u, rfl, hp, by rw [ht]; exact hP, va_K.moved hW.alike hK, hD⟩, hS.F ht⟩) hS.2.2 hdg hlocks
theorem ct_vret {S : Type} {post : S → Prop} {F : S → va_W} {u : S} {ws : va_W} (hx : p.tables.exec = Jvm.exec) (hb : c.code = cc) (hr : meth.sig.returnType = none) (hlocks : meth.locks = false) (hK : va_K D cl (ct_ty cJ cB) s) (hP : va_P D cl ws H) (hD : va_D A ws) (hS : va_S A s.heap H locs) (hF : F u = ws) (hp : post u) (hdg : decode cc pc = .ok (.return_, 1)) :
    W p l e R s m args below meth c H locs cells slots (MQ below (va_Qv post (fun u => ct_at D cl cJ cB A (F u)) A) args s cells slots A) (F0 m pc ls []) := by
  subst hF
  exact W.vret hx hb hr (fun t ht hW => ⟨⟨u, rfl, hp, by rw [ht]; exact hP, va_K.moved hW.alike hK, hD⟩, hS.F ht⟩) hS.2.2 hdg hlocks
/-- a new array of longs, of bytes: its class is known -/
theorem ct_newa {atype : ArrayType} (hx : p.tables.exec = Jvm.exec) (hb : c.code = cc) (harr : (Cond.arrayClass (newarray.typeOf atype)).before args s = true) {ty : FieldType} (hty : newarray.typeOf atype = ty) {ws : va_W} (hK : va_K D cl (ct_ty cJ cB) s) (hP : va_P D cl ws H) (hD : va_D A ws) (hS : va_S A H0 H locs) (hA : ∀ q, H0.size ≤ q → A q)
    {n : Int32} {N' : Nat} {a0 : vp_A} {cA0 : ClassId} (hin : s.vm.findClass ("[" ++ ty.toString) = some cA0) (ha : ∀ cA : ClassId, vp_cell cA a0 = arrV cA N' (fun _ => defaultValue ty)) (hn : ¬ n < 0) (hN : n.toNatClampNeg = N') (hbytes : N' * componentBytes ty ≤ 536870912) (hcells : cells + 1 ≤ R.cells) (hslots : slots + N' ≤ R.slots) (hdg : decode cc pc = .ok (.newarray atype, 2))
    (kk : ∀ (q : Nat) (H1 : Heap), va_P D cl (ws ++ [(q, .inl (cA0, a0))]) H1 → va_D A (ws ++ [(q, .inl (cA0, a0))]) → va_S A H0 H1 locs →
      W p l e R s m args below meth c H1 locs (cells + 1) (slots + N') Q (F0 m (pc + 2) ls (.ref q :: rest))) : W p l e R s m args below meth c H locs cells slots Q (F0 m pc ls (.int n :: rest)) := by
  subst hty
  refine va_newaK hx hb harr rfl hdg rfl hn hN hbytes hcells hslots rfl fun H1 cA e1 z1 o1 hAr hNm => ?_
  have hcA : cA = cA0 := Option.some.inj (hNm.symm.trans hin)
  subst hcA
  have hk : ∀ (k : Nat) (x : Nat × va_E), ws[k]? = some x → H1[x.1]? = H[x.1]? := fun k x hx => o1 x.1 ((hP k x hx).lt)
  refine kk H.size H1 ((hP.kept hk).app (fun k x hx => ?_)) (hD.push hP rfl (hA _ hS.1)) ⟨Nat.le_trans hS.1 (by omega), fun x h1 h2 => (o1 x (Nat.lt_of_lt_of_le h1 hS.1)).trans (hS.2.1 x h1 h2), hS.2.2⟩
  have hz : k < 1 := (List.getElem?_eq_some_iff.mp hx).1
  rw [show k = 0 by omega] at hx
  cases hx
  show H1[H.size]? = some (vp_cell _ _)
  rw [ha]
  exact e1
theorem ct_J (hK : va_K D cl (ct_ty cJ cB) s) : s.vm.findClass ("[" ++ FieldType.long.toString) = some cJ := (hK.2 0 _ rfl).2
theorem ct_B (hK : va_K D cl (ct_ty cJ cB) s) : s.vm.findClass ("[" ++ FieldType.byte.toString) = some cB := (hK.2 1 _ rfl).2
/-! calls: the callee's cells 'wc' stand at the places isC of the caller's ws, the rest 'wr' at isR -/
variable {y : MethodName} {bytes : ByteArray} {maxL nL mc ms n index : Nat} {ret : Option FieldType} {wd : List Cond} {rm : Room} {Ts : List Cond} {own C : String} {b : Addr} {As st0 : List Value} {ws wc wr : va_W}
theorem ct_pc (hZ : ct_Z A s s.heap) (hK : va_K D cl (ct_ty cJ cB) s) (hP : va_P D cl ws H) (hD : va_D A ws) (hS : va_S A s.heap H locs) (hA : ∀ q, s.heap.size ≤ q → A q) (isC : List Nat) (hC : isC.map (fun i => ws[i]?) = wc.map some) (hnC : va_nd isC = true) {av : List Value} : ∀ U : State, U.heap = H → s.WarmedH U.vm → va_Pc av (ct_pre D cl cJ cB wc H.size) av.toArray U := by
  intro U hU hW
  have hDc := hD.sub isC hnC hC
  refine ⟨rfl, by rw [hU], ?_, va_K.moved hW.alike hK, hDc.weaken (fun _ _ _ _ => trivial), ?_⟩
  rotate_left
  · rw [hU]
    exact ((hZ.kept hS.2.1).warm hW).narrow (va_free hD hS hA isC hC)
  rw [hU]
  intro k q hk
  have h1 : (isC.map (fun i => ws[i]?))[k]? = some (some q) := by rw [hC, List.getElem?_map, hk]; rfl
  rw [List.getElem?_map] at h1
  cases hi : isC[k]? with
  | none => rw [hi] at h1; cases h1
  | some i => rw [hi] at h1; exact hP i q (Option.some.inj h1)
theorem ct_recv (hK : va_K D cl (ct_ty cJ cB) s) (hP : va_P D cl ws H) {q0 ci : Nat} {fs : List Value} {q : vw_C} (he : ws[q0]? = some (b, .inr (ci, fs))) (hc : cl[ci]? = some q) : ∃ cell : Cell, H[b]? = some cell ∧ cell.vm.isStatics = false ∧ s.vm.findClass q.1 = some cell.cls := va_recv hK hP hc he
section CTi
variable {S : Type} {F : S → va_W}
theorem ct_behind_i {post : Int32 → S → Prop} {av : List Value} (hr : va_Run p l e R s m args below meth c H locs cells slots mc ms (F0 m pc ls st0) rest (va_Qi post (fun u => ct_at D cl cJ cB (va_A wc H.size) (F u)) (va_A wc H.size) av.toArray) (va_A wc H.size)) (hK : va_K D cl (ct_ty cJ cB) s) (hP : va_P D cl ws H) (hD : va_D A ws) (hS : va_S A s.heap H locs) (hA : ∀ q, s.heap.size ≤ q → A q)
    (isC isR : List Nat) (hC : isC.map (fun i => ws[i]?) = wc.map some) (hR : isR.map (fun i => ws[i]?) = wr.map some) (hn : va_nd isR = true) (hdis : ∀ i ∈ isR, i ∉ isC)
    (kk : ∀ (r : Int32) (u : S) (H1 : Heap) (locs1 : List Loc), post r u → va_P D cl (wr ++ F u) H1 → va_D A (wr ++ F u) → va_S A s.heap H1 locs1 → W p l e R s m args below meth c H1 locs1 (cells + mc) (slots + ms) Q (F0 m (pc + 3) ls (.int r :: rest))) : W p l e R s m args below meth c H locs cells slots Q (F0 m pc ls st0) := by
  have hFc := va_free (wc := wc) hD hS hA isC hC
  refine va_calli hr hS (fun q _ h => hFc q h) hFc (fun r u t H1 locs1 ht hvm hw hB hz1 hk1 hS1 => ?_)
  obtain ⟨hP1, -, hD1⟩ := hB
  rw [ht] at hP1
  obtain ⟨hP2, hD2⟩ := va_join hP hD isC isR hC hR hn hdis hk1 hFc hP1 hD1
  exact kk r u H1 locs1 hw hP2 hD2 hS1
theorem ct_behind_l {post : Int64 → S → Prop} {av : List Value} (hr : va_Run p l e R s m args below meth c H locs cells slots mc ms (F0 m pc ls st0) rest (va_Ql post (fun u => ct_at D cl cJ cB (va_A wc H.size) (F u)) (va_A wc H.size) av.toArray) (va_A wc H.size)) (hK : va_K D cl (ct_ty cJ cB) s) (hP : va_P D cl ws H) (hD : va_D A ws) (hS : va_S A s.heap H locs) (hA : ∀ q, s.heap.size ≤ q → A q)
    (isC isR : List Nat) (hC : isC.map (fun i => ws[i]?) = wc.map some) (hR : isR.map (fun i => ws[i]?) = wr.map some) (hn : va_nd isR = true) (hdis : ∀ i ∈ isR, i ∉ isC)
    (kk : ∀ (r : Int64) (u : S) (H1 : Heap) (locs1 : List Loc), post r u → va_P D cl (wr ++ F u) H1 → va_D A (wr ++ F u) → va_S A s.heap H1 locs1 → W p l e R s m args below meth c H1 locs1 (cells + mc) (slots + ms) Q (F0 m (pc + 3) ls (.long r :: rest))) : W p l e R s m args below meth c H locs cells slots Q (F0 m pc ls st0) := by
  have hFc := va_free (wc := wc) hD hS hA isC hC
  refine va_calll hr hS (fun q _ h => hFc q h) hFc (fun r u t H1 locs1 ht hvm hw hB hz1 hk1 hS1 => ?_)
  obtain ⟨hP1, -, hD1⟩ := hB
  rw [ht] at hP1
  obtain ⟨hP2, hD2⟩ := va_join hP hD isC isR hC hR hn hdis hk1 hFc hP1 hD1
  exact kk r u H1 locs1 hw hP2 hD2 hS1
theorem ct_behind_v {post : S → Prop} {av : List Value} (hr : va_Run p l e R s m args below meth c H locs cells slots mc ms (F0 m pc ls st0) rest (va_Qv post (fun u => ct_at D cl cJ cB (va_A wc H.size) (F u)) (va_A wc H.size) av.toArray) (va_A wc H.size)) (hK : va_K D cl (ct_ty cJ cB) s) (hP : va_P D cl ws H) (hD : va_D A ws) (hS : va_S A s.heap H locs) (hA : ∀ q, s.heap.size ≤ q → A q)
    (isC isR : List Nat) (hC : isC.map (fun i => ws[i]?) = wc.map some) (hR : isR.map (fun i => ws[i]?) = wr.map some) (hn : va_nd isR = true) (hdis : ∀ i ∈ isR, i ∉ isC)
    (kk : ∀ (u : S) (H1 : Heap) (locs1 : List Loc), post u → va_P D cl (wr ++ F u) H1 → va_D A (wr ++ F u) → va_S A s.heap H1 locs1 → W p l e R s m args below meth c H1 locs1 (cells + mc) (slots + ms) Q (F0 m (pc + 3) ls rest)) : W p l e R s m args below meth c H locs cells slots Q (F0 m pc ls st0) := by
  have hFc := va_free (wc := wc) hD hS hA isC hC
  refine va_callv hr hS (fun q _ h => hFc q h) hFc (fun u t H1 locs1 ht hvm hw hB hz1 hk1 hS1 => ?_)
  obtain ⟨hP1, -, hD1⟩ := hB
  rw [ht] at hP1
  obtain ⟨hP2, hD2⟩ := va_join hP hD isC isR hC hR hn hdis hk1 hFc hP1 hD1
  exact kk u H1 locs1 hw hP2 hD2 hS1
end CTi
end CT
/-! methods that throw: what was there stays as it was -/
def cx_X (D : va_G) (cl : List vw_C) (cJ cB : ClassId) (A : Nat → Prop) (ws : va_W) (px : String → Prop) : String → State → State → Prop := vx_X (fun _ : Unit => True) (fun E _ t => px E ∧ ct_at D cl cJ cB A ws t) A
abbrev cx_i {S : Type} (l : Launch) (y : MethodName) (wd : List Cond) (rm : Room) (D : va_G) (cl : List vw_C) (cJ cB : ClassId) (av : List Value) (ws : va_W) (sz : Nat) (post : Int32 → S → Prop) (F : S → va_W) (px : String → Prop) (mc ms : Nat) : Prop :=
  vx_Met l y wd rm (va_Pc av (ct_pre D cl cJ cB ws sz)) (va_Qi post (fun u => ct_at D cl cJ cB (va_A ws sz) (F u)) (va_A ws sz)) (cx_X D cl cJ cB (va_A ws sz) ws px) mc ms (va_A ws sz)
abbrev cx_l {S : Type} (l : Launch) (y : MethodName) (wd : List Cond) (rm : Room) (D : va_G) (cl : List vw_C) (cJ cB : ClassId) (av : List Value) (ws : va_W) (sz : Nat) (post : Int64 → S → Prop) (F : S → va_W) (px : String → Prop) (mc ms : Nat) : Prop :=
  vx_Met l y wd rm (va_Pc av (ct_pre D cl cJ cB ws sz)) (va_Ql post (fun u => ct_at D cl cJ cB (va_A ws sz) (F u)) (va_A ws sz)) (cx_X D cl cJ cB (va_A ws sz) ws px) mc ms (va_A ws sz)
abbrev cx_v {S : Type} (l : Launch) (y : MethodName) (wd : List Cond) (rm : Room) (D : va_G) (cl : List vw_C) (cJ cB : ClassId) (av : List Value) (ws : va_W) (sz : Nat) (post : S → Prop) (F : S → va_W) (px : String → Prop) (mc ms : Nat) : Prop :=
  vx_Met l y wd rm (va_Pc av (ct_pre D cl cJ cB ws sz)) (va_Qv post (fun u => ct_at D cl cJ cB (va_A ws sz) (F u)) (va_A ws sz)) (cx_X D cl cJ cB (va_A ws sz) ws px) mc ms (va_A ws sz)
theorem cx_ofW {l : Launch} {y : MethodName} {wd wd' : List Cond} {rm : Room} {D : va_G} {cl : List vw_C} {cJ cB : ClassId} {av : List Value} {ws : va_W} {sz : Nat} {Qc : Array Value → State → Outcome → State → Prop} {XC : String → State → State → Prop} {mc ms : Nat} {cc : ByteArray} {maxL : Nat} {ret : Option FieldType}
    (hy : plainName y.cls = true) (hw : wd = Cond.code y cc maxL ret :: wd') (hn : (lg_sl av).length ≤ maxL)
    (body : ∀ (p : Program) (e : Env) (s : State) (m : MethodId) (below : List Frame) (meth : Method) (c : Code), p.tables.exec = Jvm.exec → c.code = cc → meth.sig.returnType = ret → c.maxLocals = maxL → (∀ w ∈ wd, w.before av.toArray s = true) → s.vm.findClass y.cls = some m.cls → meth.locks = false → meth.name = y.name → s.heap.size = sz →
      va_K D cl (ct_ty cJ cB) s → va_P D cl ws s.heap → va_D (va_A ws sz) ws → (∀ q, s.heap.size ≤ q → va_A ws sz q) → va_S (va_A ws sz) s.heap s.heap [] → ct_Z (va_A ws sz) s s.heap → (∀ x ∈ c.exceptionTable.toList, False) → ∀ ls : Array Slot, lv_has ls maxL (lv_args 0 av) →
      W p l e rm s m av.toArray below meth c s.heap [] 0 0 (vx_MQ below Qc XC av.toArray s mc ms (va_A ws sz)) (F0 m 0 ls [])) :
    vx_Met l y wd rm (va_Pc av (ct_pre D cl cJ cB ws sz)) Qc XC mc ms (va_A ws sz) := by
  refine vx_ofW (cc := cc) (maxL := maxL) (ret := ret) hy hw ?_
  intro p e s m args below meth c s₁ B hml hex hv
  obtain ⟨rfl, hsz, hP, hK, hD0, hZ⟩ := hv
  have hts := atoms_spec (ws := wd) B.pre
  have hown := findClass_of_methodNamed B.named
  have hin : meth.name = y.name := (name_of_methodNamed B.named B.method).1
  have hl := lv_entry av (n := maxL) hn
  rw [lg_entry_eq]
  exact body p e s m below meth c B.exec B.bytes B.returns hml hts hown B.notSynchronized hin hsz hK hP (hD0.self (sz := sz)) (fun q h => Or.inr (by rw [← hsz]; exact h)) va_S.rf hZ hex _ hl
section CX
variable {p : Program} {l : Launch} {e : Env} {R : Room} {s : State} {m : MethodId} {args : Array Value} {below : List Frame} {meth : Method} {c : Code} {H : Heap} {locs : List Loc} {cells slots : Nat} {Q : State → Prop}
variable {D : va_G} {cl : List vw_C} {cJ cB : ClassId} {A : Nat → Prop} {cc : ByteArray} {pc : Nat} {ls : Array Slot} {rest : List Value}
theorem ct_hat {own cls : String} {ic : Nat} (hw : ∀ w ∈ TB, w.before args s = true) (hZ : ct_Z A s s.heap) (h1 : ∀ w ∈ (vx_atS own ic cls ex_N).filter goodWord, w ∈ TB) (h2 : ∀ w ∈ (vx_atS own ic cls ex_N).filter (fun w => !goodWord w), w ∈ ct_BW) : ∀ w ∈ vx_atS own ic cls ex_N, w.before args s = true :=
  vx_hat (fun w h => hw w (h1 w h)) h2 (fun w h => va_Nw.use (ct_BW_t w h) (hZ.2.2.1 w h))
/-- 'throw new E("text")' where nothing has been changed -/
theorem cx_throw {Qc : Array Value → State → Outcome → State → Prop} {px : String → Prop} (hx : p.tables.exec = Jvm.exec) (hb : c.code = cc) (hl : l.stackTraces = false) {own cls text : String} {ik is ic mc ms : Nat} {ws : va_W}
    (hw : ∀ w ∈ TB, w.before args s = true) (hZ : ct_Z A s s.heap) (hown : s.vm.findClass own = some m.cls) (hcls : Bundle.fit cls = true)
    (hk : Cond.classLink own ik cls ∈ TB) (hini : Cond.initialized cls ∈ TB) (hstr : (own, is, text) ∈ ct_SW) (h1 : ∀ w ∈ (vx_atS own ic cls ex_N).filter goodWord, w ∈ TB) (h2 : ∀ w ∈ (vx_atS own ic cls ex_N).filter (fun w => !goodWord w), w ∈ ct_BW)
    (hgood : ∀ w ∈ Cond.classLink own ik cls :: Cond.initialized cls :: vx_atS own ic cls ex_N, vx_ot w = true)
    (hK : va_K D cl (ct_ty cJ cB) s) (hP : va_P D cl ws H) (hD : va_D A ws) (hS : va_S A s.heap H locs) (hsize : ls.size = c.maxLocals) (hex : ∀ x ∈ c.exceptionTable.toList, False)
    (d0 : decode cc pc = .ok (.new ik, 3)) (d3 : decode cc (pc + 3) = .ok (.dup, 1)) (d4 : decode cc (pc + 4) = .ok (.ldc is, 2)) (d6 : decode cc (pc + 6) = .ok (.invokespecial ic, 3)) (d9 : decode cc (pc + 9) = .ok (.athrow, 1))
    (hRf : 5 < R.frames) (hRl : (rest.map fun v => v.category).sum + 82 ≤ R.locals) (hRc : cells + 1 ≤ R.cells) (hRs : slots + 6 ≤ R.slots) (hlocks : meth.locks = false) (hpx : px cls) (hc : cells + 1 ≤ mc) (hs : slots + 6 ≤ ms) :
    W p l e R s m args below meth c H locs cells slots (vx_MQ below Qc (cx_X D cl cJ cB A ws px) args s mc ms A) (F0 m pc ls rest) := by
  obtain ⟨sa, hsa⟩ := hZ.2.2.2.1 _ hstr
  refine vx_throwS (text := text) (names := ex_N) (sa := sa) (A := A) hx hb hl hown hcls (by decide +kernel) (hw _ hk) (hw _ hini) hsa (ct_hat hw hZ h1 h2) hgood hZ.1.1 hZ.1.2 hS hsize d0 d3 d4 d6 d9 (fun x h => (hex x h).elim) hRf hRl hRc hRs hlocks (fun t ht hz hq => ?_) hS.2.2 hc hs
  refine ⟨(), trivial, ⟨hpx, hP.kept (fun k q hk => hq q.1 (hP k q hk).lt), va_K.moved ht hK, hD⟩, Nat.le_trans hS.1 hz, fun q h1 h2 => ?_⟩
  rw [hq q (Nat.lt_of_lt_of_le h1 hS.1)]
  exact hS.2.1 q h1 h2
/-- what a callee has thrown goes on to the caller -/
theorem cx_out {Qc : Array Value → State → Outcome → State → Prop} {px : String → Prop} {E : String} {ce : Cell} {q : Addr} {mc ms : Nat} {ws : va_W} (hex : ∀ x ∈ c.exceptionTable.toList, False) (hlocks : meth.locks = false) (hcell : H[q]? = some ce) (hv : ce.vm = .none) (hcl : s.vm.findClass E = some ce.cls)
    (hK : va_K D cl (ct_ty cJ cB) s) (hP : va_P D cl ws H) (hD : va_D A ws) (hS : va_S A s.heap H locs) (hpx : px E) (hc : cells ≤ mc) (hs : slots ≤ ms) :
    vx_W p l e R s m args below meth c H locs cells slots (vx_MQ below Qc (cx_X D cl cJ cB A ws px) args s mc ms A) (F0 m pc ls rest) q :=
  vx_out (fun x h => (hex x h).elim) hlocks hcell hv hcl (fun t ht hvm => ⟨(), trivial, ⟨hpx, by rw [ht]; exact hP, va_K.moved hvm hK, hD⟩, hS.F ht⟩) hS.2.2 hc hs
variable {mc ms : Nat} {st0 : List Value} {ws wc wr : va_W} {S : Type} {F : S → va_W} {px : String → Prop}
theorem cx_behind_i {post : Int32 → S → Prop} {av : List Value} (hr : vx_Run p l e R s m args below meth c H locs cells slots mc ms (F0 m pc ls st0) rest (va_Qi post (fun u => ct_at D cl cJ cB (va_A wc H.size) (F u)) (va_A wc H.size) av.toArray) (cx_X D cl cJ cB (va_A wc H.size) wc px) (va_A wc H.size)) (hK : va_K D cl (ct_ty cJ cB) s) (hP : va_P D cl ws H) (hD : va_D A ws) (hS : va_S A s.heap H locs) (hA : ∀ q, s.heap.size ≤ q → A q)
    (isC isR : List Nat) (hC : isC.map (fun i => ws[i]?) = wc.map some) (hR : isR.map (fun i => ws[i]?) = wr.map some) (hn : va_nd isR = true) (hdis : ∀ i ∈ isR, i ∉ isC)
    (kx : ∀ (E : String) (ce : Cell) (q : Addr) (H1 : Heap) (locs1 : List Loc), px E → va_P D cl (wr ++ wc) H1 → va_D A (wr ++ wc) → va_S A s.heap H1 locs1 → H1[q]? = some ce → ce.vm = .none → s.vm.findClass E = some ce.cls → vx_W p l e R s m args below meth c H1 locs1 (cells + mc) (slots + ms) Q (F0 m pc ls rest) q)
    (kk : ∀ (r : Int32) (u : S) (H1 : Heap) (locs1 : List Loc), post r u → va_P D cl (wr ++ F u) H1 → va_D A (wr ++ F u) → va_S A s.heap H1 locs1 → W p l e R s m args below meth c H1 locs1 (cells + mc) (slots + ms) Q (F0 m (pc + 3) ls (.int r :: rest))) : W p l e R s m args below meth c H locs cells slots Q (F0 m pc ls st0) := by
  have hFc := va_free (wc := wc) hD hS hA isC hC
  refine vx_calli hr hS (fun q _ h => hFc q h) hFc (fun q _ h => hFc q h) (fun E ce q9 u t H1 locs1 ht hvm hp hB hz1 hk1 hS1 hce hcv hcl => ?_) (fun r u t H1 locs1 ht hvm hw hB hz1 hk1 hS1 => ?_)
  · obtain ⟨hpx, hP1, -, hD1⟩ := hB
    rw [ht] at hP1
    obtain ⟨hP2, hD2⟩ := va_join hP hD isC isR hC hR hn hdis hk1 hFc hP1 hD1
    exact kx E ce q9 H1 locs1 hpx hP2 hD2 hS1 hce hcv hcl
  · obtain ⟨hP1, -, hD1⟩ := hB
    rw [ht] at hP1
    obtain ⟨hP2, hD2⟩ := va_join hP hD isC isR hC hR hn hdis hk1 hFc hP1 hD1
    exact kk r u H1 locs1 hw hP2 hD2 hS1
theorem cx_behind_l {post : Int64 → S → Prop} {av : List Value} (hr : vx_Run p l e R s m args below meth c H locs cells slots mc ms (F0 m pc ls st0) rest (va_Ql post (fun u => ct_at D cl cJ cB (va_A wc H.size) (F u)) (va_A wc H.size) av.toArray) (cx_X D cl cJ cB (va_A wc H.size) wc px) (va_A wc H.size)) (hK : va_K D cl (ct_ty cJ cB) s) (hP : va_P D cl ws H) (hD : va_D A ws) (hS : va_S A s.heap H locs) (hA : ∀ q, s.heap.size ≤ q → A q)
    (isC isR : List Nat) (hC : isC.map (fun i => ws[i]?) = wc.map some) (hR : isR.map (fun i => ws[i]?) = wr.map some) (hn : va_nd isR = true) (hdis : ∀ i ∈ isR, i ∉ isC)
    (kx : ∀ (E : String) (ce : Cell) (q : Addr) (H1 : Heap) (locs1 : List Loc), px E → va_P D cl (wr ++ wc) H1 → va_D A (wr ++ wc) → va_S A s.heap H1 locs1 → H1[q]? = some ce → ce.vm = .none → s.vm.findClass E = some ce.cls → vx_W p l e R s m args below meth c H1 locs1 (cells + mc) (slots + ms) Q (F0 m pc ls rest) q)
    (kk : ∀ (r : Int64) (u : S) (H1 : Heap) (locs1 : List Loc), post r u → va_P D cl (wr ++ F u) H1 → va_D A (wr ++ F u) → va_S A s.heap H1 locs1 → W p l e R s m args below meth c H1 locs1 (cells + mc) (slots + ms) Q (F0 m (pc + 3) ls (.long r :: rest))) : W p l e R s m args below meth c H locs cells slots Q (F0 m pc ls st0) := by
  have hFc := va_free (wc := wc) hD hS hA isC hC
  refine vx_calll hr hS (fun q _ h => hFc q h) hFc (fun q _ h => hFc q h) (fun E ce q9 u t H1 locs1 ht hvm hp hB hz1 hk1 hS1 hce hcv hcl => ?_) (fun r u t H1 locs1 ht hvm hw hB hz1 hk1 hS1 => ?_)
  · obtain ⟨hpx, hP1, -, hD1⟩ := hB
    rw [ht] at hP1
    obtain ⟨hP2, hD2⟩ := va_join hP hD isC isR hC hR hn hdis hk1 hFc hP1 hD1
    exact kx E ce q9 H1 locs1 hpx hP2 hD2 hS1 hce hcv hcl
  · obtain ⟨hP1, -, hD1⟩ := hB
    rw [ht] at hP1
    obtain ⟨hP2, hD2⟩ := va_join hP hD isC isR hC hR hn hdis hk1 hFc hP1 hD1
    exact kk r u H1 locs1 hw hP2 hD2 hS1
theorem cx_behind_v {post : S → Prop} {av : List Value} (hr : vx_Run p l e R s m args below meth c H locs cells slots mc ms (F0 m pc ls st0) rest (va_Qv post (fun u => ct_at D cl cJ cB (va_A wc H.size) (F u)) (va_A wc H.size) av.toArray) (cx_X D cl cJ cB (va_A wc H.size) wc px) (va_A wc H.size)) (hK : va_K D cl (ct_ty cJ cB) s) (hP : va_P D cl ws H) (hD : va_D A ws) (hS : va_S A s.heap H locs) (hA : ∀ q, s.heap.size ≤ q → A q)
    (isC isR : List Nat) (hC : isC.map (fun i => ws[i]?) = wc.map some) (hR : isR.map (fun i => ws[i]?) = wr.map some) (hn : va_nd isR = true) (hdis : ∀ i ∈ isR, i ∉ isC)
    (kx : ∀ (E : String) (ce : Cell) (q : Addr) (H1 : Heap) (locs1 : List Loc), px E → va_P D cl (wr ++ wc) H1 → va_D A (wr ++ wc) → va_S A s.heap H1 locs1 → H1[q]? = some ce → ce.vm = .none → s.vm.findClass E = some ce.cls → vx_W p l e R s m args below meth c H1 locs1 (cells + mc) (slots + ms) Q (F0 m pc ls rest) q)
    (kk : ∀ (u : S) (H1 : Heap) (locs1 : List Loc), post u → va_P D cl (wr ++ F u) H1 → va_D A (wr ++ F u) → va_S A s.heap H1 locs1 → W p l e R s m args below meth c H1 locs1 (cells + mc) (slots + ms) Q (F0 m (pc + 3) ls rest)) : W p l e R s m args below meth c H locs cells slots Q (F0 m pc ls st0) := by
  have hFc := va_free (wc := wc) hD hS hA isC hC
  refine vx_callv hr hS (fun q _ h => hFc q h) hFc (fun q _ h => hFc q h) (fun E ce q9 u t H1 locs1 ht hvm hp hB hz1 hk1 hS1 hce hcv hcl => ?_) (fun u t H1 locs1 ht hvm hw hB hz1 hk1 hS1 => ?_)
  · obtain ⟨hpx, hP1, -, hD1⟩ := hB
    rw [ht] at hP1
    obtain ⟨hP2, hD2⟩ := va_join hP hD isC isR hC hR hn hdis hk1 hFc hP1 hD1
    exact kx E ce q9 H1 locs1 hpx hP2 hD2 hS1 hce hcv hcl
  · obtain ⟨hP1, -, hD1⟩ := hB
    rw [ht] at hP1
    obtain ⟨hP2, hD2⟩ := va_join hP hD isC isR hC hR hn hdis hk1 hFc hP1 hD1
    exact kk u H1 locs1 hw hP2 hD2 hS1
end CX
