section
-- ===== PART A: goes FIRST, ahead of the names: the tables' words, and 'selects' of the private methods out of them =====
/-- a private method of a class that the tables say can be made, by its rows of tables_1 -/
def lw_okq (q : MethodName × Nat) : Prop := (q.1.cls ≠ "java/lang/invoke/MethodHandle" ∧ q.1.cls ≠ "java/lang/invoke/VarHandle") ∧ Cond.instantiable q.1.cls q.2 ∈ tables_1 ∧ Cond.privateMethod q.1 ∈ tables_1 ∧ Cond.instanceMethod q.1 ∈ tables_1
theorem lw_p0 : lw_okq (⟨"java/lang/Throwable", "fillInStackTrace", "(I)Ljava/lang/Throwable;"⟩, 6) := ⟨⟨by decide +kernel, by decide +kernel⟩, List.mem_of_getElem? (i := 124) (by decide +kernel), List.mem_of_getElem? (i := 122) (by decide +kernel), List.mem_of_getElem? (i := 123) (by decide +kernel)⟩
theorem lw_p1 : lw_okq (⟨"ChunkPacker$Writer", "writeFirst", "(JJ)Z"⟩, 5) := ⟨⟨by decide +kernel, by decide +kernel⟩, List.mem_of_getElem? (i := 207) (by decide +kernel), List.mem_of_getElem? (i := 271) (by decide +kernel), List.mem_of_getElem? (i := 272) (by decide +kernel)⟩
theorem lw_p2 : lw_okq (⟨"ChunkPacker$Writer", "writeNext", "(JJ)Z"⟩, 5) := ⟨⟨by decide +kernel, by decide +kernel⟩, List.mem_of_getElem? (i := 207) (by decide +kernel), List.mem_of_getElem? (i := 280) (by decide +kernel), List.mem_of_getElem? (i := 281) (by decide +kernel)⟩
theorem lw_p3 : lw_okq (⟨"ChunkPacker$Writer", "writeTurn", "(J)Z"⟩, 5) := ⟨⟨by decide +kernel, by decide +kernel⟩, List.mem_of_getElem? (i := 207) (by decide +kernel), List.mem_of_getElem? (i := 284) (by decide +kernel), List.mem_of_getElem? (i := 285) (by decide +kernel)⟩
theorem lw_p4 : lw_okq (⟨"ChunkPacker$Writer", "writeKind", "(I)Z"⟩, 5) := ⟨⟨by decide +kernel, by decide +kernel⟩, List.mem_of_getElem? (i := 207) (by decide +kernel), List.mem_of_getElem? (i := 293) (by decide +kernel), List.mem_of_getElem? (i := 294) (by decide +kernel)⟩
theorem lw_p5 : lw_okq (⟨"ChunkPacker$Writer", "writeDifference", "(J)Z"⟩, 5) := ⟨⟨by decide +kernel, by decide +kernel⟩, List.mem_of_getElem? (i := 207) (by decide +kernel), List.mem_of_getElem? (i := 297) (by decide +kernel), List.mem_of_getElem? (i := 298) (by decide +kernel)⟩
theorem lw_p6 : lw_okq (⟨"ChunkPacker$Writer", "writeFrame", "(II)Z"⟩, 5) := ⟨⟨by decide +kernel, by decide +kernel⟩, List.mem_of_getElem? (i := 207) (by decide +kernel), List.mem_of_getElem? (i := 330) (by decide +kernel), List.mem_of_getElem? (i := 331) (by decide +kernel)⟩
theorem lw_p7 : lw_okq (⟨"ChunkPacker$Reader", "readFirst", "()Z"⟩, 7) := ⟨⟨by decide +kernel, by decide +kernel⟩, List.mem_of_getElem? (i := 357) (by decide +kernel), List.mem_of_getElem? (i := 391) (by decide +kernel), List.mem_of_getElem? (i := 392) (by decide +kernel)⟩
theorem lw_p8 : lw_okq (⟨"ChunkPacker$Reader", "take", "(I)Z"⟩, 7) := ⟨⟨by decide +kernel, by decide +kernel⟩, List.mem_of_getElem? (i := 357) (by decide +kernel), List.mem_of_getElem? (i := 395) (by decide +kernel), List.mem_of_getElem? (i := 396) (by decide +kernel)⟩
theorem lw_p9 : lw_okq (⟨"ChunkPacker$Reader", "readNext", "()Z"⟩, 7) := ⟨⟨by decide +kernel, by decide +kernel⟩, List.mem_of_getElem? (i := 357) (by decide +kernel), List.mem_of_getElem? (i := 407) (by decide +kernel), List.mem_of_getElem? (i := 408) (by decide +kernel)⟩
theorem lw_p10 : lw_okq (⟨"ChunkPacker$Reader", "readTurn", "()Z"⟩, 7) := ⟨⟨by decide +kernel, by decide +kernel⟩, List.mem_of_getElem? (i := 357) (by decide +kernel), List.mem_of_getElem? (i := 411) (by decide +kernel), List.mem_of_getElem? (i := 412) (by decide +kernel)⟩
theorem lw_p11 : lw_okq (⟨"ChunkPacker$Reader", "readKind", "()I"⟩, 7) := ⟨⟨by decide +kernel, by decide +kernel⟩, List.mem_of_getElem? (i := 357) (by decide +kernel), List.mem_of_getElem? (i := 415) (by decide +kernel), List.mem_of_getElem? (i := 416) (by decide +kernel)⟩
theorem lw_p12 : lw_okq (⟨"ChunkPacker$Reader", "readDifference", "()Z"⟩, 7) := ⟨⟨by decide +kernel, by decide +kernel⟩, List.mem_of_getElem? (i := 357) (by decide +kernel), List.mem_of_getElem? (i := 424) (by decide +kernel), List.mem_of_getElem? (i := 425) (by decide +kernel)⟩
theorem lw_p13 : lw_okq (⟨"ChunkPacker$Reader", "readFrame", "()Z"⟩, 7) := ⟨⟨by decide +kernel, by decide +kernel⟩, List.mem_of_getElem? (i := 357) (by decide +kernel), List.mem_of_getElem? (i := 429) (by decide +kernel), List.mem_of_getElem? (i := 430) (by decide +kernel)⟩
theorem lw_p14 : lw_okq (⟨"ChunkPackerModel", "write", "(JI)V"⟩, 13) := ⟨⟨by decide +kernel, by decide +kernel⟩, List.mem_of_getElem? (i := 510) (by decide +kernel), List.mem_of_getElem? (i := 574) (by decide +kernel), List.mem_of_getElem? (i := 575) (by decide +kernel)⟩
theorem lw_p15 : lw_okq (⟨"ChunkPackerModel", "writeTurn", "(J)V"⟩, 13) := ⟨⟨by decide +kernel, by decide +kernel⟩, List.mem_of_getElem? (i := 510) (by decide +kernel), List.mem_of_getElem? (i := 578) (by decide +kernel), List.mem_of_getElem? (i := 579) (by decide +kernel)⟩
def lw_privs_1 : List (MethodName × Nat) := [(⟨"java/lang/Throwable", "fillInStackTrace", "(I)Ljava/lang/Throwable;"⟩, 6), (⟨"ChunkPacker$Writer", "writeFirst", "(JJ)Z"⟩, 5), (⟨"ChunkPacker$Writer", "writeNext", "(JJ)Z"⟩, 5), (⟨"ChunkPacker$Writer", "writeTurn", "(J)Z"⟩, 5), (⟨"ChunkPacker$Writer", "writeKind", "(I)Z"⟩, 5), (⟨"ChunkPacker$Writer", "writeDifference", "(J)Z"⟩, 5), (⟨"ChunkPacker$Writer", "writeFrame", "(II)Z"⟩, 5), (⟨"ChunkPacker$Reader", "readFirst", "()Z"⟩, 7), (⟨"ChunkPacker$Reader", "take", "(I)Z"⟩, 7), (⟨"ChunkPacker$Reader", "readNext", "()Z"⟩, 7), (⟨"ChunkPacker$Reader", "readTurn", "()Z"⟩, 7), (⟨"ChunkPacker$Reader", "readKind", "()I"⟩, 7), (⟨"ChunkPacker$Reader", "readDifference", "()Z"⟩, 7), (⟨"ChunkPacker$Reader", "readFrame", "()Z"⟩, 7), (⟨"ChunkPackerModel", "write", "(JI)V"⟩, 13), (⟨"ChunkPackerModel", "writeTurn", "(J)V"⟩, 13)]
theorem lw_r1 : ∀ q ∈ lw_privs_1, lw_okq q := List.forall_mem_cons.mpr ⟨lw_p0, List.forall_mem_cons.mpr ⟨lw_p1, List.forall_mem_cons.mpr ⟨lw_p2, List.forall_mem_cons.mpr ⟨lw_p3, List.forall_mem_cons.mpr ⟨lw_p4, List.forall_mem_cons.mpr ⟨lw_p5, List.forall_mem_cons.mpr ⟨lw_p6, List.forall_mem_cons.mpr ⟨lw_p7, List.forall_mem_cons.mpr ⟨lw_p8, List.forall_mem_cons.mpr ⟨lw_p9, List.forall_mem_cons.mpr ⟨lw_p10, List.forall_mem_cons.mpr ⟨lw_p11, List.forall_mem_cons.mpr ⟨lw_p12, List.forall_mem_cons.mpr ⟨lw_p13, List.forall_mem_cons.mpr ⟨lw_p14, List.forall_mem_cons.mpr ⟨lw_p15, fun _ h => absurd h List.not_mem_nil⟩⟩⟩⟩⟩⟩⟩⟩⟩⟩⟩⟩⟩⟩⟩⟩
theorem lw_p16 : lw_okq (⟨"ChunkPackerModel", "writeValue", "(J)V"⟩, 13) := ⟨⟨by decide +kernel, by decide +kernel⟩, List.mem_of_getElem? (i := 510) (by decide +kernel), List.mem_of_getElem? (i := 592) (by decide +kernel), List.mem_of_getElem? (i := 593) (by decide +kernel)⟩
theorem lw_p17 : lw_okq (⟨"ChunkPackerModel", "read", "(I)J"⟩, 13) := ⟨⟨by decide +kernel, by decide +kernel⟩, List.mem_of_getElem? (i := 510) (by decide +kernel), List.mem_of_getElem? (i := 601) (by decide +kernel), List.mem_of_getElem? (i := 602) (by decide +kernel)⟩
theorem lw_p18 : lw_okq (⟨"ChunkPackerModel", "readTurn", "()J"⟩, 13) := ⟨⟨by decide +kernel, by decide +kernel⟩, List.mem_of_getElem? (i := 510) (by decide +kernel), List.mem_of_getElem? (i := 605) (by decide +kernel), List.mem_of_getElem? (i := 606) (by decide +kernel)⟩
theorem lw_p19 : lw_okq (⟨"ChunkPackerModel", "readSigned", "(I)J"⟩, 13) := ⟨⟨by decide +kernel, by decide +kernel⟩, List.mem_of_getElem? (i := 510) (by decide +kernel), List.mem_of_getElem? (i := 609) (by decide +kernel), List.mem_of_getElem? (i := 610) (by decide +kernel)⟩
theorem lw_p20 : lw_okq (⟨"ChunkPackerModel", "readValue", "()J"⟩, 13) := ⟨⟨by decide +kernel, by decide +kernel⟩, List.mem_of_getElem? (i := 510) (by decide +kernel), List.mem_of_getElem? (i := 613) (by decide +kernel), List.mem_of_getElem? (i := 614) (by decide +kernel)⟩
def lw_privs_2 : List (MethodName × Nat) := [(⟨"ChunkPackerModel", "writeValue", "(J)V"⟩, 13), (⟨"ChunkPackerModel", "read", "(I)J"⟩, 13), (⟨"ChunkPackerModel", "readTurn", "()J"⟩, 13), (⟨"ChunkPackerModel", "readSigned", "(I)J"⟩, 13), (⟨"ChunkPackerModel", "readValue", "()J"⟩, 13)]
theorem lw_r2 : ∀ q ∈ lw_privs_2, lw_okq q := List.forall_mem_cons.mpr ⟨lw_p16, List.forall_mem_cons.mpr ⟨lw_p17, List.forall_mem_cons.mpr ⟨lw_p18, List.forall_mem_cons.mpr ⟨lw_p19, List.forall_mem_cons.mpr ⟨lw_p20, fun _ h => absurd h List.not_mem_nil⟩⟩⟩⟩⟩
def lw_privs : List (MethodName × Nat) := lw_privs_1 ++ (lw_privs_2)
def lw_tbl : List Cond := k2_sels lw_privs ++ tables_1
theorem lw_privs_ok : ∀ q ∈ lw_privs, lw_okq q := by
  show ∀ q ∈ lw_privs_1 ++ (lw_privs_2), lw_okq q
  exact List.forall_mem_append.mpr ⟨lw_r1, lw_r2⟩
end
section
/-! ===== BEGIN words of one list among another's, by their places ===== -/
theorem goodIn_r {big : List Cond} (ws : List Cond) (ps : List Nat) (hp : ws = ps.filterMap (fun i => big[i]?)) (h : ws.all goodWord = true) : GoodIn big ws := by
  intro w hw
  have h1 := List.all_eq_true.mp h w hw
  rw [hp] at hw
  obtain ⟨i, -, hi⟩ := List.mem_filterMap.mp hw
  have hm : w ∈ big := by first | exact List.mem_of_getElem? hi | exact List.getElem?_mem hi
  exact ⟨hm, good_of_word h1⟩
theorem goodIn_app {big a b : List Cond} (ha : GoodIn big a) (hb : GoodIn big b) : GoodIn big (a ++ b) := fun w h => (List.mem_append.mp h).elim (ha w) (hb w)
theorem goodIn_ca {big a b : List Cond} {c : Cond} (ha : GoodIn big (c :: a)) (hb : GoodIn big b) : GoodIn big (c :: (a ++ b)) := fun w h => (List.mem_cons.mp h).elim (fun e => ha w (List.mem_cons.mpr (Or.inl e))) (fun h => (List.mem_append.mp h).elim (fun h => ha w (List.mem_cons.mpr (Or.inr h))) (hb w))
theorem goodIn_sub {big ws : List Cond} (hm : ∀ w ∈ ws, w ∈ big) (h : ws.all goodWord = true) : GoodIn big ws := fun w hw => ⟨hm w hw, good_of_word (List.all_eq_true.mp h w hw)⟩
/-! ===== END ===== -/

/-! ===== BEGIN exceptions that leave a method, and their catching by the caller (launches without stack traces) ===== -/
section VXA
/-! The laws vx_back, vx_callV, vx_callS, vx_callSW, vx_throw0, vx_throwS follow proofs of the library, with one case more: JvmDerived/Free/Laws.lean (Back.of_free), Shelf42/LK1.lean (callV, callS), Shelf/KitTraced.lean (throwNew0V, throwNewS). -/
/-- where a method has thrown q: the class by its name, the cell, what was written, the world -/
def vx_T (XC : String → State → State → Prop) (st : State) (q : Addr) (t : State) (mc ms : Nat) (free : Addr → Prop) : Prop :=
  ∃ (E : String) (ce : Cell) (L : List Loc), XC E st t ∧ t.heap[q]? = some ce ∧ ce.vm = .none ∧ st.vm.findClass E = some ce.cls ∧ st.WarmedH t.vm ∧ st.sameButNew ({ t with vm := st.vm } : State) L mc ms ∧ ∀ z ∈ L, free z.base
def vx_Q (Qc : Array Value → State → Outcome → State → Prop) (XC : String → State → State → Prop) (mc ms : Nat) (free : Addr → Prop) : Array Value → State → Outcome → State → Prop := fun a st o t =>
  (Qc a st o t ∧ ∃ L, FrameEnd st o t L mc ms ∧ ∀ q ∈ L, free q.base) ∨ ∃ q, o = .threw q ∧ vx_T XC st q t mc ms free
/-- a callee that returns or throws -/
def vx_Met (l : Launch) (y : MethodName) (ws : List Cond) (rm : Room) (Pc : Array Value → State → Prop) (Qc : Array Value → State → Outcome → State → Prop) (XC : String → State → State → Prop) (mc ms : Nat) (free : Addr → Prop) : Prop :=
  MetFree l y (headSpec ws rm) Pc (fun _ _ _ _ _ => True) (vx_Q Qc XC mc ms free)
def vx_Post (XC : String → State → State → Prop) (mc ms : Nat) (free : Addr → Prop) : Pt → Array Value → Addr → Pt → Prop := fun A a q B =>
  ∃ (g : JFrame) (mk : MethodId) (t : State) (L : List Loc) (E : String) (ce : Cell), B.U.heap = t.heap ∧ B.U.vm = t.vm ∧ XC E (A.U.calling g mk a) t ∧ t.heap[q]? = some ce ∧ ce.vm = .none ∧ A.U.vm.findClass E = some ce.cls ∧ B.locs = A.locs ++ L ∧ (∀ z ∈ L, free z.base) ∧ B.cells = A.cells + mc ∧ B.slots = A.slots + ms
def vx_Back (l : Launch) (R : Room) (p : Program) (e : Env) (below : List Frame) (s : State) (sargs : Array Value) (y : MethodName) (len W9 : Nat)
    (Pre : Pt → Array Value → Prop) (Post : Pt → Array Value → Option Value → Pt → Prop) (PostX : Pt → Array Value → Addr → Pt → Prop) : Prop :=
  ∀ (m : MethodId) (meth : Method) (c : Code) (A : Pt) (g : JFrame) (ig : Instr) (mk : MethodId) (a : Array Value),
    Stand p l e R s m sargs below meth c A.U A.locs A.cells A.slots → g.method = m → g.locals.size = c.maxLocals → decode c.code g.pc = .ok (ig, len) →
    2 * g.monitorRoom + (g.stack.map fun v => v.category).sum ≤ W9 → A.U.methodNamed? y = some mk → Pre A a →
    (∃ (v : Option Value) (B : Pt), Stand p l e R s m sargs below meth c B.U B.locs B.cells B.slots ∧ Post A a v B ∧
      Steps p.tables e below (doInvoke e (A.U.setTop g) [] mk a).1 (B.U.setTop { g with pc := g.pc + len, stack := v.toList ++ g.stack })) ∨
    (∃ (q : Addr) (B : Pt), Stand p l e R s m sargs below meth c B.U B.locs B.cells B.slots ∧ PostX A a q B ∧
      Steps p.tables e below (doInvoke e (A.U.setTop g) [] mk a).1 ((B.U.setTop g).pushFrame (.throwing q)))
section Payer
variable {l : Launch} {R : Room} {p : Program} {e : Env} {below : List Frame} {s : State} {sargs : Array Value} {y : MethodName} {len W9 : Nat}
theorem vx_back {ws : List Cond} {rm : Room} {Pc : Array Value → State → Prop} {Qc : Array Value → State → Outcome → State → Prop} {XC : String → State → State → Prop} {mc ms : Nat} {free : Addr → Prop} {bytes : ByteArray} {maxL : Nat} {ret : Option FieldType}
    (hM : vx_Met l y ws rm Pc Qc XC mc ms free) (hblind : FrameBlind Pc) (hrc : rm.cells = mc) (hrs : rm.slots = ms)
    (hframes : rm.frames + 1 ≤ R.frames) (hlocals : W9 + (maxL + 11) + rm.locals ≤ R.locals)
    (hws : ∀ w ∈ ws, ∀ a' U, s.WarmedH U.vm → w.before a' U = true) (hcode : Cond.code y bytes maxL ret ∈ ws) (hinit : ∀ a' U, s.WarmedH U.vm → (Cond.initialized y.cls).before a' U = true) :
    vx_Back l R p e below s sargs y len W9 (PreOf R mc ms Pc) (PostOf Qc mc ms free) (vx_Post XC mc ms free) := by
  intro m meth c A g ig mk a X hg hsize hdg hW hn hp
  have h1 : (headSpec ws rm).pre.before a A.U = true := atoms_intro fun w hw => hws w hw _ _ X.warmed
  have h2 : (Cond.code y bytes maxL ret).before a A.U = true := hws _ hcode _ _ X.warmed
  have h3 : (Cond.initialized y.cls).before a A.U = true := hinit _ _ X.warmed
  have h4 : A.cells + (headSpec ws rm).room.cells ≤ R.cells := by rw [show (headSpec ws rm).room.cells = mc from hrc]; exact hp.1
  have h5 : A.slots + (headSpec ws rm).room.slots ≤ R.slots := by rw [show (headSpec ws rm).room.slots = ms from hrs]; exact hp.2.1
  have hPc : Pc a (A.U.calling g mk a) := hblind _ _ _ _ hp.2.2
  obtain ⟨U, Ls, c0, s0⟩ := A
  dsimp only [Pt.U, Pt.locs, Pt.cells, Pt.slots] at h1 h2 h3 h4 h5 X hn hPc ⊢
  obtain ⟨methY, cY, hmY, hcY, -, hlY, -, -, -, -⟩ := Cond.code_spec hn h2
  obtain ⟨kY, hkY, -⟩ := className_of_methodNamed hn
  have hinitY : kY.init = .initialized := Cond.initialized_spec (findClass_of_methodNamed hn) hkY h3
  have h : At U g.method c below := by rw [hg]; exact X.here
  have hlocals9 : W9 + (maxL + 11) + (headSpec ws rm).room.locals ≤ R.locals := hlocals
  have happ : (headSpec ws rm).appliesLoose y e.platform (U.calling g mk a) = true :=
    Spec.appliesLoose_calling (g := g) h hdg hn hkY hinitY
      (X.room_calling (g := g) (R' := (headSpec ws rm).room) hsize hmY hcY hframes (by rw [hlY]; omega) h4 h5) h1
  obtain ⟨mid, hmid⟩ := h.above
  have hfr : (U.setTop g).frames = (.java g :: mid) ++ below := by rw [State.frames_setTop' g h.top, hmid]; rfl
  obtain ⟨o, s₂, hsteps, -, hend, hq⟩ := Steps.callFree hM p X.admits X.cas X.clock (acts := []) hfr happ hPc trivial
  have hq' : vx_Q Qc XC mc ms free a (U.calling g mk a) o s₂ := hq
  rw [State.frames_setTop' g h.top] at hend
  obtain ⟨g₀, hg0⟩ := Option.isSome_iff_exists.mp h.top
  obtain ⟨r, hr⟩ := State.topJava?_eq_some.mp hg0
  have hr' : (({ U with heap := s₂.heap, slotsUsed := s₂.slotsUsed } : State).setVm s₂.vm).frames = .java g₀ :: r := hr
  rcases hq' with ⟨hqc, L, hfe, hL⟩ | ⟨q, rfl, E, ce, L, hx, hce, hcv, hcl, hW₂, hsm, hL⟩
  · obtain ⟨⟨v, rfl⟩, hW₂, e2, q2, q3, q4, q5, q6⟩ := id hfe
    have e3 : s₂ = ({ (U.calling g mk a).setFrames s₂.frames with heap := s₂.heap, slotsUsed := s₂.slotsUsed } : State).setVm s₂.vm := by
      have : s₂ = ({ s₂ with vm := (U.calling g mk a).vm } : State).setVm s₂.vm := rfl
      rw [e2] at this
      exact this
    obtain ⟨c₂, i₂, len₂, hc₂, hd₂, hf₂⟩ := hend
    have hW' : U.WarmedH s₂.vm := hW₂
    have hcc : c₂ = c := by
      have h1 : s₂.code? g.method = U.code? g.method := by
        rw [State.code?_eq, State.code?_eq, hW'.alike.method?]
      exact Option.some.inj (hc₂.symm.trans (h1.trans h.code))
    subst hcc
    have hlen : len₂ = len := by rw [hdg] at hd₂; cases hd₂; rfl
    subst hlen
    have hs₂ : s₂ = (({ U with heap := s₂.heap, slotsUsed := s₂.slotsUsed } : State).setVm s₂.vm).setTop { g with pc := g.pc + len₂, stack := v.toList ++ g.stack } := by
      refine e3.trans ?_
      rw [hf₂, State.calling_eq h.top, State.setFrames_setFrames, State.setTop_of_frames _ hr', hr]
      rfl
    have hsame : U.sameButNew ({ U with heap := s₂.heap, slotsUsed := s₂.slotsUsed } : State) L mc ms := by
      refine ⟨?_, q2, q3, q4, q5, q6⟩
      obtain ⟨t, ht, -⟩ := State.frames_cons hr
      show ({ U with heap := s₂.heap, slotsUsed := s₂.slotsUsed } : State) = { U.setFrames U.frames with heap := s₂.heap, slotsUsed := s₂.slotsUsed }
      rw [State.setFrames_self ht]
    subst hg
    refine Or.inl ⟨v, ⟨(({ U with heap := s₂.heap, slotsUsed := s₂.slotsUsed } : State).setVm s₂.vm), Ls ++ L, c0 + mc, s0 + ms⟩,
      ⟨X.admits, X.cas, X.clock, X.frames, X.room, X.hears, X.method, X.code, (X.here.setHeapUsed s₂.heap s₂.slotsUsed).setVm hW'.alike, X.tail, State.WarmedH.trans X.warmed hW', X.limits, X.bytes, X.same.trans (hsame.setVm s.vm)⟩,
      ⟨g, mk, s₂, L, rfl, rfl, hqc, rfl, hL, rfl, rfl⟩, ?_⟩
    show Steps p.tables e below _ ((({ U with heap := s₂.heap, slotsUsed := s₂.slotsUsed } : State).setVm s₂.vm).setTop { g with pc := g.pc + len₂, stack := v.toList ++ g.stack })
    rw [← hs₂]
    exact hsteps
  · obtain ⟨e2, q2, q3, q4, q5, q6⟩ := id hsm
    have e3 : s₂ = ({ (U.calling g mk a).setFrames s₂.frames with heap := s₂.heap, slotsUsed := s₂.slotsUsed } : State).setVm s₂.vm := by
      have : s₂ = ({ s₂ with vm := (U.calling g mk a).vm } : State).setVm s₂.vm := rfl
      rw [e2] at this
      exact this
    have hf₂ : s₂.frames = .throwing q :: .java g :: U.frames.tail := hend
    have hW' : U.WarmedH s₂.vm := hW₂
    have hs₂ : s₂ = ((({ U with heap := s₂.heap, slotsUsed := s₂.slotsUsed } : State).setVm s₂.vm).setTop g).pushFrame (.throwing q) := by
      refine e3.trans ?_
      rw [hf₂, State.calling_eq h.top, State.setFrames_setFrames, State.pushFrame, State.frames_setTop _ hr', State.setTop_of_frames _ hr', State.setFrames_setFrames, hr]
      rfl
    have hsame : U.sameButNew ({ U with heap := s₂.heap, slotsUsed := s₂.slotsUsed } : State) L mc ms := by
      refine ⟨?_, q2, q3, q4, q5, q6⟩
      obtain ⟨t, ht, -⟩ := State.frames_cons hr
      show ({ U with heap := s₂.heap, slotsUsed := s₂.slotsUsed } : State) = { U.setFrames U.frames with heap := s₂.heap, slotsUsed := s₂.slotsUsed }
      rw [State.setFrames_self ht]
    subst hg
    refine Or.inr ⟨q, ⟨(({ U with heap := s₂.heap, slotsUsed := s₂.slotsUsed } : State).setVm s₂.vm), Ls ++ L, c0 + mc, s0 + ms⟩,
      ⟨X.admits, X.cas, X.clock, X.frames, X.room, X.hears, X.method, X.code, (X.here.setHeapUsed s₂.heap s₂.slotsUsed).setVm hW'.alike, X.tail, State.WarmedH.trans X.warmed hW', X.limits, X.bytes, X.same.trans (hsame.setVm s.vm)⟩,
      ⟨g, mk, s₂, L, E, ce, rfl, rfl, hx, hce, hcv, hcl, rfl, hL, rfl, rfl⟩, ?_⟩
    show Steps p.tables e below _ (((({ U with heap := s₂.heap, slotsUsed := s₂.slotsUsed } : State).setVm s₂.vm).setTop g).pushFrame (.throwing q))
    rw [← hs₂]
    exact hsteps
end Payer
section Calls
variable {p : Program} {l : Launch} {e : Env} {R : Room} {s : State} {m : MethodId} {args : Array Value} {below : List Frame} {meth : Method} {c : Code} {T : State} {locs : List Loc} {cells slots : Nat}
theorem vx_callV (X : Stand p l e R s m args below meth c T locs cells slots) (hexec : p.tables.exec = Jvm.exec) {own C : String} {index : Nat} {y : MethodName} {bytes : ByteArray} {maxL : Nat} {ret : Option FieldType}
    (hown : s.vm.findClass own = some m.cls) (hlink : (Cond.methodLink own index y).before args s = true) (hinst : (Cond.instanceMethod y).before args s = true) (hsel : (Cond.selects C y y).before args s = true)
    (hcode : (Cond.code y bytes maxL ret).before args s = true) (hy : y.cls ≠ "java/lang/invoke/MethodHandle" ∧ y.cls ≠ "java/lang/invoke/VarHandle")
    {W9 : Nat} {Pre : Pt → Array Value → Prop} {Post : Pt → Array Value → Option Value → Pt → Prop} {PostX : Pt → Array Value → Addr → Pt → Prop} (hK : vx_Back l R p e below s args y 3 W9 Pre Post PostX)
    {b : Addr} {cellB : Cell} (hcell : T.heap[b]? = some cellB) (hobj : cellB.vm.isStatics = false) (hcls : s.vm.findClass C = some cellB.cls)
    {g : JFrame} (hg : g.method = m) (hsize : g.locals.size = c.maxLocals) {argsL rest : List Value} (hlen : ∀ sig, parseMethodDescriptor y.desc = some sig → argsL.length = sig.parameters.length)
    (hstack : g.stack = argsL.reverse ++ .ref b :: rest) (hW : 2 * g.monitorRoom + (rest.map fun v => v.category).sum ≤ W9) (hdg : decode c.code g.pc = .ok (.invokevirtual index, 3))
    (hpre : ∀ vm₁, s.WarmedH vm₁ → Pre ⟨T.setVm vm₁, locs, cells, slots⟩ (Value.ref b :: argsL).toArray) :
    (∃ (v : Option Value) (vm₁ : Vm) (B : Pt), s.WarmedH vm₁ ∧ Stand p l e R s m args below meth c B.U B.locs B.cells B.slots ∧ Post ⟨T.setVm vm₁, locs, cells, slots⟩ (Value.ref b :: argsL).toArray v B ∧
      ∀ target, Steps p.tables e below (B.U.setTop { g with pc := g.pc + 3, stack := v.toList ++ rest }) target → Steps p.tables e below (T.setTop g) target) ∨
    (∃ (q : Addr) (vm₁ : Vm) (B : Pt), s.WarmedH vm₁ ∧ Stand p l e R s m args below meth c B.U B.locs B.cells B.slots ∧ PostX ⟨T.setVm vm₁, locs, cells, slots⟩ (Value.ref b :: argsL).toArray q B ∧
      Steps p.tables e below (T.setTop g) ((B.U.setTop { g with stack := rest }).pushFrame (.throwing q))) := by
  obtain ⟨mk, methM, hnamed, hmethM, hstM, habM⟩ := Cond.instanceMethod_spec hinst
  obtain ⟨methM', cM, hmethM', -, -, -, -, -, -, hsigM⟩ := Cond.code_spec hnamed hcode
  cases hmethM.symm.trans hmethM'
  obtain ⟨c2, r2, m2, q1, q2, q3, q4, kP, hkP, hkPi⟩ := Cond.selects_spec hsel
  cases hcls.symm.trans q1
  cases (State.methodFound?_of_named hnamed hy).symm.trans q2
  cases hnamed.symm.trans q3
  have hselP : selectMethod e.platform s.vm cellB.cls mk = .method mk := by rw [Launch.admits_selectMethod X.admits]; exact q4
  obtain ⟨vm₁, X₁, hstep₁⟩ := X.invokevirtual hexec hown hlink hnamed hmethM hstM hkP hkPi hy (a := b) (cell := cellB) hcell
    (fun z h => by rw [h] at hobj; cases hobj) hselP hmethM habM hkP hkPi (g := g) hg (argsL := argsL) (rest := rest) (hlen _ hsigM) hstack hdg
  rcases hK m meth c ⟨T.setVm vm₁, locs, cells, slots⟩ { g with stack := rest } (.invokevirtual index) mk (Value.ref b :: argsL).toArray X₁ hg hsize hdg hW (X₁.named hnamed) (hpre vm₁ X₁.warmed) with ⟨v, B, X', hpost, hsteps⟩ | ⟨q, B, X', hpost, hsteps⟩
  · exact Or.inl ⟨v, vm₁, B, X₁.warmed, X', hpost, fun target h => hstep₁ _ fun acts => by rw [doInvoke_state]; exact hsteps.trans h⟩
  · exact Or.inr ⟨q, vm₁, B, X₁.warmed, X', hpost, hstep₁ _ fun acts => by rw [doInvoke_state]; exact hsteps⟩
theorem vx_callS (X : Stand p l e R s m args below meth c T locs cells slots) (hexec : p.tables.exec = Jvm.exec) {own : String} {index : Nat} {y : MethodName} {bytes : ByteArray} {maxL : Nat} {ret : Option FieldType}
    (hown : s.vm.findClass own = some m.cls) (hlink : (Cond.methodLink own index y).before args s = true) (hstat : (Cond.static y).before args s = true) (hinit : (Cond.initialized y.cls).before args s = true)
    (hcode : (Cond.code y bytes maxL ret).before args s = true) (hy : y.cls ≠ "java/lang/invoke/MethodHandle" ∧ y.cls ≠ "java/lang/invoke/VarHandle")
    {W9 : Nat} {Pre : Pt → Array Value → Prop} {Post : Pt → Array Value → Option Value → Pt → Prop} {PostX : Pt → Array Value → Addr → Pt → Prop} (hK : vx_Back l R p e below s args y 3 W9 Pre Post PostX)
    {g : JFrame} (hg : g.method = m) (hsize : g.locals.size = c.maxLocals) {argsL rest : List Value} (hlen : ∀ sig, parseMethodDescriptor y.desc = some sig → argsL.length = sig.parameters.length)
    (hstack : g.stack = argsL.reverse ++ rest) (hW : 2 * g.monitorRoom + (rest.map fun v => v.category).sum ≤ W9) (hdg : decode c.code g.pc = .ok (.invokestatic index, 3))
    (hpre : ∀ vm₁, s.WarmedH vm₁ → Pre ⟨T.setVm vm₁, locs, cells, slots⟩ argsL.toArray) :
    (∃ (v : Option Value) (vm₁ : Vm) (B : Pt), s.WarmedH vm₁ ∧ Stand p l e R s m args below meth c B.U B.locs B.cells B.slots ∧ Post ⟨T.setVm vm₁, locs, cells, slots⟩ argsL.toArray v B ∧
      ∀ target, Steps p.tables e below (B.U.setTop { g with pc := g.pc + 3, stack := v.toList ++ rest }) target → Steps p.tables e below (T.setTop g) target) ∨
    (∃ (q : Addr) (vm₁ : Vm) (B : Pt), s.WarmedH vm₁ ∧ Stand p l e R s m args below meth c B.U B.locs B.cells B.slots ∧ PostX ⟨T.setVm vm₁, locs, cells, slots⟩ argsL.toArray q B ∧
      Steps p.tables e below (T.setTop g) ((B.U.setTop { g with stack := rest }).pushFrame (.throwing q))) := by
  obtain ⟨mk, hnamed⟩ := Cond.code_named hcode
  obtain ⟨methM, cM, hmethM, -, -, -, -, -, -, hsigM⟩ := Cond.code_spec hnamed hcode
  have hstatic : methM.isStatic = true := Cond.static_spec hnamed hmethM hstat
  obtain ⟨kP, hkP, -⟩ := className_of_methodNamed hnamed
  have hinitP : kP.init = .initialized := Cond.initialized_spec (findClass_of_methodNamed hnamed) hkP hinit
  obtain ⟨vm₁, X₁, hstep₁⟩ := X.invokestatic hexec hown hlink hnamed hmethM hstatic hkP hinitP hy (g := g) hg (argsL := argsL) (rest := rest) (hlen _ hsigM) hstack hdg
  rcases hK m meth c ⟨T.setVm vm₁, locs, cells, slots⟩ { g with stack := rest } (.invokestatic index) mk argsL.toArray X₁ hg hsize hdg hW (X₁.named hnamed) (hpre vm₁ X₁.warmed) with ⟨v, B, X', hpost, hsteps⟩ | ⟨q, B, X', hpost, hsteps⟩
  · exact Or.inl ⟨v, vm₁, B, X₁.warmed, X', hpost, fun target h => hstep₁ _ fun acts => by rw [doInvoke_state]; exact hsteps.trans h⟩
  · exact Or.inr ⟨q, vm₁, B, X₁.warmed, X', hpost, hstep₁ _ fun acts => by rw [doInvoke_state]; exact hsteps⟩
end Calls
theorem vx_cls {s : State} {T : State} {vm₁ : Vm} {E : String} {k : ClassId} (hW : s.WarmedH vm₁) (h : (T.setVm vm₁).vm.findClass E = some k) : s.vm.findClass E = some k := by
  have h1 : vm₁.findClass E = some k := h
  rw [hW.alike.findClass] at h1
  exact h1
/-- the method's frame g, with q thrown over it -/
def vx_W (p : Program) (l : Launch) (e : Env) (R : Room) (s : State) (m : MethodId) (args : Array Value) (below : List Frame) (meth : Method) (c : Code) (H : Heap) (locs : List Loc) (cells slots : Nat) (Q : State → Prop) (g : JFrame) (q : Addr) : Prop :=
  ∀ T : State, T.heap = H → Stand p l e R s m args below meth c T locs cells slots → ∃ t, Steps p.tables e below ((T.setTop g).pushFrame (.throwing q)) t ∧ Q t
def vx_Run (p : Program) (l : Launch) (e : Env) (R : Room) (s : State) (m : MethodId) (args : Array Value) (below : List Frame) (meth : Method) (c : Code) (H : Heap) (locs : List Loc) (cells slots mc ms : Nat) (g : JFrame) (rest : List Value) (Qa : State → Outcome → State → Prop) (XC : String → State → State → Prop) (free : Addr → Prop) : Prop :=
  ∀ T : State, T.heap = H → Stand p l e R s m args below meth c T locs cells slots →
    (∃ (v : Option Value) (st₀ t T' : State) (L : List Loc), st₀.heap = H ∧ Stand p l e R s m args below meth c T' (locs ++ L) (cells + mc) (slots + ms) ∧ (∀ q ∈ L, free q.base) ∧ T'.heap = t.heap ∧ T'.vm = t.vm ∧ Qa st₀ (.returned v) t ∧
      Goes p e below T g T' { g with pc := g.pc + 3, stack := v.toList ++ rest }) ∨
    (∃ (q : Addr) (st₀ t T' : State) (L : List Loc) (E : String) (ce : Cell), st₀.heap = H ∧ Stand p l e R s m args below meth c T' (locs ++ L) (cells + mc) (slots + ms) ∧ (∀ z ∈ L, free z.base) ∧ T'.heap = t.heap ∧ T'.vm = t.vm ∧ XC E st₀ t ∧ t.heap[q]? = some ce ∧ ce.vm = .none ∧ s.vm.findClass E = some ce.cls ∧
      Steps p.tables e below (T.setTop g) ((T'.setTop { g with stack := rest }).pushFrame (.throwing q)))
def vx_X {S : Type} (px : S → Prop) (B : String → S → State → Prop) (A : Nat → Prop) : String → State → State → Prop := fun E st t => ∃ u : S, px u ∧ B E u t ∧ va_F A st t
section Runs
variable {p : Program} {l : Launch} {e : Env} {R : Room} {s : State} {m : MethodId} {args : Array Value} {below : List Frame} {meth : Method} {c : Code} {H : Heap} {locs : List Loc} {cells slots : Nat}
variable {y : MethodName} {bytes cc : ByteArray} {maxL nL mc ms n index : Nat} {ret : Option FieldType} {ws : List Cond} {rm : Room} {Pc : Array Value → State → Prop} {Qc : Array Value → State → Outcome → State → Prop} {XC : String → State → State → Prop} {free : Addr → Prop} {Ts : List Cond} {own C : String} {b : Addr} {As rest : List Value} {g : JFrame}
theorem vx_callBack (cb : CallB R s args own index y bytes maxL ret ws rm mc ms n) (hM : vx_Met l y ws rm Pc Qc XC mc ms free) (hbl : FrameBlind Pc) : vx_Back l R p e below s args y 3 8 (PreOf R mc ms Pc) (PostOf Qc mc ms free) (vx_Post XC mc ms free) := by
  obtain ⟨hrc, hrs, hfr, hlo, hws, hcw, -, hini, -⟩ := cb
  exact vx_back (bytes := bytes) (maxL := maxL) (ret := ret) hM hbl hrc hrs hfr hlo hws hcw (fun a' U hW => word_at hW (Or.inl (by first | rfl | simp [Cond.onTables, Cond.keeps, Cond.steady])) hini)
theorem vx_runV (S : CallFix p m c cc nL s args Ts own) (hM : vx_Met l y ws rm Pc Qc XC mc ms free) (cw : CallW R s args own C index y bytes maxL ret ws rm mc ms n) (hp : PreV s H C b Pc As)
    (hg : g.method = m) (hn : As.length = n) (hsize : g.locals.size = nL) (hstack : g.stack = As.reverse ++ .ref b :: rest) (hW : 2 * g.monitorRoom + (rest.map fun v => v.category).sum ≤ 8) (hdg : decode cc g.pc = .ok (.invokevirtual index, 3)) (hf : cells + mc ≤ R.cells ∧ slots + ms ≤ R.slots) :
    vx_Run p l e R s m args below meth c H locs cells slots mc ms g rest (Qc (Value.ref b :: As).toArray) XC free := by
  have hK : vx_Back l R p e below s args y 3 8 (PreOf R mc ms Pc) (PostOf Qc mc ms free) (vx_Post XC mc ms free) := vx_callBack cw.1 hM hp.1
  obtain ⟨⟨-, -, -, -, -, -, hcode, -, hy, hlen, hl⟩, hin, hse⟩ := cw
  obtain ⟨hx, hb, hml, ho, -⟩ := S
  obtain ⟨-, ⟨cellB, hcB, hoB, hclB⟩, hPc⟩ := hp
  intro T hT X
  rcases vx_callV X hx (C := C) (bytes := bytes) (maxL := maxL) (ret := ret) ho hl hin hse hcode hy hK (by rw [hT]; exact hcB) hoB hclB hg (hsize.trans hml.symm) (argsL := As) (rest := rest) (fun sig h => hn.trans (hlen sig h)) hstack hW (by rw [hb]; exact hdg)
    (fun vm₁ hW₁ => ⟨hf.1, hf.2, hPc (T.setVm vm₁) hT hW₁⟩) with ⟨v, vm₁, ⟨U', l2, c2, s2⟩, hW₁, X', ⟨g', mk, t, L, e1, e2, hq, h1, hL, h2, h3⟩, st⟩ | ⟨q, vm₁, ⟨U', l2, c2, s2⟩, hW₁, X', ⟨g', mk, t, L, E, ce, e1, e2, hq, hce, hcv, hcl, h1, hL, h2, h3⟩, st⟩
  · dsimp only [Pt.U, Pt.locs, Pt.cells, Pt.slots] at X' e1 e2 h1 h2 h3 st
    subst h1; subst h2; subst h3
    exact Or.inl ⟨v, (T.setVm vm₁).calling g' mk (Value.ref b :: As).toArray, t, U', L, hT, X', hL, e1, e2, hq, st⟩
  · dsimp only [Pt.U, Pt.locs, Pt.cells, Pt.slots] at X' e1 e2 h1 h2 h3 st hcl
    subst h1; subst h2; subst h3
    exact Or.inr ⟨q, (T.setVm vm₁).calling g' mk (Value.ref b :: As).toArray, t, U', L, E, ce, hT, X', hL, e1, e2, hq, hce, hcv, vx_cls hW₁ hcl, st⟩
theorem vx_runS (S : CallFix p m c cc nL s args Ts own) (hM : vx_Met l y ws rm Pc Qc XC mc ms free) (cw : CallB R s args own index y bytes maxL ret ws rm mc ms n ∧ (Cond.static y).before args s = true) (hp : PreS s H Pc As)
    (hg : g.method = m) (hn : As.length = n) (hsize : g.locals.size = nL) (hstack : g.stack = As.reverse ++ rest) (hW : 2 * g.monitorRoom + (rest.map fun v => v.category).sum ≤ 8) (hdg : decode cc g.pc = .ok (.invokestatic index, 3)) (hf : cells + mc ≤ R.cells ∧ slots + ms ≤ R.slots) :
    vx_Run p l e R s m args below meth c H locs cells slots mc ms g rest (Qc As.toArray) XC free := by
  have hK : vx_Back l R p e below s args y 3 8 (PreOf R mc ms Pc) (PostOf Qc mc ms free) (vx_Post XC mc ms free) := vx_callBack cw.1 hM hp.1
  obtain ⟨⟨-, -, -, -, -, -, hcode, hini, hy, hlen, hl⟩, hstt⟩ := cw
  obtain ⟨hx, hb, hml, ho, -⟩ := S
  intro T hT X
  rcases vx_callS X hx (bytes := bytes) (maxL := maxL) (ret := ret) ho hl hstt hini hcode hy hK hg (hsize.trans hml.symm) (argsL := As) (rest := rest) (fun sig h => hn.trans (hlen sig h)) hstack hW (by rw [hb]; exact hdg)
    (fun vm₁ hW₁ => ⟨hf.1, hf.2, hp.2 (T.setVm vm₁) hT hW₁⟩) with ⟨v, vm₁, ⟨U', l2, c2, s2⟩, hW₁, X', ⟨g', mk, t, L, e1, e2, hq, h1, hL, h2, h3⟩, st⟩ | ⟨q, vm₁, ⟨U', l2, c2, s2⟩, hW₁, X', ⟨g', mk, t, L, E, ce, e1, e2, hq, hce, hcv, hcl, h1, hL, h2, h3⟩, st⟩
  · dsimp only [Pt.U, Pt.locs, Pt.cells, Pt.slots] at X' e1 e2 h1 h2 h3 st
    subst h1; subst h2; subst h3
    exact Or.inl ⟨v, (T.setVm vm₁).calling g' mk As.toArray, t, U', L, hT, X', hL, e1, e2, hq, st⟩
  · dsimp only [Pt.U, Pt.locs, Pt.cells, Pt.slots] at X' e1 e2 h1 h2 h3 st hcl
    subst h1; subst h2; subst h3
    exact Or.inr ⟨q, (T.setVm vm₁).calling g' mk As.toArray, t, U', L, E, ce, hT, X', hL, e1, e2, hq, hce, hcv, vx_cls hW₁ hcl, st⟩
end Runs
section Rows
variable {p : Program} {l : Launch} {e : Env} {R : Room} {s : State} {m : MethodId} {args : Array Value} {below : List Frame} {meth : Method} {c : Code} {H : Heap} {locs : List Loc} {cells slots : Nat} {Q : State → Prop}
variable {mc ms : Nat} {free : Addr → Prop} {A0 A1 : Nat → Prop} {H0 : Heap} {a : Array Value} {pc : Nat} {ls : Array Slot} {st0 rest : List Value}
theorem vx_keep {st₀ t T' : State} {L : List Loc} (h0 : st₀.heap = H) (e1 : T'.heap = t.heap) (hS : va_S A0 H0 H locs) (hA : ∀ q, q < H.size → A1 q → A0 q) (hf : ∀ q, free q → A0 q) (hL : ∀ q ∈ L, free q.base) (hF : va_F A1 st₀ t) :
    H.size ≤ T'.heap.size ∧ (∀ q : Nat, q < H.size → ¬ A1 q → T'.heap[q]? = H[q]?) ∧ va_S A0 H0 T'.heap (locs ++ L) := by
  obtain ⟨hz, hk⟩ := hF
  rw [h0] at hz hk
  exact ⟨by rw [e1]; exact hz, fun q h1 h2 => by rw [e1]; exact hk q h1 h2,
    ⟨Nat.le_trans hS.1 (by rw [e1]; exact hz), fun q h1 h2 => by rw [e1, hk q (Nat.lt_of_lt_of_le h1 hS.1) (fun z => h2 (hA q (Nat.lt_of_lt_of_le h1 hS.1) z))]; exact hS.2.1 q h1 h2, fun q hq => by
      rcases List.mem_append.mp hq with h | h
      · exact hS.2.2 q h
      · exact hf _ (hL q h)⟩⟩
theorem vx_calli {S SX : Type} {post : Int32 → S → Prop} {px : SX → Prop} {B : S → State → Prop} {BX : String → SX → State → Prop} {AX : Nat → Prop} (hr : vx_Run p l e R s m args below meth c H locs cells slots mc ms (F0 m pc ls st0) rest (va_Qi post B A1 a) (vx_X px BX AX) free) (hS : va_S A0 H0 H locs) (hA : ∀ q, q < H.size → A1 q → A0 q) (hf : ∀ q, free q → A0 q) (hAX : ∀ q, q < H.size → AX q → A0 q)
    (kx : ∀ (E : String) (ce : Cell) (q9 : Addr) (u : SX) (t : State) (H1 : Heap) (locs1 : List Loc), t.heap = H1 → s.vm.Alike t.vm → px u → BX E u t → H.size ≤ H1.size → (∀ q : Nat, q < H.size → ¬ AX q → H1[q]? = H[q]?) → va_S A0 H0 H1 locs1 → H1[q9]? = some ce → ce.vm = .none → s.vm.findClass E = some ce.cls → vx_W p l e R s m args below meth c H1 locs1 (cells + mc) (slots + ms) Q (F0 m pc ls rest) q9)
    (kk : ∀ (r : Int32) (u : S) (t : State) (H1 : Heap) (locs1 : List Loc), t.heap = H1 → s.vm.Alike t.vm → post r u → B u t → H.size ≤ H1.size → (∀ q : Nat, q < H.size → ¬ A1 q → H1[q]? = H[q]?) → va_S A0 H0 H1 locs1 → W p l e R s m args below meth c H1 locs1 (cells + mc) (slots + ms) Q (F0 m (pc + 3) ls (.int r :: rest))) : W p l e R s m args below meth c H locs cells slots Q (F0 m pc ls st0) := by
  intro T hT X
  rcases hr T hT X with ⟨v, st₀, t, T', L, h0, X', hL, e1, e2, ⟨⟨r, u, hv, hp, hb⟩, hF⟩, st⟩ | ⟨q, st₀, t, T', L, E, ce, h0, X', hL, e1, e2, ⟨u, hp, hb, hF⟩, hce, hcv, hcl, st⟩
  · cases hv
    obtain ⟨k1, k2, k3⟩ := vx_keep h0 e1 hS hA hf hL hF
    obtain ⟨t2, a1, b1⟩ := kk r u t T'.heap (locs ++ L) e1.symm (by rw [← e2]; exact X'.warmed.alike) hp hb k1 k2 k3 T' rfl X'
    exact ⟨t2, st t2 a1, b1⟩
  · obtain ⟨k1, k2, k3⟩ := vx_keep h0 e1 hS hAX hf hL hF
    obtain ⟨t2, a1, b1⟩ := kx E ce q u t T'.heap (locs ++ L) e1.symm (by rw [← e2]; exact X'.warmed.alike) hp hb k1 k2 k3 (by rw [e1]; exact hce) hcv hcl T' rfl X'
    exact ⟨t2, st.trans a1, b1⟩
theorem vx_calll {S SX : Type} {post : Int64 → S → Prop} {px : SX → Prop} {B : S → State → Prop} {BX : String → SX → State → Prop} {AX : Nat → Prop} (hr : vx_Run p l e R s m args below meth c H locs cells slots mc ms (F0 m pc ls st0) rest (va_Ql post B A1 a) (vx_X px BX AX) free) (hS : va_S A0 H0 H locs) (hA : ∀ q, q < H.size → A1 q → A0 q) (hf : ∀ q, free q → A0 q) (hAX : ∀ q, q < H.size → AX q → A0 q)
    (kx : ∀ (E : String) (ce : Cell) (q9 : Addr) (u : SX) (t : State) (H1 : Heap) (locs1 : List Loc), t.heap = H1 → s.vm.Alike t.vm → px u → BX E u t → H.size ≤ H1.size → (∀ q : Nat, q < H.size → ¬ AX q → H1[q]? = H[q]?) → va_S A0 H0 H1 locs1 → H1[q9]? = some ce → ce.vm = .none → s.vm.findClass E = some ce.cls → vx_W p l e R s m args below meth c H1 locs1 (cells + mc) (slots + ms) Q (F0 m pc ls rest) q9)
    (kk : ∀ (r : Int64) (u : S) (t : State) (H1 : Heap) (locs1 : List Loc), t.heap = H1 → s.vm.Alike t.vm → post r u → B u t → H.size ≤ H1.size → (∀ q : Nat, q < H.size → ¬ A1 q → H1[q]? = H[q]?) → va_S A0 H0 H1 locs1 → W p l e R s m args below meth c H1 locs1 (cells + mc) (slots + ms) Q (F0 m (pc + 3) ls (.long r :: rest))) : W p l e R s m args below meth c H locs cells slots Q (F0 m pc ls st0) := by
  intro T hT X
  rcases hr T hT X with ⟨v, st₀, t, T', L, h0, X', hL, e1, e2, ⟨⟨r, u, hv, hp, hb⟩, hF⟩, st⟩ | ⟨q, st₀, t, T', L, E, ce, h0, X', hL, e1, e2, ⟨u, hp, hb, hF⟩, hce, hcv, hcl, st⟩
  · cases hv
    obtain ⟨k1, k2, k3⟩ := vx_keep h0 e1 hS hA hf hL hF
    obtain ⟨t2, a1, b1⟩ := kk r u t T'.heap (locs ++ L) e1.symm (by rw [← e2]; exact X'.warmed.alike) hp hb k1 k2 k3 T' rfl X'
    exact ⟨t2, st t2 a1, b1⟩
  · obtain ⟨k1, k2, k3⟩ := vx_keep h0 e1 hS hAX hf hL hF
    obtain ⟨t2, a1, b1⟩ := kx E ce q u t T'.heap (locs ++ L) e1.symm (by rw [← e2]; exact X'.warmed.alike) hp hb k1 k2 k3 (by rw [e1]; exact hce) hcv hcl T' rfl X'
    exact ⟨t2, st.trans a1, b1⟩
theorem vx_callf {S SX : Type} {post : UInt32 → S → Prop} {px : SX → Prop} {B : S → State → Prop} {BX : String → SX → State → Prop} {AX : Nat → Prop} (hr : vx_Run p l e R s m args below meth c H locs cells slots mc ms (F0 m pc ls st0) rest (va_Qf post B A1 a) (vx_X px BX AX) free) (hS : va_S A0 H0 H locs) (hA : ∀ q, q < H.size → A1 q → A0 q) (hf : ∀ q, free q → A0 q) (hAX : ∀ q, q < H.size → AX q → A0 q)
    (kx : ∀ (E : String) (ce : Cell) (q9 : Addr) (u : SX) (t : State) (H1 : Heap) (locs1 : List Loc), t.heap = H1 → s.vm.Alike t.vm → px u → BX E u t → H.size ≤ H1.size → (∀ q : Nat, q < H.size → ¬ AX q → H1[q]? = H[q]?) → va_S A0 H0 H1 locs1 → H1[q9]? = some ce → ce.vm = .none → s.vm.findClass E = some ce.cls → vx_W p l e R s m args below meth c H1 locs1 (cells + mc) (slots + ms) Q (F0 m pc ls rest) q9)
    (kk : ∀ (r : UInt32) (u : S) (t : State) (H1 : Heap) (locs1 : List Loc), t.heap = H1 → s.vm.Alike t.vm → post r u → B u t → H.size ≤ H1.size → (∀ q : Nat, q < H.size → ¬ A1 q → H1[q]? = H[q]?) → va_S A0 H0 H1 locs1 → W p l e R s m args below meth c H1 locs1 (cells + mc) (slots + ms) Q (F0 m (pc + 3) ls (.float r :: rest))) : W p l e R s m args below meth c H locs cells slots Q (F0 m pc ls st0) := by
  intro T hT X
  rcases hr T hT X with ⟨v, st₀, t, T', L, h0, X', hL, e1, e2, ⟨⟨r, u, hv, hp, hb⟩, hF⟩, st⟩ | ⟨q, st₀, t, T', L, E, ce, h0, X', hL, e1, e2, ⟨u, hp, hb, hF⟩, hce, hcv, hcl, st⟩
  · cases hv
    obtain ⟨k1, k2, k3⟩ := vx_keep h0 e1 hS hA hf hL hF
    obtain ⟨t2, a1, b1⟩ := kk r u t T'.heap (locs ++ L) e1.symm (by rw [← e2]; exact X'.warmed.alike) hp hb k1 k2 k3 T' rfl X'
    exact ⟨t2, st t2 a1, b1⟩
  · obtain ⟨k1, k2, k3⟩ := vx_keep h0 e1 hS hAX hf hL hF
    obtain ⟨t2, a1, b1⟩ := kx E ce q u t T'.heap (locs ++ L) e1.symm (by rw [← e2]; exact X'.warmed.alike) hp hb k1 k2 k3 (by rw [e1]; exact hce) hcv hcl T' rfl X'
    exact ⟨t2, st.trans a1, b1⟩
theorem vx_calld {S SX : Type} {post : UInt64 → S → Prop} {px : SX → Prop} {B : S → State → Prop} {BX : String → SX → State → Prop} {AX : Nat → Prop} (hr : vx_Run p l e R s m args below meth c H locs cells slots mc ms (F0 m pc ls st0) rest (va_Qd post B A1 a) (vx_X px BX AX) free) (hS : va_S A0 H0 H locs) (hA : ∀ q, q < H.size → A1 q → A0 q) (hf : ∀ q, free q → A0 q) (hAX : ∀ q, q < H.size → AX q → A0 q)
    (kx : ∀ (E : String) (ce : Cell) (q9 : Addr) (u : SX) (t : State) (H1 : Heap) (locs1 : List Loc), t.heap = H1 → s.vm.Alike t.vm → px u → BX E u t → H.size ≤ H1.size → (∀ q : Nat, q < H.size → ¬ AX q → H1[q]? = H[q]?) → va_S A0 H0 H1 locs1 → H1[q9]? = some ce → ce.vm = .none → s.vm.findClass E = some ce.cls → vx_W p l e R s m args below meth c H1 locs1 (cells + mc) (slots + ms) Q (F0 m pc ls rest) q9)
    (kk : ∀ (r : UInt64) (u : S) (t : State) (H1 : Heap) (locs1 : List Loc), t.heap = H1 → s.vm.Alike t.vm → post r u → B u t → H.size ≤ H1.size → (∀ q : Nat, q < H.size → ¬ A1 q → H1[q]? = H[q]?) → va_S A0 H0 H1 locs1 → W p l e R s m args below meth c H1 locs1 (cells + mc) (slots + ms) Q (F0 m (pc + 3) ls (.double r :: rest))) : W p l e R s m args below meth c H locs cells slots Q (F0 m pc ls st0) := by
  intro T hT X
  rcases hr T hT X with ⟨v, st₀, t, T', L, h0, X', hL, e1, e2, ⟨⟨r, u, hv, hp, hb⟩, hF⟩, st⟩ | ⟨q, st₀, t, T', L, E, ce, h0, X', hL, e1, e2, ⟨u, hp, hb, hF⟩, hce, hcv, hcl, st⟩
  · cases hv
    obtain ⟨k1, k2, k3⟩ := vx_keep h0 e1 hS hA hf hL hF
    obtain ⟨t2, a1, b1⟩ := kk r u t T'.heap (locs ++ L) e1.symm (by rw [← e2]; exact X'.warmed.alike) hp hb k1 k2 k3 T' rfl X'
    exact ⟨t2, st t2 a1, b1⟩
  · obtain ⟨k1, k2, k3⟩ := vx_keep h0 e1 hS hAX hf hL hF
    obtain ⟨t2, a1, b1⟩ := kx E ce q u t T'.heap (locs ++ L) e1.symm (by rw [← e2]; exact X'.warmed.alike) hp hb k1 k2 k3 (by rw [e1]; exact hce) hcv hcl T' rfl X'
    exact ⟨t2, st.trans a1, b1⟩
theorem vx_callv {S SX : Type} {post : S → Prop} {px : SX → Prop} {B : S → State → Prop} {BX : String → SX → State → Prop} {AX : Nat → Prop} (hr : vx_Run p l e R s m args below meth c H locs cells slots mc ms (F0 m pc ls st0) rest (va_Qv post B A1 a) (vx_X px BX AX) free) (hS : va_S A0 H0 H locs) (hA : ∀ q, q < H.size → A1 q → A0 q) (hf : ∀ q, free q → A0 q) (hAX : ∀ q, q < H.size → AX q → A0 q)
    (kx : ∀ (E : String) (ce : Cell) (q9 : Addr) (u : SX) (t : State) (H1 : Heap) (locs1 : List Loc), t.heap = H1 → s.vm.Alike t.vm → px u → BX E u t → H.size ≤ H1.size → (∀ q : Nat, q < H.size → ¬ AX q → H1[q]? = H[q]?) → va_S A0 H0 H1 locs1 → H1[q9]? = some ce → ce.vm = .none → s.vm.findClass E = some ce.cls → vx_W p l e R s m args below meth c H1 locs1 (cells + mc) (slots + ms) Q (F0 m pc ls rest) q9)
    (kk : ∀ (u : S) (t : State) (H1 : Heap) (locs1 : List Loc), t.heap = H1 → s.vm.Alike t.vm → post u → B u t → H.size ≤ H1.size → (∀ q : Nat, q < H.size → ¬ A1 q → H1[q]? = H[q]?) → va_S A0 H0 H1 locs1 → W p l e R s m args below meth c H1 locs1 (cells + mc) (slots + ms) Q (F0 m (pc + 3) ls (rest))) : W p l e R s m args below meth c H locs cells slots Q (F0 m pc ls st0) := by
  intro T hT X
  rcases hr T hT X with ⟨v, st₀, t, T', L, h0, X', hL, e1, e2, ⟨⟨u, hv, hp, hb⟩, hF⟩, st⟩ | ⟨q, st₀, t, T', L, E, ce, h0, X', hL, e1, e2, ⟨u, hp, hb, hF⟩, hce, hcv, hcl, st⟩
  · cases hv
    obtain ⟨k1, k2, k3⟩ := vx_keep h0 e1 hS hA hf hL hF
    obtain ⟨t2, a1, b1⟩ := kk u t T'.heap (locs ++ L) e1.symm (by rw [← e2]; exact X'.warmed.alike) hp hb k1 k2 k3 T' rfl X'
    exact ⟨t2, st t2 a1, b1⟩
  · obtain ⟨k1, k2, k3⟩ := vx_keep h0 e1 hS hAX hf hL hF
    obtain ⟨t2, a1, b1⟩ := kx E ce q u t T'.heap (locs ++ L) e1.symm (by rw [← e2]; exact X'.warmed.alike) hp hb k1 k2 k3 (by rw [e1]; exact hce) hcv hcl T' rfl X'
    exact ⟨t2, st.trans a1, b1⟩
/-- caught by the row x of this method's table; the rows ahead don't take it -/
theorem vx_catch {own name : String} {E : String} {ce : Cell} {q : Addr} (hown : s.vm.findClass own = some m.cls) (pre : List ExceptionTableEntry) (x : ExceptionTableEntry) (suf : List ExceptionTableEntry) (hsplit : c.exceptionTable.toList = pre ++ x :: suf)
    (hpass : ∀ z ∈ pre, covers z pc = false ∨ (z.catchType ≠ 0 ∧ ∃ nm : String, (Cond.classLink own z.catchType nm).before args s = true ∧ va_Nc E nm s)) (hx : covers x pc = true) (h0 : x.catchType ≠ 0)
    (hlink : (Cond.classLink own x.catchType name).before args s = true) (hcast : (Cond.castable E name).before args s = true) (hcell : H[q]? = some ce) (hv : ce.vm = .none) (hcl : s.vm.findClass E = some ce.cls)
    (kk : W p l e R s m args below meth c H locs cells slots Q (F0 m x.handlerPc ls [.ref q])) : vx_W p l e R s m args below meth c H locs cells slots Q (F0 m pc ls rest) q := by
  intro T hT X
  have hpl : e.platform.magicAccessors = ({} : Platform).magicAccessors := by rw [X.admits.platform]
  obtain ⟨c3, c4, hc3, hc4, hasg⟩ := Cond.castable_spec hcast
  cases Option.some.inj (hc3.symm.trans hcl)
  obtain ⟨c5, hc5, hcl5⟩ := Cond.classLink_spec hown hlink e.platform hpl
  cases Option.some.inj (hc4.symm.trans hc5)
  obtain ⟨vm', X', st⟩ := X.thenCaughtThrough q (g := F0 m pc ls rest) rfl (Steps.refl _) (by rw [hT]; exact hcell) (by rw [hv]; rfl) (by obtain ⟨k9, h9, -⟩ := Vm.findClass_spec hcl; exact ⟨k9, h9⟩) pre x suf hsplit
    (fun z hz => by
      rcases hpass z hz with h | ⟨hz0, nm, hl1, hn1⟩
      · exact Or.inl h
      · obtain ⟨c6, hc6, hcl6⟩ := Cond.classLink_spec hown hl1 e.platform hpl
        obtain ⟨a8, b8, h1, h2, h3⟩ := hn1
        cases Option.some.inj (h1.symm.trans hcl)
        cases Option.some.inj (h2.symm.trans hc6)
        exact Or.inr ⟨hz0, _, hcl6, h3⟩) hx (Or.inr ⟨h0, c4, hcl5, hasg⟩)
  obtain ⟨t, a1, b1⟩ := kk (T.setVm vm') hT X'
  exact ⟨t, st.trans a1, b1⟩
end Rows
section Ends
variable {p : Program} {l : Launch} {e : Env} {R : Room} {s : State} {m : MethodId} {args : Array Value} {below : List Frame} {meth : Method} {c : Code} {H : Heap} {locs : List Loc} {cells slots : Nat} {Q : State → Prop}
variable {mc ms : Nat} {free : Addr → Prop} {A0 A1 : Nat → Prop} {H0 : Heap} {a : Array Value} {ls : Array Slot} {st0 rest : List Value}
variable {Qc : Array Value → State → Outcome → State → Prop} {XC : String → State → State → Prop}
/-- what a body that may throw owes at its end -/
def vx_MQ (below : List Frame) (Qc : Array Value → State → Outcome → State → Prop) (XC : String → State → State → Prop) (a : Array Value) (s : State) (mc ms : Nat) (free : Addr → Prop) : State → Prop := fun t =>
  ∃ o, t.status = .running ∧ Ended t below o ∧ vx_Q Qc XC mc ms free a s o t
theorem vx_ret {g : JFrame} {mc ms : Nat} (k : W p l e R s m args below meth c H locs cells slots (MQ below Qc args s mc ms free) g) : W p l e R s m args below meth c H locs cells slots (vx_MQ below Qc XC args s mc ms free) g := by
  intro T hT X
  obtain ⟨t, a1, o, b1, b2, b3, b4⟩ := k T hT X
  exact ⟨t, a1, o, b1, b2, Or.inl ⟨b3, b4⟩⟩
/-- not caught here: it goes on to the caller -/
theorem vx_widen {g : JFrame} {q : Addr} {k n : Nat} (h1 : cells ≤ k) (h2 : slots ≤ n) (kk : vx_W p l e R s m args below meth c H locs k n Q g q) : vx_W p l e R s m args below meth c H locs cells slots Q g q := fun T hT X => kk T hT (stand_widen X h1 h2)
theorem vx_out {pc : Nat} {E : String} {ce : Cell} {q : Addr} {mc ms : Nat} (hout : ∀ x ∈ c.exceptionTable.toList, covers x pc = false) (hlocks : meth.locks = false) (hcell : H[q]? = some ce) (hv : ce.vm = .none) (hcl : s.vm.findClass E = some ce.cls)
    (hx : ∀ t : State, t.heap = H → s.vm.Alike t.vm → XC E s t) (hf : ∀ z ∈ locs, free z.base) (hc : cells ≤ mc) (hs : slots ≤ ms) :
    vx_W p l e R s m args below meth c H locs cells slots (vx_MQ below Qc XC args s mc ms free) (F0 m pc ls rest) q := by
  intro T hT X
  obtain ⟨st1, hrun, hend, hW, hsm⟩ := X.leaveThrown q (g := F0 m pc ls rest) rfl rfl rfl hout hlocks
  have hcell9 : (T.setFrames (.throwing q :: below)).heap[q]? = some ce := by
    show T.heap[q]? = some ce
    rw [hT]; exact hcell
  exact ⟨_, st1, .threw q, hrun, hend, Or.inr ⟨q, rfl, E, ce, locs, hx _ hT hW.alike, hcell9, hv, hcl, hW, hsm.mono hc hs, hf⟩⟩
theorem vx_frame {U : State} {k n : Nat} (h : s.sameButNew ({ U with vm := s.vm } : State) locs k n) : s.heap.size ≤ U.heap.size ∧ ∀ q : Nat, q < s.heap.size → (∀ z ∈ locs, z.base ≠ q) → U.heap[q]? = s.heap[q]? := by
  obtain ⟨-, h2, -, -, -, h6⟩ := h
  refine ⟨h2, fun q hq hz => ?_⟩
  obtain ⟨c9, e1, e2, e3, e4⟩ := h6 q _ (Array.getElem?_eq_getElem hq)
  have hs : c9.slots = (s.heap[q]).slots := Array.ext_getElem? fun i => e4 i fun hm => hz _ hm rfl
  have h9 : c9 = s.heap[q] := by
    rw [hs] at e2
    exact e2
  have e5 : U.heap[q]? = some c9 := e1
  rw [e5, h9, Array.getElem?_eq_getElem hq]
/-- the words of a throw but the four that speak of the heap -/
def vx_no (w : Cond) : Bool := decide (w ≠ .isRef (.static Bundle.tN "UNASSIGNED_STACK" Bundle.steD)) && decide (w ≠ .isRef (.static Bundle.tN "SUPPRESSED_SENTINEL" Bundle.listD)) && decide (w ≠ .laysStatic Bundle.tN "UNASSIGNED_STACK" Bundle.steD) && decide (w ≠ .laysStatic Bundle.tN "SUPPRESSED_SENTINEL" Bundle.listD)
def vx_at0 (own : String) (ic : Nat) (X : String) (names : List String) : List Cond := (Bundle.ownAtoms0 own ic X names).filter vx_no
def vx_atS (own : String) (ic : Nat) (X : String) (names : List String) : List Cond := (Bundle.ownAtoms own ic X names).filter vx_no
/-- a word that the tables alone decide, or a good one -/
def vx_ot (w : Cond) : Bool := w.onTables || goodWord w
theorem vx_ot_at {args a' : Array Value} {s U : State} {w : Cond} (hW : s.WarmedH U.vm) (hvm : s.vm = U.vm) (hg : vx_ot w = true) (h : w.before args s = true) : w.before a' U = true := by
  simp only [vx_ot, Bool.or_eq_true] at hg
  rcases hg with hg | hg
  · exact va_tabs hg hvm h
  · exact word_at hW (good_of_word hg) h
/-- a list's words: the good ones out of the method's own list, the others by premises of their own -/
theorem vx_hat {args : Array Value} {s : State} {L B : List Cond} (h1 : ∀ w ∈ L.filter goodWord, w.before args s = true) (h2 : ∀ w ∈ L.filter (fun w => !goodWord w), w ∈ B) (h3 : ∀ w ∈ B, w.before args s = true) : ∀ w ∈ L, w.before args s = true := by
  intro w hw
  by_cases g : goodWord w = true
  · exact h1 w (List.mem_filter.mpr ⟨hw, g⟩)
  · refine h3 w (h2 w (List.mem_filter.mpr ⟨hw, ?_⟩))
    show (!goodWord w) = true
    cases hgw : goodWord w
    · rfl
    · exact absurd hgw g
theorem vx_c {args : Array Value} {s : State} {w : Cond} {B : List Cond} (h : w.before args s = true) (t : ∀ w ∈ B, w.before args s = true) : ∀ w' ∈ w :: B, w'.before args s = true := fun w' h' => (List.mem_cons.mp h').elim (fun e => by rw [e]; exact h) (t w')
theorem vx_n {args : Array Value} {s : State} : ∀ w ∈ ([] : List Cond), w.before args s = true := fun _ h => nomatch h
theorem vx_own {args : Array Value} {s : State} {L : List Cond} (h1 : ∀ w ∈ L.filter vx_no, w.before args s = true)
    (hU : (Cond.isRef (.static Bundle.tN "UNASSIGNED_STACK" Bundle.steD)).before args s = true) (hN : (Cond.isRef (.static Bundle.tN "SUPPRESSED_SENTINEL" Bundle.listD)).before args s = true)
    (lU : (Cond.laysStatic Bundle.tN "UNASSIGNED_STACK" Bundle.steD).before args s = true) (lN : (Cond.laysStatic Bundle.tN "SUPPRESSED_SENTINEL" Bundle.listD).before args s = true) : ∀ w ∈ L, w.before args s = true := by
  intro w hw
  by_cases e1 : w = .isRef (.static Bundle.tN "UNASSIGNED_STACK" Bundle.steD)
  · rw [e1]; exact hU
  · by_cases e2 : w = .isRef (.static Bundle.tN "SUPPRESSED_SENTINEL" Bundle.listD)
    · rw [e2]; exact hN
    · by_cases e3 : w = .laysStatic Bundle.tN "UNASSIGNED_STACK" Bundle.steD
      · rw [e3]; exact lU
      · by_cases e4 : w = .laysStatic Bundle.tN "SUPPRESSED_SENTINEL" Bundle.listD
        · rw [e4]; exact lN
        · exact h1 w (List.mem_filter.mpr ⟨hw, by unfold vx_no; rw [decide_eq_true e1, decide_eq_true e2, decide_eq_true e3, decide_eq_true e4]; rfl⟩)
/-- where a static field lies, its class's statics cell in H -/
def vx_L (C n d : String) (A : Nat → Prop) (U : State) (H : Heap) : Prop := ∃ (c : ClassId) (k : Class) (i : Nat) (f : Field) (a : Nat) (cell : Cell), U.vm.findClass C = some c ∧ U.fieldFound? C n d = some (c, k, i, f) ∧ f.isStatic = true ∧ k.statics = some a ∧ H[a]? = some cell ∧ cell.vm.isStatics = true ∧ cell.cls = c ∧ f.slot < cell.slots.size ∧ k.staticTypes[f.slot]? = some f.type ∧ ¬ A a
theorem vx_L.moved {C n d : String} {A : Nat → Prop} {u U : State} {H : Heap} (hvm : u.vm.Alike U.vm) (h : vx_L C n d A u H) : vx_L C n d A U H := by
  obtain ⟨c, k, i, f, a, cell, h1, h2, h3, h4, h5, h6, h7, h8, h9, h10⟩ := h
  obtain ⟨k', hi', he⟩ := State.fieldFound?_setVm hvm h2
  exact ⟨c, k', i, f, a, cell, by rw [hvm.findClass]; exact h1, hi', h3, by rw [he]; exact h4, h5, h6, h7, h8, by rw [he]; exact h9, h10⟩
theorem vx_L.kept {C n d : String} {A : Nat → Prop} {U : State} {H H1 : Heap} (h : vx_L C n d A U H) (hq : ∀ a : Nat, a < H.size → ¬ A a → H1[a]? = H[a]?) : vx_L C n d A U H1 := by
  obtain ⟨c, k, i, f, a, cell, h1, h2, h3, h4, h5, h6, h7, h8, h9, h10⟩ := h
  exact ⟨c, k, i, f, a, cell, h1, h2, h3, h4, by rw [hq a (Array.getElem?_eq_some_iff.mp h5).1 h10]; exact h5, h6, h7, h8, h9, h10⟩
theorem vx_L.narrow {C n d : String} {A B : Nat → Prop} {U : State} {H : Heap} (h : vx_L C n d A U H) (hAB : ∀ q, B q → A q) : vx_L C n d B U H := by
  obtain ⟨c, k, i, f, a, cell, h1, h2, h3, h4, h5, h6, h7, h8, h9, h10⟩ := h
  exact ⟨c, k, i, f, a, cell, h1, h2, h3, h4, h5, h6, h7, h8, h9, fun z => h10 (hAB _ z)⟩
theorem vx_L.word {C n d : String} {A : Nat → Prop} {s : State} {args : Array Value} (h : vx_L C n d A s s.heap) : (Cond.laysStatic C n d).before args s = true := by
  obtain ⟨c, k, i, f, a, cell, h1, h2, h3, h4, h5, h6, h7, h8, h9, -⟩ := h
  show (Cond.laysStatic C n d).holds args s none s [] = true
  exact Cond.laysStatic_of h1 h2 h3 h4 h5 h6 h7 h8 h9
/-- .. and what it holds: null or some reference -/
def vx_Zq (C n d : String) (A : Nat → Prop) (U : State) (H : Heap) : Prop := va_Zq C n d A U H ∧ vx_L C n d A U H
theorem vx_Zq.moved {C n d : String} {A : Nat → Prop} {u U : State} {H : Heap} (hvm : u.vm.Alike U.vm) (h : vx_Zq C n d A u H) : vx_Zq C n d A U H := ⟨va_Zq.moved hvm h.1, vx_L.moved hvm h.2⟩
theorem vx_Zq.kept {C n d : String} {A : Nat → Prop} {U : State} {H H1 : Heap} (h : vx_Zq C n d A U H) (hq : ∀ a : Nat, a < H.size → ¬ A a → H1[a]? = H[a]?) : vx_Zq C n d A U H1 := ⟨va_Zq.kept h.1 hq, vx_L.kept h.2 hq⟩
theorem vx_Zq.narrow {C n d : String} {A B : Nat → Prop} {U : State} {H : Heap} (h : vx_Zq C n d A U H) (hAB : ∀ q, B q → A q) : vx_Zq C n d B U H := ⟨va_Zq.narrow h.1 hAB, vx_L.narrow h.2 hAB⟩
theorem vx_Zqof {args : Array Value} {s : State} {C n d : String} {A : Nat → Prop} (hl : (Cond.laysStatic C n d).before args s = true) (hini : (Cond.initialized C).before args s = true) (h : (Cond.isRef (.static C n d)).before args s = true) (hA : ∀ a : Nat, a < s.heap.size → ¬ A a) : vx_Zq C n d A s s.heap := by
  refine ⟨va_Zqof hl hini h hA, ?_⟩
  obtain ⟨c, k, i, f, a, cell, h1, h2, h3, h4, h5, h6, h7, h8, h9⟩ := Cond.laysStatic_spec hl
  exact ⟨c, k, i, f, a, cell, h1, h2, h3, h4, h5, h6, h7, h8, h9, hA a (Array.getElem?_eq_some_iff.mp h5).1⟩
theorem vx_isRef {C n d : String} {v : Value} {A : Nat → Prop} {s : State} {args : Array Value} (h : va_Z C n d v A s s.heap) (hv : v.isRef = true) : (Cond.isRef (.static C n d)).before args s = true := by
  obtain ⟨cf, kf, fi, f, a, cell, h1, h2, h3, h4, h5, h6, h7, -⟩ := h
  have he : (Term.static C n d).eval args s none [] s = some v := by
    simp [Term.eval, State.fieldNamed?, h1, h2, h4, h5, h6, h7]
  simp only [Cond.before, Cond.holds, Cond.value, he]
  cases v <;> simp_all [Value.isRef]
theorem vx_isRefq {C n d : String} {A : Nat → Prop} {s : State} {args : Array Value} (h : va_Zq C n d A s s.heap) : (Cond.isRef (.static C n d)).before args s = true := by
  rcases h with h | ⟨t, h⟩
  · exact vx_isRef h rfl
  · exact vx_isRef h rfl
/-- the same frame, seen from here: as if the method were called anew in this heap -/
theorem vx_rebase {T : State} (X : Stand p l e R s m args below meth c T locs cells slots) {R' : Room} (hf : R'.frames ≤ R.frames) (hl : R'.locals ≤ R.locals) (hc : cells + R'.cells ≤ R.cells) (hs : slots + R'.slots ≤ R.slots) :
    Stand p l e R' ((T.setVm s.vm).setFrames (.invoking m args :: below)) m args below meth c T [] 0 0 := by
  have htop : (T.setVm s.vm).topJava?.isSome := X.here.top
  have hF : ((T.setVm s.vm).setFrames (.invoking m args :: below)).frames = .invoking m args :: below := State.frames_setFrames _ (State.cur_lt_of_top htop)
  obtain ⟨g₀, hg0⟩ := Option.isSome_iff_exists.mp htop
  obtain ⟨r, hr⟩ := State.topJava?_eq_some.mp hg0
  have hl9 : e.platform.stackLimits (T.setVm s.vm).me = e.platform.stackLimits s.me := X.limits
  have hb9 : (T.setVm s.vm).me.stackBytes = s.me.stackBytes := X.bytes
  refine ⟨X.admits, X.cas, X.clock, hF, ?_, X.hears, X.method, X.code, X.here, X.tail, X.warmed, ?_, ?_, ?_⟩
  · have h := X.room
    have hU : ((T.setVm s.vm).setFrames (.invoking m args :: below)).localsInUse = s.localsInUse := by
      rw [State.localsInUse_invoking hF (meth := meth) (c := c) X.method X.code, State.localsInUse_invoking X.frames X.method X.code]
    simp only [State.hasRoom, Bool.and_eq_true, decide_eq_true_eq] at h ⊢
    obtain ⟨⟨⟨⟨h1, h2, h3, h4, h5, h6⟩, h7⟩, h8⟩, h9⟩ := h
    rw [X.frames, List.length_cons] at h2 h3
    have q1 := X.heapSize
    have q2 := X.used
    simp only [hF, hU, List.length_cons, State.stackLimits_setFrames, State.stackBytes_setFrames, hl9, hb9]
    refine ⟨⟨⟨⟨by omega, by omega, by omega, by omega, by omega, h6⟩, ?_⟩, ?_⟩, X.book⟩
    · show T.heap.size + R'.cells ≤ e.platform.maxCells
      omega
    · show T.slotsUsed + R'.slots ≤ e.platform.maxSlots
      omega
  · rw [State.stackLimits_setFrames]; rfl
  · rw [State.stackBytes_setFrames]; rfl
  · refine ⟨?_, Nat.le_refl _, Nat.le_refl _, ?_, ?_, fun a c9 h9 => ⟨c9, h9, rfl, rfl, fun _ _ => rfl⟩⟩
    · obtain ⟨t, ht, -⟩ := State.frames_cons hr
      show T.setVm s.vm = { ((T.setVm s.vm).setFrames (.invoking m args :: below)).setFrames (T.setVm s.vm).frames with heap := T.heap, slotsUsed := T.slotsUsed }
      rw [State.setFrames_setFrames, State.setFrames_self ht]
      rfl
    · show T.slotsUsed = T.slotsUsed + ((T.heap.toList.drop T.heap.size).map (·.slots.size)).sum
      rw [List.drop_eq_nil_of_le (Nat.le_of_eq Array.length_toList)]
      rfl
    · show ((T.heap.toList.drop T.heap.size).map (·.slots.size)).sum ≤ 0
      rw [List.drop_eq_nil_of_le (Nat.le_of_eq Array.length_toList)]
      exact Nat.le_refl _
/-- 'throw new E()': new; dup; invokespecial; athrow -/
theorem vx_throw0 {cc : ByteArray} {pc : Nat} (hexec : p.tables.exec = Jvm.exec) (hb : c.code = cc) (hl : l.stackTraces = false) {own cls : String} {names : List String} {ik ic mc ms : Nat} {A : Nat → Prop}
    (hown : s.vm.findClass own = some m.cls) (hcls : Bundle.fit cls = true) (hnames : ∀ n ∈ names, Bundle.fit n = true)
    (hk : (Cond.classLink own ik cls).before args s = true) (hini : (Cond.initialized cls).before args s = true) (hat : ∀ w ∈ vx_at0 own ic cls names, w.before args s = true)
    (hgood : ∀ w ∈ Cond.classLink own ik cls :: Cond.initialized cls :: vx_at0 own ic cls names, vx_ot w = true)
    (hU : vx_Zq Bundle.tN "UNASSIGNED_STACK" Bundle.steD A s s.heap) (hN : vx_Zq Bundle.tN "SUPPRESSED_SENTINEL" Bundle.listD A s s.heap) (hS : va_S A s.heap H locs) (hsize : ls.size = c.maxLocals)
    (d0 : decode cc pc = .ok (.new ik, 3)) (d3 : decode cc (pc + 3) = .ok (.dup, 1)) (d4 : decode cc (pc + 4) = .ok (.invokespecial ic, 3)) (d7 : decode cc (pc + 7) = .ok (.athrow, 1))
    (hout : ∀ x ∈ c.exceptionTable.toList, covers x (pc + 7) = false)
    (hRframes : names.length + 3 < R.frames) (hRlocals : (rest.map fun v => v.category).sum + (13 * (names.length + 1) + 42) ≤ R.locals) (hRcells : cells + 1 ≤ R.cells) (hRslots : slots + 6 ≤ R.slots) (hlocks : meth.locks = false)
    (hx : ∀ t : State, s.vm.Alike t.vm → H.size ≤ t.heap.size → (∀ q : Nat, q < H.size → t.heap[q]? = H[q]?) → XC cls s t)
    (hf : ∀ z ∈ locs, free z.base) (hc : cells + 1 ≤ mc) (hs : slots + 6 ≤ ms) :
    W p l e R s m args below meth c H locs cells slots (vx_MQ below Qc XC args s mc ms free) (F0 m pc ls rest) := by
  intro T hT X
  have htr : e.platform.stackTraces = false := (show e.platform.stackTraces = l.stackTraces by rw [X.admits.platform]).trans hl
  have Y := vx_rebase X (R' := { frames := R.frames, locals := R.locals, cells := 1, slots := 6 }) (Nat.le_refl _) (Nat.le_refl _) hRcells hRslots
  obtain ⟨s', hA⟩ : ∃ z, z = (T.setVm s.vm).setFrames (.invoking m args :: below) := ⟨_, rfl⟩
  rw [← hA] at Y
  have hvm : s'.vm = s.vm := by rw [hA]; rfl
  have hhp : s'.heap = H := by rw [hA]; exact hT
  have hW0 : s.WarmedH s'.vm := by rw [hvm]; exact State.WarmedH.refl s
  have hat' : ∀ w ∈ vx_at0 own ic cls names, w.before args s' = true := fun w hw => vx_ot_at hW0 hvm.symm (hgood w (List.mem_cons_of_mem _ (List.mem_cons_of_mem _ hw))) (hat w hw)
  have hk' : (Cond.classLink own ik cls).before args s' = true := vx_ot_at hW0 hvm.symm (hgood _ List.mem_cons_self) hk
  have hini' : (Cond.initialized cls).before args s' = true := vx_ot_at hW0 hvm.symm (hgood _ (List.mem_cons_of_mem _ List.mem_cons_self)) hini
  have hU' : vx_Zq Bundle.tN "UNASSIGNED_STACK" Bundle.steD A s' s'.heap := by rw [hhp]; exact vx_Zq.moved hW0.alike (hU.kept hS.2.1)
  have hN' : vx_Zq Bundle.tN "SUPPRESSED_SENTINEL" Bundle.listD A s' s'.heap := by rw [hhp]; exact vx_Zq.moved hW0.alike (hN.kept hS.2.1)
  have h : ∀ w ∈ Bundle.ownAtoms0 own ic cls names, w.before args s' = true := vx_own hat' (vx_isRefq hU'.1) (vx_isRefq hN'.1) hU'.2.word hN'.2.word
  have hown' : s'.vm.findClass own = some m.cls := by rw [hvm]; exact hown
  have hins : (Cond.instantiable cls 6).before args s' = true := h _ (by simp [Bundle.ownAtoms0])
  obtain ⟨vm₁, cX, kX, hfX, hkX, -, -, X₁, st1⟩ := Y.newCold hexec (own := own) (C := cls) (index := ik) (n := 6) hown' hk' hins hini'
    (g := F0 m pc ls rest) rfl (by rw [hb]; exact d0) (Nat.le_refl _) (Nat.le_refl _)
  generalize hT1 : (T.setVm vm₁).pushCell { cls := cX, slots := kX.instanceTypes.map defaultValue, vm := .none } = T1 at X₁ st1
  have hcat : (Value.ref T.heap.size).category = 1 := rfl
  have hcellA : T1.heap[T.heap.size]? = some (freshCell cX kX) := by rw [← hT1]; exact State.heap_pushCell_size _ _
  have d3' : decode c.code (pc + 3) = .ok (.dup, 1) := by rw [hb]; exact d3
  obtain ⟨U, hsteps, hrun, hend, hW, hsame, ce, hce, hO⟩ := X₁.ctorThrow0 hexec htr (own := own) (cls := cls) (names := names) (ic := ic) hown' hcls hnames h (fun x hx => nomatch hx) hfX hkX hcellA (by rw [hhp, hT]; exact Nat.le_refl _)
    (g := { method := m, pc := pc + 4, locals := ls, stack := .ref T.heap.size :: .ref T.heap.size :: rest, locked := none }) rfl hsize rfl rfl (rest := rest) rfl
    (by rw [hb]; exact d4) (by rw [hb]; exact d7) hout hRframes (by simp only [List.map_cons, List.sum_cons, hcat]; omega) hlocks
  obtain ⟨f1, f2⟩ := vx_frame hsame
  rw [hhp] at f1 f2
  have hWs : s.WarmedH U.vm := State.WarmedH.trans hW0 hW
  have hcl : s.vm.findClass cls = some ce.cls := by
    have h9 := hO.cls
    rw [hvm] at h9
    exact h9
  have hall : s.sameButNew ({ U with vm := s.vm } : State) locs mc ms := by
    subst hA
    obtain ⟨e1, e2⟩ := hsame
    rw [State.setFrames_setFrames] at e1
    have h2 : (T.setVm s.vm).sameButNew ({ U with vm := s.vm } : State) [] (0 + 1) (0 + 6) := ⟨e1, e2⟩
    have h3 := X.same.trans h2
    rw [List.append_nil] at h3
    exact h3.mono hc hs
  refine ⟨U, ?_, .threw T.heap.size, hrun, hend, Or.inr ⟨T.heap.size, rfl, cls, ce, locs, hx U hWs.alike f1 (fun q hq => f2 q hq (fun z hz => nomatch hz)), hce, hO.vm, hcl, hWs, hall, hf⟩⟩
  refine st1 _ ?_
  show Steps p.tables e below (T1.setTop { method := m, pc := pc + 3, locals := ls, stack := .ref T.heap.size :: rest, locked := none }) _
  jvm_step X₁.here [X₁.here.top, hexec, d3', Value.category]
  exact hsteps
/-- 'throw new E("text")': new; dup; ldc; invokespecial; athrow -/
theorem vx_throwS {cc : ByteArray} {pc : Nat} (hexec : p.tables.exec = Jvm.exec) (hb : c.code = cc) (hl : l.stackTraces = false) {own cls text : String} {names : List String} {ik is ic mc ms sa : Nat} {A : Nat → Prop}
    (hown : s.vm.findClass own = some m.cls) (hcls : Bundle.fit cls = true) (hnames : ∀ n ∈ names, Bundle.fit n = true)
    (hk : (Cond.classLink own ik cls).before args s = true) (hini : (Cond.initialized cls).before args s = true) (hstr : vk_R own is text sa s) (hat : ∀ w ∈ vx_atS own ic cls names, w.before args s = true)
    (hgood : ∀ w ∈ Cond.classLink own ik cls :: Cond.initialized cls :: vx_atS own ic cls names, vx_ot w = true)
    (hU : vx_Zq Bundle.tN "UNASSIGNED_STACK" Bundle.steD A s s.heap) (hN : vx_Zq Bundle.tN "SUPPRESSED_SENTINEL" Bundle.listD A s s.heap) (hS : va_S A s.heap H locs) (hsize : ls.size = c.maxLocals)
    (d0 : decode cc pc = .ok (.new ik, 3)) (d3 : decode cc (pc + 3) = .ok (.dup, 1)) (d4 : decode cc (pc + 4) = .ok (.ldc is, 2)) (d6 : decode cc (pc + 6) = .ok (.invokespecial ic, 3)) (d9 : decode cc (pc + 9) = .ok (.athrow, 1))
    (hout : ∀ x ∈ c.exceptionTable.toList, covers x (pc + 9) = false)
    (hRframes : names.length + 3 < R.frames) (hRlocals : (rest.map fun v => v.category).sum + (13 * (names.length + 1) + 43) ≤ R.locals) (hRcells : cells + 1 ≤ R.cells) (hRslots : slots + 6 ≤ R.slots) (hlocks : meth.locks = false)
    (hx : ∀ t : State, s.vm.Alike t.vm → H.size ≤ t.heap.size → (∀ q : Nat, q < H.size → t.heap[q]? = H[q]?) → XC cls s t)
    (hf : ∀ z ∈ locs, free z.base) (hc : cells + 1 ≤ mc) (hs : slots + 6 ≤ ms) :
    W p l e R s m args below meth c H locs cells slots (vx_MQ below Qc XC args s mc ms free) (F0 m pc ls rest) := by
  intro T hT X
  have htr : e.platform.stackTraces = false := (show e.platform.stackTraces = l.stackTraces by rw [X.admits.platform]).trans hl
  have Y := vx_rebase X (R' := { frames := R.frames, locals := R.locals, cells := 1, slots := 6 }) (Nat.le_refl _) (Nat.le_refl _) hRcells hRslots
  obtain ⟨s', hA⟩ : ∃ z, z = (T.setVm s.vm).setFrames (.invoking m args :: below) := ⟨_, rfl⟩
  rw [← hA] at Y
  have hvm : s'.vm = s.vm := by rw [hA]; rfl
  have hhp : s'.heap = H := by rw [hA]; exact hT
  have hW0 : s.WarmedH s'.vm := by rw [hvm]; exact State.WarmedH.refl s
  have hat' : ∀ w ∈ vx_atS own ic cls names, w.before args s' = true := fun w hw => vx_ot_at hW0 hvm.symm (hgood w (List.mem_cons_of_mem _ (List.mem_cons_of_mem _ hw))) (hat w hw)
  have hk' : (Cond.classLink own ik cls).before args s' = true := vx_ot_at hW0 hvm.symm (hgood _ List.mem_cons_self) hk
  have hini' : (Cond.initialized cls).before args s' = true := vx_ot_at hW0 hvm.symm (hgood _ (List.mem_cons_of_mem _ List.mem_cons_self)) hini
  have hU' : vx_Zq Bundle.tN "UNASSIGNED_STACK" Bundle.steD A s' s'.heap := by rw [hhp]; exact vx_Zq.moved hW0.alike (hU.kept hS.2.1)
  have hN' : vx_Zq Bundle.tN "SUPPRESSED_SENTINEL" Bundle.listD A s' s'.heap := by rw [hhp]; exact vx_Zq.moved hW0.alike (hN.kept hS.2.1)
  have h : ∀ w ∈ Bundle.ownAtoms own ic cls names, w.before args s' = true := vx_own hat' (vx_isRefq hU'.1) (vx_isRefq hN'.1) hU'.2.word hN'.2.word
  have hown' : s'.vm.findClass own = some m.cls := by rw [hvm]; exact hown
  have hins : (Cond.instantiable cls 6).before args s' = true := h _ (by simp [Bundle.ownAtoms])
  obtain ⟨vm₁, cX, kX, hfX, hkX, -, -, X₁, st1⟩ := Y.newCold hexec (own := own) (C := cls) (index := ik) (n := 6) hown' hk' hins hini'
    (g := F0 m pc ls rest) rfl (by rw [hb]; exact d0) (Nat.le_refl _) (Nat.le_refl _)
  generalize hT1 : (T.setVm vm₁).pushCell { cls := cX, slots := kX.instanceTypes.map defaultValue, vm := .none } = T1 at X₁ st1
  have hcat : (Value.ref T.heap.size).category = 1 := rfl
  have hcellA : T1.heap[T.heap.size]? = some (freshCell cX kX) := by rw [← hT1]; exact State.heap_pushCell_size _ _
  have d3' : decode c.code (pc + 3) = .ok (.dup, 1) := by rw [hb]; exact d3
  have d4' : decode c.code (pc + 4) = .ok (.ldc is, 2) := by rw [hb]; exact d4
  have hstr' : vk_R own is text sa s' := vk_R.warm hW0 hstr
  obtain ⟨U, hsteps, hrun, hend, hW, hsame, ce, hce, hO⟩ := X₁.ctorThrowS hexec htr (own := own) (cls := cls) (names := names) (ic := ic) hown' hcls hnames h (fun x hx => nomatch hx) hfX hkX hcellA (by rw [hhp, hT]; exact Nat.le_refl _) (msg := .ref sa) rfl
    (g := { method := m, pc := pc + 6, locals := ls, stack := .ref sa :: .ref T.heap.size :: .ref T.heap.size :: rest, locked := none }) rfl hsize rfl rfl (rest := rest) rfl
    (by rw [hb]; exact d6) (by rw [hb]; exact d9) hout hRframes (by simp only [List.map_cons, List.sum_cons, hcat]; omega) hlocks
  obtain ⟨f1, f2⟩ := vx_frame hsame
  rw [hhp] at f1 f2
  have hWs : s.WarmedH U.vm := State.WarmedH.trans hW0 hW
  have hcl : s.vm.findClass cls = some ce.cls := by
    have h9 := hO.cls
    rw [hvm] at h9
    exact h9
  have hall : s.sameButNew ({ U with vm := s.vm } : State) locs mc ms := by
    subst hA
    obtain ⟨e1, e2⟩ := hsame
    rw [State.setFrames_setFrames] at e1
    have h2 : (T.setVm s.vm).sameButNew ({ U with vm := s.vm } : State) [] (0 + 1) (0 + 6) := ⟨e1, e2⟩
    have h3 := X.same.trans h2
    rw [List.append_nil] at h3
    exact h3.mono hc hs
  refine ⟨U, ?_, .threw T.heap.size, hrun, hend, Or.inr ⟨T.heap.size, rfl, cls, ce, locs, hx U hWs.alike f1 (fun q hq => f2 q hq (fun z hz => nomatch hz)), hce, hO.vm, hcl, hWs, hall, hf⟩⟩
  refine st1 _ ?_
  show Steps p.tables e below (T1.setTop { method := m, pc := pc + 3, locals := ls, stack := .ref T.heap.size :: rest, locked := none }) _
  jvm_step X₁.here [X₁.here.top, hexec, d3', Value.category]
  exact X₁.ldcString hexec (own := own) (text := text) (index := is) (a := sa) hown' hstr'.1 hstr'.2
    (g := { method := m, pc := pc + 4, locals := ls, stack := .ref T.heap.size :: .ref T.heap.size :: rest, locked := none }) rfl d4' _ hsteps
/-- 'throw new E("text")', the text by a wide index -/
theorem vx_throwSW {cc : ByteArray} {pc : Nat} (hexec : p.tables.exec = Jvm.exec) (hb : c.code = cc) (hl : l.stackTraces = false) {own cls text : String} {names : List String} {ik is ic mc ms sa : Nat} {A : Nat → Prop}
    (hown : s.vm.findClass own = some m.cls) (hcls : Bundle.fit cls = true) (hnames : ∀ n ∈ names, Bundle.fit n = true)
    (hk : (Cond.classLink own ik cls).before args s = true) (hini : (Cond.initialized cls).before args s = true) (hstr : vk_R own is text sa s) (hat : ∀ w ∈ vx_atS own ic cls names, w.before args s = true)
    (hgood : ∀ w ∈ Cond.classLink own ik cls :: Cond.initialized cls :: vx_atS own ic cls names, vx_ot w = true)
    (hU : vx_Zq Bundle.tN "UNASSIGNED_STACK" Bundle.steD A s s.heap) (hN : vx_Zq Bundle.tN "SUPPRESSED_SENTINEL" Bundle.listD A s s.heap) (hS : va_S A s.heap H locs) (hsize : ls.size = c.maxLocals)
    (d0 : decode cc pc = .ok (.new ik, 3)) (d3 : decode cc (pc + 3) = .ok (.dup, 1)) (d4 : decode cc (pc + 4) = .ok (.ldc_w is, 3)) (d7 : decode cc (pc + 7) = .ok (.invokespecial ic, 3)) (d10 : decode cc (pc + 10) = .ok (.athrow, 1))
    (hout : ∀ x ∈ c.exceptionTable.toList, covers x (pc + 10) = false)
    (hRframes : names.length + 3 < R.frames) (hRlocals : (rest.map fun v => v.category).sum + (13 * (names.length + 1) + 43) ≤ R.locals) (hRcells : cells + 1 ≤ R.cells) (hRslots : slots + 6 ≤ R.slots) (hlocks : meth.locks = false)
    (hx : ∀ t : State, s.vm.Alike t.vm → H.size ≤ t.heap.size → (∀ q : Nat, q < H.size → t.heap[q]? = H[q]?) → XC cls s t)
    (hf : ∀ z ∈ locs, free z.base) (hc : cells + 1 ≤ mc) (hs : slots + 6 ≤ ms) :
    W p l e R s m args below meth c H locs cells slots (vx_MQ below Qc XC args s mc ms free) (F0 m pc ls rest) := by
  intro T hT X
  have htr : e.platform.stackTraces = false := (show e.platform.stackTraces = l.stackTraces by rw [X.admits.platform]).trans hl
  have Y := vx_rebase X (R' := { frames := R.frames, locals := R.locals, cells := 1, slots := 6 }) (Nat.le_refl _) (Nat.le_refl _) hRcells hRslots
  obtain ⟨s', hA⟩ : ∃ z, z = (T.setVm s.vm).setFrames (.invoking m args :: below) := ⟨_, rfl⟩
  rw [← hA] at Y
  have hvm : s'.vm = s.vm := by rw [hA]; rfl
  have hhp : s'.heap = H := by rw [hA]; exact hT
  have hW0 : s.WarmedH s'.vm := by rw [hvm]; exact State.WarmedH.refl s
  have hat' : ∀ w ∈ vx_atS own ic cls names, w.before args s' = true := fun w hw => vx_ot_at hW0 hvm.symm (hgood w (List.mem_cons_of_mem _ (List.mem_cons_of_mem _ hw))) (hat w hw)
  have hk' : (Cond.classLink own ik cls).before args s' = true := vx_ot_at hW0 hvm.symm (hgood _ List.mem_cons_self) hk
  have hini' : (Cond.initialized cls).before args s' = true := vx_ot_at hW0 hvm.symm (hgood _ (List.mem_cons_of_mem _ List.mem_cons_self)) hini
  have hU' : vx_Zq Bundle.tN "UNASSIGNED_STACK" Bundle.steD A s' s'.heap := by rw [hhp]; exact vx_Zq.moved hW0.alike (hU.kept hS.2.1)
  have hN' : vx_Zq Bundle.tN "SUPPRESSED_SENTINEL" Bundle.listD A s' s'.heap := by rw [hhp]; exact vx_Zq.moved hW0.alike (hN.kept hS.2.1)
  have h : ∀ w ∈ Bundle.ownAtoms own ic cls names, w.before args s' = true := vx_own hat' (vx_isRefq hU'.1) (vx_isRefq hN'.1) hU'.2.word hN'.2.word
  have hown' : s'.vm.findClass own = some m.cls := by rw [hvm]; exact hown
  have hins : (Cond.instantiable cls 6).before args s' = true := h _ (by simp [Bundle.ownAtoms])
  obtain ⟨vm₁, cX, kX, hfX, hkX, -, -, X₁, st1⟩ := Y.newCold hexec (own := own) (C := cls) (index := ik) (n := 6) hown' hk' hins hini'
    (g := F0 m pc ls rest) rfl (by rw [hb]; exact d0) (Nat.le_refl _) (Nat.le_refl _)
  generalize hT1 : (T.setVm vm₁).pushCell { cls := cX, slots := kX.instanceTypes.map defaultValue, vm := .none } = T1 at X₁ st1
  have hcat : (Value.ref T.heap.size).category = 1 := rfl
  have hcellA : T1.heap[T.heap.size]? = some (freshCell cX kX) := by rw [← hT1]; exact State.heap_pushCell_size _ _
  have d3' : decode c.code (pc + 3) = .ok (.dup, 1) := by rw [hb]; exact d3
  have d4' : decode c.code (pc + 4) = .ok (.ldc_w is, 3) := by rw [hb]; exact d4
  have hstr' : vk_R own is text sa s' := vk_R.warm hW0 hstr
  obtain ⟨U, hsteps, hrun, hend, hW, hsame, ce, hce, hO⟩ := X₁.ctorThrowS hexec htr (own := own) (cls := cls) (names := names) (ic := ic) hown' hcls hnames h (fun x hx => nomatch hx) hfX hkX hcellA (by rw [hhp, hT]; exact Nat.le_refl _) (msg := .ref sa) rfl
    (g := { method := m, pc := pc + 7, locals := ls, stack := .ref sa :: .ref T.heap.size :: .ref T.heap.size :: rest, locked := none }) rfl hsize rfl rfl (rest := rest) rfl
    (by rw [hb]; exact d7) (by rw [hb]; exact d10) hout hRframes (by simp only [List.map_cons, List.sum_cons, hcat]; omega) hlocks
  obtain ⟨f1, f2⟩ := vx_frame hsame
  rw [hhp] at f1 f2
  have hWs : s.WarmedH U.vm := State.WarmedH.trans hW0 hW
  have hcl : s.vm.findClass cls = some ce.cls := by
    have h9 := hO.cls
    rw [hvm] at h9
    exact h9
  have hall : s.sameButNew ({ U with vm := s.vm } : State) locs mc ms := by
    subst hA
    obtain ⟨e1, e2⟩ := hsame
    rw [State.setFrames_setFrames] at e1
    have h2 : (T.setVm s.vm).sameButNew ({ U with vm := s.vm } : State) [] (0 + 1) (0 + 6) := ⟨e1, e2⟩
    have h3 := X.same.trans h2
    rw [List.append_nil] at h3
    exact h3.mono hc hs
  refine ⟨U, ?_, .threw T.heap.size, hrun, hend, Or.inr ⟨T.heap.size, rfl, cls, ce, locs, hx U hWs.alike f1 (fun q hq => f2 q hq (fun z hz => nomatch hz)), hce, hO.vm, hcl, hWs, hall, hf⟩⟩
  refine st1 _ ?_
  show Steps p.tables e below (T1.setTop { method := m, pc := pc + 3, locals := ls, stack := .ref T.heap.size :: rest, locked := none }) _
  jvm_step X₁.here [X₁.here.top, hexec, d3', Value.category]
  exact X₁.ldcStringW hexec (own := own) (text := text) (index := is) (a := sa) hown' hstr'.1 hstr'.2
    (g := { method := m, pc := pc + 4, locals := ls, stack := .ref T.heap.size :: .ref T.heap.size :: rest, locked := none }) rfl d4' _ hsteps
end Ends
section Bodies
variable {l : Launch}
theorem vx_ofW {y : MethodName} {ws ws' : List Cond} {rm : Room} {Pc : Array Value → State → Prop} {Qc : Array Value → State → Outcome → State → Prop} {XC : String → State → State → Prop} {mc ms : Nat} {free : Addr → Prop} {cc : ByteArray} {maxL : Nat} {ret : Option FieldType}
    (hy : plainName y.cls = true) (hw : ws = Cond.code y cc maxL ret :: ws')
    (body : ∀ p e s m args below meth c s₁, BodyLoose p l y (headSpec ws rm) cc maxL ret e s m args below meth c s₁ → c.maxLocals = maxL → (∀ x ∈ c.exceptionTable.toList, False) → Pc args s →
      W p l e (headSpec ws rm).room s m args below meth c s.heap [] 0 0 (vx_MQ below Qc XC args s mc ms free) (entryFrame m args maxL)) : vx_Met l y ws rm Pc Qc XC mc ms free := by
  refine MetFree.of_bodyS (code := cc) (maxLocals := maxL) (ret := ret) hy ?_ ?_
  · intro args s m h hn
    obtain ⟨meth, c, h1, h2, h3, h4, h5, h6, -, -⟩ := Cond.code_spec hn (atoms_spec (ws := ws) h _ (by rw [hw]; exact List.mem_cons_self))
    exact ⟨meth, c, h1, h2, h3, h4, h5, h6⟩
  · intro p e s m args below meth c s₁ B hml hP _
    have hh0 : s₁.heap = s.heap := by rw [B.state]; rfl
    have ht : ∀ x ∈ c.exceptionTable.toList, False := by
      obtain ⟨meth9, c9, h1, h2, -, -, -, -, h7, -⟩ := Cond.code_spec B.named (atoms_spec (ws := ws) B.pre _ (by rw [hw]; exact List.mem_cons_self))
      cases Option.some.inj (h1.symm.trans B.method)
      cases Option.some.inj (h2.symm.trans (Stand.of_body B).code)
      intro x hx
      rw [Array.isEmpty_iff.mp h7] at hx
      cases hx
    obtain ⟨t, a1, o, b1, b2, b3⟩ := body p e s m args below meth c s₁ B hml ht hP s₁ hh0 (Stand.of_body B)
    exact ⟨t, o, a1, b1, b2, b3⟩
/-- the table of a body with handlers -/
theorem vx_table {p : Program} {x y : MethodName} {S : Spec} {cc bytes : ByteArray} {maxL maxL' : Nat} {ret ret' : Option FieldType} {e : Env} {s s₁ : State} {m : MethodId} {args : Array Value} {below : List Frame} {meth : Method} {c : Code} {hh : List (Nat × Nat × Nat × Nat)}
    (B : BodyLoose p l y S cc maxL ret e s m args below meth c s₁) (h : (Cond.codeWith y bytes maxL' ret' hh).before args s = true) : c.exceptionTable.toList = tableOf hh := by
  obtain ⟨m9, meth9, c9, hn9, h1, h2, -, -, h6, -⟩ := Cond.codeWith_spec h
  cases Option.some.inj (hn9.symm.trans B.named)
  cases Option.some.inj (h1.symm.trans B.method)
  cases Option.some.inj (h2.symm.trans (Stand.of_body B).code)
  rw [← h6, table_eq]
end Bodies
end VXA
/-! ===== END ===== -/
/-! ===== BEGIN a static call of a method with an exception table ===== -/
section VXS
variable {p : Program} {l : Launch} {e : Env} {R : Room} {s : State} {m : MethodId} {args : Array Value} {below : List Frame} {meth : Method} {c : Code} {T : State} {H : Heap} {locs : List Loc} {cells slots : Nat}
abbrev vx_CSW (R : Room) (s : State) (args : Array Value) (own : String) (index : Nat) (y : MethodName) (bytes : ByteArray) (maxL : Nat) (ret : Option FieldType) (hh : List (Nat × Nat × Nat × Nat)) (ws : List Cond) (rm : Room) (mc ms n : Nat) : Prop :=
  (rm.cells = mc ∧ rm.slots = ms ∧ rm.frames + 1 ≤ R.frames ∧ 8 + (maxL + 11) + rm.locals ≤ R.locals ∧ (∀ w ∈ ws, ∀ (a' : Array Value) (U : State), s.WarmedH U.vm → w.before a' U = true) ∧ Cond.codeWith y bytes maxL ret hh ∈ ws) ∧
  (Cond.codeWith y bytes maxL ret hh).before args s = true ∧ (Cond.initialized y.cls).before args s = true ∧ (y.cls ≠ "java/lang/invoke/MethodHandle" ∧ y.cls ≠ "java/lang/invoke/VarHandle") ∧
  (∀ sig, parseMethodDescriptor y.desc = some sig → n = sig.parameters.length) ∧ (Cond.methodLink own index y).before args s = true ∧ (Cond.static y).before args s = true
theorem vx_cwSW {own : String} {index maxL mc ms : Nat} {y : MethodName} {bytes : ByteArray} {ret : Option FieldType} {hh : List (Nat × Nat × Nat × Nat)} {Ts ws ws' : List Cond} {rm : Room} (n : Nat) (ht : ∀ w ∈ Ts, w.before args s = true) (hT : GoodIn Ts (va_wsS own index y ws)) (hw : ws = Cond.codeWith y bytes maxL ret hh :: ws') (hrc : rm.cells = mc) (hrs : rm.slots = ms)
    (hd : y.cls ≠ "java/lang/invoke/MethodHandle" ∧ y.cls ≠ "java/lang/invoke/VarHandle" ∧ (parseMethodDescriptor y.desc).map (fun d => d.parameters.length) = some n) (hR : rm.frames + 1 ≤ R.frames ∧ 8 + (maxL + 11) + rm.locals ≤ R.locals) :
    vx_CSW R s args own index y bytes maxL ret hh ws rm mc ms n := by
  have ok : ∀ w ∈ va_wsS own index y ws, w.before args s = true := fun w h => ht w (hT w h).1
  have hG : GoodIn Ts ws := fun w h => hT w (by unfold va_wsS; exact List.mem_append_right _ h)
  have hc : Cond.codeWith y bytes maxL ret hh ∈ ws := by rw [hw]; exact List.mem_cons_self
  refine ⟨⟨hrc, hrs, hR.1, hR.2, pay_in ht hG, hc⟩, ht _ (hG _ hc).1, ok _ (by simp [va_wsS]), ⟨hd.1, hd.2.1⟩, fun sig h => ?_, ok _ (by simp [va_wsS]), ok _ (by simp [va_wsS])⟩
  have h2 := hd.2.2
  rw [h] at h2
  exact (Option.some.inj h2).symm
theorem vx_callSW (X : Stand p l e R s m args below meth c T locs cells slots) (hexec : p.tables.exec = Jvm.exec) {own : String} {index : Nat} {y : MethodName} {bytes : ByteArray} {maxL : Nat} {ret : Option FieldType} {hh : List (Nat × Nat × Nat × Nat)}
    (hown : s.vm.findClass own = some m.cls) (hlink : (Cond.methodLink own index y).before args s = true) (hstat : (Cond.static y).before args s = true) (hinit : (Cond.initialized y.cls).before args s = true)
    (hcode : (Cond.codeWith y bytes maxL ret hh).before args s = true) (hy : y.cls ≠ "java/lang/invoke/MethodHandle" ∧ y.cls ≠ "java/lang/invoke/VarHandle")
    {W9 : Nat} {Pre : Pt → Array Value → Prop} {Post : Pt → Array Value → Option Value → Pt → Prop} (hK : Back l R p e below s args y 3 W9 Pre Post)
    {g : JFrame} (hg : g.method = m) (hsize : g.locals.size = c.maxLocals) {argsL rest : List Value} (hlen : ∀ sig, parseMethodDescriptor y.desc = some sig → argsL.length = sig.parameters.length)
    (hstack : g.stack = argsL.reverse ++ rest) (hW : 2 * g.monitorRoom + (rest.map fun v => v.category).sum ≤ W9) (hdg : decode c.code g.pc = .ok (.invokestatic index, 3))
    (hpre : ∀ vm₁, s.WarmedH vm₁ → Pre ⟨T.setVm vm₁, locs, cells, slots⟩ argsL.toArray) :
    ∃ (v : Option Value) (vm₁ : Vm) (B : Pt), s.WarmedH vm₁ ∧ Stand p l e R s m args below meth c B.U B.locs B.cells B.slots ∧ Post ⟨T.setVm vm₁, locs, cells, slots⟩ argsL.toArray v B ∧
      ∀ target, Steps p.tables e below (B.U.setTop { g with pc := g.pc + 3, stack := v.toList ++ rest }) target → Steps p.tables e below (T.setTop g) target := by
  obtain ⟨mk, methM, cM, hnamed, hmethM, -, -, -, -, -, -, hsigM⟩ := Cond.codeWith_spec hcode
  have hstatic : methM.isStatic = true := Cond.static_spec hnamed hmethM hstat
  obtain ⟨kP, hkP, -⟩ := className_of_methodNamed hnamed
  have hinitP : kP.init = .initialized := Cond.initialized_spec (findClass_of_methodNamed hnamed) hkP hinit
  obtain ⟨vm₁, X₁, hstep₁⟩ := X.invokestatic hexec hown hlink hnamed hmethM hstatic hkP hinitP hy (g := g) hg (argsL := argsL) (rest := rest) (hlen _ hsigM) hstack hdg
  obtain ⟨v, B, X', hpost, hsteps⟩ := hK m meth c ⟨T.setVm vm₁, locs, cells, slots⟩ { g with stack := rest } (.invokestatic index) mk argsL.toArray X₁ hg hsize hdg hW (X₁.named hnamed) (hpre vm₁ X₁.warmed)
  exact ⟨v, vm₁, B, X₁.warmed, X', hpost, fun target h => hstep₁ _ fun acts => by rw [doInvoke_state]; exact hsteps.trans h⟩
theorem vx_runSW {y : MethodName} {bytes cc : ByteArray} {maxL nL mc ms n index : Nat} {ret : Option FieldType} {hh : List (Nat × Nat × Nat × Nat)} {ws : List Cond} {rm : Room} {Pc : Array Value → State → Prop} {Qc : Array Value → State → Outcome → State → Prop} {free : Addr → Prop} {Ts : List Cond} {own : String} {As rest : List Value} {g : JFrame}
    (S : CallFix p m c cc nL s args Ts own) (hM : Met l y ws rm Pc Qc mc ms free) (cw : vx_CSW R s args own index y bytes maxL ret hh ws rm mc ms n) (hp : PreS s H Pc As)
    (hg : g.method = m) (hn : As.length = n) (hsize : g.locals.size = nL) (hstack : g.stack = As.reverse ++ rest) (hW : 2 * g.monitorRoom + (rest.map fun v => v.category).sum ≤ 8) (hdg : decode cc g.pc = .ok (.invokestatic index, 3)) (hf : cells + mc ≤ R.cells ∧ slots + ms ≤ R.slots) :
    va_Run p l e R s m args below meth c H locs cells slots mc ms g rest (Qc As.toArray) (free) := by
  obtain ⟨⟨hrc, hrs, hfr, hlo, hws, hcw⟩, hcode, hini, hy, hlen, hl, hstt⟩ := cw
  have hK : Back l R p e below s args y 3 8 (PreOf R mc ms Pc) (PostOf Qc mc ms free) := va_backW (hh := hh) (bytes := bytes) (maxL := maxL) (ret := ret) hM hp.1 hrc hrs hfr hlo hws hcw (fun a' U hW => word_at hW (Or.inl (by first | rfl | simp [Cond.onTables, Cond.keeps, Cond.steady])) hini)
  obtain ⟨hx, hb, hml, ho, -⟩ := S
  intro T hT X
  obtain ⟨v, vm₁, ⟨U', l2, c2, s2⟩, hW₁, X', ⟨g', mk, t, L, e1, e2, hq, h1, hL, h2, h3⟩, st⟩ := vx_callSW X hx (hh := hh) (bytes := bytes) (maxL := maxL) (ret := ret) ho hl hstt hini hcode hy hK hg (hsize.trans hml.symm) (argsL := As) (rest := rest) (fun sig h => hn.trans (hlen sig h)) hstack hW (by rw [hb]; exact hdg)
    (fun vm₁ hW₁ => ⟨hf.1, hf.2, hp.2 (T.setVm vm₁) hT hW₁⟩)
  dsimp only [Pt.U, Pt.locs, Pt.cells, Pt.slots] at X' e1 e2 h1 h2 h3 st
  subst h1; subst h2; subst h3
  exact ⟨v, (T.setVm vm₁).calling g' mk As.toArray, t, U', L, hT, X', hL, e1, e2, hq, st⟩
/-- not caught here, past rows that name other classes: it goes on to the caller -/
theorem vx_outP {p : Program} {l : Launch} {e : Env} {R : Room} {s : State} {m : MethodId} {args : Array Value} {below : List Frame} {meth : Method} {c : Code} {H : Heap} {locs : List Loc} {cells slots : Nat} {free : Addr → Prop} {ls : Array Slot} {rest : List Value} {Qc : Array Value → State → Outcome → State → Prop} {XC : String → State → State → Prop}
    {pc : Nat} {own E : String} {ce : Cell} {q : Addr} {mc ms : Nat} (hown : s.vm.findClass own = some m.cls) (hlocks : meth.locks = false)
    (hpass : ∀ z ∈ c.exceptionTable.toList, covers z pc = false ∨ (z.catchType ≠ 0 ∧ ∃ nm : String, (Cond.classLink own z.catchType nm).before args s = true ∧ va_Nc E nm s)) (hcell : H[q]? = some ce) (hv : ce.vm = .none) (hcl : s.vm.findClass E = some ce.cls)
    (hx : ∀ t : State, t.heap = H → s.vm.Alike t.vm → XC E s t) (hf : ∀ z ∈ locs, free z.base) (hc : cells ≤ mc) (hs : slots ≤ ms) :
    vx_W p l e R s m args below meth c H locs cells slots (vx_MQ below Qc XC args s mc ms free) (F0 m pc ls rest) q := by
  intro T hT X
  have hpl : e.platform.magicAccessors = ({} : Platform).magicAccessors := by rw [X.admits.platform]
  obtain ⟨vm', hW', X', st⟩ := X.outThrough hlocks q (g := F0 m pc ls rest) rfl rfl rfl (cell := ce) (by rw [hT]; exact hcell) (by rw [hv]; rfl)
    (by obtain ⟨k9, h9, -⟩ := Vm.findClass_spec hcl; exact ⟨k9, h9⟩) (fun z hz => by
      rcases hpass z hz with h | ⟨hz0, nm, hl1, hn1⟩
      · exact Or.inl h
      · obtain ⟨c6, hc6, hcl6⟩ := Cond.classLink_spec hown hl1 e.platform hpl
        obtain ⟨a8, b8, h1, h2, h3⟩ := hn1
        cases Option.some.inj (h1.symm.trans hcl)
        cases Option.some.inj (h2.symm.trans hc6)
        exact Or.inr ⟨hz0, _, hcl6, h3⟩)
  obtain ⟨g₀, hfr⟩ := X'.frames_eq
  have hcell9 : ((T.setVm vm').setFrames (.throwing q :: below)).heap[q]? = some ce := by
    show T.heap[q]? = some ce
    rw [hT]; exact hcell
  have hend : Ended ((T.setVm vm').setFrames (.throwing q :: below)) below (.threw q) := State.frames_setFrames _ (State.cur_lt_of_frames hfr)
  refine ⟨(T.setVm vm').setFrames (.throwing q :: below), ?_, .threw q, X'.here.running, hend, Or.inr ⟨q, rfl, E, ce, locs, hx _ hT (X'.ends _).1.alike, hcell9, hv, hcl, (X'.ends _).1, (X'.ends _).2.mono hc hs, hf⟩⟩
  rw [X.pushThrowing_eq]
  exact st
/-- a thing of a world lies in the heap -/
theorem vx_lt {D : va_G} {cl : List vw_C} {ws : va_W} {H1 : Heap} (h : va_P D cl ws H1) {k : Nat} {q : Nat × va_E} (hk : ws[k]? = some q) : q.1 < H1.size := (h k q hk).lt
end VXS
/-! ===== END ===== -/
/-! ===== BEGIN methods with a table of their own: called by a name, returning or throwing ===== -/
section VXH
/-! vx_backW, vx_callVX, vx_callSX, vx_callVW, vx_runVW, vx_runVX, vx_runSX, vx_ofWH follow the same proofs as their sisters above (Free/Laws.lean, Shelf42/LK1.lean); vx_outP calls Shelf42/NT130.lean (outThrough). -/
section
variable {l : Launch} {R : Room} {p : Program} {e : Env} {below : List Frame} {s : State} {sargs : Array Value} {y : MethodName} {len W9 : Nat}
theorem vx_backW {ws : List Cond} {rm : Room} {Pc : Array Value → State → Prop} {Qc : Array Value → State → Outcome → State → Prop} {XC : String → State → State → Prop} {mc ms : Nat} {free : Addr → Prop} {bytes : ByteArray} {maxL : Nat} {ret : Option FieldType} {hh : List (Nat × Nat × Nat × Nat)}
    (hM : vx_Met l y ws rm Pc Qc XC mc ms free) (hblind : FrameBlind Pc) (hrc : rm.cells = mc) (hrs : rm.slots = ms)
    (hframes : rm.frames + 1 ≤ R.frames) (hlocals : W9 + (maxL + 11) + rm.locals ≤ R.locals)
    (hws : ∀ w ∈ ws, ∀ a' U, s.WarmedH U.vm → w.before a' U = true) (hcode : Cond.codeWith y bytes maxL ret hh ∈ ws) (hinit : ∀ a' U, s.WarmedH U.vm → (Cond.initialized y.cls).before a' U = true) :
    vx_Back l R p e below s sargs y len W9 (PreOf R mc ms Pc) (PostOf Qc mc ms free) (vx_Post XC mc ms free) := by
  intro m meth c A g ig mk a X hg hsize hdg hW hn hp
  have h1 : (headSpec ws rm).pre.before a A.U = true := atoms_intro fun w hw => hws w hw _ _ X.warmed
  have h2 : (Cond.codeWith y bytes maxL ret hh).before a A.U = true := hws _ hcode _ _ X.warmed
  have h3 : (Cond.initialized y.cls).before a A.U = true := hinit _ _ X.warmed
  have h4 : A.cells + (headSpec ws rm).room.cells ≤ R.cells := by rw [show (headSpec ws rm).room.cells = mc from hrc]; exact hp.1
  have h5 : A.slots + (headSpec ws rm).room.slots ≤ R.slots := by rw [show (headSpec ws rm).room.slots = ms from hrs]; exact hp.2.1
  have hPc : Pc a (A.U.calling g mk a) := hblind _ _ _ _ hp.2.2
  obtain ⟨U, Ls, c0, s0⟩ := A
  dsimp only [Pt.U, Pt.locs, Pt.cells, Pt.slots] at h1 h2 h3 h4 h5 X hn hPc ⊢
  obtain ⟨m9, methY, cY, hn9, hmY, hcY, -, hlY, -⟩ := Cond.codeWith_spec h2
  cases Option.some.inj (hn9.symm.trans hn)
  obtain ⟨kY, hkY, -⟩ := className_of_methodNamed hn
  have hinitY : kY.init = .initialized := Cond.initialized_spec (findClass_of_methodNamed hn) hkY h3
  have h : At U g.method c below := by rw [hg]; exact X.here
  have hlocals9 : W9 + (maxL + 11) + (headSpec ws rm).room.locals ≤ R.locals := hlocals
  have happ : (headSpec ws rm).appliesLoose y e.platform (U.calling g mk a) = true :=
    Spec.appliesLoose_calling (g := g) h hdg hn hkY hinitY
      (X.room_calling (g := g) (R' := (headSpec ws rm).room) hsize hmY hcY hframes (by rw [hlY]; omega) h4 h5) h1
  obtain ⟨mid, hmid⟩ := h.above
  have hfr : (U.setTop g).frames = (.java g :: mid) ++ below := by rw [State.frames_setTop' g h.top, hmid]; rfl
  obtain ⟨o, s₂, hsteps, -, hend, hq⟩ := Steps.callFree hM p X.admits X.cas X.clock (acts := []) hfr happ hPc trivial
  have hq' : vx_Q Qc XC mc ms free a (U.calling g mk a) o s₂ := hq
  rw [State.frames_setTop' g h.top] at hend
  obtain ⟨g₀, hg0⟩ := Option.isSome_iff_exists.mp h.top
  obtain ⟨r, hr⟩ := State.topJava?_eq_some.mp hg0
  have hr' : (({ U with heap := s₂.heap, slotsUsed := s₂.slotsUsed } : State).setVm s₂.vm).frames = .java g₀ :: r := hr
  rcases hq' with ⟨hqc, L, hfe, hL⟩ | ⟨q, rfl, E, ce, L, hx, hce, hcv, hcl, hW₂, hsm, hL⟩
  · obtain ⟨⟨v, rfl⟩, hW₂, e2, q2, q3, q4, q5, q6⟩ := id hfe
    have e3 : s₂ = ({ (U.calling g mk a).setFrames s₂.frames with heap := s₂.heap, slotsUsed := s₂.slotsUsed } : State).setVm s₂.vm := by
      have : s₂ = ({ s₂ with vm := (U.calling g mk a).vm } : State).setVm s₂.vm := rfl
      rw [e2] at this
      exact this
    obtain ⟨c₂, i₂, len₂, hc₂, hd₂, hf₂⟩ := hend
    have hW' : U.WarmedH s₂.vm := hW₂
    have hcc : c₂ = c := by
      have h1 : s₂.code? g.method = U.code? g.method := by
        rw [State.code?_eq, State.code?_eq, hW'.alike.method?]
      exact Option.some.inj (hc₂.symm.trans (h1.trans h.code))
    subst hcc
    have hlen : len₂ = len := by rw [hdg] at hd₂; cases hd₂; rfl
    subst hlen
    have hs₂ : s₂ = (({ U with heap := s₂.heap, slotsUsed := s₂.slotsUsed } : State).setVm s₂.vm).setTop { g with pc := g.pc + len₂, stack := v.toList ++ g.stack } := by
      refine e3.trans ?_
      rw [hf₂, State.calling_eq h.top, State.setFrames_setFrames, State.setTop_of_frames _ hr', hr]
      rfl
    have hsame : U.sameButNew ({ U with heap := s₂.heap, slotsUsed := s₂.slotsUsed } : State) L mc ms := by
      refine ⟨?_, q2, q3, q4, q5, q6⟩
      obtain ⟨t, ht, -⟩ := State.frames_cons hr
      show ({ U with heap := s₂.heap, slotsUsed := s₂.slotsUsed } : State) = { U.setFrames U.frames with heap := s₂.heap, slotsUsed := s₂.slotsUsed }
      rw [State.setFrames_self ht]
    subst hg
    refine Or.inl ⟨v, ⟨(({ U with heap := s₂.heap, slotsUsed := s₂.slotsUsed } : State).setVm s₂.vm), Ls ++ L, c0 + mc, s0 + ms⟩,
      ⟨X.admits, X.cas, X.clock, X.frames, X.room, X.hears, X.method, X.code, (X.here.setHeapUsed s₂.heap s₂.slotsUsed).setVm hW'.alike, X.tail, State.WarmedH.trans X.warmed hW', X.limits, X.bytes, X.same.trans (hsame.setVm s.vm)⟩,
      ⟨g, mk, s₂, L, rfl, rfl, hqc, rfl, hL, rfl, rfl⟩, ?_⟩
    show Steps p.tables e below _ ((({ U with heap := s₂.heap, slotsUsed := s₂.slotsUsed } : State).setVm s₂.vm).setTop { g with pc := g.pc + len₂, stack := v.toList ++ g.stack })
    rw [← hs₂]
    exact hsteps
  · obtain ⟨e2, q2, q3, q4, q5, q6⟩ := id hsm
    have e3 : s₂ = ({ (U.calling g mk a).setFrames s₂.frames with heap := s₂.heap, slotsUsed := s₂.slotsUsed } : State).setVm s₂.vm := by
      have : s₂ = ({ s₂ with vm := (U.calling g mk a).vm } : State).setVm s₂.vm := rfl
      rw [e2] at this
      exact this
    have hf₂ : s₂.frames = .throwing q :: .java g :: U.frames.tail := hend
    have hW' : U.WarmedH s₂.vm := hW₂
    have hs₂ : s₂ = ((({ U with heap := s₂.heap, slotsUsed := s₂.slotsUsed } : State).setVm s₂.vm).setTop g).pushFrame (.throwing q) := by
      refine e3.trans ?_
      rw [hf₂, State.calling_eq h.top, State.setFrames_setFrames, State.pushFrame, State.frames_setTop _ hr', State.setTop_of_frames _ hr', State.setFrames_setFrames, hr]
      rfl
    have hsame : U.sameButNew ({ U with heap := s₂.heap, slotsUsed := s₂.slotsUsed } : State) L mc ms := by
      refine ⟨?_, q2, q3, q4, q5, q6⟩
      obtain ⟨t, ht, -⟩ := State.frames_cons hr
      show ({ U with heap := s₂.heap, slotsUsed := s₂.slotsUsed } : State) = { U.setFrames U.frames with heap := s₂.heap, slotsUsed := s₂.slotsUsed }
      rw [State.setFrames_self ht]
    subst hg
    refine Or.inr ⟨q, ⟨(({ U with heap := s₂.heap, slotsUsed := s₂.slotsUsed } : State).setVm s₂.vm), Ls ++ L, c0 + mc, s0 + ms⟩,
      ⟨X.admits, X.cas, X.clock, X.frames, X.room, X.hears, X.method, X.code, (X.here.setHeapUsed s₂.heap s₂.slotsUsed).setVm hW'.alike, X.tail, State.WarmedH.trans X.warmed hW', X.limits, X.bytes, X.same.trans (hsame.setVm s.vm)⟩,
      ⟨g, mk, s₂, L, E, ce, rfl, rfl, hx, hce, hcv, hcl, rfl, hL, rfl, rfl⟩, ?_⟩
    show Steps p.tables e below _ (((({ U with heap := s₂.heap, slotsUsed := s₂.slotsUsed } : State).setVm s₂.vm).setTop g).pushFrame (.throwing q))
    rw [← hs₂]
    exact hsteps
end
variable {p : Program} {l : Launch} {e : Env} {R : Room} {s : State} {m : MethodId} {args : Array Value} {below : List Frame} {meth : Method} {c : Code} {T : State} {H : Heap} {locs : List Loc} {cells slots : Nat}
theorem vx_callVX (X : Stand p l e R s m args below meth c T locs cells slots) (hexec : p.tables.exec = Jvm.exec) {own C : String} {index : Nat} {y : MethodName} {bytes : ByteArray} {maxL : Nat} {ret : Option FieldType} {hh : List (Nat × Nat × Nat × Nat)}
    (hown : s.vm.findClass own = some m.cls) (hlink : (Cond.methodLink own index y).before args s = true) (hinst : (Cond.instanceMethod y).before args s = true) (hsel : (Cond.selects C y y).before args s = true)
    (hcode : (Cond.codeWith y bytes maxL ret hh).before args s = true) (hy : y.cls ≠ "java/lang/invoke/MethodHandle" ∧ y.cls ≠ "java/lang/invoke/VarHandle")
    {W9 : Nat} {Pre : Pt → Array Value → Prop} {Post : Pt → Array Value → Option Value → Pt → Prop} {PostX : Pt → Array Value → Addr → Pt → Prop} (hK : vx_Back l R p e below s args y 3 W9 Pre Post PostX)
    {b : Addr} {cellB : Cell} (hcell : T.heap[b]? = some cellB) (hobj : cellB.vm.isStatics = false) (hcls : s.vm.findClass C = some cellB.cls)
    {g : JFrame} (hg : g.method = m) (hsize : g.locals.size = c.maxLocals) {argsL rest : List Value} (hlen : ∀ sig, parseMethodDescriptor y.desc = some sig → argsL.length = sig.parameters.length)
    (hstack : g.stack = argsL.reverse ++ .ref b :: rest) (hW : 2 * g.monitorRoom + (rest.map fun v => v.category).sum ≤ W9) (hdg : decode c.code g.pc = .ok (.invokevirtual index, 3))
    (hpre : ∀ vm₁, s.WarmedH vm₁ → Pre ⟨T.setVm vm₁, locs, cells, slots⟩ (Value.ref b :: argsL).toArray) :
    (∃ (v : Option Value) (vm₁ : Vm) (B : Pt), s.WarmedH vm₁ ∧ Stand p l e R s m args below meth c B.U B.locs B.cells B.slots ∧ Post ⟨T.setVm vm₁, locs, cells, slots⟩ (Value.ref b :: argsL).toArray v B ∧
      ∀ target, Steps p.tables e below (B.U.setTop { g with pc := g.pc + 3, stack := v.toList ++ rest }) target → Steps p.tables e below (T.setTop g) target) ∨
    (∃ (q : Addr) (vm₁ : Vm) (B : Pt), s.WarmedH vm₁ ∧ Stand p l e R s m args below meth c B.U B.locs B.cells B.slots ∧ PostX ⟨T.setVm vm₁, locs, cells, slots⟩ (Value.ref b :: argsL).toArray q B ∧
      Steps p.tables e below (T.setTop g) ((B.U.setTop { g with stack := rest }).pushFrame (.throwing q))) := by
  obtain ⟨mk, methM, hnamed, hmethM, hstM, habM⟩ := Cond.instanceMethod_spec hinst
  obtain ⟨m8, methM', cM, hn8, hmethM', -, -, -, -, -, -, hsigM⟩ := Cond.codeWith_spec hcode
  cases Option.some.inj (hn8.symm.trans hnamed)
  cases hmethM.symm.trans hmethM'
  obtain ⟨c2, r2, m2, q1, q2, q3, q4, kP, hkP, hkPi⟩ := Cond.selects_spec hsel
  cases hcls.symm.trans q1
  cases (State.methodFound?_of_named hnamed hy).symm.trans q2
  cases hnamed.symm.trans q3
  have hselP : selectMethod e.platform s.vm cellB.cls mk = .method mk := by rw [Launch.admits_selectMethod X.admits]; exact q4
  obtain ⟨vm₁, X₁, hstep₁⟩ := X.invokevirtual hexec hown hlink hnamed hmethM hstM hkP hkPi hy (a := b) (cell := cellB) hcell
    (fun z h => by rw [h] at hobj; cases hobj) hselP hmethM habM hkP hkPi (g := g) hg (argsL := argsL) (rest := rest) (hlen _ hsigM) hstack hdg
  rcases hK m meth c ⟨T.setVm vm₁, locs, cells, slots⟩ { g with stack := rest } (.invokevirtual index) mk (Value.ref b :: argsL).toArray X₁ hg hsize hdg hW (X₁.named hnamed) (hpre vm₁ X₁.warmed) with ⟨v, B, X', hpost, hsteps⟩ | ⟨q, B, X', hpost, hsteps⟩
  · exact Or.inl ⟨v, vm₁, B, X₁.warmed, X', hpost, fun target h => hstep₁ _ fun acts => by rw [doInvoke_state]; exact hsteps.trans h⟩
  · exact Or.inr ⟨q, vm₁, B, X₁.warmed, X', hpost, hstep₁ _ fun acts => by rw [doInvoke_state]; exact hsteps⟩
theorem vx_callSX (X : Stand p l e R s m args below meth c T locs cells slots) (hexec : p.tables.exec = Jvm.exec) {own : String} {index : Nat} {y : MethodName} {bytes : ByteArray} {maxL : Nat} {ret : Option FieldType} {hh : List (Nat × Nat × Nat × Nat)}
    (hown : s.vm.findClass own = some m.cls) (hlink : (Cond.methodLink own index y).before args s = true) (hstat : (Cond.static y).before args s = true) (hinit : (Cond.initialized y.cls).before args s = true)
    (hcode : (Cond.codeWith y bytes maxL ret hh).before args s = true) (hy : y.cls ≠ "java/lang/invoke/MethodHandle" ∧ y.cls ≠ "java/lang/invoke/VarHandle")
    {W9 : Nat} {Pre : Pt → Array Value → Prop} {Post : Pt → Array Value → Option Value → Pt → Prop} {PostX : Pt → Array Value → Addr → Pt → Prop} (hK : vx_Back l R p e below s args y 3 W9 Pre Post PostX)
    {g : JFrame} (hg : g.method = m) (hsize : g.locals.size = c.maxLocals) {argsL rest : List Value} (hlen : ∀ sig, parseMethodDescriptor y.desc = some sig → argsL.length = sig.parameters.length)
    (hstack : g.stack = argsL.reverse ++ rest) (hW : 2 * g.monitorRoom + (rest.map fun v => v.category).sum ≤ W9) (hdg : decode c.code g.pc = .ok (.invokestatic index, 3))
    (hpre : ∀ vm₁, s.WarmedH vm₁ → Pre ⟨T.setVm vm₁, locs, cells, slots⟩ argsL.toArray) :
    (∃ (v : Option Value) (vm₁ : Vm) (B : Pt), s.WarmedH vm₁ ∧ Stand p l e R s m args below meth c B.U B.locs B.cells B.slots ∧ Post ⟨T.setVm vm₁, locs, cells, slots⟩ argsL.toArray v B ∧
      ∀ target, Steps p.tables e below (B.U.setTop { g with pc := g.pc + 3, stack := v.toList ++ rest }) target → Steps p.tables e below (T.setTop g) target) ∨
    (∃ (q : Addr) (vm₁ : Vm) (B : Pt), s.WarmedH vm₁ ∧ Stand p l e R s m args below meth c B.U B.locs B.cells B.slots ∧ PostX ⟨T.setVm vm₁, locs, cells, slots⟩ argsL.toArray q B ∧
      Steps p.tables e below (T.setTop g) ((B.U.setTop { g with stack := rest }).pushFrame (.throwing q))) := by
  obtain ⟨mk, methM, cM, hnamed, hmethM, -, -, -, -, -, -, hsigM⟩ := Cond.codeWith_spec hcode
  have hstatic : methM.isStatic = true := Cond.static_spec hnamed hmethM hstat
  obtain ⟨kP, hkP, -⟩ := className_of_methodNamed hnamed
  have hinitP : kP.init = .initialized := Cond.initialized_spec (findClass_of_methodNamed hnamed) hkP hinit
  obtain ⟨vm₁, X₁, hstep₁⟩ := X.invokestatic hexec hown hlink hnamed hmethM hstatic hkP hinitP hy (g := g) hg (argsL := argsL) (rest := rest) (hlen _ hsigM) hstack hdg
  rcases hK m meth c ⟨T.setVm vm₁, locs, cells, slots⟩ { g with stack := rest } (.invokestatic index) mk argsL.toArray X₁ hg hsize hdg hW (X₁.named hnamed) (hpre vm₁ X₁.warmed) with ⟨v, B, X', hpost, hsteps⟩ | ⟨q, B, X', hpost, hsteps⟩
  · exact Or.inl ⟨v, vm₁, B, X₁.warmed, X', hpost, fun target h => hstep₁ _ fun acts => by rw [doInvoke_state]; exact hsteps.trans h⟩
  · exact Or.inr ⟨q, vm₁, B, X₁.warmed, X', hpost, hstep₁ _ fun acts => by rw [doInvoke_state]; exact hsteps⟩
theorem vx_callVW (X : Stand p l e R s m args below meth c T locs cells slots) (hexec : p.tables.exec = Jvm.exec) {own C : String} {index : Nat} {y : MethodName} {bytes : ByteArray} {maxL : Nat} {ret : Option FieldType} {hh : List (Nat × Nat × Nat × Nat)}
    (hown : s.vm.findClass own = some m.cls) (hlink : (Cond.methodLink own index y).before args s = true) (hinst : (Cond.instanceMethod y).before args s = true) (hsel : (Cond.selects C y y).before args s = true)
    (hcode : (Cond.codeWith y bytes maxL ret hh).before args s = true) (hy : y.cls ≠ "java/lang/invoke/MethodHandle" ∧ y.cls ≠ "java/lang/invoke/VarHandle")
    {W9 : Nat} {Pre : Pt → Array Value → Prop} {Post : Pt → Array Value → Option Value → Pt → Prop} (hK : Back l R p e below s args y 3 W9 Pre Post)
    {b : Addr} {cellB : Cell} (hcell : T.heap[b]? = some cellB) (hobj : cellB.vm.isStatics = false) (hcls : s.vm.findClass C = some cellB.cls)
    {g : JFrame} (hg : g.method = m) (hsize : g.locals.size = c.maxLocals) {argsL rest : List Value} (hlen : ∀ sig, parseMethodDescriptor y.desc = some sig → argsL.length = sig.parameters.length)
    (hstack : g.stack = argsL.reverse ++ .ref b :: rest) (hW : 2 * g.monitorRoom + (rest.map fun v => v.category).sum ≤ W9) (hdg : decode c.code g.pc = .ok (.invokevirtual index, 3))
    (hpre : ∀ vm₁, s.WarmedH vm₁ → Pre ⟨T.setVm vm₁, locs, cells, slots⟩ (Value.ref b :: argsL).toArray) :
    ∃ (v : Option Value) (vm₁ : Vm) (B : Pt), s.WarmedH vm₁ ∧ Stand p l e R s m args below meth c B.U B.locs B.cells B.slots ∧ Post ⟨T.setVm vm₁, locs, cells, slots⟩ (Value.ref b :: argsL).toArray v B ∧
      ∀ target, Steps p.tables e below (B.U.setTop { g with pc := g.pc + 3, stack := v.toList ++ rest }) target → Steps p.tables e below (T.setTop g) target := by
  obtain ⟨mk, methM, hnamed, hmethM, hstM, habM⟩ := Cond.instanceMethod_spec hinst
  obtain ⟨m8, methM', cM, hn8, hmethM', -, -, -, -, -, -, hsigM⟩ := Cond.codeWith_spec hcode
  cases Option.some.inj (hn8.symm.trans hnamed)
  cases hmethM.symm.trans hmethM'
  obtain ⟨c2, r2, m2, q1, q2, q3, q4, kP, hkP, hkPi⟩ := Cond.selects_spec hsel
  cases hcls.symm.trans q1
  cases (State.methodFound?_of_named hnamed hy).symm.trans q2
  cases hnamed.symm.trans q3
  have hselP : selectMethod e.platform s.vm cellB.cls mk = .method mk := by rw [Launch.admits_selectMethod X.admits]; exact q4
  obtain ⟨vm₁, X₁, hstep₁⟩ := X.invokevirtual hexec hown hlink hnamed hmethM hstM hkP hkPi hy (a := b) (cell := cellB) hcell
    (fun z h => by rw [h] at hobj; cases hobj) hselP hmethM habM hkP hkPi (g := g) hg (argsL := argsL) (rest := rest) (hlen _ hsigM) hstack hdg
  obtain ⟨v, B, X', hpost, hsteps⟩ := hK m meth c ⟨T.setVm vm₁, locs, cells, slots⟩ { g with stack := rest } (.invokevirtual index) mk (Value.ref b :: argsL).toArray X₁ hg hsize hdg hW (X₁.named hnamed) (hpre vm₁ X₁.warmed)
  exact ⟨v, vm₁, B, X₁.warmed, X', hpost, fun target h => hstep₁ _ fun acts => by rw [doInvoke_state]; exact hsteps.trans h⟩
abbrev vx_CVW (R : Room) (s : State) (args : Array Value) (own C : String) (index : Nat) (y : MethodName) (bytes : ByteArray) (maxL : Nat) (ret : Option FieldType) (hh : List (Nat × Nat × Nat × Nat)) (ws : List Cond) (rm : Room) (mc ms n : Nat) : Prop :=
  (rm.cells = mc ∧ rm.slots = ms ∧ rm.frames + 1 ≤ R.frames ∧ 8 + (maxL + 11) + rm.locals ≤ R.locals ∧ (∀ w ∈ ws, ∀ (a' : Array Value) (U : State), s.WarmedH U.vm → w.before a' U = true) ∧ Cond.codeWith y bytes maxL ret hh ∈ ws) ∧
  (Cond.codeWith y bytes maxL ret hh).before args s = true ∧ (Cond.initialized y.cls).before args s = true ∧ (y.cls ≠ "java/lang/invoke/MethodHandle" ∧ y.cls ≠ "java/lang/invoke/VarHandle") ∧
  (∀ sig, parseMethodDescriptor y.desc = some sig → n = sig.parameters.length) ∧ (Cond.methodLink own index y).before args s = true ∧ (Cond.instanceMethod y).before args s = true ∧ (Cond.selects C y y).before args s = true
theorem vx_cwVW {own C : String} {index maxL mc ms : Nat} {y : MethodName} {bytes : ByteArray} {ret : Option FieldType} {hh : List (Nat × Nat × Nat × Nat)} {Ts ws ws' : List Cond} {rm : Room} (n : Nat) (ht : ∀ w ∈ Ts, w.before args s = true) (hT : GoodIn Ts (wsV own index C y ws)) (hw : ws = Cond.codeWith y bytes maxL ret hh :: ws') (hrc : rm.cells = mc) (hrs : rm.slots = ms)
    (hd : y.cls = C ∧ y.cls ≠ "java/lang/invoke/MethodHandle" ∧ y.cls ≠ "java/lang/invoke/VarHandle" ∧ (parseMethodDescriptor y.desc).map (fun d => d.parameters.length) = some n) (hR : rm.frames + 1 ≤ R.frames ∧ 8 + (maxL + 11) + rm.locals ≤ R.locals) :
    vx_CVW R s args own C index y bytes maxL ret hh ws rm mc ms n := by
  obtain ⟨hC, hd⟩ := hd
  subst hC
  have ok : ∀ w ∈ wsV own index y.cls y ws, w.before args s = true := fun w h => ht w (hT w h).1
  have hG : GoodIn Ts ws := fun w h => hT w (by unfold wsV; exact List.mem_append_right _ h)
  have hc : Cond.codeWith y bytes maxL ret hh ∈ ws := by rw [hw]; exact List.mem_cons_self
  refine ⟨⟨hrc, hrs, hR.1, hR.2, pay_in ht hG, hc⟩, ht _ (hG _ hc).1, ok _ (by simp [wsV]), ⟨hd.1, hd.2.1⟩, fun sig h => ?_, ok _ (by simp [wsV]), ok _ (by simp [wsV]), ok _ (by simp [wsV])⟩
  have h2 := hd.2.2
  rw [h] at h2
  exact (Option.some.inj h2).symm
theorem vx_runVW {y : MethodName} {bytes cc : ByteArray} {maxL nL mc ms n index : Nat} {ret : Option FieldType} {hh : List (Nat × Nat × Nat × Nat)} {ws : List Cond} {rm : Room} {Pc : Array Value → State → Prop} {Qc : Array Value → State → Outcome → State → Prop} {free : Addr → Prop} {Ts : List Cond} {own C : String} {b : Addr} {As rest : List Value} {g : JFrame}
    (S : CallFix p m c cc nL s args Ts own) (hM : Met l y ws rm Pc Qc mc ms free) (cw : vx_CVW R s args own C index y bytes maxL ret hh ws rm mc ms n) (hp : PreV s H C b Pc As)
    (hg : g.method = m) (hn : As.length = n) (hsize : g.locals.size = nL) (hstack : g.stack = As.reverse ++ .ref b :: rest) (hW : 2 * g.monitorRoom + (rest.map fun v => v.category).sum ≤ 8) (hdg : decode cc g.pc = .ok (.invokevirtual index, 3)) (hf : cells + mc ≤ R.cells ∧ slots + ms ≤ R.slots) :
    va_Run p l e R s m args below meth c H locs cells slots mc ms g rest (Qc (Value.ref b :: As).toArray) free := by
  obtain ⟨⟨hrc, hrs, hfr, hlo, hws, hcw⟩, hcode, hini, hy, hlen, hl, hin, hse⟩ := cw
  have hK : Back l R p e below s args y 3 8 (PreOf R mc ms Pc) (PostOf Qc mc ms free) := va_backW (hh := hh) (bytes := bytes) (maxL := maxL) (ret := ret) hM hp.1 hrc hrs hfr hlo hws hcw (fun a' U hW => word_at hW (Or.inl (by first | rfl | simp [Cond.onTables, Cond.keeps, Cond.steady])) hini)
  obtain ⟨hx, hb, hml, ho, -⟩ := S
  obtain ⟨-, ⟨cellB, hcB, hoB, hclB⟩, hPc⟩ := hp
  intro T hT X
  obtain ⟨v, vm₁, ⟨U', l2, c2, s2⟩, hW₁, X', ⟨g', mk, t, L, e1, e2, hq, h1, hL, h2, h3⟩, st⟩ := vx_callVW X hx (C := C) (hh := hh) (bytes := bytes) (maxL := maxL) (ret := ret) ho hl hin hse hcode hy hK (by rw [hT]; exact hcB) hoB hclB hg (hsize.trans hml.symm) (argsL := As) (rest := rest) (fun sig h => hn.trans (hlen sig h)) hstack hW (by rw [hb]; exact hdg)
    (fun vm₁ hW₁ => ⟨hf.1, hf.2, hPc (T.setVm vm₁) hT hW₁⟩)
  dsimp only [Pt.U, Pt.locs, Pt.cells, Pt.slots] at X' e1 e2 h1 h2 h3 st
  subst h1; subst h2; subst h3
  exact ⟨v, (T.setVm vm₁).calling g' mk (Value.ref b :: As).toArray, t, U', L, hT, X', hL, e1, e2, hq, st⟩
section
variable {y : MethodName} {bytes cc : ByteArray} {maxL nL mc ms n index : Nat} {ret : Option FieldType} {ws : List Cond} {rm : Room} {Pc : Array Value → State → Prop} {Qc : Array Value → State → Outcome → State → Prop} {XC : String → State → State → Prop} {free : Addr → Prop} {Ts : List Cond} {own C : String} {b : Addr} {As rest : List Value} {g : JFrame}
theorem vx_runVX {hh : List (Nat × Nat × Nat × Nat)} (S : CallFix p m c cc nL s args Ts own) (hM : vx_Met l y ws rm Pc Qc XC mc ms free) (cw : vx_CVW R s args own C index y bytes maxL ret hh ws rm mc ms n) (hp : PreV s H C b Pc As)
    (hg : g.method = m) (hn : As.length = n) (hsize : g.locals.size = nL) (hstack : g.stack = As.reverse ++ .ref b :: rest) (hW : 2 * g.monitorRoom + (rest.map fun v => v.category).sum ≤ 8) (hdg : decode cc g.pc = .ok (.invokevirtual index, 3)) (hf : cells + mc ≤ R.cells ∧ slots + ms ≤ R.slots) :
    vx_Run p l e R s m args below meth c H locs cells slots mc ms g rest (Qc (Value.ref b :: As).toArray) XC free := by
  obtain ⟨⟨hrc, hrs, hfr, hlo, hws, hcw⟩, hcode, hini, hy, hlen, hl, hin, hse⟩ := cw
  have hK : vx_Back l R p e below s args y 3 8 (PreOf R mc ms Pc) (PostOf Qc mc ms free) (vx_Post XC mc ms free) := vx_backW (hh := hh) (bytes := bytes) (maxL := maxL) (ret := ret) hM hp.1 hrc hrs hfr hlo hws hcw (fun a' U hW => word_at hW (Or.inl (by first | rfl | simp [Cond.onTables, Cond.keeps, Cond.steady])) hini)
  obtain ⟨hx, hb, hml, ho, -⟩ := S
  obtain ⟨-, ⟨cellB, hcB, hoB, hclB⟩, hPc⟩ := hp
  intro T hT X
  rcases vx_callVX X hx (C := C) (hh := hh) (bytes := bytes) (maxL := maxL) (ret := ret) ho hl hin hse hcode hy hK (by rw [hT]; exact hcB) hoB hclB hg (hsize.trans hml.symm) (argsL := As) (rest := rest) (fun sig h => hn.trans (hlen sig h)) hstack hW (by rw [hb]; exact hdg)
    (fun vm₁ hW₁ => ⟨hf.1, hf.2, hPc (T.setVm vm₁) hT hW₁⟩) with ⟨v, vm₁, ⟨U', l2, c2, s2⟩, hW₁, X', ⟨g', mk, t, L, e1, e2, hq, h1, hL, h2, h3⟩, st⟩ | ⟨q, vm₁, ⟨U', l2, c2, s2⟩, hW₁, X', ⟨g', mk, t, L, E, ce, e1, e2, hq, hce, hcv, hcl, h1, hL, h2, h3⟩, st⟩
  · dsimp only [Pt.U, Pt.locs, Pt.cells, Pt.slots] at X' e1 e2 h1 h2 h3 st
    subst h1; subst h2; subst h3
    exact Or.inl ⟨v, (T.setVm vm₁).calling g' mk (Value.ref b :: As).toArray, t, U', L, hT, X', hL, e1, e2, hq, st⟩
  · dsimp only [Pt.U, Pt.locs, Pt.cells, Pt.slots] at X' e1 e2 h1 h2 h3 st hcl
    subst h1; subst h2; subst h3
    exact Or.inr ⟨q, (T.setVm vm₁).calling g' mk (Value.ref b :: As).toArray, t, U', L, E, ce, hT, X', hL, e1, e2, hq, hce, hcv, vx_cls hW₁ hcl, st⟩
theorem vx_runSX {hh : List (Nat × Nat × Nat × Nat)} (S : CallFix p m c cc nL s args Ts own) (hM : vx_Met l y ws rm Pc Qc XC mc ms free) (cw : vx_CSW R s args own index y bytes maxL ret hh ws rm mc ms n) (hp : PreS s H Pc As)
    (hg : g.method = m) (hn : As.length = n) (hsize : g.locals.size = nL) (hstack : g.stack = As.reverse ++ rest) (hW : 2 * g.monitorRoom + (rest.map fun v => v.category).sum ≤ 8) (hdg : decode cc g.pc = .ok (.invokestatic index, 3)) (hf : cells + mc ≤ R.cells ∧ slots + ms ≤ R.slots) :
    vx_Run p l e R s m args below meth c H locs cells slots mc ms g rest (Qc As.toArray) XC free := by
  obtain ⟨⟨hrc, hrs, hfr, hlo, hws, hcw⟩, hcode, hini, hy, hlen, hl, hstt⟩ := cw
  have hK : vx_Back l R p e below s args y 3 8 (PreOf R mc ms Pc) (PostOf Qc mc ms free) (vx_Post XC mc ms free) := vx_backW (hh := hh) (bytes := bytes) (maxL := maxL) (ret := ret) hM hp.1 hrc hrs hfr hlo hws hcw (fun a' U hW => word_at hW (Or.inl (by first | rfl | simp [Cond.onTables, Cond.keeps, Cond.steady])) hini)
  obtain ⟨hx, hb, hml, ho, -⟩ := S
  intro T hT X
  rcases vx_callSX X hx (hh := hh) (bytes := bytes) (maxL := maxL) (ret := ret) ho hl hstt hini hcode hy hK hg (hsize.trans hml.symm) (argsL := As) (rest := rest) (fun sig h => hn.trans (hlen sig h)) hstack hW (by rw [hb]; exact hdg)
    (fun vm₁ hW₁ => ⟨hf.1, hf.2, hp.2 (T.setVm vm₁) hT hW₁⟩) with ⟨v, vm₁, ⟨U', l2, c2, s2⟩, hW₁, X', ⟨g', mk, t, L, e1, e2, hq, h1, hL, h2, h3⟩, st⟩ | ⟨q, vm₁, ⟨U', l2, c2, s2⟩, hW₁, X', ⟨g', mk, t, L, E, ce, e1, e2, hq, hce, hcv, hcl, h1, hL, h2, h3⟩, st⟩
  · dsimp only [Pt.U, Pt.locs, Pt.cells, Pt.slots] at X' e1 e2 h1 h2 h3 st
    subst h1; subst h2; subst h3
    exact Or.inl ⟨v, (T.setVm vm₁).calling g' mk As.toArray, t, U', L, hT, X', hL, e1, e2, hq, st⟩
  · dsimp only [Pt.U, Pt.locs, Pt.cells, Pt.slots] at X' e1 e2 h1 h2 h3 st hcl
    subst h1; subst h2; subst h3
    exact Or.inr ⟨q, (T.setVm vm₁).calling g' mk As.toArray, t, U', L, E, ce, hT, X', hL, e1, e2, hq, hce, hcv, vx_cls hW₁ hcl, st⟩
end
end VXH
theorem vx_ofWH {l : Launch} {y : MethodName} {ws ws' : List Cond} {rm : Room} {Pc : Array Value → State → Prop} {Qc : Array Value → State → Outcome → State → Prop} {XC : String → State → State → Prop} {mc ms : Nat} {free : Addr → Prop} {cc : ByteArray} {maxL : Nat} {ret : Option FieldType} {hh : List (Nat × Nat × Nat × Nat)}
    (hy : plainName y.cls = true) (hw : ws = Cond.codeWith y cc maxL ret hh :: ws')
    (body : ∀ p e s m args below meth c s₁, BodyLoose p l y (headSpec ws rm) cc maxL ret e s m args below meth c s₁ → c.maxLocals = maxL → Pc args s →
      W p l e (headSpec ws rm).room s m args below meth c s.heap [] 0 0 (vx_MQ below Qc XC args s mc ms free) (entryFrame m args maxL)) : vx_Met l y ws rm Pc Qc XC mc ms free := by
  refine MetFree.of_bodyS (code := cc) (maxLocals := maxL) (ret := ret) hy ?_ ?_
  · intro args s m h hn
    obtain ⟨m9, meth, c, hn9, h1, h2, h3, h4, -, h5, h6, -⟩ := Cond.codeWith_spec (atoms_spec (ws := ws) h _ (by rw [hw]; exact List.mem_cons_self))
    cases hn.symm.trans hn9
    exact ⟨meth, c, h1, h2, h3, h4, h5, h6⟩
  · intro p e s m args below meth c s₁ B hml hP _
    have hh0 : s₁.heap = s.heap := by rw [B.state]; rfl
    obtain ⟨t, a1, o, b1, b2, b3⟩ := body p e s m args below meth c s₁ B hml hP s₁ hh0 (Stand.of_body B)
    exact ⟨t, o, a1, b1, b2, b3⟩
/-! ===== END ===== -/
end
section
/-! names: classes, fields, methods; words by their places in lw_tbl (laid by program) -/
abbrev cn_B : String := "ChunkPacker$BitRow"
def cf_B : u_T := fun k => match k with
  | 0 => ("ChunkPacker$BitRow", "words", "[J", true)
  | _ => ("ChunkPacker$BitRow", "size", "I", false)
def ty_B : Nat → FieldType := fun k => match k with
  | 0 => .array .long
  | _ => .int
theorem nn_B : ∀ a, a < 2 → ∀ b, b < 2 → a ≠ b → (cf_B a).2.1 ≠ (cf_B b).2.1 := by decide +kernel
theorem to_B : ∀ k, k < 2 → parseFieldDescriptor (cf_B k).2.2.1 = some (ty_B k) := by decide +kernel
abbrev cn_F : String := "ChunkPacker$Frame"
def cf_F : u_T := fun k => match k with
  | 0 => ("ChunkPacker$Frame", "lead", "I", false)
  | _ => ("ChunkPacker$Frame", "width", "I", false)
def ty_F : Nat → FieldType := fun k => match k with
  | 0 => .int
  | _ => .int
theorem nn_F : ∀ a, a < 2 → ∀ b, b < 2 → a ≠ b → (cf_F a).2.1 ≠ (cf_F b).2.1 := by decide +kernel
theorem to_F : ∀ k, k < 2 → parseFieldDescriptor (cf_F k).2.2.1 = some (ty_F k) := by decide +kernel
abbrev cn_P : String := "ChunkPacker$PointRow"
def cf_P : u_T := fun k => match k with
  | 0 => ("ChunkPacker$PointRow", "times", "[J", true)
  | 1 => ("ChunkPacker$PointRow", "values", "[J", true)
  | _ => ("ChunkPacker$PointRow", "size", "I", false)
def ty_P : Nat → FieldType := fun k => match k with
  | 0 => .array .long
  | 1 => .array .long
  | _ => .int
theorem nn_P : ∀ a, a < 3 → ∀ b, b < 3 → a ≠ b → (cf_P a).2.1 ≠ (cf_P b).2.1 := by decide +kernel
theorem to_P : ∀ k, k < 3 → parseFieldDescriptor (cf_P k).2.2.1 = some (ty_P k) := by decide +kernel
abbrev cn_R : String := "ChunkPacker$Reader"
def cf_R : u_T := fun k => match k with
  | 0 => ("ChunkPacker$Reader", "row", "LChunkPacker$BitRow;", true)
  | 1 => ("ChunkPacker$Reader", "frame", "LChunkPacker$Frame;", true)
  | 2 => ("ChunkPacker$Reader", "position", "I", false)
  | 3 => ("ChunkPacker$Reader", "number", "J", false)
  | 4 => ("ChunkPacker$Reader", "time", "J", false)
  | 5 => ("ChunkPacker$Reader", "step", "J", false)
  | _ => ("ChunkPacker$Reader", "value", "J", false)
def ty_R : Nat → FieldType := fun k => match k with
  | 0 => .object "ChunkPacker$BitRow"
  | 1 => .object "ChunkPacker$Frame"
  | 2 => .int
  | 3 => .long
  | 4 => .long
  | 5 => .long
  | _ => .long
theorem nn_R : ∀ a, a < 7 → ∀ b, b < 7 → a ≠ b → (cf_R a).2.1 ≠ (cf_R b).2.1 := by decide +kernel
theorem to_R : ∀ k, k < 7 → parseFieldDescriptor (cf_R k).2.2.1 = some (ty_R k) := by decide +kernel
abbrev cn_W : String := "ChunkPacker$Writer"
def cf_W : u_T := fun k => match k with
  | 0 => ("ChunkPacker$Writer", "row", "LChunkPacker$BitRow;", true)
  | 1 => ("ChunkPacker$Writer", "frame", "LChunkPacker$Frame;", true)
  | 2 => ("ChunkPacker$Writer", "lastTime", "J", false)
  | 3 => ("ChunkPacker$Writer", "lastStep", "J", false)
  | _ => ("ChunkPacker$Writer", "lastValue", "J", false)
def ty_W : Nat → FieldType := fun k => match k with
  | 0 => .object "ChunkPacker$BitRow"
  | 1 => .object "ChunkPacker$Frame"
  | 2 => .long
  | 3 => .long
  | _ => .long
theorem nn_W : ∀ a, a < 5 → ∀ b, b < 5 → a ≠ b → (cf_W a).2.1 ≠ (cf_W b).2.1 := by decide +kernel
theorem to_W : ∀ k, k < 5 → parseFieldDescriptor (cf_W k).2.2.1 = some (ty_W k) := by decide +kernel
abbrev cn_X : String := "ChunkPacker"
def cf_X : u_T := fun k => match k with
  | 0 => ("ChunkPacker", "points", "LChunkPacker$PointRow;", false)
  | 1 => ("ChunkPacker", "sparePoints", "LChunkPacker$PointRow;", false)
  | 2 => ("ChunkPacker", "bits", "LChunkPacker$BitRow;", false)
  | 3 => ("ChunkPacker", "spareBits", "LChunkPacker$BitRow;", false)
  | _ => ("ChunkPacker", "latestTaken", "I", false)
def ty_X : Nat → FieldType := fun k => match k with
  | 0 => .object "ChunkPacker$PointRow"
  | 1 => .object "ChunkPacker$PointRow"
  | 2 => .object "ChunkPacker$BitRow"
  | 3 => .object "ChunkPacker$BitRow"
  | _ => .int
theorem nn_X : ∀ a, a < 5 → ∀ b, b < 5 → a ≠ b → (cf_X a).2.1 ≠ (cf_X b).2.1 := by decide +kernel
theorem to_X : ∀ k, k < 5 → parseFieldDescriptor (cf_X k).2.2.1 = some (ty_X k) := by decide +kernel
abbrev cn_M : String := "ChunkPackerModel"
def cf_M : u_T := fun k => match k with
  | 0 => ("ChunkPackerModel", "code", "I", false)
  | 1 => ("ChunkPackerModel", "times", "[J", true)
  | 2 => ("ChunkPackerModel", "values", "[J", true)
  | 3 => ("ChunkPackerModel", "points", "I", false)
  | 4 => ("ChunkPackerModel", "bits", "[B", true)
  | 5 => ("ChunkPackerModel", "size", "I", false)
  | 6 => ("ChunkPackerModel", "taken", "I", false)
  | 7 => ("ChunkPackerModel", "newTimes", "[J", true)
  | 8 => ("ChunkPackerModel", "newValues", "[J", true)
  | 9 => ("ChunkPackerModel", "place", "I", false)
  | 10 => ("ChunkPackerModel", "wrong", "Z", false)
  | 11 => ("ChunkPackerModel", "frameZeros", "I", false)
  | _ => ("ChunkPackerModel", "frameBits", "I", false)
def ty_M : Nat → FieldType := fun k => match k with
  | 0 => .int
  | 1 => .array .long
  | 2 => .array .long
  | 3 => .int
  | 4 => .array .byte
  | 5 => .int
  | 6 => .int
  | 7 => .array .long
  | 8 => .array .long
  | 9 => .int
  | 10 => .boolean
  | 11 => .int
  | _ => .int
theorem nn_M : ∀ a, a < 13 → ∀ b, b < 13 → a ≠ b → (cf_M a).2.1 ≠ (cf_M b).2.1 := by decide +kernel
theorem to_M : ∀ k, k < 13 → parseFieldDescriptor (cf_M k).2.2.1 = some (ty_M k) := by decide +kernel
abbrev cn_L : String := "ChunkPackerLaw"
abbrev cn_I : String := "java/lang/Integer"
abbrev cn_J : String := "java/lang/Long"
abbrev cn_H : String := "java/lang/Math"
abbrev classes : List vw_C := [(cn_B, cf_B, 2), (cn_F, cf_F, 2), (cn_P, cf_P, 3), (cn_R, cf_R, 7), (cn_W, cf_W, 5), (cn_X, cf_X, 5), (cn_M, cf_M, 13)]
abbrev mb_X_init : ByteArray := prog_1_method_1_code
def my_X_init : MethodName := ⟨cn_X, "<init>", "()V"⟩
abbrev mb_P_init : ByteArray := prog_4_method_1_code
def my_P_init : MethodName := ⟨cn_P, "<init>", "()V"⟩
abbrev mb_B_init : ByteArray := prog_2_method_1_code
def my_B_init : MethodName := ⟨cn_B, "<init>", "()V"⟩
abbrev mb_X_taken : ByteArray := prog_1_method_6_code
def my_X_taken : MethodName := ⟨cn_X, "taken", "()I"⟩
abbrev mb_L_add : ByteArray := method_3_code
def my_L_add : MethodName := ⟨cn_L, "add", "(LChunkPacker;JJ[J)I"⟩
abbrev mb_X_add : ByteArray := prog_1_method_2_code
def my_X_add : MethodName := ⟨cn_X, "add", "(JJ)I"⟩
abbrev mb_P_latestTime : ByteArray := prog_4_method_3_code
def my_P_latestTime : MethodName := ⟨cn_P, "latestTime", "()J"⟩
abbrev mb_P_append : ByteArray := prog_4_method_6_code
def my_P_append : MethodName := ⟨cn_P, "append", "(JJ)Z"⟩
abbrev mb_P_size : ByteArray := prog_4_method_2_code
def my_P_size : MethodName := ⟨cn_P, "size", "()I"⟩
abbrev mb_L_keep : ByteArray := method_4_code
def my_L_keep : MethodName := ⟨cn_L, "keep", "(LChunkPacker;I[J)I"⟩
abbrev mb_X_keep : ByteArray := prog_1_method_3_code
def my_X_keep : MethodName := ⟨cn_X, "keep", "(I)I"⟩
abbrev mb_P_shorten : ByteArray := prog_4_method_7_code
def my_P_shorten : MethodName := ⟨cn_P, "shorten", "(I)V"⟩
abbrev mb_L_pack : ByteArray := method_5_code
def my_L_pack : MethodName := ⟨cn_L, "pack", "(LChunkPacker;[J)I"⟩
abbrev mb_X_pack : ByteArray := prog_1_method_4_code
def my_X_pack : MethodName := ⟨cn_X, "pack", "()I"⟩
abbrev mb_B_shorten : ByteArray := prog_2_method_8_code
def my_B_shorten : MethodName := ⟨cn_B, "shorten", "(I)V"⟩
abbrev mb_W_init : ByteArray := prog_6_method_1_code
def my_W_init : MethodName := ⟨cn_W, "<init>", "(LChunkPacker$BitRow;)V"⟩
abbrev mb_F_init : ByteArray := prog_3_method_1_code
def my_F_init : MethodName := ⟨cn_F, "<init>", "()V"⟩
abbrev mb_W_writeAll : ByteArray := prog_6_method_2_code
def my_W_writeAll : MethodName := ⟨cn_W, "writeAll", "(LChunkPacker$PointRow;)Z"⟩
abbrev mb_P_timeAt : ByteArray := prog_4_method_4_code
def my_P_timeAt : MethodName := ⟨cn_P, "timeAt", "(I)J"⟩
abbrev mb_P_valueAt : ByteArray := prog_4_method_5_code
def my_P_valueAt : MethodName := ⟨cn_P, "valueAt", "(I)J"⟩
abbrev mb_W_writeFirst : ByteArray := prog_6_method_3_code
def my_W_writeFirst : MethodName := ⟨cn_W, "writeFirst", "(JJ)Z"⟩
abbrev mb_B_append : ByteArray := prog_2_method_7_code
def my_B_append : MethodName := ⟨cn_B, "append", "(JI)Z"⟩
abbrev mb_W_writeNext : ByteArray := prog_6_method_4_code
def my_W_writeNext : MethodName := ⟨cn_W, "writeNext", "(JJ)Z"⟩
abbrev mb_W_writeTurn : ByteArray := prog_6_method_5_code
def my_W_writeTurn : MethodName := ⟨cn_W, "writeTurn", "(J)Z"⟩
abbrev mb_W_kindOf : ByteArray := prog_6_method_6_code
def my_W_kindOf : MethodName := ⟨cn_W, "kindOf", "(J)I"⟩
abbrev mb_W_writeKind : ByteArray := prog_6_method_7_code
def my_W_writeKind : MethodName := ⟨cn_W, "writeKind", "(I)Z"⟩
abbrev mb_W_writeDifference : ByteArray := prog_6_method_8_code
def my_W_writeDifference : MethodName := ⟨cn_W, "writeDifference", "(J)Z"⟩
abbrev mb_J_numberOfLeadingZeros : ByteArray := prog_14_method_48_code
def my_J_numberOfLeadingZeros : MethodName := ⟨cn_J, "numberOfLeadingZeros", "(J)I"⟩
abbrev mb_I_numberOfLeadingZeros : ByteArray := prog_13_method_47_code
def my_I_numberOfLeadingZeros : MethodName := ⟨cn_I, "numberOfLeadingZeros", "(I)I"⟩
abbrev mb_H_min : ByteArray := prog_15_method_69_code
def my_H_min : MethodName := ⟨cn_H, "min", "(II)I"⟩
abbrev mb_J_numberOfTrailingZeros : ByteArray := prog_14_method_49_code
def my_J_numberOfTrailingZeros : MethodName := ⟨cn_J, "numberOfTrailingZeros", "(J)I"⟩
abbrev mb_I_numberOfTrailingZeros : ByteArray := prog_13_method_48_code
def my_I_numberOfTrailingZeros : MethodName := ⟨cn_I, "numberOfTrailingZeros", "(I)I"⟩
abbrev mb_F_holds : ByteArray := prog_3_method_5_code
def my_F_holds : MethodName := ⟨cn_F, "holds", "(II)Z"⟩
abbrev mb_F_isThere : ByteArray := prog_3_method_2_code
def my_F_isThere : MethodName := ⟨cn_F, "isThere", "()Z"⟩
abbrev mb_F_below : ByteArray := prog_3_method_4_code
def my_F_below : MethodName := ⟨cn_F, "below", "()I"⟩
abbrev mb_W_writeFrame : ByteArray := prog_6_method_9_code
def my_W_writeFrame : MethodName := ⟨cn_W, "writeFrame", "(II)Z"⟩
abbrev mb_F_become : ByteArray := prog_3_method_6_code
def my_F_become : MethodName := ⟨cn_F, "become", "(II)V"⟩
abbrev mb_F_width : ByteArray := prog_3_method_3_code
def my_F_width : MethodName := ⟨cn_F, "width", "()I"⟩
abbrev mb_B_size : ByteArray := prog_2_method_2_code
def my_B_size : MethodName := ⟨cn_B, "size", "()I"⟩
abbrev mb_L_unpack : ByteArray := method_6_code
def my_L_unpack : MethodName := ⟨cn_L, "unpack", "(LChunkPacker;I[J)I"⟩
abbrev mb_X_unpack : ByteArray := prog_1_method_5_code
def my_X_unpack : MethodName := ⟨cn_X, "unpack", "(I)I"⟩
abbrev mb_R_init : ByteArray := prog_5_method_1_code
def my_R_init : MethodName := ⟨cn_R, "<init>", "(LChunkPacker$BitRow;)V"⟩
abbrev mb_R_readAll : ByteArray := prog_5_method_3_code
def my_R_readAll : MethodName := ⟨cn_R, "readAll", "(ILChunkPacker$PointRow;)Z"⟩
abbrev mb_R_readFirst : ByteArray := prog_5_method_5_code
def my_R_readFirst : MethodName := ⟨cn_R, "readFirst", "()Z"⟩
abbrev mb_R_take : ByteArray := prog_5_method_4_code
def my_R_take : MethodName := ⟨cn_R, "take", "(I)Z"⟩
abbrev mb_B_has : ByteArray := prog_2_method_5_code
def my_B_has : MethodName := ⟨cn_B, "has", "(II)Z"⟩
abbrev mb_B_numberAt : ByteArray := prog_2_method_6_code
def my_B_numberAt : MethodName := ⟨cn_B, "numberAt", "(II)J"⟩
abbrev mb_R_readNext : ByteArray := prog_5_method_6_code
def my_R_readNext : MethodName := ⟨cn_R, "readNext", "()Z"⟩
abbrev mb_R_readTurn : ByteArray := prog_5_method_7_code
def my_R_readTurn : MethodName := ⟨cn_R, "readTurn", "()Z"⟩
abbrev mb_R_readKind : ByteArray := prog_5_method_8_code
def my_R_readKind : MethodName := ⟨cn_R, "readKind", "()I"⟩
abbrev mb_R_withSign : ByteArray := prog_5_method_9_code
def my_R_withSign : MethodName := ⟨cn_R, "withSign", "(JI)J"⟩
abbrev mb_R_readDifference : ByteArray := prog_5_method_10_code
def my_R_readDifference : MethodName := ⟨cn_R, "readDifference", "()Z"⟩
abbrev mb_R_readFrame : ByteArray := prog_5_method_11_code
def my_R_readFrame : MethodName := ⟨cn_R, "readFrame", "()Z"⟩
abbrev mb_R_position : ByteArray := prog_5_method_2_code
def my_R_position : MethodName := ⟨cn_R, "position", "()I"⟩
abbrev mb_L_count : ByteArray := method_7_code
def my_L_count : MethodName := ⟨cn_L, "count", "(LChunkPacker;I[J)I"⟩
abbrev mb_X_count : ByteArray := prog_1_method_7_code
def my_X_count : MethodName := ⟨cn_X, "count", "(I)I"⟩
abbrev mb_L_time : ByteArray := method_8_code
def my_L_time : MethodName := ⟨cn_L, "time", "(LChunkPacker;I[J)I"⟩
abbrev mb_X_time : ByteArray := prog_1_method_8_code
def my_X_time : MethodName := ⟨cn_X, "time", "(I)J"⟩
abbrev mb_L_value : ByteArray := method_9_code
def my_L_value : MethodName := ⟨cn_L, "value", "(LChunkPacker;I[J)I"⟩
abbrev mb_X_value : ByteArray := prog_1_method_9_code
def my_X_value : MethodName := ⟨cn_X, "value", "(I)J"⟩
abbrev mb_L_bit : ByteArray := method_10_code
def my_L_bit : MethodName := ⟨cn_L, "bit", "(LChunkPacker;I[J)I"⟩
abbrev mb_X_bit : ByteArray := prog_1_method_10_code
def my_X_bit : MethodName := ⟨cn_X, "bit", "(I)Z"⟩
abbrev mb_B_isOne : ByteArray := prog_2_method_3_code
def my_B_isOne : MethodName := ⟨cn_B, "isOne", "(I)Z"⟩
abbrev mb_L_flip : ByteArray := method_11_code
def my_L_flip : MethodName := ⟨cn_L, "flip", "(LChunkPacker;I)I"⟩
abbrev mb_X_flip : ByteArray := prog_1_method_11_code
def my_X_flip : MethodName := ⟨cn_X, "flip", "(I)V"⟩
abbrev mb_B_invert : ByteArray := prog_2_method_4_code
def my_B_invert : MethodName := ⟨cn_B, "invert", "(I)V"⟩
abbrev mb_L_put : ByteArray := method_12_code
def my_L_put : MethodName := ⟨cn_L, "put", "(LChunkPacker;JI[J)I"⟩
abbrev mb_X_put : ByteArray := prog_1_method_12_code
def my_X_put : MethodName := ⟨cn_X, "put", "(JI)I"⟩
abbrev mb_L_cut : ByteArray := method_13_code
def my_L_cut : MethodName := ⟨cn_L, "cut", "(LChunkPacker;I)I"⟩
abbrev mb_X_cut : ByteArray := prog_1_method_13_code
def my_X_cut : MethodName := ⟨cn_X, "cut", "(I)V"⟩
abbrev mb_M_init : ByteArray := prog_8_method_1_code
def my_M_init : MethodName := ⟨cn_M, "<init>", "()V"⟩
abbrev mb_M_thrown : ByteArray := prog_8_method_2_code
def my_M_thrown : MethodName := ⟨cn_M, "thrown", "()I"⟩
abbrev mb_M_add : ByteArray := prog_8_method_3_code
def my_M_add : MethodName := ⟨cn_M, "add", "(JJ)I"⟩
abbrev mb_M_keep : ByteArray := prog_8_method_4_code
def my_M_keep : MethodName := ⟨cn_M, "keep", "(I)I"⟩
abbrev mb_M_pack : ByteArray := prog_8_method_8_code
def my_M_pack : MethodName := ⟨cn_M, "pack", "()I"⟩
abbrev mb_M_write : ByteArray := prog_8_method_5_code
def my_M_write : MethodName := ⟨cn_M, "write", "(JI)V"⟩
abbrev mb_M_writeTurn : ByteArray := prog_8_method_6_code
def my_M_writeTurn : MethodName := ⟨cn_M, "writeTurn", "(J)V"⟩
abbrev mb_M_writeValue : ByteArray := prog_8_method_7_code
def my_M_writeValue : MethodName := ⟨cn_M, "writeValue", "(J)V"⟩
abbrev mb_M_unpack : ByteArray := prog_8_method_13_code
def my_M_unpack : MethodName := ⟨cn_M, "unpack", "(I)I"⟩
abbrev mb_M_read : ByteArray := prog_8_method_9_code
def my_M_read : MethodName := ⟨cn_M, "read", "(I)J"⟩
abbrev mb_M_readTurn : ByteArray := prog_8_method_11_code
def my_M_readTurn : MethodName := ⟨cn_M, "readTurn", "()J"⟩
abbrev mb_M_readSigned : ByteArray := prog_8_method_10_code
def my_M_readSigned : MethodName := ⟨cn_M, "readSigned", "(I)J"⟩
abbrev mb_M_readValue : ByteArray := prog_8_method_12_code
def my_M_readValue : MethodName := ⟨cn_M, "readValue", "()J"⟩
abbrev mb_M_taken : ByteArray := prog_8_method_14_code
def my_M_taken : MethodName := ⟨cn_M, "taken", "()I"⟩
abbrev mb_M_count : ByteArray := prog_8_method_15_code
def my_M_count : MethodName := ⟨cn_M, "count", "(I)I"⟩
abbrev mb_M_time : ByteArray := prog_8_method_16_code
def my_M_time : MethodName := ⟨cn_M, "time", "(I)J"⟩
abbrev mb_M_value : ByteArray := prog_8_method_17_code
def my_M_value : MethodName := ⟨cn_M, "value", "(I)J"⟩
abbrev mb_M_bit : ByteArray := prog_8_method_18_code
def my_M_bit : MethodName := ⟨cn_M, "bit", "(I)Z"⟩
abbrev mb_M_flip : ByteArray := prog_8_method_19_code
def my_M_flip : MethodName := ⟨cn_M, "flip", "(I)V"⟩
abbrev mb_M_put : ByteArray := prog_8_method_20_code
def my_M_put : MethodName := ⟨cn_M, "put", "(JI)I"⟩
abbrev mb_M_cut : ByteArray := prog_8_method_21_code
def my_M_cut : MethodName := ⟨cn_M, "cut", "(I)V"⟩
abbrev mb_L_law : ByteArray := code
def my_L_law : MethodName := ⟨cn_L, "law", "([I)Z"⟩
/-- the words that stay true wherever they are asked -/
def TB : List Cond := lw_tbl.filter goodWord
theorem tb_of {i : Nat} {w : Cond} (h : lw_tbl[i]? = some w) (g : goodWord w = true) : w ∈ TB := List.mem_filter.mpr ⟨List.mem_of_getElem? h, g⟩
theorem tb_good {ws : List Cond} (h : ∀ w ∈ ws, w ∈ TB) : GoodIn TB ws := fun w hw => ⟨h w hw, good_of_word (List.mem_filter.mp (h w hw)).2⟩
theorem tb_V {own : String} {idx : Nat} {C : String} {y : MethodName} {cc : ByteArray} {n : Nat} {r : Option FieldType} (h1 : Cond.methodLink own idx y ∈ TB) (h2 : Cond.instanceMethod y ∈ TB) (h3 : Cond.selects C y y ∈ TB) (h4 : Cond.initialized C ∈ TB) (h5 : Cond.code y cc n r ∈ TB) : GoodIn TB (wsV own idx C y (Cond.code y cc n r :: TB)) := tb_good (fun w hw => by
  simp only [wsV, List.cons_append, List.nil_append, List.mem_cons] at hw
  rcases hw with rfl | rfl | rfl | rfl | rfl | hw <;> assumption)
theorem tb_S {own : String} {idx : Nat} {y : MethodName} {cc : ByteArray} {n : Nat} {r : Option FieldType} (h1 : Cond.methodLink own idx y ∈ TB) (h2 : Cond.static y ∈ TB) (h3 : Cond.initialized y.cls ∈ TB) (h5 : Cond.code y cc n r ∈ TB) : GoodIn TB (va_wsS own idx y (Cond.code y cc n r :: TB)) := tb_good (fun w hw => by
  simp only [va_wsS, List.cons_append, List.nil_append, List.mem_cons] at hw
  rcases hw with rfl | rfl | rfl | rfl | hw <;> assumption)
theorem tb_I {y : MethodName} {cc : ByteArray} {n : Nat} {r : Option FieldType} (h5 : Cond.code y cc n r ∈ TB) : GoodIn TB (Cond.code y cc n r :: TB) := tb_good (fun w hw => by
  simp only [List.mem_cons] at hw
  rcases hw with rfl | hw <;> assumption)
end
section
/-! words by their places -/
theorem wi_1 : Cond.selects "ChunkPacker$Writer" my_W_writeFirst my_W_writeFirst ∈ TB := tb_of (i := 1) (by decide +kernel) (by decide +kernel)
theorem wi_2 : Cond.selects "ChunkPacker$Writer" my_W_writeNext my_W_writeNext ∈ TB := tb_of (i := 2) (by decide +kernel) (by decide +kernel)
theorem wi_3 : Cond.selects "ChunkPacker$Writer" my_W_writeTurn my_W_writeTurn ∈ TB := tb_of (i := 3) (by decide +kernel) (by decide +kernel)
theorem wi_4 : Cond.selects "ChunkPacker$Writer" my_W_writeKind my_W_writeKind ∈ TB := tb_of (i := 4) (by decide +kernel) (by decide +kernel)
theorem wi_5 : Cond.selects "ChunkPacker$Writer" my_W_writeDifference my_W_writeDifference ∈ TB := tb_of (i := 5) (by decide +kernel) (by decide +kernel)
theorem wi_6 : Cond.selects "ChunkPacker$Writer" my_W_writeFrame my_W_writeFrame ∈ TB := tb_of (i := 6) (by decide +kernel) (by decide +kernel)
theorem wi_7 : Cond.selects "ChunkPacker$Reader" my_R_readFirst my_R_readFirst ∈ TB := tb_of (i := 7) (by decide +kernel) (by decide +kernel)
theorem wi_8 : Cond.selects "ChunkPacker$Reader" my_R_take my_R_take ∈ TB := tb_of (i := 8) (by decide +kernel) (by decide +kernel)
theorem wi_9 : Cond.selects "ChunkPacker$Reader" my_R_readNext my_R_readNext ∈ TB := tb_of (i := 9) (by decide +kernel) (by decide +kernel)
theorem wi_10 : Cond.selects "ChunkPacker$Reader" my_R_readTurn my_R_readTurn ∈ TB := tb_of (i := 10) (by decide +kernel) (by decide +kernel)
theorem wi_11 : Cond.selects "ChunkPacker$Reader" my_R_readKind my_R_readKind ∈ TB := tb_of (i := 11) (by decide +kernel) (by decide +kernel)
theorem wi_12 : Cond.selects "ChunkPacker$Reader" my_R_readDifference my_R_readDifference ∈ TB := tb_of (i := 12) (by decide +kernel) (by decide +kernel)
theorem wi_13 : Cond.selects "ChunkPacker$Reader" my_R_readFrame my_R_readFrame ∈ TB := tb_of (i := 13) (by decide +kernel) (by decide +kernel)
theorem wi_14 : Cond.selects "ChunkPackerModel" my_M_write my_M_write ∈ TB := tb_of (i := 14) (by decide +kernel) (by decide +kernel)
theorem wi_15 : Cond.selects "ChunkPackerModel" my_M_writeTurn my_M_writeTurn ∈ TB := tb_of (i := 15) (by decide +kernel) (by decide +kernel)
theorem wi_16 : Cond.selects "ChunkPackerModel" my_M_writeValue my_M_writeValue ∈ TB := tb_of (i := 16) (by decide +kernel) (by decide +kernel)
theorem wi_17 : Cond.selects "ChunkPackerModel" my_M_read my_M_read ∈ TB := tb_of (i := 17) (by decide +kernel) (by decide +kernel)
theorem wi_18 : Cond.selects "ChunkPackerModel" my_M_readTurn my_M_readTurn ∈ TB := tb_of (i := 18) (by decide +kernel) (by decide +kernel)
theorem wi_19 : Cond.selects "ChunkPackerModel" my_M_readSigned my_M_readSigned ∈ TB := tb_of (i := 19) (by decide +kernel) (by decide +kernel)
theorem wi_20 : Cond.selects "ChunkPackerModel" my_M_readValue my_M_readValue ∈ TB := tb_of (i := 20) (by decide +kernel) (by decide +kernel)
theorem wi_21 : Cond.initialized "ChunkPackerLaw" ∈ TB := tb_of (i := 21) (by decide +kernel) (by decide +kernel)
theorem wi_22 : Cond.initialized "ChunkPacker" ∈ TB := tb_of (i := 22) (by decide +kernel) (by decide +kernel)
theorem wi_23 : Cond.initialized "ChunkPacker$PointRow" ∈ TB := tb_of (i := 23) (by decide +kernel) (by decide +kernel)
theorem wi_24 : Cond.initialized "ChunkPacker$BitRow" ∈ TB := tb_of (i := 24) (by decide +kernel) (by decide +kernel)
theorem wi_25 : Cond.initialized "ChunkPackerModel" ∈ TB := tb_of (i := 25) (by decide +kernel) (by decide +kernel)
theorem wi_29 : Cond.initialized "java/lang/IllegalArgumentException" ∈ TB := tb_of (i := 29) (by decide +kernel) (by decide +kernel)
theorem wi_30 : Cond.initialized "java/lang/IllegalStateException" ∈ TB := tb_of (i := 30) (by decide +kernel) (by decide +kernel)
theorem wi_31 : Cond.initialized "ChunkPacker$Writer" ∈ TB := tb_of (i := 31) (by decide +kernel) (by decide +kernel)
theorem wi_32 : Cond.initialized "ChunkPacker$Frame" ∈ TB := tb_of (i := 32) (by decide +kernel) (by decide +kernel)
theorem wi_33 : Cond.initialized "java/lang/IndexOutOfBoundsException" ∈ TB := tb_of (i := 33) (by decide +kernel) (by decide +kernel)
theorem wi_34 : Cond.initialized "java/lang/Long" ∈ TB := tb_of (i := 34) (by decide +kernel) (by decide +kernel)
theorem wi_35 : Cond.initialized "java/lang/Integer" ∈ TB := tb_of (i := 35) (by decide +kernel) (by decide +kernel)
theorem wi_36 : Cond.initialized "java/lang/Math" ∈ TB := tb_of (i := 36) (by decide +kernel) (by decide +kernel)
theorem wi_37 : Cond.initialized "ChunkPacker$Reader" ∈ TB := tb_of (i := 37) (by decide +kernel) (by decide +kernel)
theorem wi_38 : Cond.classLink "ChunkPackerLaw" 8 "ChunkPacker" ∈ TB := tb_of (i := 38) (by decide +kernel) (by decide +kernel)
theorem wi_39 : Cond.instantiable "ChunkPacker" 5 ∈ TB := tb_of (i := 39) (by decide +kernel) (by decide +kernel)
theorem wi_40 : Cond.methodLink "ChunkPackerLaw" 55 my_X_init ∈ TB := tb_of (i := 40) (by decide +kernel) (by decide +kernel)
theorem wi_41 : Cond.instanceMethod my_X_init ∈ TB := tb_of (i := 41) (by decide +kernel) (by decide +kernel)
theorem wi_42 : Cond.code my_X_init mb_X_init 1 none ∈ TB := tb_of (i := 42) (by decide +kernel) (by decide +kernel)
theorem wi_43 : Cond.methodLink "ChunkPacker" 1 objectInit ∈ TB := tb_of (i := 43) (by decide +kernel) (by decide +kernel)
theorem wi_44 : Cond.instanceMethod objectInit ∈ TB := tb_of (i := 44) (by decide +kernel) (by decide +kernel)
theorem wi_45 : Cond.code objectInit object_method_1_code 1 none ∈ TB := tb_of (i := 45) (by decide +kernel) (by decide +kernel)
theorem wi_46 : Cond.classLink "ChunkPacker" 7 "ChunkPacker$PointRow" ∈ TB := tb_of (i := 46) (by decide +kernel) (by decide +kernel)
theorem wi_47 : Cond.instantiable "ChunkPacker$PointRow" 3 ∈ TB := tb_of (i := 47) (by decide +kernel) (by decide +kernel)
theorem wi_48 : Cond.methodLink "ChunkPacker" 9 my_P_init ∈ TB := tb_of (i := 48) (by decide +kernel) (by decide +kernel)
theorem wi_49 : Cond.instanceMethod my_P_init ∈ TB := tb_of (i := 49) (by decide +kernel) (by decide +kernel)
theorem wi_50 : Cond.code my_P_init mb_P_init 1 none ∈ TB := tb_of (i := 50) (by decide +kernel) (by decide +kernel)
theorem wi_51 : Cond.methodLink "ChunkPacker$PointRow" 3 objectInit ∈ TB := tb_of (i := 51) (by decide +kernel) (by decide +kernel)
theorem wi_52 : Cond.fieldLink "ChunkPacker$PointRow" 9 "ChunkPacker$PointRow" "times" "[J" ∈ TB := tb_of (i := 52) (by decide +kernel) (by decide +kernel)
theorem wi_53 : Cond.fieldLink "ChunkPacker$PointRow" 15 "ChunkPacker$PointRow" "values" "[J" ∈ TB := tb_of (i := 53) (by decide +kernel) (by decide +kernel)
theorem wi_54 : Cond.fieldLink "ChunkPacker$PointRow" 18 "ChunkPacker$PointRow" "size" "I" ∈ TB := tb_of (i := 54) (by decide +kernel) (by decide +kernel)
theorem wi_62 : Cond.arrayClass .long ∈ TB := tb_of (i := 62) (by decide +kernel) (by decide +kernel)
theorem wi_63 : Cond.classLink "ChunkPacker" 19 "ChunkPacker$BitRow" ∈ TB := tb_of (i := 63) (by decide +kernel) (by decide +kernel)
theorem wi_64 : Cond.instantiable "ChunkPacker$BitRow" 2 ∈ TB := tb_of (i := 64) (by decide +kernel) (by decide +kernel)
theorem wi_65 : Cond.methodLink "ChunkPacker" 21 my_B_init ∈ TB := tb_of (i := 65) (by decide +kernel) (by decide +kernel)
theorem wi_66 : Cond.instanceMethod my_B_init ∈ TB := tb_of (i := 66) (by decide +kernel) (by decide +kernel)
theorem wi_67 : Cond.code my_B_init mb_B_init 1 none ∈ TB := tb_of (i := 67) (by decide +kernel) (by decide +kernel)
theorem wi_68 : Cond.methodLink "ChunkPacker$BitRow" 3 objectInit ∈ TB := tb_of (i := 68) (by decide +kernel) (by decide +kernel)
theorem wi_69 : Cond.fieldLink "ChunkPacker$BitRow" 9 "ChunkPacker$BitRow" "words" "[J" ∈ TB := tb_of (i := 69) (by decide +kernel) (by decide +kernel)
theorem wi_70 : Cond.fieldLink "ChunkPacker$BitRow" 15 "ChunkPacker$BitRow" "size" "I" ∈ TB := tb_of (i := 70) (by decide +kernel) (by decide +kernel)
theorem wi_76 : Cond.fieldLink "ChunkPacker" 10 "ChunkPacker" "points" "LChunkPacker$PointRow;" ∈ TB := tb_of (i := 76) (by decide +kernel) (by decide +kernel)
theorem wi_77 : Cond.fieldLink "ChunkPacker" 16 "ChunkPacker" "sparePoints" "LChunkPacker$PointRow;" ∈ TB := tb_of (i := 77) (by decide +kernel) (by decide +kernel)
theorem wi_78 : Cond.fieldLink "ChunkPacker" 22 "ChunkPacker" "bits" "LChunkPacker$BitRow;" ∈ TB := tb_of (i := 78) (by decide +kernel) (by decide +kernel)
theorem wi_79 : Cond.fieldLink "ChunkPacker" 26 "ChunkPacker" "spareBits" "LChunkPacker$BitRow;" ∈ TB := tb_of (i := 79) (by decide +kernel) (by decide +kernel)
theorem wi_80 : Cond.fieldLink "ChunkPacker" 29 "ChunkPacker" "latestTaken" "I" ∈ TB := tb_of (i := 80) (by decide +kernel) (by decide +kernel)
theorem wi_92 : Cond.methodLink "ChunkPackerLaw" 81 my_X_taken ∈ TB := tb_of (i := 92) (by decide +kernel) (by decide +kernel)
theorem wi_93 : Cond.instanceMethod my_X_taken ∈ TB := tb_of (i := 93) (by decide +kernel) (by decide +kernel)
theorem wi_94 : Cond.selects "ChunkPacker" my_X_taken my_X_taken ∈ TB := tb_of (i := 94) (by decide +kernel) (by decide +kernel)
theorem wi_95 : Cond.code my_X_taken mb_X_taken 1 (some .int) ∈ TB := tb_of (i := 95) (by decide +kernel) (by decide +kernel)
theorem wi_96 : Cond.methodLink "ChunkPackerLaw" 61 my_L_add ∈ TB := tb_of (i := 96) (by decide +kernel) (by decide +kernel)
theorem wi_97 : Cond.static my_L_add ∈ TB := tb_of (i := 97) (by decide +kernel) (by decide +kernel)
theorem wi_98 : Cond.codeWith my_L_add mb_L_add 7 (some .int) [(0, 11, 14, 13), (0, 11, 18, 15)] ∈ TB := tb_of (i := 98) (by decide +kernel) (by decide +kernel)
theorem wi_99 : Cond.classLink "ChunkPackerLaw" 13 "java/lang/IllegalArgumentException" ∈ TB := tb_of (i := 99) (by decide +kernel) (by decide +kernel)
theorem wi_100 : Cond.classLink "ChunkPackerLaw" 15 "java/lang/IllegalStateException" ∈ TB := tb_of (i := 100) (by decide +kernel) (by decide +kernel)
theorem wi_101 : Cond.methodLink "ChunkPackerLaw" 7 my_X_add ∈ TB := tb_of (i := 101) (by decide +kernel) (by decide +kernel)
theorem wi_102 : Cond.instanceMethod my_X_add ∈ TB := tb_of (i := 102) (by decide +kernel) (by decide +kernel)
theorem wi_103 : Cond.selects "ChunkPacker" my_X_add my_X_add ∈ TB := tb_of (i := 103) (by decide +kernel) (by decide +kernel)
theorem wi_104 : Cond.code my_X_add mb_X_add 5 (some .int) ∈ TB := tb_of (i := 104) (by decide +kernel) (by decide +kernel)
theorem wi_105 : Cond.constantLong "ChunkPacker" 33 1099511627775 ∈ TB := tb_of (i := 105) (by decide +kernel) (by decide +kernel)
theorem wi_106 : Cond.classLink "ChunkPacker" 35 "java/lang/IllegalArgumentException" ∈ TB := tb_of (i := 106) (by decide +kernel) (by decide +kernel)
theorem wi_107 : Cond.instantiable "java/lang/IllegalArgumentException" 6 ∈ TB := tb_of (i := 107) (by decide +kernel) (by decide +kernel)
theorem wi_115 : Cond.selects "java/lang/IllegalArgumentException" ⟨"java/lang/Throwable", "fillInStackTrace", "(I)Ljava/lang/Throwable;"⟩ ⟨"java/lang/Throwable", "fillInStackTrace", "(I)Ljava/lang/Throwable;"⟩ ∈ TB := tb_of (i := 115) (by decide +kernel) (by decide +kernel)
theorem wi_116 : Cond.selects "java/lang/IllegalArgumentException" ⟨"java/lang/Throwable", "fillInStackTrace", "()Ljava/lang/Throwable;"⟩ ⟨"java/lang/Throwable", "fillInStackTrace", "()Ljava/lang/Throwable;"⟩ ∈ TB := tb_of (i := 116) (by decide +kernel) (by decide +kernel)
theorem wi_129 : Cond.instanceMethod ⟨"java/lang/Throwable", "<init>", "()V"⟩ ∈ TB := tb_of (i := 129) (by decide +kernel) (by decide +kernel)
theorem wi_130 : Cond.code ⟨"java/lang/Throwable", "<init>", "()V"⟩ prog_18_method_1_code 1 none ∈ TB := tb_of (i := 130) (by decide +kernel) (by decide +kernel)
theorem wi_137 : Cond.instanceMethod ⟨"java/lang/Throwable", "fillInStackTrace", "()Ljava/lang/Throwable;"⟩ ∈ TB := tb_of (i := 137) (by decide +kernel) (by decide +kernel)
theorem wi_139 : Cond.selects "java/lang/IllegalStateException" ⟨"java/lang/Throwable", "fillInStackTrace", "()Ljava/lang/Throwable;"⟩ ⟨"java/lang/Throwable", "fillInStackTrace", "()Ljava/lang/Throwable;"⟩ ∈ TB := tb_of (i := 139) (by decide +kernel) (by decide +kernel)
theorem wi_140 : Cond.selects "java/lang/IndexOutOfBoundsException" ⟨"java/lang/Throwable", "fillInStackTrace", "()Ljava/lang/Throwable;"⟩ ⟨"java/lang/Throwable", "fillInStackTrace", "()Ljava/lang/Throwable;"⟩ ∈ TB := tb_of (i := 140) (by decide +kernel) (by decide +kernel)
theorem wi_144 : Cond.instanceMethod ⟨"java/lang/Throwable", "fillInStackTrace", "(I)Ljava/lang/Throwable;"⟩ ∈ TB := tb_of (i := 144) (by decide +kernel) (by decide +kernel)
theorem wi_148 : Cond.methodLink "ChunkPacker" 39 ⟨"java/lang/IllegalArgumentException", "<init>", "(Ljava/lang/String;)V"⟩ ∈ TB := tb_of (i := 148) (by decide +kernel) (by decide +kernel)
theorem wi_149 : Cond.instanceMethod ⟨"java/lang/IllegalArgumentException", "<init>", "(Ljava/lang/String;)V"⟩ ∈ TB := tb_of (i := 149) (by decide +kernel) (by decide +kernel)
theorem wi_150 : Cond.code ⟨"java/lang/IllegalArgumentException", "<init>", "(Ljava/lang/String;)V"⟩ prog_10_method_2_code 2 none ∈ TB := tb_of (i := 150) (by decide +kernel) (by decide +kernel)
theorem wi_151 : Cond.methodLink "java/lang/IllegalArgumentException" 7 ⟨"java/lang/RuntimeException", "<init>", "(Ljava/lang/String;)V"⟩ ∈ TB := tb_of (i := 151) (by decide +kernel) (by decide +kernel)
theorem wi_152 : Cond.instanceMethod ⟨"java/lang/RuntimeException", "<init>", "(Ljava/lang/String;)V"⟩ ∈ TB := tb_of (i := 152) (by decide +kernel) (by decide +kernel)
theorem wi_153 : Cond.code ⟨"java/lang/RuntimeException", "<init>", "(Ljava/lang/String;)V"⟩ prog_16_method_2_code 2 none ∈ TB := tb_of (i := 153) (by decide +kernel) (by decide +kernel)
theorem wi_155 : Cond.instanceMethod ⟨"java/lang/Exception", "<init>", "(Ljava/lang/String;)V"⟩ ∈ TB := tb_of (i := 155) (by decide +kernel) (by decide +kernel)
theorem wi_156 : Cond.code ⟨"java/lang/Exception", "<init>", "(Ljava/lang/String;)V"⟩ prog_9_method_2_code 2 none ∈ TB := tb_of (i := 156) (by decide +kernel) (by decide +kernel)
theorem wi_158 : Cond.instanceMethod ⟨"java/lang/Throwable", "<init>", "(Ljava/lang/String;)V"⟩ ∈ TB := tb_of (i := 158) (by decide +kernel) (by decide +kernel)
theorem wi_159 : Cond.code ⟨"java/lang/Throwable", "<init>", "(Ljava/lang/String;)V"⟩ prog_18_method_2_code 2 none ∈ TB := tb_of (i := 159) (by decide +kernel) (by decide +kernel)
theorem wi_173 : Cond.arrayClass .byte ∈ TB := tb_of (i := 173) (by decide +kernel) (by decide +kernel)
theorem wi_174 : Cond.methodLink "ChunkPacker" 42 my_P_latestTime ∈ TB := tb_of (i := 174) (by decide +kernel) (by decide +kernel)
theorem wi_175 : Cond.instanceMethod my_P_latestTime ∈ TB := tb_of (i := 175) (by decide +kernel) (by decide +kernel)
theorem wi_176 : Cond.selects "ChunkPacker$PointRow" my_P_latestTime my_P_latestTime ∈ TB := tb_of (i := 176) (by decide +kernel) (by decide +kernel)
theorem wi_177 : Cond.code my_P_latestTime mb_P_latestTime 1 (some .long) ∈ TB := tb_of (i := 177) (by decide +kernel) (by decide +kernel)
theorem wi_178 : Cond.constantLong "ChunkPacker$PointRow" 22 (-1) ∈ TB := tb_of (i := 178) (by decide +kernel) (by decide +kernel)
theorem wi_180 : Cond.methodLink "ChunkPacker" 48 my_P_append ∈ TB := tb_of (i := 180) (by decide +kernel) (by decide +kernel)
theorem wi_181 : Cond.instanceMethod my_P_append ∈ TB := tb_of (i := 181) (by decide +kernel) (by decide +kernel)
theorem wi_182 : Cond.selects "ChunkPacker$PointRow" my_P_append my_P_append ∈ TB := tb_of (i := 182) (by decide +kernel) (by decide +kernel)
theorem wi_183 : Cond.code my_P_append mb_P_append 5 (some .boolean) ∈ TB := tb_of (i := 183) (by decide +kernel) (by decide +kernel)
theorem wi_184 : Cond.classLink "ChunkPacker" 52 "java/lang/IllegalStateException" ∈ TB := tb_of (i := 184) (by decide +kernel) (by decide +kernel)
theorem wi_185 : Cond.instantiable "java/lang/IllegalStateException" 6 ∈ TB := tb_of (i := 185) (by decide +kernel) (by decide +kernel)
theorem wi_187 : Cond.selects "java/lang/IllegalStateException" ⟨"java/lang/Throwable", "fillInStackTrace", "(I)Ljava/lang/Throwable;"⟩ ⟨"java/lang/Throwable", "fillInStackTrace", "(I)Ljava/lang/Throwable;"⟩ ∈ TB := tb_of (i := 187) (by decide +kernel) (by decide +kernel)
theorem wi_194 : Cond.methodLink "ChunkPacker" 56 ⟨"java/lang/IllegalStateException", "<init>", "(Ljava/lang/String;)V"⟩ ∈ TB := tb_of (i := 194) (by decide +kernel) (by decide +kernel)
theorem wi_195 : Cond.instanceMethod ⟨"java/lang/IllegalStateException", "<init>", "(Ljava/lang/String;)V"⟩ ∈ TB := tb_of (i := 195) (by decide +kernel) (by decide +kernel)
theorem wi_196 : Cond.code ⟨"java/lang/IllegalStateException", "<init>", "(Ljava/lang/String;)V"⟩ prog_11_method_2_code 2 none ∈ TB := tb_of (i := 196) (by decide +kernel) (by decide +kernel)
theorem wi_197 : Cond.methodLink "java/lang/IllegalStateException" 7 ⟨"java/lang/RuntimeException", "<init>", "(Ljava/lang/String;)V"⟩ ∈ TB := tb_of (i := 197) (by decide +kernel) (by decide +kernel)
theorem wi_200 : Cond.methodLink "ChunkPacker" 57 my_P_size ∈ TB := tb_of (i := 200) (by decide +kernel) (by decide +kernel)
theorem wi_201 : Cond.instanceMethod my_P_size ∈ TB := tb_of (i := 201) (by decide +kernel) (by decide +kernel)
theorem wi_202 : Cond.selects "ChunkPacker$PointRow" my_P_size my_P_size ∈ TB := tb_of (i := 202) (by decide +kernel) (by decide +kernel)
theorem wi_203 : Cond.code my_P_size mb_P_size 1 (some .int) ∈ TB := tb_of (i := 203) (by decide +kernel) (by decide +kernel)
theorem wi_204 : Cond.methodLink "ChunkPackerLaw" 70 my_L_keep ∈ TB := tb_of (i := 204) (by decide +kernel) (by decide +kernel)
theorem wi_205 : Cond.static my_L_keep ∈ TB := tb_of (i := 205) (by decide +kernel) (by decide +kernel)
theorem wi_206 : Cond.codeWith my_L_keep mb_L_keep 4 (some .int) [(0, 9, 12, 13)] ∈ TB := tb_of (i := 206) (by decide +kernel) (by decide +kernel)
theorem wi_207 : Cond.methodLink "ChunkPackerLaw" 17 my_X_keep ∈ TB := tb_of (i := 207) (by decide +kernel) (by decide +kernel)
theorem wi_208 : Cond.instanceMethod my_X_keep ∈ TB := tb_of (i := 208) (by decide +kernel) (by decide +kernel)
theorem wi_209 : Cond.selects "ChunkPacker" my_X_keep my_X_keep ∈ TB := tb_of (i := 209) (by decide +kernel) (by decide +kernel)
theorem wi_210 : Cond.code my_X_keep mb_X_keep 3 (some .int) ∈ TB := tb_of (i := 210) (by decide +kernel) (by decide +kernel)
theorem wi_212 : Cond.methodLink "ChunkPacker" 63 my_P_shorten ∈ TB := tb_of (i := 212) (by decide +kernel) (by decide +kernel)
theorem wi_213 : Cond.instanceMethod my_P_shorten ∈ TB := tb_of (i := 213) (by decide +kernel) (by decide +kernel)
theorem wi_214 : Cond.selects "ChunkPacker$PointRow" my_P_shorten my_P_shorten ∈ TB := tb_of (i := 214) (by decide +kernel) (by decide +kernel)
theorem wi_215 : Cond.code my_P_shorten mb_P_shorten 2 none ∈ TB := tb_of (i := 215) (by decide +kernel) (by decide +kernel)
theorem wi_216 : Cond.methodLink "ChunkPackerLaw" 74 my_L_pack ∈ TB := tb_of (i := 216) (by decide +kernel) (by decide +kernel)
theorem wi_217 : Cond.static my_L_pack ∈ TB := tb_of (i := 217) (by decide +kernel) (by decide +kernel)
theorem wi_218 : Cond.codeWith my_L_pack mb_L_pack 3 (some .int) [(0, 8, 11, 15)] ∈ TB := tb_of (i := 218) (by decide +kernel) (by decide +kernel)
theorem wi_219 : Cond.methodLink "ChunkPackerLaw" 21 my_X_pack ∈ TB := tb_of (i := 219) (by decide +kernel) (by decide +kernel)
theorem wi_220 : Cond.instanceMethod my_X_pack ∈ TB := tb_of (i := 220) (by decide +kernel) (by decide +kernel)
theorem wi_221 : Cond.selects "ChunkPacker" my_X_pack my_X_pack ∈ TB := tb_of (i := 221) (by decide +kernel) (by decide +kernel)
theorem wi_222 : Cond.code my_X_pack mb_X_pack 2 (some .int) ∈ TB := tb_of (i := 222) (by decide +kernel) (by decide +kernel)
theorem wi_223 : Cond.methodLink "ChunkPacker" 67 my_B_shorten ∈ TB := tb_of (i := 223) (by decide +kernel) (by decide +kernel)
theorem wi_224 : Cond.instanceMethod my_B_shorten ∈ TB := tb_of (i := 224) (by decide +kernel) (by decide +kernel)
theorem wi_225 : Cond.selects "ChunkPacker$BitRow" my_B_shorten my_B_shorten ∈ TB := tb_of (i := 225) (by decide +kernel) (by decide +kernel)
theorem wi_226 : Cond.code my_B_shorten mb_B_shorten 2 none ∈ TB := tb_of (i := 226) (by decide +kernel) (by decide +kernel)
theorem wi_227 : Cond.classLink "ChunkPacker" 68 "ChunkPacker$Writer" ∈ TB := tb_of (i := 227) (by decide +kernel) (by decide +kernel)
theorem wi_228 : Cond.instantiable "ChunkPacker$Writer" 5 ∈ TB := tb_of (i := 228) (by decide +kernel) (by decide +kernel)
theorem wi_229 : Cond.methodLink "ChunkPacker" 70 my_W_init ∈ TB := tb_of (i := 229) (by decide +kernel) (by decide +kernel)
theorem wi_230 : Cond.instanceMethod my_W_init ∈ TB := tb_of (i := 230) (by decide +kernel) (by decide +kernel)
theorem wi_231 : Cond.code my_W_init mb_W_init 2 none ∈ TB := tb_of (i := 231) (by decide +kernel) (by decide +kernel)
theorem wi_232 : Cond.methodLink "ChunkPacker$Writer" 3 objectInit ∈ TB := tb_of (i := 232) (by decide +kernel) (by decide +kernel)
theorem wi_233 : Cond.classLink "ChunkPacker$Writer" 15 "ChunkPacker$Frame" ∈ TB := tb_of (i := 233) (by decide +kernel) (by decide +kernel)
theorem wi_234 : Cond.instantiable "ChunkPacker$Frame" 2 ∈ TB := tb_of (i := 234) (by decide +kernel) (by decide +kernel)
theorem wi_235 : Cond.methodLink "ChunkPacker$Writer" 17 my_F_init ∈ TB := tb_of (i := 235) (by decide +kernel) (by decide +kernel)
theorem wi_236 : Cond.instanceMethod my_F_init ∈ TB := tb_of (i := 236) (by decide +kernel) (by decide +kernel)
theorem wi_237 : Cond.code my_F_init mb_F_init 1 none ∈ TB := tb_of (i := 237) (by decide +kernel) (by decide +kernel)
theorem wi_238 : Cond.methodLink "ChunkPacker$Frame" 3 objectInit ∈ TB := tb_of (i := 238) (by decide +kernel) (by decide +kernel)
theorem wi_239 : Cond.fieldLink "ChunkPacker$Frame" 9 "ChunkPacker$Frame" "lead" "I" ∈ TB := tb_of (i := 239) (by decide +kernel) (by decide +kernel)
theorem wi_240 : Cond.fieldLink "ChunkPacker$Frame" 15 "ChunkPacker$Frame" "width" "I" ∈ TB := tb_of (i := 240) (by decide +kernel) (by decide +kernel)
theorem wi_246 : Cond.fieldLink "ChunkPacker$Writer" 9 "ChunkPacker$Writer" "row" "LChunkPacker$BitRow;" ∈ TB := tb_of (i := 246) (by decide +kernel) (by decide +kernel)
theorem wi_247 : Cond.fieldLink "ChunkPacker$Writer" 18 "ChunkPacker$Writer" "frame" "LChunkPacker$Frame;" ∈ TB := tb_of (i := 247) (by decide +kernel) (by decide +kernel)
theorem wi_248 : Cond.fieldLink "ChunkPacker$Writer" 22 "ChunkPacker$Writer" "lastTime" "J" ∈ TB := tb_of (i := 248) (by decide +kernel) (by decide +kernel)
theorem wi_249 : Cond.fieldLink "ChunkPacker$Writer" 26 "ChunkPacker$Writer" "lastStep" "J" ∈ TB := tb_of (i := 249) (by decide +kernel) (by decide +kernel)
theorem wi_250 : Cond.fieldLink "ChunkPacker$Writer" 29 "ChunkPacker$Writer" "lastValue" "J" ∈ TB := tb_of (i := 250) (by decide +kernel) (by decide +kernel)
theorem wi_262 : Cond.methodLink "ChunkPacker" 73 my_W_writeAll ∈ TB := tb_of (i := 262) (by decide +kernel) (by decide +kernel)
theorem wi_263 : Cond.instanceMethod my_W_writeAll ∈ TB := tb_of (i := 263) (by decide +kernel) (by decide +kernel)
theorem wi_264 : Cond.selects "ChunkPacker$Writer" my_W_writeAll my_W_writeAll ∈ TB := tb_of (i := 264) (by decide +kernel) (by decide +kernel)
theorem wi_265 : Cond.code my_W_writeAll mb_W_writeAll 9 (some .boolean) ∈ TB := tb_of (i := 265) (by decide +kernel) (by decide +kernel)
theorem wi_266 : Cond.methodLink "ChunkPacker$Writer" 32 my_P_size ∈ TB := tb_of (i := 266) (by decide +kernel) (by decide +kernel)
theorem wi_267 : Cond.methodLink "ChunkPacker$Writer" 38 my_P_timeAt ∈ TB := tb_of (i := 267) (by decide +kernel) (by decide +kernel)
theorem wi_268 : Cond.instanceMethod my_P_timeAt ∈ TB := tb_of (i := 268) (by decide +kernel) (by decide +kernel)
theorem wi_269 : Cond.selects "ChunkPacker$PointRow" my_P_timeAt my_P_timeAt ∈ TB := tb_of (i := 269) (by decide +kernel) (by decide +kernel)
theorem wi_270 : Cond.code my_P_timeAt mb_P_timeAt 2 (some .long) ∈ TB := tb_of (i := 270) (by decide +kernel) (by decide +kernel)
theorem wi_271 : Cond.classLink "ChunkPacker$PointRow" 24 "java/lang/IndexOutOfBoundsException" ∈ TB := tb_of (i := 271) (by decide +kernel) (by decide +kernel)
theorem wi_272 : Cond.instantiable "java/lang/IndexOutOfBoundsException" 6 ∈ TB := tb_of (i := 272) (by decide +kernel) (by decide +kernel)
theorem wi_274 : Cond.selects "java/lang/IndexOutOfBoundsException" ⟨"java/lang/Throwable", "fillInStackTrace", "(I)Ljava/lang/Throwable;"⟩ ⟨"java/lang/Throwable", "fillInStackTrace", "(I)Ljava/lang/Throwable;"⟩ ∈ TB := tb_of (i := 274) (by decide +kernel) (by decide +kernel)
theorem wi_281 : Cond.methodLink "ChunkPacker$PointRow" 28 ⟨"java/lang/IndexOutOfBoundsException", "<init>", "(Ljava/lang/String;)V"⟩ ∈ TB := tb_of (i := 281) (by decide +kernel) (by decide +kernel)
theorem wi_282 : Cond.instanceMethod ⟨"java/lang/IndexOutOfBoundsException", "<init>", "(Ljava/lang/String;)V"⟩ ∈ TB := tb_of (i := 282) (by decide +kernel) (by decide +kernel)
theorem wi_283 : Cond.code ⟨"java/lang/IndexOutOfBoundsException", "<init>", "(Ljava/lang/String;)V"⟩ prog_12_method_2_code 2 none ∈ TB := tb_of (i := 283) (by decide +kernel) (by decide +kernel)
theorem wi_284 : Cond.methodLink "java/lang/IndexOutOfBoundsException" 7 ⟨"java/lang/RuntimeException", "<init>", "(Ljava/lang/String;)V"⟩ ∈ TB := tb_of (i := 284) (by decide +kernel) (by decide +kernel)
theorem wi_287 : Cond.methodLink "ChunkPacker$Writer" 42 my_P_valueAt ∈ TB := tb_of (i := 287) (by decide +kernel) (by decide +kernel)
theorem wi_288 : Cond.instanceMethod my_P_valueAt ∈ TB := tb_of (i := 288) (by decide +kernel) (by decide +kernel)
theorem wi_289 : Cond.selects "ChunkPacker$PointRow" my_P_valueAt my_P_valueAt ∈ TB := tb_of (i := 289) (by decide +kernel) (by decide +kernel)
theorem wi_290 : Cond.code my_P_valueAt mb_P_valueAt 2 (some .long) ∈ TB := tb_of (i := 290) (by decide +kernel) (by decide +kernel)
theorem wi_291 : Cond.methodLink "ChunkPacker$Writer" 45 my_W_writeFirst ∈ TB := tb_of (i := 291) (by decide +kernel) (by decide +kernel)
theorem wi_293 : Cond.instanceMethod my_W_writeFirst ∈ TB := tb_of (i := 293) (by decide +kernel) (by decide +kernel)
theorem wi_294 : Cond.code my_W_writeFirst mb_W_writeFirst 5 (some .boolean) ∈ TB := tb_of (i := 294) (by decide +kernel) (by decide +kernel)
theorem wi_295 : Cond.methodLink "ChunkPacker$Writer" 52 my_B_append ∈ TB := tb_of (i := 295) (by decide +kernel) (by decide +kernel)
theorem wi_296 : Cond.instanceMethod my_B_append ∈ TB := tb_of (i := 296) (by decide +kernel) (by decide +kernel)
theorem wi_297 : Cond.selects "ChunkPacker$BitRow" my_B_append my_B_append ∈ TB := tb_of (i := 297) (by decide +kernel) (by decide +kernel)
theorem wi_298 : Cond.code my_B_append mb_B_append 10 (some .boolean) ∈ TB := tb_of (i := 298) (by decide +kernel) (by decide +kernel)
theorem wi_299 : Cond.constant "ChunkPacker$BitRow" 30 400000 ∈ TB := tb_of (i := 299) (by decide +kernel) (by decide +kernel)
theorem wi_300 : Cond.methodLink "ChunkPacker$Writer" 49 my_W_writeNext ∈ TB := tb_of (i := 300) (by decide +kernel) (by decide +kernel)
theorem wi_302 : Cond.instanceMethod my_W_writeNext ∈ TB := tb_of (i := 302) (by decide +kernel) (by decide +kernel)
theorem wi_303 : Cond.code my_W_writeNext mb_W_writeNext 9 (some .boolean) ∈ TB := tb_of (i := 303) (by decide +kernel) (by decide +kernel)
theorem wi_304 : Cond.methodLink "ChunkPacker$Writer" 58 my_W_writeTurn ∈ TB := tb_of (i := 304) (by decide +kernel) (by decide +kernel)
theorem wi_306 : Cond.instanceMethod my_W_writeTurn ∈ TB := tb_of (i := 306) (by decide +kernel) (by decide +kernel)
theorem wi_307 : Cond.code my_W_writeTurn mb_W_writeTurn 5 (some .boolean) ∈ TB := tb_of (i := 307) (by decide +kernel) (by decide +kernel)
theorem wi_308 : Cond.methodLink "ChunkPacker$Writer" 65 my_W_kindOf ∈ TB := tb_of (i := 308) (by decide +kernel) (by decide +kernel)
theorem wi_309 : Cond.static my_W_kindOf ∈ TB := tb_of (i := 309) (by decide +kernel) (by decide +kernel)
theorem wi_310 : Cond.code my_W_kindOf mb_W_kindOf 5 (some .int) ∈ TB := tb_of (i := 310) (by decide +kernel) (by decide +kernel)
theorem wi_313 : Cond.methodLink "ChunkPacker$Writer" 73 my_W_writeKind ∈ TB := tb_of (i := 313) (by decide +kernel) (by decide +kernel)
theorem wi_315 : Cond.instanceMethod my_W_writeKind ∈ TB := tb_of (i := 315) (by decide +kernel) (by decide +kernel)
theorem wi_316 : Cond.code my_W_writeKind mb_W_writeKind 4 (some .boolean) ∈ TB := tb_of (i := 316) (by decide +kernel) (by decide +kernel)
theorem wi_317 : Cond.methodLink "ChunkPacker$Writer" 62 my_W_writeDifference ∈ TB := tb_of (i := 317) (by decide +kernel) (by decide +kernel)
theorem wi_319 : Cond.instanceMethod my_W_writeDifference ∈ TB := tb_of (i := 319) (by decide +kernel) (by decide +kernel)
theorem wi_320 : Cond.code my_W_writeDifference mb_W_writeDifference 6 (some .boolean) ∈ TB := tb_of (i := 320) (by decide +kernel) (by decide +kernel)
theorem wi_321 : Cond.methodLink "ChunkPacker$Writer" 77 my_J_numberOfLeadingZeros ∈ TB := tb_of (i := 321) (by decide +kernel) (by decide +kernel)
theorem wi_322 : Cond.static my_J_numberOfLeadingZeros ∈ TB := tb_of (i := 322) (by decide +kernel) (by decide +kernel)
theorem wi_323 : Cond.code my_J_numberOfLeadingZeros mb_J_numberOfLeadingZeros 3 (some .int) ∈ TB := tb_of (i := 323) (by decide +kernel) (by decide +kernel)
theorem wi_324 : Cond.methodLink "java/lang/Long" 308 my_I_numberOfLeadingZeros ∈ TB := tb_of (i := 324) (by decide +kernel) (by decide +kernel)
theorem wi_325 : Cond.static my_I_numberOfLeadingZeros ∈ TB := tb_of (i := 325) (by decide +kernel) (by decide +kernel)
theorem wi_326 : Cond.code my_I_numberOfLeadingZeros mb_I_numberOfLeadingZeros 2 (some .int) ∈ TB := tb_of (i := 326) (by decide +kernel) (by decide +kernel)
theorem wi_327 : Cond.constant "java/lang/Integer" 264 65536 ∈ TB := tb_of (i := 327) (by decide +kernel) (by decide +kernel)
theorem wi_328 : Cond.methodLink "ChunkPacker$Writer" 82 my_H_min ∈ TB := tb_of (i := 328) (by decide +kernel) (by decide +kernel)
theorem wi_329 : Cond.static my_H_min ∈ TB := tb_of (i := 329) (by decide +kernel) (by decide +kernel)
theorem wi_330 : Cond.code my_H_min mb_H_min 2 (some .int) ∈ TB := tb_of (i := 330) (by decide +kernel) (by decide +kernel)
theorem wi_331 : Cond.methodLink "ChunkPacker$Writer" 88 my_J_numberOfTrailingZeros ∈ TB := tb_of (i := 331) (by decide +kernel) (by decide +kernel)
theorem wi_332 : Cond.static my_J_numberOfTrailingZeros ∈ TB := tb_of (i := 332) (by decide +kernel) (by decide +kernel)
theorem wi_333 : Cond.code my_J_numberOfTrailingZeros mb_J_numberOfTrailingZeros 3 (some .int) ∈ TB := tb_of (i := 333) (by decide +kernel) (by decide +kernel)
theorem wi_334 : Cond.methodLink "java/lang/Long" 311 my_I_numberOfTrailingZeros ∈ TB := tb_of (i := 334) (by decide +kernel) (by decide +kernel)
theorem wi_335 : Cond.static my_I_numberOfTrailingZeros ∈ TB := tb_of (i := 335) (by decide +kernel) (by decide +kernel)
theorem wi_336 : Cond.code my_I_numberOfTrailingZeros mb_I_numberOfTrailingZeros 2 (some .int) ∈ TB := tb_of (i := 336) (by decide +kernel) (by decide +kernel)
theorem wi_337 : Cond.methodLink "ChunkPacker$Writer" 91 my_F_holds ∈ TB := tb_of (i := 337) (by decide +kernel) (by decide +kernel)
theorem wi_338 : Cond.instanceMethod my_F_holds ∈ TB := tb_of (i := 338) (by decide +kernel) (by decide +kernel)
theorem wi_339 : Cond.selects "ChunkPacker$Frame" my_F_holds my_F_holds ∈ TB := tb_of (i := 339) (by decide +kernel) (by decide +kernel)
theorem wi_340 : Cond.code my_F_holds mb_F_holds 3 (some .boolean) ∈ TB := tb_of (i := 340) (by decide +kernel) (by decide +kernel)
theorem wi_341 : Cond.methodLink "ChunkPacker$Frame" 18 my_F_isThere ∈ TB := tb_of (i := 341) (by decide +kernel) (by decide +kernel)
theorem wi_342 : Cond.instanceMethod my_F_isThere ∈ TB := tb_of (i := 342) (by decide +kernel) (by decide +kernel)
theorem wi_343 : Cond.selects "ChunkPacker$Frame" my_F_isThere my_F_isThere ∈ TB := tb_of (i := 343) (by decide +kernel) (by decide +kernel)
theorem wi_344 : Cond.code my_F_isThere mb_F_isThere 1 (some .boolean) ∈ TB := tb_of (i := 344) (by decide +kernel) (by decide +kernel)
theorem wi_345 : Cond.methodLink "ChunkPacker$Frame" 22 my_F_below ∈ TB := tb_of (i := 345) (by decide +kernel) (by decide +kernel)
theorem wi_346 : Cond.instanceMethod my_F_below ∈ TB := tb_of (i := 346) (by decide +kernel) (by decide +kernel)
theorem wi_347 : Cond.selects "ChunkPacker$Frame" my_F_below my_F_below ∈ TB := tb_of (i := 347) (by decide +kernel) (by decide +kernel)
theorem wi_348 : Cond.code my_F_below mb_F_below 1 (some .int) ∈ TB := tb_of (i := 348) (by decide +kernel) (by decide +kernel)
theorem wi_349 : Cond.constantLong "ChunkPacker$Writer" 95 2 ∈ TB := tb_of (i := 349) (by decide +kernel) (by decide +kernel)
theorem wi_350 : Cond.methodLink "ChunkPacker$Writer" 97 my_W_writeFrame ∈ TB := tb_of (i := 350) (by decide +kernel) (by decide +kernel)
theorem wi_352 : Cond.instanceMethod my_W_writeFrame ∈ TB := tb_of (i := 352) (by decide +kernel) (by decide +kernel)
theorem wi_353 : Cond.code my_W_writeFrame mb_W_writeFrame 3 (some .boolean) ∈ TB := tb_of (i := 353) (by decide +kernel) (by decide +kernel)
theorem wi_354 : Cond.methodLink "ChunkPacker$Writer" 106 my_F_become ∈ TB := tb_of (i := 354) (by decide +kernel) (by decide +kernel)
theorem wi_355 : Cond.instanceMethod my_F_become ∈ TB := tb_of (i := 355) (by decide +kernel) (by decide +kernel)
theorem wi_356 : Cond.selects "ChunkPacker$Frame" my_F_become my_F_become ∈ TB := tb_of (i := 356) (by decide +kernel) (by decide +kernel)
theorem wi_357 : Cond.code my_F_become mb_F_become 3 none ∈ TB := tb_of (i := 357) (by decide +kernel) (by decide +kernel)
theorem wi_358 : Cond.constantLong "ChunkPacker$Writer" 110 3 ∈ TB := tb_of (i := 358) (by decide +kernel) (by decide +kernel)
theorem wi_359 : Cond.methodLink "ChunkPacker$Writer" 100 my_F_below ∈ TB := tb_of (i := 359) (by decide +kernel) (by decide +kernel)
theorem wi_360 : Cond.methodLink "ChunkPacker$Writer" 103 my_F_width ∈ TB := tb_of (i := 360) (by decide +kernel) (by decide +kernel)
theorem wi_361 : Cond.instanceMethod my_F_width ∈ TB := tb_of (i := 361) (by decide +kernel) (by decide +kernel)
theorem wi_362 : Cond.selects "ChunkPacker$Frame" my_F_width my_F_width ∈ TB := tb_of (i := 362) (by decide +kernel) (by decide +kernel)
theorem wi_363 : Cond.code my_F_width mb_F_width 1 (some .int) ∈ TB := tb_of (i := 363) (by decide +kernel) (by decide +kernel)
theorem wi_365 : Cond.methodLink "ChunkPacker" 79 my_B_size ∈ TB := tb_of (i := 365) (by decide +kernel) (by decide +kernel)
theorem wi_366 : Cond.instanceMethod my_B_size ∈ TB := tb_of (i := 366) (by decide +kernel) (by decide +kernel)
theorem wi_367 : Cond.selects "ChunkPacker$BitRow" my_B_size my_B_size ∈ TB := tb_of (i := 367) (by decide +kernel) (by decide +kernel)
theorem wi_368 : Cond.code my_B_size mb_B_size 1 (some .int) ∈ TB := tb_of (i := 368) (by decide +kernel) (by decide +kernel)
theorem wi_369 : Cond.methodLink "ChunkPackerLaw" 78 my_L_unpack ∈ TB := tb_of (i := 369) (by decide +kernel) (by decide +kernel)
theorem wi_370 : Cond.static my_L_unpack ∈ TB := tb_of (i := 370) (by decide +kernel) (by decide +kernel)
theorem wi_371 : Cond.codeWith my_L_unpack mb_L_unpack 4 (some .int) [(0, 9, 12, 13)] ∈ TB := tb_of (i := 371) (by decide +kernel) (by decide +kernel)
theorem wi_372 : Cond.methodLink "ChunkPackerLaw" 25 my_X_unpack ∈ TB := tb_of (i := 372) (by decide +kernel) (by decide +kernel)
theorem wi_373 : Cond.instanceMethod my_X_unpack ∈ TB := tb_of (i := 373) (by decide +kernel) (by decide +kernel)
theorem wi_374 : Cond.selects "ChunkPacker" my_X_unpack my_X_unpack ∈ TB := tb_of (i := 374) (by decide +kernel) (by decide +kernel)
theorem wi_375 : Cond.code my_X_unpack mb_X_unpack 5 (some .int) ∈ TB := tb_of (i := 375) (by decide +kernel) (by decide +kernel)
theorem wi_377 : Cond.classLink "ChunkPacker" 82 "ChunkPacker$Reader" ∈ TB := tb_of (i := 377) (by decide +kernel) (by decide +kernel)
theorem wi_378 : Cond.instantiable "ChunkPacker$Reader" 7 ∈ TB := tb_of (i := 378) (by decide +kernel) (by decide +kernel)
theorem wi_379 : Cond.methodLink "ChunkPacker" 84 my_R_init ∈ TB := tb_of (i := 379) (by decide +kernel) (by decide +kernel)
theorem wi_380 : Cond.instanceMethod my_R_init ∈ TB := tb_of (i := 380) (by decide +kernel) (by decide +kernel)
theorem wi_381 : Cond.code my_R_init mb_R_init 2 none ∈ TB := tb_of (i := 381) (by decide +kernel) (by decide +kernel)
theorem wi_382 : Cond.methodLink "ChunkPacker$Reader" 3 objectInit ∈ TB := tb_of (i := 382) (by decide +kernel) (by decide +kernel)
theorem wi_383 : Cond.classLink "ChunkPacker$Reader" 15 "ChunkPacker$Frame" ∈ TB := tb_of (i := 383) (by decide +kernel) (by decide +kernel)
theorem wi_384 : Cond.methodLink "ChunkPacker$Reader" 17 my_F_init ∈ TB := tb_of (i := 384) (by decide +kernel) (by decide +kernel)
theorem wi_385 : Cond.fieldLink "ChunkPacker$Reader" 9 "ChunkPacker$Reader" "row" "LChunkPacker$BitRow;" ∈ TB := tb_of (i := 385) (by decide +kernel) (by decide +kernel)
theorem wi_386 : Cond.fieldLink "ChunkPacker$Reader" 18 "ChunkPacker$Reader" "frame" "LChunkPacker$Frame;" ∈ TB := tb_of (i := 386) (by decide +kernel) (by decide +kernel)
theorem wi_387 : Cond.fieldLink "ChunkPacker$Reader" 22 "ChunkPacker$Reader" "position" "I" ∈ TB := tb_of (i := 387) (by decide +kernel) (by decide +kernel)
theorem wi_388 : Cond.fieldLink "ChunkPacker$Reader" 26 "ChunkPacker$Reader" "number" "J" ∈ TB := tb_of (i := 388) (by decide +kernel) (by decide +kernel)
theorem wi_389 : Cond.fieldLink "ChunkPacker$Reader" 30 "ChunkPacker$Reader" "time" "J" ∈ TB := tb_of (i := 389) (by decide +kernel) (by decide +kernel)
theorem wi_390 : Cond.fieldLink "ChunkPacker$Reader" 33 "ChunkPacker$Reader" "step" "J" ∈ TB := tb_of (i := 390) (by decide +kernel) (by decide +kernel)
theorem wi_391 : Cond.fieldLink "ChunkPacker$Reader" 36 "ChunkPacker$Reader" "value" "J" ∈ TB := tb_of (i := 391) (by decide +kernel) (by decide +kernel)
theorem wi_407 : Cond.methodLink "ChunkPacker" 85 my_R_readAll ∈ TB := tb_of (i := 407) (by decide +kernel) (by decide +kernel)
theorem wi_408 : Cond.instanceMethod my_R_readAll ∈ TB := tb_of (i := 408) (by decide +kernel) (by decide +kernel)
theorem wi_409 : Cond.selects "ChunkPacker$Reader" my_R_readAll my_R_readAll ∈ TB := tb_of (i := 409) (by decide +kernel) (by decide +kernel)
theorem wi_410 : Cond.code my_R_readAll mb_R_readAll 5 (some .boolean) ∈ TB := tb_of (i := 410) (by decide +kernel) (by decide +kernel)
theorem wi_411 : Cond.methodLink "ChunkPacker$Reader" 39 my_R_readFirst ∈ TB := tb_of (i := 411) (by decide +kernel) (by decide +kernel)
theorem wi_413 : Cond.instanceMethod my_R_readFirst ∈ TB := tb_of (i := 413) (by decide +kernel) (by decide +kernel)
theorem wi_414 : Cond.code my_R_readFirst mb_R_readFirst 1 (some .boolean) ∈ TB := tb_of (i := 414) (by decide +kernel) (by decide +kernel)
theorem wi_415 : Cond.methodLink "ChunkPacker$Reader" 62 my_R_take ∈ TB := tb_of (i := 415) (by decide +kernel) (by decide +kernel)
theorem wi_417 : Cond.instanceMethod my_R_take ∈ TB := tb_of (i := 417) (by decide +kernel) (by decide +kernel)
theorem wi_418 : Cond.code my_R_take mb_R_take 2 (some .boolean) ∈ TB := tb_of (i := 418) (by decide +kernel) (by decide +kernel)
theorem wi_419 : Cond.methodLink "ChunkPacker$Reader" 52 my_B_has ∈ TB := tb_of (i := 419) (by decide +kernel) (by decide +kernel)
theorem wi_420 : Cond.instanceMethod my_B_has ∈ TB := tb_of (i := 420) (by decide +kernel) (by decide +kernel)
theorem wi_421 : Cond.selects "ChunkPacker$BitRow" my_B_has my_B_has ∈ TB := tb_of (i := 421) (by decide +kernel) (by decide +kernel)
theorem wi_422 : Cond.code my_B_has mb_B_has 3 (some .boolean) ∈ TB := tb_of (i := 422) (by decide +kernel) (by decide +kernel)
theorem wi_423 : Cond.methodLink "ChunkPacker$Reader" 58 my_B_numberAt ∈ TB := tb_of (i := 423) (by decide +kernel) (by decide +kernel)
theorem wi_424 : Cond.instanceMethod my_B_numberAt ∈ TB := tb_of (i := 424) (by decide +kernel) (by decide +kernel)
theorem wi_425 : Cond.selects "ChunkPacker$BitRow" my_B_numberAt my_B_numberAt ∈ TB := tb_of (i := 425) (by decide +kernel) (by decide +kernel)
theorem wi_426 : Cond.code my_B_numberAt mb_B_numberAt 7 (some .long) ∈ TB := tb_of (i := 426) (by decide +kernel) (by decide +kernel)
theorem wi_427 : Cond.methodLink "ChunkPacker$Reader" 43 my_R_readNext ∈ TB := tb_of (i := 427) (by decide +kernel) (by decide +kernel)
theorem wi_429 : Cond.instanceMethod my_R_readNext ∈ TB := tb_of (i := 429) (by decide +kernel) (by decide +kernel)
theorem wi_430 : Cond.code my_R_readNext mb_R_readNext 1 (some .boolean) ∈ TB := tb_of (i := 430) (by decide +kernel) (by decide +kernel)
theorem wi_431 : Cond.methodLink "ChunkPacker$Reader" 66 my_R_readTurn ∈ TB := tb_of (i := 431) (by decide +kernel) (by decide +kernel)
theorem wi_433 : Cond.instanceMethod my_R_readTurn ∈ TB := tb_of (i := 433) (by decide +kernel) (by decide +kernel)
theorem wi_434 : Cond.code my_R_readTurn mb_R_readTurn 3 (some .boolean) ∈ TB := tb_of (i := 434) (by decide +kernel) (by decide +kernel)
theorem wi_435 : Cond.methodLink "ChunkPacker$Reader" 72 my_R_readKind ∈ TB := tb_of (i := 435) (by decide +kernel) (by decide +kernel)
theorem wi_437 : Cond.instanceMethod my_R_readKind ∈ TB := tb_of (i := 437) (by decide +kernel) (by decide +kernel)
theorem wi_438 : Cond.code my_R_readKind mb_R_readKind 2 (some .int) ∈ TB := tb_of (i := 438) (by decide +kernel) (by decide +kernel)
theorem wi_440 : Cond.methodLink "ChunkPacker$Reader" 80 my_R_withSign ∈ TB := tb_of (i := 440) (by decide +kernel) (by decide +kernel)
theorem wi_441 : Cond.static my_R_withSign ∈ TB := tb_of (i := 441) (by decide +kernel) (by decide +kernel)
theorem wi_442 : Cond.code my_R_withSign mb_R_withSign 4 (some .long) ∈ TB := tb_of (i := 442) (by decide +kernel) (by decide +kernel)
theorem wi_443 : Cond.constantLong "ChunkPacker$Reader" 84 1099511627775 ∈ TB := tb_of (i := 443) (by decide +kernel) (by decide +kernel)
theorem wi_444 : Cond.methodLink "ChunkPacker$Reader" 69 my_R_readDifference ∈ TB := tb_of (i := 444) (by decide +kernel) (by decide +kernel)
theorem wi_446 : Cond.instanceMethod my_R_readDifference ∈ TB := tb_of (i := 446) (by decide +kernel) (by decide +kernel)
theorem wi_447 : Cond.code my_R_readDifference mb_R_readDifference 2 (some .boolean) ∈ TB := tb_of (i := 447) (by decide +kernel) (by decide +kernel)
theorem wi_448 : Cond.methodLink "ChunkPacker$Reader" 86 my_F_isThere ∈ TB := tb_of (i := 448) (by decide +kernel) (by decide +kernel)
theorem wi_449 : Cond.methodLink "ChunkPacker$Reader" 89 my_R_readFrame ∈ TB := tb_of (i := 449) (by decide +kernel) (by decide +kernel)
theorem wi_451 : Cond.instanceMethod my_R_readFrame ∈ TB := tb_of (i := 451) (by decide +kernel) (by decide +kernel)
theorem wi_452 : Cond.code my_R_readFrame mb_R_readFrame 3 (some .boolean) ∈ TB := tb_of (i := 452) (by decide +kernel) (by decide +kernel)
theorem wi_453 : Cond.methodLink "ChunkPacker$Reader" 98 my_F_become ∈ TB := tb_of (i := 453) (by decide +kernel) (by decide +kernel)
theorem wi_454 : Cond.methodLink "ChunkPacker$Reader" 92 my_F_width ∈ TB := tb_of (i := 454) (by decide +kernel) (by decide +kernel)
theorem wi_455 : Cond.methodLink "ChunkPacker$Reader" 95 my_F_below ∈ TB := tb_of (i := 455) (by decide +kernel) (by decide +kernel)
theorem wi_456 : Cond.methodLink "ChunkPacker$Reader" 46 my_P_append ∈ TB := tb_of (i := 456) (by decide +kernel) (by decide +kernel)
theorem wi_457 : Cond.methodLink "ChunkPacker" 89 my_R_position ∈ TB := tb_of (i := 457) (by decide +kernel) (by decide +kernel)
theorem wi_458 : Cond.instanceMethod my_R_position ∈ TB := tb_of (i := 458) (by decide +kernel) (by decide +kernel)
theorem wi_459 : Cond.selects "ChunkPacker$Reader" my_R_position my_R_position ∈ TB := tb_of (i := 459) (by decide +kernel) (by decide +kernel)
theorem wi_460 : Cond.code my_R_position mb_R_position 1 (some .int) ∈ TB := tb_of (i := 460) (by decide +kernel) (by decide +kernel)
theorem wi_461 : Cond.methodLink "ChunkPackerLaw" 85 my_L_count ∈ TB := tb_of (i := 461) (by decide +kernel) (by decide +kernel)
theorem wi_462 : Cond.static my_L_count ∈ TB := tb_of (i := 462) (by decide +kernel) (by decide +kernel)
theorem wi_463 : Cond.codeWith my_L_count mb_L_count 4 (some .int) [(0, 9, 12, 13)] ∈ TB := tb_of (i := 463) (by decide +kernel) (by decide +kernel)
theorem wi_464 : Cond.methodLink "ChunkPackerLaw" 28 my_X_count ∈ TB := tb_of (i := 464) (by decide +kernel) (by decide +kernel)
theorem wi_465 : Cond.instanceMethod my_X_count ∈ TB := tb_of (i := 465) (by decide +kernel) (by decide +kernel)
theorem wi_466 : Cond.selects "ChunkPacker" my_X_count my_X_count ∈ TB := tb_of (i := 466) (by decide +kernel) (by decide +kernel)
theorem wi_467 : Cond.code my_X_count mb_X_count 2 (some .int) ∈ TB := tb_of (i := 467) (by decide +kernel) (by decide +kernel)
theorem wi_469 : Cond.methodLink "ChunkPackerLaw" 88 my_L_time ∈ TB := tb_of (i := 469) (by decide +kernel) (by decide +kernel)
theorem wi_470 : Cond.static my_L_time ∈ TB := tb_of (i := 470) (by decide +kernel) (by decide +kernel)
theorem wi_471 : Cond.codeWith my_L_time mb_L_time 4 (some .int) [(0, 8, 11, 35)] ∈ TB := tb_of (i := 471) (by decide +kernel) (by decide +kernel)
theorem wi_472 : Cond.classLink "ChunkPackerLaw" 35 "java/lang/IndexOutOfBoundsException" ∈ TB := tb_of (i := 472) (by decide +kernel) (by decide +kernel)
theorem wi_473 : Cond.methodLink "ChunkPackerLaw" 31 my_X_time ∈ TB := tb_of (i := 473) (by decide +kernel) (by decide +kernel)
theorem wi_474 : Cond.instanceMethod my_X_time ∈ TB := tb_of (i := 474) (by decide +kernel) (by decide +kernel)
theorem wi_475 : Cond.selects "ChunkPacker" my_X_time my_X_time ∈ TB := tb_of (i := 475) (by decide +kernel) (by decide +kernel)
theorem wi_476 : Cond.code my_X_time mb_X_time 2 (some .long) ∈ TB := tb_of (i := 476) (by decide +kernel) (by decide +kernel)
theorem wi_477 : Cond.methodLink "ChunkPacker" 94 my_P_timeAt ∈ TB := tb_of (i := 477) (by decide +kernel) (by decide +kernel)
theorem wi_478 : Cond.methodLink "ChunkPackerLaw" 91 my_L_value ∈ TB := tb_of (i := 478) (by decide +kernel) (by decide +kernel)
theorem wi_479 : Cond.static my_L_value ∈ TB := tb_of (i := 479) (by decide +kernel) (by decide +kernel)
theorem wi_480 : Cond.codeWith my_L_value mb_L_value 4 (some .int) [(0, 8, 11, 35)] ∈ TB := tb_of (i := 480) (by decide +kernel) (by decide +kernel)
theorem wi_481 : Cond.methodLink "ChunkPackerLaw" 37 my_X_value ∈ TB := tb_of (i := 481) (by decide +kernel) (by decide +kernel)
theorem wi_482 : Cond.instanceMethod my_X_value ∈ TB := tb_of (i := 482) (by decide +kernel) (by decide +kernel)
theorem wi_483 : Cond.selects "ChunkPacker" my_X_value my_X_value ∈ TB := tb_of (i := 483) (by decide +kernel) (by decide +kernel)
theorem wi_484 : Cond.code my_X_value mb_X_value 2 (some .long) ∈ TB := tb_of (i := 484) (by decide +kernel) (by decide +kernel)
theorem wi_485 : Cond.methodLink "ChunkPacker" 98 my_P_valueAt ∈ TB := tb_of (i := 485) (by decide +kernel) (by decide +kernel)
theorem wi_486 : Cond.methodLink "ChunkPackerLaw" 94 my_L_bit ∈ TB := tb_of (i := 486) (by decide +kernel) (by decide +kernel)
theorem wi_487 : Cond.static my_L_bit ∈ TB := tb_of (i := 487) (by decide +kernel) (by decide +kernel)
theorem wi_488 : Cond.codeWith my_L_bit mb_L_bit 4 (some .int) [(0, 16, 19, 35)] ∈ TB := tb_of (i := 488) (by decide +kernel) (by decide +kernel)
theorem wi_489 : Cond.methodLink "ChunkPackerLaw" 40 my_X_bit ∈ TB := tb_of (i := 489) (by decide +kernel) (by decide +kernel)
theorem wi_490 : Cond.instanceMethod my_X_bit ∈ TB := tb_of (i := 490) (by decide +kernel) (by decide +kernel)
theorem wi_491 : Cond.selects "ChunkPacker" my_X_bit my_X_bit ∈ TB := tb_of (i := 491) (by decide +kernel) (by decide +kernel)
theorem wi_492 : Cond.code my_X_bit mb_X_bit 2 (some .boolean) ∈ TB := tb_of (i := 492) (by decide +kernel) (by decide +kernel)
theorem wi_493 : Cond.methodLink "ChunkPacker" 101 my_B_isOne ∈ TB := tb_of (i := 493) (by decide +kernel) (by decide +kernel)
theorem wi_494 : Cond.instanceMethod my_B_isOne ∈ TB := tb_of (i := 494) (by decide +kernel) (by decide +kernel)
theorem wi_495 : Cond.selects "ChunkPacker$BitRow" my_B_isOne my_B_isOne ∈ TB := tb_of (i := 495) (by decide +kernel) (by decide +kernel)
theorem wi_496 : Cond.code my_B_isOne mb_B_isOne 2 (some .boolean) ∈ TB := tb_of (i := 496) (by decide +kernel) (by decide +kernel)
theorem wi_497 : Cond.classLink "ChunkPacker$BitRow" 19 "java/lang/IndexOutOfBoundsException" ∈ TB := tb_of (i := 497) (by decide +kernel) (by decide +kernel)
theorem wi_499 : Cond.methodLink "ChunkPacker$BitRow" 23 ⟨"java/lang/IndexOutOfBoundsException", "<init>", "(Ljava/lang/String;)V"⟩ ∈ TB := tb_of (i := 499) (by decide +kernel) (by decide +kernel)
theorem wi_500 : Cond.methodLink "ChunkPacker$BitRow" 26 my_B_numberAt ∈ TB := tb_of (i := 500) (by decide +kernel) (by decide +kernel)
theorem wi_501 : Cond.methodLink "ChunkPackerLaw" 97 my_L_flip ∈ TB := tb_of (i := 501) (by decide +kernel) (by decide +kernel)
theorem wi_502 : Cond.static my_L_flip ∈ TB := tb_of (i := 502) (by decide +kernel) (by decide +kernel)
theorem wi_503 : Cond.codeWith my_L_flip mb_L_flip 3 (some .int) [(0, 5, 8, 35)] ∈ TB := tb_of (i := 503) (by decide +kernel) (by decide +kernel)
theorem wi_504 : Cond.methodLink "ChunkPackerLaw" 44 my_X_flip ∈ TB := tb_of (i := 504) (by decide +kernel) (by decide +kernel)
theorem wi_505 : Cond.instanceMethod my_X_flip ∈ TB := tb_of (i := 505) (by decide +kernel) (by decide +kernel)
theorem wi_506 : Cond.selects "ChunkPacker" my_X_flip my_X_flip ∈ TB := tb_of (i := 506) (by decide +kernel) (by decide +kernel)
theorem wi_507 : Cond.code my_X_flip mb_X_flip 2 none ∈ TB := tb_of (i := 507) (by decide +kernel) (by decide +kernel)
theorem wi_508 : Cond.methodLink "ChunkPacker" 105 my_B_invert ∈ TB := tb_of (i := 508) (by decide +kernel) (by decide +kernel)
theorem wi_509 : Cond.instanceMethod my_B_invert ∈ TB := tb_of (i := 509) (by decide +kernel) (by decide +kernel)
theorem wi_510 : Cond.selects "ChunkPacker$BitRow" my_B_invert my_B_invert ∈ TB := tb_of (i := 510) (by decide +kernel) (by decide +kernel)
theorem wi_511 : Cond.code my_B_invert mb_B_invert 2 none ∈ TB := tb_of (i := 511) (by decide +kernel) (by decide +kernel)
theorem wi_512 : Cond.methodLink "ChunkPackerLaw" 101 my_L_put ∈ TB := tb_of (i := 512) (by decide +kernel) (by decide +kernel)
theorem wi_513 : Cond.static my_L_put ∈ TB := tb_of (i := 513) (by decide +kernel) (by decide +kernel)
theorem wi_514 : Cond.codeWith my_L_put mb_L_put 6 (some .int) [(0, 11, 14, 13), (0, 11, 18, 15)] ∈ TB := tb_of (i := 514) (by decide +kernel) (by decide +kernel)
theorem wi_515 : Cond.methodLink "ChunkPackerLaw" 48 my_X_put ∈ TB := tb_of (i := 515) (by decide +kernel) (by decide +kernel)
theorem wi_516 : Cond.instanceMethod my_X_put ∈ TB := tb_of (i := 516) (by decide +kernel) (by decide +kernel)
theorem wi_517 : Cond.selects "ChunkPacker" my_X_put my_X_put ∈ TB := tb_of (i := 517) (by decide +kernel) (by decide +kernel)
theorem wi_518 : Cond.code my_X_put mb_X_put 4 (some .int) ∈ TB := tb_of (i := 518) (by decide +kernel) (by decide +kernel)
theorem wi_521 : Cond.methodLink "ChunkPacker" 112 my_B_append ∈ TB := tb_of (i := 521) (by decide +kernel) (by decide +kernel)
theorem wi_522 : Cond.methodLink "ChunkPackerLaw" 105 my_L_cut ∈ TB := tb_of (i := 522) (by decide +kernel) (by decide +kernel)
theorem wi_523 : Cond.static my_L_cut ∈ TB := tb_of (i := 523) (by decide +kernel) (by decide +kernel)
theorem wi_524 : Cond.codeWith my_L_cut mb_L_cut 3 (some .int) [(0, 5, 8, 13)] ∈ TB := tb_of (i := 524) (by decide +kernel) (by decide +kernel)
theorem wi_525 : Cond.methodLink "ChunkPackerLaw" 52 my_X_cut ∈ TB := tb_of (i := 525) (by decide +kernel) (by decide +kernel)
theorem wi_526 : Cond.instanceMethod my_X_cut ∈ TB := tb_of (i := 526) (by decide +kernel) (by decide +kernel)
theorem wi_527 : Cond.selects "ChunkPacker" my_X_cut my_X_cut ∈ TB := tb_of (i := 527) (by decide +kernel) (by decide +kernel)
theorem wi_528 : Cond.code my_X_cut mb_X_cut 2 none ∈ TB := tb_of (i := 528) (by decide +kernel) (by decide +kernel)
theorem wi_530 : Cond.classLink "ChunkPackerLaw" 56 "ChunkPackerModel" ∈ TB := tb_of (i := 530) (by decide +kernel) (by decide +kernel)
theorem wi_531 : Cond.instantiable "ChunkPackerModel" 13 ∈ TB := tb_of (i := 531) (by decide +kernel) (by decide +kernel)
theorem wi_532 : Cond.methodLink "ChunkPackerLaw" 58 my_M_init ∈ TB := tb_of (i := 532) (by decide +kernel) (by decide +kernel)
theorem wi_533 : Cond.instanceMethod my_M_init ∈ TB := tb_of (i := 533) (by decide +kernel) (by decide +kernel)
theorem wi_534 : Cond.code my_M_init mb_M_init 1 none ∈ TB := tb_of (i := 534) (by decide +kernel) (by decide +kernel)
theorem wi_535 : Cond.methodLink "ChunkPackerModel" 1 objectInit ∈ TB := tb_of (i := 535) (by decide +kernel) (by decide +kernel)
theorem wi_536 : Cond.constant "ChunkPackerModel" 16 400000 ∈ TB := tb_of (i := 536) (by decide +kernel) (by decide +kernel)
theorem wi_537 : Cond.fieldLink "ChunkPackerModel" 27 "ChunkPackerModel" "code" "I" ∈ TB := tb_of (i := 537) (by decide +kernel) (by decide +kernel)
theorem wi_538 : Cond.fieldLink "ChunkPackerModel" 7 "ChunkPackerModel" "times" "[J" ∈ TB := tb_of (i := 538) (by decide +kernel) (by decide +kernel)
theorem wi_539 : Cond.fieldLink "ChunkPackerModel" 13 "ChunkPackerModel" "values" "[J" ∈ TB := tb_of (i := 539) (by decide +kernel) (by decide +kernel)
theorem wi_540 : Cond.fieldLink "ChunkPackerModel" 33 "ChunkPackerModel" "points" "I" ∈ TB := tb_of (i := 540) (by decide +kernel) (by decide +kernel)
theorem wi_541 : Cond.fieldLink "ChunkPackerModel" 17 "ChunkPackerModel" "bits" "[B" ∈ TB := tb_of (i := 541) (by decide +kernel) (by decide +kernel)
theorem wi_542 : Cond.fieldLink "ChunkPackerModel" 36 "ChunkPackerModel" "size" "I" ∈ TB := tb_of (i := 542) (by decide +kernel) (by decide +kernel)
theorem wi_543 : Cond.fieldLink "ChunkPackerModel" 99 "ChunkPackerModel" "taken" "I" ∈ TB := tb_of (i := 543) (by decide +kernel) (by decide +kernel)
theorem wi_544 : Cond.fieldLink "ChunkPackerModel" 21 "ChunkPackerModel" "newTimes" "[J" ∈ TB := tb_of (i := 544) (by decide +kernel) (by decide +kernel)
theorem wi_545 : Cond.fieldLink "ChunkPackerModel" 24 "ChunkPackerModel" "newValues" "[J" ∈ TB := tb_of (i := 545) (by decide +kernel) (by decide +kernel)
theorem wi_546 : Cond.fieldLink "ChunkPackerModel" 82 "ChunkPackerModel" "place" "I" ∈ TB := tb_of (i := 546) (by decide +kernel) (by decide +kernel)
theorem wi_547 : Cond.fieldLink "ChunkPackerModel" 78 "ChunkPackerModel" "wrong" "Z" ∈ TB := tb_of (i := 547) (by decide +kernel) (by decide +kernel)
theorem wi_548 : Cond.fieldLink "ChunkPackerModel" 66 "ChunkPackerModel" "frameZeros" "I" ∈ TB := tb_of (i := 548) (by decide +kernel) (by decide +kernel)
theorem wi_549 : Cond.fieldLink "ChunkPackerModel" 63 "ChunkPackerModel" "frameBits" "I" ∈ TB := tb_of (i := 549) (by decide +kernel) (by decide +kernel)
theorem wi_577 : Cond.methodLink "ChunkPackerLaw" 67 my_M_thrown ∈ TB := tb_of (i := 577) (by decide +kernel) (by decide +kernel)
theorem wi_578 : Cond.instanceMethod my_M_thrown ∈ TB := tb_of (i := 578) (by decide +kernel) (by decide +kernel)
theorem wi_579 : Cond.selects "ChunkPackerModel" my_M_thrown my_M_thrown ∈ TB := tb_of (i := 579) (by decide +kernel) (by decide +kernel)
theorem wi_580 : Cond.code my_M_thrown mb_M_thrown 1 (some .int) ∈ TB := tb_of (i := 580) (by decide +kernel) (by decide +kernel)
theorem wi_581 : Cond.methodLink "ChunkPackerLaw" 66 my_M_add ∈ TB := tb_of (i := 581) (by decide +kernel) (by decide +kernel)
theorem wi_582 : Cond.instanceMethod my_M_add ∈ TB := tb_of (i := 582) (by decide +kernel) (by decide +kernel)
theorem wi_583 : Cond.selects "ChunkPackerModel" my_M_add my_M_add ∈ TB := tb_of (i := 583) (by decide +kernel) (by decide +kernel)
theorem wi_584 : Cond.code my_M_add mb_M_add 6 (some .int) ∈ TB := tb_of (i := 584) (by decide +kernel) (by decide +kernel)
theorem wi_585 : Cond.constantLong "ChunkPackerModel" 31 1099511627775 ∈ TB := tb_of (i := 585) (by decide +kernel) (by decide +kernel)
theorem wi_586 : Cond.methodLink "ChunkPackerLaw" 73 my_M_keep ∈ TB := tb_of (i := 586) (by decide +kernel) (by decide +kernel)
theorem wi_587 : Cond.instanceMethod my_M_keep ∈ TB := tb_of (i := 587) (by decide +kernel) (by decide +kernel)
theorem wi_588 : Cond.selects "ChunkPackerModel" my_M_keep my_M_keep ∈ TB := tb_of (i := 588) (by decide +kernel) (by decide +kernel)
theorem wi_589 : Cond.code my_M_keep mb_M_keep 3 (some .int) ∈ TB := tb_of (i := 589) (by decide +kernel) (by decide +kernel)
theorem wi_590 : Cond.methodLink "ChunkPackerLaw" 77 my_M_pack ∈ TB := tb_of (i := 590) (by decide +kernel) (by decide +kernel)
theorem wi_591 : Cond.instanceMethod my_M_pack ∈ TB := tb_of (i := 591) (by decide +kernel) (by decide +kernel)
theorem wi_592 : Cond.selects "ChunkPackerModel" my_M_pack my_M_pack ∈ TB := tb_of (i := 592) (by decide +kernel) (by decide +kernel)
theorem wi_593 : Cond.code my_M_pack mb_M_pack 4 (some .int) ∈ TB := tb_of (i := 593) (by decide +kernel) (by decide +kernel)
theorem wi_594 : Cond.methodLink "ChunkPackerModel" 39 my_M_write ∈ TB := tb_of (i := 594) (by decide +kernel) (by decide +kernel)
theorem wi_596 : Cond.instanceMethod my_M_write ∈ TB := tb_of (i := 596) (by decide +kernel) (by decide +kernel)
theorem wi_597 : Cond.code my_M_write mb_M_write 5 none ∈ TB := tb_of (i := 597) (by decide +kernel) (by decide +kernel)
theorem wi_598 : Cond.methodLink "ChunkPackerModel" 71 my_M_writeTurn ∈ TB := tb_of (i := 598) (by decide +kernel) (by decide +kernel)
theorem wi_600 : Cond.instanceMethod my_M_writeTurn ∈ TB := tb_of (i := 600) (by decide +kernel) (by decide +kernel)
theorem wi_601 : Cond.code my_M_writeTurn mb_M_writeTurn 3 none ∈ TB := tb_of (i := 601) (by decide +kernel) (by decide +kernel)
theorem wi_602 : Cond.constantLong "ChunkPackerModel" 43 (-64) ∈ TB := tb_of (i := 602) (by decide +kernel) (by decide +kernel)
theorem wi_603 : Cond.constantLong "ChunkPackerModel" 45 63 ∈ TB := tb_of (i := 603) (by decide +kernel) (by decide +kernel)
theorem wi_604 : Cond.constantLong "ChunkPackerModel" 47 2 ∈ TB := tb_of (i := 604) (by decide +kernel) (by decide +kernel)
theorem wi_605 : Cond.constantLong "ChunkPackerModel" 49 (-512) ∈ TB := tb_of (i := 605) (by decide +kernel) (by decide +kernel)
theorem wi_606 : Cond.constantLong "ChunkPackerModel" 51 511 ∈ TB := tb_of (i := 606) (by decide +kernel) (by decide +kernel)
theorem wi_607 : Cond.constantLong "ChunkPackerModel" 53 6 ∈ TB := tb_of (i := 607) (by decide +kernel) (by decide +kernel)
theorem wi_608 : Cond.constantLong "ChunkPackerModel" 55 (-4096) ∈ TB := tb_of (i := 608) (by decide +kernel) (by decide +kernel)
theorem wi_609 : Cond.constantLong "ChunkPackerModel" 57 4095 ∈ TB := tb_of (i := 609) (by decide +kernel) (by decide +kernel)
theorem wi_610 : Cond.constantLong "ChunkPackerModel" 59 14 ∈ TB := tb_of (i := 610) (by decide +kernel) (by decide +kernel)
theorem wi_611 : Cond.constantLong "ChunkPackerModel" 61 15 ∈ TB := tb_of (i := 611) (by decide +kernel) (by decide +kernel)
theorem wi_612 : Cond.methodLink "ChunkPackerModel" 75 my_M_writeValue ∈ TB := tb_of (i := 612) (by decide +kernel) (by decide +kernel)
theorem wi_614 : Cond.instanceMethod my_M_writeValue ∈ TB := tb_of (i := 614) (by decide +kernel) (by decide +kernel)
theorem wi_615 : Cond.code my_M_writeValue mb_M_writeValue 6 none ∈ TB := tb_of (i := 615) (by decide +kernel) (by decide +kernel)
theorem wi_616 : Cond.constantLong "ChunkPackerModel" 69 3 ∈ TB := tb_of (i := 616) (by decide +kernel) (by decide +kernel)
theorem wi_617 : Cond.methodLink "ChunkPackerLaw" 80 my_M_unpack ∈ TB := tb_of (i := 617) (by decide +kernel) (by decide +kernel)
theorem wi_618 : Cond.instanceMethod my_M_unpack ∈ TB := tb_of (i := 618) (by decide +kernel) (by decide +kernel)
theorem wi_619 : Cond.selects "ChunkPackerModel" my_M_unpack my_M_unpack ∈ TB := tb_of (i := 619) (by decide +kernel) (by decide +kernel)
theorem wi_620 : Cond.code my_M_unpack mb_M_unpack 5 (some .int) ∈ TB := tb_of (i := 620) (by decide +kernel) (by decide +kernel)
theorem wi_621 : Cond.methodLink "ChunkPackerModel" 85 my_M_read ∈ TB := tb_of (i := 621) (by decide +kernel) (by decide +kernel)
theorem wi_623 : Cond.instanceMethod my_M_read ∈ TB := tb_of (i := 623) (by decide +kernel) (by decide +kernel)
theorem wi_624 : Cond.code my_M_read mb_M_read 5 (some .long) ∈ TB := tb_of (i := 624) (by decide +kernel) (by decide +kernel)
theorem wi_625 : Cond.methodLink "ChunkPackerModel" 92 my_M_readTurn ∈ TB := tb_of (i := 625) (by decide +kernel) (by decide +kernel)
theorem wi_627 : Cond.instanceMethod my_M_readTurn ∈ TB := tb_of (i := 627) (by decide +kernel) (by decide +kernel)
theorem wi_628 : Cond.code my_M_readTurn mb_M_readTurn 1 (some .long) ∈ TB := tb_of (i := 628) (by decide +kernel) (by decide +kernel)
theorem wi_629 : Cond.methodLink "ChunkPackerModel" 89 my_M_readSigned ∈ TB := tb_of (i := 629) (by decide +kernel) (by decide +kernel)
theorem wi_631 : Cond.instanceMethod my_M_readSigned ∈ TB := tb_of (i := 631) (by decide +kernel) (by decide +kernel)
theorem wi_632 : Cond.code my_M_readSigned mb_M_readSigned 4 (some .long) ∈ TB := tb_of (i := 632) (by decide +kernel) (by decide +kernel)
theorem wi_633 : Cond.methodLink "ChunkPackerModel" 96 my_M_readValue ∈ TB := tb_of (i := 633) (by decide +kernel) (by decide +kernel)
theorem wi_635 : Cond.instanceMethod my_M_readValue ∈ TB := tb_of (i := 635) (by decide +kernel) (by decide +kernel)
theorem wi_636 : Cond.code my_M_readValue mb_M_readValue 3 (some .long) ∈ TB := tb_of (i := 636) (by decide +kernel) (by decide +kernel)
theorem wi_637 : Cond.methodLink "ChunkPackerLaw" 84 my_M_taken ∈ TB := tb_of (i := 637) (by decide +kernel) (by decide +kernel)
theorem wi_638 : Cond.instanceMethod my_M_taken ∈ TB := tb_of (i := 638) (by decide +kernel) (by decide +kernel)
theorem wi_639 : Cond.selects "ChunkPackerModel" my_M_taken my_M_taken ∈ TB := tb_of (i := 639) (by decide +kernel) (by decide +kernel)
theorem wi_640 : Cond.code my_M_taken mb_M_taken 1 (some .int) ∈ TB := tb_of (i := 640) (by decide +kernel) (by decide +kernel)
theorem wi_641 : Cond.methodLink "ChunkPackerLaw" 87 my_M_count ∈ TB := tb_of (i := 641) (by decide +kernel) (by decide +kernel)
theorem wi_642 : Cond.instanceMethod my_M_count ∈ TB := tb_of (i := 642) (by decide +kernel) (by decide +kernel)
theorem wi_643 : Cond.selects "ChunkPackerModel" my_M_count my_M_count ∈ TB := tb_of (i := 643) (by decide +kernel) (by decide +kernel)
theorem wi_644 : Cond.code my_M_count mb_M_count 2 (some .int) ∈ TB := tb_of (i := 644) (by decide +kernel) (by decide +kernel)
theorem wi_645 : Cond.methodLink "ChunkPackerLaw" 90 my_M_time ∈ TB := tb_of (i := 645) (by decide +kernel) (by decide +kernel)
theorem wi_646 : Cond.instanceMethod my_M_time ∈ TB := tb_of (i := 646) (by decide +kernel) (by decide +kernel)
theorem wi_647 : Cond.selects "ChunkPackerModel" my_M_time my_M_time ∈ TB := tb_of (i := 647) (by decide +kernel) (by decide +kernel)
theorem wi_648 : Cond.code my_M_time mb_M_time 2 (some .long) ∈ TB := tb_of (i := 648) (by decide +kernel) (by decide +kernel)
theorem wi_649 : Cond.methodLink "ChunkPackerLaw" 93 my_M_value ∈ TB := tb_of (i := 649) (by decide +kernel) (by decide +kernel)
theorem wi_650 : Cond.instanceMethod my_M_value ∈ TB := tb_of (i := 650) (by decide +kernel) (by decide +kernel)
theorem wi_651 : Cond.selects "ChunkPackerModel" my_M_value my_M_value ∈ TB := tb_of (i := 651) (by decide +kernel) (by decide +kernel)
theorem wi_652 : Cond.code my_M_value mb_M_value 2 (some .long) ∈ TB := tb_of (i := 652) (by decide +kernel) (by decide +kernel)
theorem wi_653 : Cond.methodLink "ChunkPackerLaw" 96 my_M_bit ∈ TB := tb_of (i := 653) (by decide +kernel) (by decide +kernel)
theorem wi_654 : Cond.instanceMethod my_M_bit ∈ TB := tb_of (i := 654) (by decide +kernel) (by decide +kernel)
theorem wi_655 : Cond.selects "ChunkPackerModel" my_M_bit my_M_bit ∈ TB := tb_of (i := 655) (by decide +kernel) (by decide +kernel)
theorem wi_656 : Cond.code my_M_bit mb_M_bit 2 (some .boolean) ∈ TB := tb_of (i := 656) (by decide +kernel) (by decide +kernel)
theorem wi_657 : Cond.methodLink "ChunkPackerLaw" 100 my_M_flip ∈ TB := tb_of (i := 657) (by decide +kernel) (by decide +kernel)
theorem wi_658 : Cond.instanceMethod my_M_flip ∈ TB := tb_of (i := 658) (by decide +kernel) (by decide +kernel)
theorem wi_659 : Cond.selects "ChunkPackerModel" my_M_flip my_M_flip ∈ TB := tb_of (i := 659) (by decide +kernel) (by decide +kernel)
theorem wi_660 : Cond.code my_M_flip mb_M_flip 2 none ∈ TB := tb_of (i := 660) (by decide +kernel) (by decide +kernel)
theorem wi_661 : Cond.methodLink "ChunkPackerLaw" 104 my_M_put ∈ TB := tb_of (i := 661) (by decide +kernel) (by decide +kernel)
theorem wi_662 : Cond.instanceMethod my_M_put ∈ TB := tb_of (i := 662) (by decide +kernel) (by decide +kernel)
theorem wi_663 : Cond.selects "ChunkPackerModel" my_M_put my_M_put ∈ TB := tb_of (i := 663) (by decide +kernel) (by decide +kernel)
theorem wi_664 : Cond.code my_M_put mb_M_put 5 (some .int) ∈ TB := tb_of (i := 664) (by decide +kernel) (by decide +kernel)
theorem wi_665 : Cond.methodLink "ChunkPackerLaw" 107 my_M_cut ∈ TB := tb_of (i := 665) (by decide +kernel) (by decide +kernel)
theorem wi_666 : Cond.instanceMethod my_M_cut ∈ TB := tb_of (i := 666) (by decide +kernel) (by decide +kernel)
theorem wi_667 : Cond.selects "ChunkPackerModel" my_M_cut my_M_cut ∈ TB := tb_of (i := 667) (by decide +kernel) (by decide +kernel)
theorem wi_668 : Cond.code my_M_cut mb_M_cut 2 none ∈ TB := tb_of (i := 668) (by decide +kernel) (by decide +kernel)
theorem wi_669 : Cond.constantLong "ChunkPackerLaw" 59 4294967295 ∈ TB := tb_of (i := 669) (by decide +kernel) (by decide +kernel)
theorem wi_671 : Cond.arrayClass .int ∈ TB := tb_of (i := 671) (by decide +kernel) (by decide +kernel)
theorem wi_obj : Cond.code objectInit ⟨#[0xb1]⟩ 1 none ∈ TB := tb_of (i := 45) (by decide +kernel) (by decide +kernel)
theorem in_B : ∀ w ∈ u_ws cn_B cf_B 2, w ∈ TB := fun w h => List.mem_filter.mpr ⟨(show ∀ w ∈ u_ws cn_B cf_B 2, w ∈ lw_tbl by decide +kernel) w h, (show ∀ w ∈ u_ws cn_B cf_B 2, goodWord w = true by decide +kernel) w h⟩
theorem in_F : ∀ w ∈ u_ws cn_F cf_F 2, w ∈ TB := fun w h => List.mem_filter.mpr ⟨(show ∀ w ∈ u_ws cn_F cf_F 2, w ∈ lw_tbl by decide +kernel) w h, (show ∀ w ∈ u_ws cn_F cf_F 2, goodWord w = true by decide +kernel) w h⟩
theorem in_P : ∀ w ∈ u_ws cn_P cf_P 3, w ∈ TB := fun w h => List.mem_filter.mpr ⟨(show ∀ w ∈ u_ws cn_P cf_P 3, w ∈ lw_tbl by decide +kernel) w h, (show ∀ w ∈ u_ws cn_P cf_P 3, goodWord w = true by decide +kernel) w h⟩
theorem in_R : ∀ w ∈ u_ws cn_R cf_R 7, w ∈ TB := fun w h => List.mem_filter.mpr ⟨(show ∀ w ∈ u_ws cn_R cf_R 7, w ∈ lw_tbl by decide +kernel) w h, (show ∀ w ∈ u_ws cn_R cf_R 7, goodWord w = true by decide +kernel) w h⟩
theorem in_W : ∀ w ∈ u_ws cn_W cf_W 5, w ∈ TB := fun w h => List.mem_filter.mpr ⟨(show ∀ w ∈ u_ws cn_W cf_W 5, w ∈ lw_tbl by decide +kernel) w h, (show ∀ w ∈ u_ws cn_W cf_W 5, goodWord w = true by decide +kernel) w h⟩
theorem in_X : ∀ w ∈ u_ws cn_X cf_X 5, w ∈ TB := fun w h => List.mem_filter.mpr ⟨(show ∀ w ∈ u_ws cn_X cf_X 5, w ∈ lw_tbl by decide +kernel) w h, (show ∀ w ∈ u_ws cn_X cf_X 5, goodWord w = true by decide +kernel) w h⟩
theorem in_M : ∀ w ∈ u_ws cn_M cf_M 13, w ∈ TB := fun w h => List.mem_filter.mpr ⟨(show ∀ w ∈ u_ws cn_M cf_M 13, w ∈ lw_tbl by decide +kernel) w h, (show ∀ w ∈ u_ws cn_M cf_M 13, goodWord w = true by decide +kernel) w h⟩
end
section
theorem dd_P_init_0 : decode mb_P_init 0 = .ok (.aload_n 0, 1) := by decide +kernel
theorem dd_P_init_1 : decode mb_P_init 1 = .ok (.invokespecial 3, 3) := by decide +kernel
theorem dd_P_init_4 : decode mb_P_init 4 = .ok (.aload_n 0, 1) := by decide +kernel
theorem dd_P_init_5 : decode mb_P_init 5 = .ok (.sipush 3000, 3) := by decide +kernel
theorem dd_P_init_8 : decode mb_P_init 8 = .ok (.newarray .long, 2) := by decide +kernel
theorem dd_P_init_10 : decode mb_P_init 10 = .ok (.putfield 9, 3) := by decide +kernel
theorem dd_P_init_13 : decode mb_P_init 13 = .ok (.aload_n 0, 1) := by decide +kernel
theorem dd_P_init_14 : decode mb_P_init 14 = .ok (.sipush 3000, 3) := by decide +kernel
theorem dd_P_init_17 : decode mb_P_init 17 = .ok (.newarray .long, 2) := by decide +kernel
theorem dd_P_init_19 : decode mb_P_init 19 = .ok (.putfield 15, 3) := by decide +kernel
theorem dd_P_init_22 : decode mb_P_init 22 = .ok (.aload_n 0, 1) := by decide +kernel
theorem dd_P_init_23 : decode mb_P_init 23 = .ok (.iconst 0, 1) := by decide +kernel
theorem dd_P_init_24 : decode mb_P_init 24 = .ok (.putfield 18, 3) := by decide +kernel
theorem dd_P_init_27 : decode mb_P_init 27 = .ok (.return_, 1) := by decide +kernel
theorem dd_B_init_0 : decode mb_B_init 0 = .ok (.aload_n 0, 1) := by decide +kernel
theorem dd_B_init_1 : decode mb_B_init 1 = .ok (.invokespecial 3, 3) := by decide +kernel
theorem dd_B_init_4 : decode mb_B_init 4 = .ok (.aload_n 0, 1) := by decide +kernel
theorem dd_B_init_5 : decode mb_B_init 5 = .ok (.sipush 6250, 3) := by decide +kernel
theorem dd_B_init_8 : decode mb_B_init 8 = .ok (.newarray .long, 2) := by decide +kernel
theorem dd_B_init_10 : decode mb_B_init 10 = .ok (.putfield 9, 3) := by decide +kernel
theorem dd_B_init_13 : decode mb_B_init 13 = .ok (.aload_n 0, 1) := by decide +kernel
theorem dd_B_init_14 : decode mb_B_init 14 = .ok (.iconst 0, 1) := by decide +kernel
theorem dd_B_init_15 : decode mb_B_init 15 = .ok (.putfield 15, 3) := by decide +kernel
theorem dd_B_init_18 : decode mb_B_init 18 = .ok (.return_, 1) := by decide +kernel
theorem dd_P_latestTime_0 : decode mb_P_latestTime 0 = .ok (.aload_n 0, 1) := by decide +kernel
theorem dd_P_latestTime_1 : decode mb_P_latestTime 1 = .ok (.getfield 18, 3) := by decide +kernel
theorem dd_P_latestTime_4 : decode mb_P_latestTime 4 = .ok (.ifCond .ne 9, 3) := by decide +kernel
theorem dd_P_latestTime_7 : decode mb_P_latestTime 7 = .ok (.ldc2_w 22, 3) := by decide +kernel
theorem dd_P_latestTime_10 : decode mb_P_latestTime 10 = .ok (.goto 14, 3) := by decide +kernel
theorem dd_P_latestTime_13 : decode mb_P_latestTime 13 = .ok (.aload_n 0, 1) := by decide +kernel
theorem dd_P_latestTime_14 : decode mb_P_latestTime 14 = .ok (.getfield 9, 3) := by decide +kernel
theorem dd_P_latestTime_17 : decode mb_P_latestTime 17 = .ok (.aload_n 0, 1) := by decide +kernel
theorem dd_P_latestTime_18 : decode mb_P_latestTime 18 = .ok (.getfield 18, 3) := by decide +kernel
theorem dd_P_latestTime_21 : decode mb_P_latestTime 21 = .ok (.iconst 1, 1) := by decide +kernel
theorem dd_P_latestTime_22 : decode mb_P_latestTime 22 = .ok (.isub, 1) := by decide +kernel
theorem dd_P_latestTime_23 : decode mb_P_latestTime 23 = .ok (.laload, 1) := by decide +kernel
theorem dd_P_latestTime_24 : decode mb_P_latestTime 24 = .ok (.lreturn, 1) := by decide +kernel
theorem dd_P_append_0 : decode mb_P_append 0 = .ok (.aload_n 0, 1) := by decide +kernel
theorem dd_P_append_1 : decode mb_P_append 1 = .ok (.getfield 18, 3) := by decide +kernel
theorem dd_P_append_4 : decode mb_P_append 4 = .ok (.sipush 3000, 3) := by decide +kernel
theorem dd_P_append_7 : decode mb_P_append 7 = .ok (.if_icmp .lt 5, 3) := by decide +kernel
theorem dd_P_append_10 : decode mb_P_append 10 = .ok (.iconst 0, 1) := by decide +kernel
theorem dd_P_append_11 : decode mb_P_append 11 = .ok (.ireturn, 1) := by decide +kernel
theorem dd_P_append_12 : decode mb_P_append 12 = .ok (.aload_n 0, 1) := by decide +kernel
theorem dd_P_append_13 : decode mb_P_append 13 = .ok (.getfield 9, 3) := by decide +kernel
theorem dd_P_append_16 : decode mb_P_append 16 = .ok (.aload_n 0, 1) := by decide +kernel
theorem dd_P_append_17 : decode mb_P_append 17 = .ok (.getfield 18, 3) := by decide +kernel
theorem dd_P_append_20 : decode mb_P_append 20 = .ok (.lload_n 1, 1) := by decide +kernel
theorem dd_P_append_21 : decode mb_P_append 21 = .ok (.lastore, 1) := by decide +kernel
theorem dd_P_append_22 : decode mb_P_append 22 = .ok (.aload_n 0, 1) := by decide +kernel
theorem dd_P_append_23 : decode mb_P_append 23 = .ok (.getfield 15, 3) := by decide +kernel
theorem dd_P_append_26 : decode mb_P_append 26 = .ok (.aload_n 0, 1) := by decide +kernel
theorem dd_P_append_27 : decode mb_P_append 27 = .ok (.getfield 18, 3) := by decide +kernel
theorem dd_P_append_30 : decode mb_P_append 30 = .ok (.lload_n 3, 1) := by decide +kernel
theorem dd_P_append_31 : decode mb_P_append 31 = .ok (.lastore, 1) := by decide +kernel
theorem dd_P_append_32 : decode mb_P_append 32 = .ok (.aload_n 0, 1) := by decide +kernel
theorem dd_P_append_33 : decode mb_P_append 33 = .ok (.dup, 1) := by decide +kernel
theorem dd_P_append_34 : decode mb_P_append 34 = .ok (.getfield 18, 3) := by decide +kernel
theorem dd_P_append_37 : decode mb_P_append 37 = .ok (.iconst 1, 1) := by decide +kernel
theorem dd_P_append_38 : decode mb_P_append 38 = .ok (.iadd, 1) := by decide +kernel
theorem dd_P_append_39 : decode mb_P_append 39 = .ok (.putfield 18, 3) := by decide +kernel
theorem dd_P_append_42 : decode mb_P_append 42 = .ok (.iconst 1, 1) := by decide +kernel
theorem dd_P_append_43 : decode mb_P_append 43 = .ok (.ireturn, 1) := by decide +kernel
theorem dd_P_size_0 : decode mb_P_size 0 = .ok (.aload_n 0, 1) := by decide +kernel
theorem dd_P_size_1 : decode mb_P_size 1 = .ok (.getfield 18, 3) := by decide +kernel
theorem dd_P_size_4 : decode mb_P_size 4 = .ok (.ireturn, 1) := by decide +kernel
theorem dd_P_shorten_0 : decode mb_P_shorten 0 = .ok (.aload_n 0, 1) := by decide +kernel
theorem dd_P_shorten_1 : decode mb_P_shorten 1 = .ok (.iload_n 1, 1) := by decide +kernel
theorem dd_P_shorten_2 : decode mb_P_shorten 2 = .ok (.putfield 18, 3) := by decide +kernel
theorem dd_P_shorten_5 : decode mb_P_shorten 5 = .ok (.return_, 1) := by decide +kernel
theorem dd_B_shorten_0 : decode mb_B_shorten 0 = .ok (.aload_n 0, 1) := by decide +kernel
theorem dd_B_shorten_1 : decode mb_B_shorten 1 = .ok (.iload_n 1, 1) := by decide +kernel
theorem dd_B_shorten_2 : decode mb_B_shorten 2 = .ok (.putfield 15, 3) := by decide +kernel
theorem dd_B_shorten_5 : decode mb_B_shorten 5 = .ok (.return_, 1) := by decide +kernel
theorem dd_F_init_0 : decode mb_F_init 0 = .ok (.aload_n 0, 1) := by decide +kernel
theorem dd_F_init_1 : decode mb_F_init 1 = .ok (.invokespecial 3, 3) := by decide +kernel
theorem dd_F_init_4 : decode mb_F_init 4 = .ok (.aload_n 0, 1) := by decide +kernel
theorem dd_F_init_5 : decode mb_F_init 5 = .ok (.iconst 0, 1) := by decide +kernel
theorem dd_F_init_6 : decode mb_F_init 6 = .ok (.putfield 9, 3) := by decide +kernel
theorem dd_F_init_9 : decode mb_F_init 9 = .ok (.aload_n 0, 1) := by decide +kernel
theorem dd_F_init_10 : decode mb_F_init 10 = .ok (.iconst 0, 1) := by decide +kernel
theorem dd_F_init_11 : decode mb_F_init 11 = .ok (.putfield 15, 3) := by decide +kernel
theorem dd_F_init_14 : decode mb_F_init 14 = .ok (.return_, 1) := by decide +kernel
theorem dd_P_timeAt_0 : decode mb_P_timeAt 0 = .ok (.iload_n 1, 1) := by decide +kernel
theorem dd_P_timeAt_1 : decode mb_P_timeAt 1 = .ok (.ifCond .lt 11, 3) := by decide +kernel
theorem dd_P_timeAt_4 : decode mb_P_timeAt 4 = .ok (.iload_n 1, 1) := by decide +kernel
theorem dd_P_timeAt_5 : decode mb_P_timeAt 5 = .ok (.aload_n 0, 1) := by decide +kernel
theorem dd_P_timeAt_6 : decode mb_P_timeAt 6 = .ok (.getfield 18, 3) := by decide +kernel
theorem dd_P_timeAt_9 : decode mb_P_timeAt 9 = .ok (.if_icmp .lt 13, 3) := by decide +kernel
theorem dd_P_timeAt_12 : decode mb_P_timeAt 12 = .ok (.new 24, 3) := by decide +kernel
theorem dd_P_timeAt_15 : decode mb_P_timeAt 15 = .ok (.dup, 1) := by decide +kernel
theorem dd_P_timeAt_16 : decode mb_P_timeAt 16 = .ok (.ldc 26, 2) := by decide +kernel
theorem dd_P_timeAt_18 : decode mb_P_timeAt 18 = .ok (.invokespecial 28, 3) := by decide +kernel
theorem dd_P_timeAt_21 : decode mb_P_timeAt 21 = .ok (.athrow, 1) := by decide +kernel
theorem dd_P_timeAt_22 : decode mb_P_timeAt 22 = .ok (.aload_n 0, 1) := by decide +kernel
theorem dd_P_timeAt_23 : decode mb_P_timeAt 23 = .ok (.getfield 9, 3) := by decide +kernel
theorem dd_P_timeAt_26 : decode mb_P_timeAt 26 = .ok (.iload_n 1, 1) := by decide +kernel
theorem dd_P_timeAt_27 : decode mb_P_timeAt 27 = .ok (.laload, 1) := by decide +kernel
theorem dd_P_timeAt_28 : decode mb_P_timeAt 28 = .ok (.lreturn, 1) := by decide +kernel
theorem dd_P_valueAt_0 : decode mb_P_valueAt 0 = .ok (.iload_n 1, 1) := by decide +kernel
theorem dd_P_valueAt_1 : decode mb_P_valueAt 1 = .ok (.ifCond .lt 11, 3) := by decide +kernel
theorem dd_P_valueAt_4 : decode mb_P_valueAt 4 = .ok (.iload_n 1, 1) := by decide +kernel
theorem dd_P_valueAt_5 : decode mb_P_valueAt 5 = .ok (.aload_n 0, 1) := by decide +kernel
theorem dd_P_valueAt_6 : decode mb_P_valueAt 6 = .ok (.getfield 18, 3) := by decide +kernel
theorem dd_P_valueAt_9 : decode mb_P_valueAt 9 = .ok (.if_icmp .lt 13, 3) := by decide +kernel
theorem dd_P_valueAt_12 : decode mb_P_valueAt 12 = .ok (.new 24, 3) := by decide +kernel
theorem dd_P_valueAt_15 : decode mb_P_valueAt 15 = .ok (.dup, 1) := by decide +kernel
theorem dd_P_valueAt_16 : decode mb_P_valueAt 16 = .ok (.ldc 26, 2) := by decide +kernel
theorem dd_P_valueAt_18 : decode mb_P_valueAt 18 = .ok (.invokespecial 28, 3) := by decide +kernel
theorem dd_P_valueAt_21 : decode mb_P_valueAt 21 = .ok (.athrow, 1) := by decide +kernel
theorem dd_P_valueAt_22 : decode mb_P_valueAt 22 = .ok (.aload_n 0, 1) := by decide +kernel
theorem dd_P_valueAt_23 : decode mb_P_valueAt 23 = .ok (.getfield 15, 3) := by decide +kernel
theorem dd_P_valueAt_26 : decode mb_P_valueAt 26 = .ok (.iload_n 1, 1) := by decide +kernel
theorem dd_P_valueAt_27 : decode mb_P_valueAt 27 = .ok (.laload, 1) := by decide +kernel
theorem dd_P_valueAt_28 : decode mb_P_valueAt 28 = .ok (.lreturn, 1) := by decide +kernel
theorem dd_B_append_0 : decode mb_B_append 0 = .ok (.iload_n 3, 1) := by decide +kernel
theorem dd_B_append_1 : decode mb_B_append 1 = .ok (.ldc 30, 2) := by decide +kernel
theorem dd_B_append_3 : decode mb_B_append 3 = .ok (.aload_n 0, 1) := by decide +kernel
theorem dd_B_append_4 : decode mb_B_append 4 = .ok (.getfield 15, 3) := by decide +kernel
theorem dd_B_append_7 : decode mb_B_append 7 = .ok (.isub, 1) := by decide +kernel
theorem dd_B_append_8 : decode mb_B_append 8 = .ok (.if_icmp .le 5, 3) := by decide +kernel
theorem dd_B_append_11 : decode mb_B_append 11 = .ok (.iconst 0, 1) := by decide +kernel
theorem dd_B_append_12 : decode mb_B_append 12 = .ok (.ireturn, 1) := by decide +kernel
theorem dd_B_append_13 : decode mb_B_append 13 = .ok (.iload_n 3, 1) := by decide +kernel
theorem dd_B_append_14 : decode mb_B_append 14 = .ok (.ifCond .ne 5, 3) := by decide +kernel
theorem dd_B_append_17 : decode mb_B_append 17 = .ok (.iconst 1, 1) := by decide +kernel
theorem dd_B_append_18 : decode mb_B_append 18 = .ok (.ireturn, 1) := by decide +kernel
theorem dd_B_append_19 : decode mb_B_append 19 = .ok (.aload_n 0, 1) := by decide +kernel
theorem dd_B_append_20 : decode mb_B_append 20 = .ok (.getfield 15, 3) := by decide +kernel
theorem dd_B_append_23 : decode mb_B_append 23 = .ok (.bipush 64, 2) := by decide +kernel
theorem dd_B_append_25 : decode mb_B_append 25 = .ok (.idiv, 1) := by decide +kernel
theorem dd_B_append_26 : decode mb_B_append 26 = .ok (.istore 4, 2) := by decide +kernel
theorem dd_B_append_28 : decode mb_B_append 28 = .ok (.aload_n 0, 1) := by decide +kernel
theorem dd_B_append_29 : decode mb_B_append 29 = .ok (.getfield 15, 3) := by decide +kernel
theorem dd_B_append_32 : decode mb_B_append 32 = .ok (.bipush 64, 2) := by decide +kernel
theorem dd_B_append_34 : decode mb_B_append 34 = .ok (.irem, 1) := by decide +kernel
theorem dd_B_append_35 : decode mb_B_append 35 = .ok (.istore 5, 2) := by decide +kernel
theorem dd_B_append_37 : decode mb_B_append 37 = .ok (.bipush 64, 2) := by decide +kernel
theorem dd_B_append_39 : decode mb_B_append 39 = .ok (.iload 5, 2) := by decide +kernel
theorem dd_B_append_41 : decode mb_B_append 41 = .ok (.isub, 1) := by decide +kernel
theorem dd_B_append_42 : decode mb_B_append 42 = .ok (.istore 6, 2) := by decide +kernel
theorem dd_B_append_44 : decode mb_B_append 44 = .ok (.iload 5, 2) := by decide +kernel
theorem dd_B_append_46 : decode mb_B_append 46 = .ok (.ifCond .ne 7, 3) := by decide +kernel
theorem dd_B_append_49 : decode mb_B_append 49 = .ok (.lconst 0, 1) := by decide +kernel
theorem dd_B_append_50 : decode mb_B_append 50 = .ok (.goto 16, 3) := by decide +kernel
theorem dd_B_append_53 : decode mb_B_append 53 = .ok (.aload_n 0, 1) := by decide +kernel
theorem dd_B_append_54 : decode mb_B_append 54 = .ok (.getfield 9, 3) := by decide +kernel
theorem dd_B_append_57 : decode mb_B_append 57 = .ok (.iload 4, 2) := by decide +kernel
theorem dd_B_append_59 : decode mb_B_append 59 = .ok (.laload, 1) := by decide +kernel
theorem dd_B_append_60 : decode mb_B_append 60 = .ok (.iload 6, 2) := by decide +kernel
theorem dd_B_append_62 : decode mb_B_append 62 = .ok (.lushr, 1) := by decide +kernel
theorem dd_B_append_63 : decode mb_B_append 63 = .ok (.iload 6, 2) := by decide +kernel
theorem dd_B_append_65 : decode mb_B_append 65 = .ok (.lshl, 1) := by decide +kernel
theorem dd_B_append_66 : decode mb_B_append 66 = .ok (.lstore 7, 2) := by decide +kernel
theorem dd_B_append_68 : decode mb_B_append 68 = .ok (.iload_n 3, 1) := by decide +kernel
theorem dd_B_append_69 : decode mb_B_append 69 = .ok (.iload 6, 2) := by decide +kernel
theorem dd_B_append_71 : decode mb_B_append 71 = .ok (.if_icmp .gt 22, 3) := by decide +kernel
theorem dd_B_append_74 : decode mb_B_append 74 = .ok (.aload_n 0, 1) := by decide +kernel
theorem dd_B_append_75 : decode mb_B_append 75 = .ok (.getfield 9, 3) := by decide +kernel
theorem dd_B_append_78 : decode mb_B_append 78 = .ok (.iload 4, 2) := by decide +kernel
theorem dd_B_append_80 : decode mb_B_append 80 = .ok (.lload 7, 2) := by decide +kernel
theorem dd_B_append_82 : decode mb_B_append 82 = .ok (.lload_n 1, 1) := by decide +kernel
theorem dd_B_append_83 : decode mb_B_append 83 = .ok (.iload 6, 2) := by decide +kernel
theorem dd_B_append_85 : decode mb_B_append 85 = .ok (.iload_n 3, 1) := by decide +kernel
theorem dd_B_append_86 : decode mb_B_append 86 = .ok (.isub, 1) := by decide +kernel
theorem dd_B_append_87 : decode mb_B_append 87 = .ok (.lshl, 1) := by decide +kernel
theorem dd_B_append_88 : decode mb_B_append 88 = .ok (.lor, 1) := by decide +kernel
theorem dd_B_append_89 : decode mb_B_append 89 = .ok (.lastore, 1) := by decide +kernel
theorem dd_B_append_90 : decode mb_B_append 90 = .ok (.goto 39, 3) := by decide +kernel
theorem dd_B_append_93 : decode mb_B_append 93 = .ok (.iload_n 3, 1) := by decide +kernel
theorem dd_B_append_94 : decode mb_B_append 94 = .ok (.iload 6, 2) := by decide +kernel
theorem dd_B_append_96 : decode mb_B_append 96 = .ok (.isub, 1) := by decide +kernel
theorem dd_B_append_97 : decode mb_B_append 97 = .ok (.istore 9, 2) := by decide +kernel
theorem dd_B_append_99 : decode mb_B_append 99 = .ok (.aload_n 0, 1) := by decide +kernel
theorem dd_B_append_100 : decode mb_B_append 100 = .ok (.getfield 9, 3) := by decide +kernel
theorem dd_B_append_103 : decode mb_B_append 103 = .ok (.iload 4, 2) := by decide +kernel
theorem dd_B_append_105 : decode mb_B_append 105 = .ok (.lload 7, 2) := by decide +kernel
theorem dd_B_append_107 : decode mb_B_append 107 = .ok (.lload_n 1, 1) := by decide +kernel
theorem dd_B_append_108 : decode mb_B_append 108 = .ok (.iload 9, 2) := by decide +kernel
theorem dd_B_append_110 : decode mb_B_append 110 = .ok (.lushr, 1) := by decide +kernel
theorem dd_B_append_111 : decode mb_B_append 111 = .ok (.lor, 1) := by decide +kernel
theorem dd_B_append_112 : decode mb_B_append 112 = .ok (.lastore, 1) := by decide +kernel
theorem dd_B_append_113 : decode mb_B_append 113 = .ok (.aload_n 0, 1) := by decide +kernel
theorem dd_B_append_114 : decode mb_B_append 114 = .ok (.getfield 9, 3) := by decide +kernel
theorem dd_B_append_117 : decode mb_B_append 117 = .ok (.iload 4, 2) := by decide +kernel
theorem dd_B_append_119 : decode mb_B_append 119 = .ok (.iconst 1, 1) := by decide +kernel
theorem dd_B_append_120 : decode mb_B_append 120 = .ok (.iadd, 1) := by decide +kernel
theorem dd_B_append_121 : decode mb_B_append 121 = .ok (.lload_n 1, 1) := by decide +kernel
theorem dd_B_append_122 : decode mb_B_append 122 = .ok (.bipush 64, 2) := by decide +kernel
theorem dd_B_append_124 : decode mb_B_append 124 = .ok (.iload 9, 2) := by decide +kernel
theorem dd_B_append_126 : decode mb_B_append 126 = .ok (.isub, 1) := by decide +kernel
theorem dd_B_append_127 : decode mb_B_append 127 = .ok (.lshl, 1) := by decide +kernel
theorem dd_B_append_128 : decode mb_B_append 128 = .ok (.lastore, 1) := by decide +kernel
theorem dd_B_append_129 : decode mb_B_append 129 = .ok (.aload_n 0, 1) := by decide +kernel
theorem dd_B_append_130 : decode mb_B_append 130 = .ok (.dup, 1) := by decide +kernel
theorem dd_B_append_131 : decode mb_B_append 131 = .ok (.getfield 15, 3) := by decide +kernel
theorem dd_B_append_134 : decode mb_B_append 134 = .ok (.iload_n 3, 1) := by decide +kernel
theorem dd_B_append_135 : decode mb_B_append 135 = .ok (.iadd, 1) := by decide +kernel
theorem dd_B_append_136 : decode mb_B_append 136 = .ok (.putfield 15, 3) := by decide +kernel
theorem dd_B_append_139 : decode mb_B_append 139 = .ok (.iconst 1, 1) := by decide +kernel
theorem dd_B_append_140 : decode mb_B_append 140 = .ok (.ireturn, 1) := by decide +kernel
theorem dd_F_holds_0 : decode mb_F_holds 0 = .ok (.aload_n 0, 1) := by decide +kernel
theorem dd_F_holds_1 : decode mb_F_holds 1 = .ok (.invokevirtual 18, 3) := by decide +kernel
theorem dd_F_holds_4 : decode mb_F_holds 4 = .ok (.ifCond .eq 23, 3) := by decide +kernel
theorem dd_F_holds_7 : decode mb_F_holds 7 = .ok (.iload_n 1, 1) := by decide +kernel
theorem dd_F_holds_8 : decode mb_F_holds 8 = .ok (.aload_n 0, 1) := by decide +kernel
theorem dd_F_holds_9 : decode mb_F_holds 9 = .ok (.getfield 9, 3) := by decide +kernel
theorem dd_F_holds_12 : decode mb_F_holds 12 = .ok (.if_icmp .lt 15, 3) := by decide +kernel
theorem dd_F_holds_15 : decode mb_F_holds 15 = .ok (.iload_n 2, 1) := by decide +kernel
theorem dd_F_holds_16 : decode mb_F_holds 16 = .ok (.aload_n 0, 1) := by decide +kernel
theorem dd_F_holds_17 : decode mb_F_holds 17 = .ok (.invokevirtual 22, 3) := by decide +kernel
theorem dd_F_holds_20 : decode mb_F_holds 20 = .ok (.if_icmp .lt 7, 3) := by decide +kernel
theorem dd_F_holds_23 : decode mb_F_holds 23 = .ok (.iconst 1, 1) := by decide +kernel
theorem dd_F_holds_24 : decode mb_F_holds 24 = .ok (.goto 4, 3) := by decide +kernel
theorem dd_F_holds_27 : decode mb_F_holds 27 = .ok (.iconst 0, 1) := by decide +kernel
theorem dd_F_holds_28 : decode mb_F_holds 28 = .ok (.ireturn, 1) := by decide +kernel
theorem dd_F_isThere_0 : decode mb_F_isThere 0 = .ok (.aload_n 0, 1) := by decide +kernel
theorem dd_F_isThere_1 : decode mb_F_isThere 1 = .ok (.getfield 15, 3) := by decide +kernel
theorem dd_F_isThere_4 : decode mb_F_isThere 4 = .ok (.ifCond .le 7, 3) := by decide +kernel
theorem dd_F_isThere_7 : decode mb_F_isThere 7 = .ok (.iconst 1, 1) := by decide +kernel
theorem dd_F_isThere_8 : decode mb_F_isThere 8 = .ok (.goto 4, 3) := by decide +kernel
theorem dd_F_isThere_11 : decode mb_F_isThere 11 = .ok (.iconst 0, 1) := by decide +kernel
theorem dd_F_isThere_12 : decode mb_F_isThere 12 = .ok (.ireturn, 1) := by decide +kernel
theorem dd_F_below_0 : decode mb_F_below 0 = .ok (.bipush 64, 2) := by decide +kernel
theorem dd_F_below_2 : decode mb_F_below 2 = .ok (.aload_n 0, 1) := by decide +kernel
theorem dd_F_below_3 : decode mb_F_below 3 = .ok (.getfield 9, 3) := by decide +kernel
theorem dd_F_below_6 : decode mb_F_below 6 = .ok (.isub, 1) := by decide +kernel
theorem dd_F_below_7 : decode mb_F_below 7 = .ok (.aload_n 0, 1) := by decide +kernel
theorem dd_F_below_8 : decode mb_F_below 8 = .ok (.getfield 15, 3) := by decide +kernel
theorem dd_F_below_11 : decode mb_F_below 11 = .ok (.isub, 1) := by decide +kernel
theorem dd_F_below_12 : decode mb_F_below 12 = .ok (.ireturn, 1) := by decide +kernel
theorem dd_F_become_0 : decode mb_F_become 0 = .ok (.aload_n 0, 1) := by decide +kernel
theorem dd_F_become_1 : decode mb_F_become 1 = .ok (.iload_n 1, 1) := by decide +kernel
theorem dd_F_become_2 : decode mb_F_become 2 = .ok (.putfield 9, 3) := by decide +kernel
theorem dd_F_become_5 : decode mb_F_become 5 = .ok (.aload_n 0, 1) := by decide +kernel
theorem dd_F_become_6 : decode mb_F_become 6 = .ok (.iload_n 2, 1) := by decide +kernel
theorem dd_F_become_7 : decode mb_F_become 7 = .ok (.putfield 15, 3) := by decide +kernel
theorem dd_F_become_10 : decode mb_F_become 10 = .ok (.return_, 1) := by decide +kernel
theorem dd_F_width_0 : decode mb_F_width 0 = .ok (.aload_n 0, 1) := by decide +kernel
theorem dd_F_width_1 : decode mb_F_width 1 = .ok (.getfield 15, 3) := by decide +kernel
theorem dd_F_width_4 : decode mb_F_width 4 = .ok (.ireturn, 1) := by decide +kernel
theorem dd_B_size_0 : decode mb_B_size 0 = .ok (.aload_n 0, 1) := by decide +kernel
theorem dd_B_size_1 : decode mb_B_size 1 = .ok (.getfield 15, 3) := by decide +kernel
theorem dd_B_size_4 : decode mb_B_size 4 = .ok (.ireturn, 1) := by decide +kernel
theorem dd_B_has_0 : decode mb_B_has 0 = .ok (.iload_n 1, 1) := by decide +kernel
theorem dd_B_has_1 : decode mb_B_has 1 = .ok (.ifCond .lt 25, 3) := by decide +kernel
theorem dd_B_has_4 : decode mb_B_has 4 = .ok (.iload_n 1, 1) := by decide +kernel
theorem dd_B_has_5 : decode mb_B_has 5 = .ok (.aload_n 0, 1) := by decide +kernel
theorem dd_B_has_6 : decode mb_B_has 6 = .ok (.getfield 15, 3) := by decide +kernel
theorem dd_B_has_9 : decode mb_B_has 9 = .ok (.if_icmp .gt 17, 3) := by decide +kernel
theorem dd_B_has_12 : decode mb_B_has 12 = .ok (.iload_n 2, 1) := by decide +kernel
theorem dd_B_has_13 : decode mb_B_has 13 = .ok (.aload_n 0, 1) := by decide +kernel
theorem dd_B_has_14 : decode mb_B_has 14 = .ok (.getfield 15, 3) := by decide +kernel
theorem dd_B_has_17 : decode mb_B_has 17 = .ok (.iload_n 1, 1) := by decide +kernel
theorem dd_B_has_18 : decode mb_B_has 18 = .ok (.isub, 1) := by decide +kernel
theorem dd_B_has_19 : decode mb_B_has 19 = .ok (.if_icmp .gt 7, 3) := by decide +kernel
theorem dd_B_has_22 : decode mb_B_has 22 = .ok (.iconst 1, 1) := by decide +kernel
theorem dd_B_has_23 : decode mb_B_has 23 = .ok (.goto 4, 3) := by decide +kernel
theorem dd_B_has_26 : decode mb_B_has 26 = .ok (.iconst 0, 1) := by decide +kernel
theorem dd_B_has_27 : decode mb_B_has 27 = .ok (.ireturn, 1) := by decide +kernel
theorem dd_B_numberAt_0 : decode mb_B_numberAt 0 = .ok (.iload_n 1, 1) := by decide +kernel
theorem dd_B_numberAt_1 : decode mb_B_numberAt 1 = .ok (.bipush 64, 2) := by decide +kernel
theorem dd_B_numberAt_3 : decode mb_B_numberAt 3 = .ok (.idiv, 1) := by decide +kernel
theorem dd_B_numberAt_4 : decode mb_B_numberAt 4 = .ok (.istore_n 3, 1) := by decide +kernel
theorem dd_B_numberAt_5 : decode mb_B_numberAt 5 = .ok (.iload_n 1, 1) := by decide +kernel
theorem dd_B_numberAt_6 : decode mb_B_numberAt 6 = .ok (.bipush 64, 2) := by decide +kernel
theorem dd_B_numberAt_8 : decode mb_B_numberAt 8 = .ok (.irem, 1) := by decide +kernel
theorem dd_B_numberAt_9 : decode mb_B_numberAt 9 = .ok (.istore 4, 2) := by decide +kernel
theorem dd_B_numberAt_11 : decode mb_B_numberAt 11 = .ok (.aload_n 0, 1) := by decide +kernel
theorem dd_B_numberAt_12 : decode mb_B_numberAt 12 = .ok (.getfield 9, 3) := by decide +kernel
theorem dd_B_numberAt_15 : decode mb_B_numberAt 15 = .ok (.iload_n 3, 1) := by decide +kernel
theorem dd_B_numberAt_16 : decode mb_B_numberAt 16 = .ok (.laload, 1) := by decide +kernel
theorem dd_B_numberAt_17 : decode mb_B_numberAt 17 = .ok (.iload 4, 2) := by decide +kernel
theorem dd_B_numberAt_19 : decode mb_B_numberAt 19 = .ok (.lshl, 1) := by decide +kernel
theorem dd_B_numberAt_20 : decode mb_B_numberAt 20 = .ok (.lstore 5, 2) := by decide +kernel
theorem dd_B_numberAt_22 : decode mb_B_numberAt 22 = .ok (.iload 4, 2) := by decide +kernel
theorem dd_B_numberAt_24 : decode mb_B_numberAt 24 = .ok (.iload_n 2, 1) := by decide +kernel
theorem dd_B_numberAt_25 : decode mb_B_numberAt 25 = .ok (.iadd, 1) := by decide +kernel
theorem dd_B_numberAt_26 : decode mb_B_numberAt 26 = .ok (.bipush 64, 2) := by decide +kernel
theorem dd_B_numberAt_28 : decode mb_B_numberAt 28 = .ok (.if_icmp .le 22, 3) := by decide +kernel
theorem dd_B_numberAt_31 : decode mb_B_numberAt 31 = .ok (.lload 5, 2) := by decide +kernel
theorem dd_B_numberAt_33 : decode mb_B_numberAt 33 = .ok (.aload_n 0, 1) := by decide +kernel
theorem dd_B_numberAt_34 : decode mb_B_numberAt 34 = .ok (.getfield 9, 3) := by decide +kernel
theorem dd_B_numberAt_37 : decode mb_B_numberAt 37 = .ok (.iload_n 3, 1) := by decide +kernel
theorem dd_B_numberAt_38 : decode mb_B_numberAt 38 = .ok (.iconst 1, 1) := by decide +kernel
theorem dd_B_numberAt_39 : decode mb_B_numberAt 39 = .ok (.iadd, 1) := by decide +kernel
theorem dd_B_numberAt_40 : decode mb_B_numberAt 40 = .ok (.laload, 1) := by decide +kernel
theorem dd_B_numberAt_41 : decode mb_B_numberAt 41 = .ok (.bipush 64, 2) := by decide +kernel
theorem dd_B_numberAt_43 : decode mb_B_numberAt 43 = .ok (.iload 4, 2) := by decide +kernel
theorem dd_B_numberAt_45 : decode mb_B_numberAt 45 = .ok (.isub, 1) := by decide +kernel
theorem dd_B_numberAt_46 : decode mb_B_numberAt 46 = .ok (.lushr, 1) := by decide +kernel
theorem dd_B_numberAt_47 : decode mb_B_numberAt 47 = .ok (.lor, 1) := by decide +kernel
theorem dd_B_numberAt_48 : decode mb_B_numberAt 48 = .ok (.lstore 5, 2) := by decide +kernel
theorem dd_B_numberAt_50 : decode mb_B_numberAt 50 = .ok (.lload 5, 2) := by decide +kernel
theorem dd_B_numberAt_52 : decode mb_B_numberAt 52 = .ok (.bipush 64, 2) := by decide +kernel
theorem dd_B_numberAt_54 : decode mb_B_numberAt 54 = .ok (.iload_n 2, 1) := by decide +kernel
theorem dd_B_numberAt_55 : decode mb_B_numberAt 55 = .ok (.isub, 1) := by decide +kernel
theorem dd_B_numberAt_56 : decode mb_B_numberAt 56 = .ok (.lushr, 1) := by decide +kernel
theorem dd_B_numberAt_57 : decode mb_B_numberAt 57 = .ok (.lreturn, 1) := by decide +kernel
theorem dd_B_isOne_0 : decode mb_B_isOne 0 = .ok (.iload_n 1, 1) := by decide +kernel
theorem dd_B_isOne_1 : decode mb_B_isOne 1 = .ok (.ifCond .lt 11, 3) := by decide +kernel
theorem dd_B_isOne_4 : decode mb_B_isOne 4 = .ok (.iload_n 1, 1) := by decide +kernel
theorem dd_B_isOne_5 : decode mb_B_isOne 5 = .ok (.aload_n 0, 1) := by decide +kernel
theorem dd_B_isOne_6 : decode mb_B_isOne 6 = .ok (.getfield 15, 3) := by decide +kernel
theorem dd_B_isOne_9 : decode mb_B_isOne 9 = .ok (.if_icmp .lt 13, 3) := by decide +kernel
theorem dd_B_isOne_12 : decode mb_B_isOne 12 = .ok (.new 19, 3) := by decide +kernel
theorem dd_B_isOne_15 : decode mb_B_isOne 15 = .ok (.dup, 1) := by decide +kernel
theorem dd_B_isOne_16 : decode mb_B_isOne 16 = .ok (.ldc 21, 2) := by decide +kernel
theorem dd_B_isOne_18 : decode mb_B_isOne 18 = .ok (.invokespecial 23, 3) := by decide +kernel
theorem dd_B_isOne_21 : decode mb_B_isOne 21 = .ok (.athrow, 1) := by decide +kernel
theorem dd_B_isOne_22 : decode mb_B_isOne 22 = .ok (.aload_n 0, 1) := by decide +kernel
theorem dd_B_isOne_23 : decode mb_B_isOne 23 = .ok (.iload_n 1, 1) := by decide +kernel
theorem dd_B_isOne_24 : decode mb_B_isOne 24 = .ok (.iconst 1, 1) := by decide +kernel
theorem dd_B_isOne_25 : decode mb_B_isOne 25 = .ok (.invokevirtual 26, 3) := by decide +kernel
theorem dd_B_isOne_28 : decode mb_B_isOne 28 = .ok (.lconst 1, 1) := by decide +kernel
theorem dd_B_isOne_29 : decode mb_B_isOne 29 = .ok (.lcmp, 1) := by decide +kernel
theorem dd_B_isOne_30 : decode mb_B_isOne 30 = .ok (.ifCond .ne 7, 3) := by decide +kernel
theorem dd_B_isOne_33 : decode mb_B_isOne 33 = .ok (.iconst 1, 1) := by decide +kernel
theorem dd_B_isOne_34 : decode mb_B_isOne 34 = .ok (.goto 4, 3) := by decide +kernel
theorem dd_B_isOne_37 : decode mb_B_isOne 37 = .ok (.iconst 0, 1) := by decide +kernel
theorem dd_B_isOne_38 : decode mb_B_isOne 38 = .ok (.ireturn, 1) := by decide +kernel
theorem dd_B_invert_0 : decode mb_B_invert 0 = .ok (.iload_n 1, 1) := by decide +kernel
theorem dd_B_invert_1 : decode mb_B_invert 1 = .ok (.ifCond .lt 11, 3) := by decide +kernel
theorem dd_B_invert_4 : decode mb_B_invert 4 = .ok (.iload_n 1, 1) := by decide +kernel
theorem dd_B_invert_5 : decode mb_B_invert 5 = .ok (.aload_n 0, 1) := by decide +kernel
theorem dd_B_invert_6 : decode mb_B_invert 6 = .ok (.getfield 15, 3) := by decide +kernel
theorem dd_B_invert_9 : decode mb_B_invert 9 = .ok (.if_icmp .lt 13, 3) := by decide +kernel
theorem dd_B_invert_12 : decode mb_B_invert 12 = .ok (.new 19, 3) := by decide +kernel
theorem dd_B_invert_15 : decode mb_B_invert 15 = .ok (.dup, 1) := by decide +kernel
theorem dd_B_invert_16 : decode mb_B_invert 16 = .ok (.ldc 21, 2) := by decide +kernel
theorem dd_B_invert_18 : decode mb_B_invert 18 = .ok (.invokespecial 23, 3) := by decide +kernel
theorem dd_B_invert_21 : decode mb_B_invert 21 = .ok (.athrow, 1) := by decide +kernel
theorem dd_B_invert_22 : decode mb_B_invert 22 = .ok (.aload_n 0, 1) := by decide +kernel
theorem dd_B_invert_23 : decode mb_B_invert 23 = .ok (.getfield 9, 3) := by decide +kernel
theorem dd_B_invert_26 : decode mb_B_invert 26 = .ok (.iload_n 1, 1) := by decide +kernel
theorem dd_B_invert_27 : decode mb_B_invert 27 = .ok (.bipush 64, 2) := by decide +kernel
theorem dd_B_invert_29 : decode mb_B_invert 29 = .ok (.idiv, 1) := by decide +kernel
theorem dd_B_invert_30 : decode mb_B_invert 30 = .ok (.dup2, 1) := by decide +kernel
theorem dd_B_invert_31 : decode mb_B_invert 31 = .ok (.laload, 1) := by decide +kernel
theorem dd_B_invert_32 : decode mb_B_invert 32 = .ok (.lconst 1, 1) := by decide +kernel
theorem dd_B_invert_33 : decode mb_B_invert 33 = .ok (.bipush 63, 2) := by decide +kernel
theorem dd_B_invert_35 : decode mb_B_invert 35 = .ok (.iload_n 1, 1) := by decide +kernel
theorem dd_B_invert_36 : decode mb_B_invert 36 = .ok (.bipush 64, 2) := by decide +kernel
theorem dd_B_invert_38 : decode mb_B_invert 38 = .ok (.irem, 1) := by decide +kernel
theorem dd_B_invert_39 : decode mb_B_invert 39 = .ok (.isub, 1) := by decide +kernel
theorem dd_B_invert_40 : decode mb_B_invert 40 = .ok (.lshl, 1) := by decide +kernel
theorem dd_B_invert_41 : decode mb_B_invert 41 = .ok (.lxor, 1) := by decide +kernel
theorem dd_B_invert_42 : decode mb_B_invert 42 = .ok (.lastore, 1) := by decide +kernel
theorem dd_B_invert_43 : decode mb_B_invert 43 = .ok (.return_, 1) := by decide +kernel
end
section
theorem dd_W_init_0 : decode mb_W_init 0 = .ok (.aload_n 0, 1) := by decide +kernel
theorem dd_W_init_1 : decode mb_W_init 1 = .ok (.invokespecial 3, 3) := by decide +kernel
theorem dd_W_init_4 : decode mb_W_init 4 = .ok (.aload_n 0, 1) := by decide +kernel
theorem dd_W_init_5 : decode mb_W_init 5 = .ok (.aload_n 1, 1) := by decide +kernel
theorem dd_W_init_6 : decode mb_W_init 6 = .ok (.putfield 9, 3) := by decide +kernel
theorem dd_W_init_9 : decode mb_W_init 9 = .ok (.aload_n 0, 1) := by decide +kernel
theorem dd_W_init_10 : decode mb_W_init 10 = .ok (.new 15, 3) := by decide +kernel
theorem dd_W_init_13 : decode mb_W_init 13 = .ok (.dup, 1) := by decide +kernel
theorem dd_W_init_14 : decode mb_W_init 14 = .ok (.invokespecial 17, 3) := by decide +kernel
theorem dd_W_init_17 : decode mb_W_init 17 = .ok (.putfield 18, 3) := by decide +kernel
theorem dd_W_init_20 : decode mb_W_init 20 = .ok (.aload_n 0, 1) := by decide +kernel
theorem dd_W_init_21 : decode mb_W_init 21 = .ok (.lconst 0, 1) := by decide +kernel
theorem dd_W_init_22 : decode mb_W_init 22 = .ok (.putfield 22, 3) := by decide +kernel
theorem dd_W_init_25 : decode mb_W_init 25 = .ok (.aload_n 0, 1) := by decide +kernel
theorem dd_W_init_26 : decode mb_W_init 26 = .ok (.lconst 0, 1) := by decide +kernel
theorem dd_W_init_27 : decode mb_W_init 27 = .ok (.putfield 26, 3) := by decide +kernel
theorem dd_W_init_30 : decode mb_W_init 30 = .ok (.aload_n 0, 1) := by decide +kernel
theorem dd_W_init_31 : decode mb_W_init 31 = .ok (.lconst 0, 1) := by decide +kernel
theorem dd_W_init_32 : decode mb_W_init 32 = .ok (.putfield 29, 3) := by decide +kernel
theorem dd_W_init_35 : decode mb_W_init 35 = .ok (.return_, 1) := by decide +kernel
theorem dd_W_writeAll_0 : decode mb_W_writeAll 0 = .ok (.aload_n 1, 1) := by decide +kernel
theorem dd_W_writeAll_1 : decode mb_W_writeAll 1 = .ok (.invokevirtual 32, 3) := by decide +kernel
theorem dd_W_writeAll_4 : decode mb_W_writeAll 4 = .ok (.istore_n 2, 1) := by decide +kernel
theorem dd_W_writeAll_5 : decode mb_W_writeAll 5 = .ok (.iconst 0, 1) := by decide +kernel
theorem dd_W_writeAll_6 : decode mb_W_writeAll 6 = .ok (.istore_n 3, 1) := by decide +kernel
theorem dd_W_writeAll_7 : decode mb_W_writeAll 7 = .ok (.iload_n 3, 1) := by decide +kernel
theorem dd_W_writeAll_8 : decode mb_W_writeAll 8 = .ok (.iload_n 2, 1) := by decide +kernel
theorem dd_W_writeAll_9 : decode mb_W_writeAll 9 = .ok (.if_icmp .ge 67, 3) := by decide +kernel
theorem dd_W_writeAll_12 : decode mb_W_writeAll 12 = .ok (.aload_n 1, 1) := by decide +kernel
theorem dd_W_writeAll_13 : decode mb_W_writeAll 13 = .ok (.iload_n 3, 1) := by decide +kernel
theorem dd_W_writeAll_14 : decode mb_W_writeAll 14 = .ok (.invokevirtual 38, 3) := by decide +kernel
theorem dd_W_writeAll_17 : decode mb_W_writeAll 17 = .ok (.lstore 4, 2) := by decide +kernel
theorem dd_W_writeAll_19 : decode mb_W_writeAll 19 = .ok (.aload_n 1, 1) := by decide +kernel
theorem dd_W_writeAll_20 : decode mb_W_writeAll 20 = .ok (.iload_n 3, 1) := by decide +kernel
theorem dd_W_writeAll_21 : decode mb_W_writeAll 21 = .ok (.invokevirtual 42, 3) := by decide +kernel
theorem dd_W_writeAll_24 : decode mb_W_writeAll 24 = .ok (.lstore 6, 2) := by decide +kernel
theorem dd_W_writeAll_26 : decode mb_W_writeAll 26 = .ok (.iload_n 3, 1) := by decide +kernel
theorem dd_W_writeAll_27 : decode mb_W_writeAll 27 = .ok (.ifCond .ne 14, 3) := by decide +kernel
theorem dd_W_writeAll_30 : decode mb_W_writeAll 30 = .ok (.aload_n 0, 1) := by decide +kernel
theorem dd_W_writeAll_31 : decode mb_W_writeAll 31 = .ok (.lload 4, 2) := by decide +kernel
theorem dd_W_writeAll_33 : decode mb_W_writeAll 33 = .ok (.lload 6, 2) := by decide +kernel
theorem dd_W_writeAll_35 : decode mb_W_writeAll 35 = .ok (.invokevirtual 45, 3) := by decide +kernel
theorem dd_W_writeAll_38 : decode mb_W_writeAll 38 = .ok (.goto 11, 3) := by decide +kernel
theorem dd_W_writeAll_41 : decode mb_W_writeAll 41 = .ok (.aload_n 0, 1) := by decide +kernel
theorem dd_W_writeAll_42 : decode mb_W_writeAll 42 = .ok (.lload 4, 2) := by decide +kernel
theorem dd_W_writeAll_44 : decode mb_W_writeAll 44 = .ok (.lload 6, 2) := by decide +kernel
theorem dd_W_writeAll_46 : decode mb_W_writeAll 46 = .ok (.invokevirtual 49, 3) := by decide +kernel
theorem dd_W_writeAll_49 : decode mb_W_writeAll 49 = .ok (.istore 8, 2) := by decide +kernel
theorem dd_W_writeAll_51 : decode mb_W_writeAll 51 = .ok (.iload 8, 2) := by decide +kernel
theorem dd_W_writeAll_53 : decode mb_W_writeAll 53 = .ok (.ifCond .ne 5, 3) := by decide +kernel
theorem dd_W_writeAll_56 : decode mb_W_writeAll 56 = .ok (.iconst 0, 1) := by decide +kernel
theorem dd_W_writeAll_57 : decode mb_W_writeAll 57 = .ok (.ireturn, 1) := by decide +kernel
theorem dd_W_writeAll_58 : decode mb_W_writeAll 58 = .ok (.aload_n 0, 1) := by decide +kernel
theorem dd_W_writeAll_59 : decode mb_W_writeAll 59 = .ok (.lload 4, 2) := by decide +kernel
theorem dd_W_writeAll_61 : decode mb_W_writeAll 61 = .ok (.putfield 22, 3) := by decide +kernel
theorem dd_W_writeAll_64 : decode mb_W_writeAll 64 = .ok (.aload_n 0, 1) := by decide +kernel
theorem dd_W_writeAll_65 : decode mb_W_writeAll 65 = .ok (.lload 6, 2) := by decide +kernel
theorem dd_W_writeAll_67 : decode mb_W_writeAll 67 = .ok (.putfield 29, 3) := by decide +kernel
theorem dd_W_writeAll_70 : decode mb_W_writeAll 70 = .ok (.iinc 3 1, 3) := by decide +kernel
theorem dd_W_writeAll_73 : decode mb_W_writeAll 73 = .ok (.goto (-66), 3) := by decide +kernel
theorem dd_W_writeAll_76 : decode mb_W_writeAll 76 = .ok (.iconst 1, 1) := by decide +kernel
theorem dd_W_writeAll_77 : decode mb_W_writeAll 77 = .ok (.ireturn, 1) := by decide +kernel
theorem dd_W_writeFirst_0 : decode mb_W_writeFirst 0 = .ok (.aload_n 0, 1) := by decide +kernel
theorem dd_W_writeFirst_1 : decode mb_W_writeFirst 1 = .ok (.getfield 9, 3) := by decide +kernel
theorem dd_W_writeFirst_4 : decode mb_W_writeFirst 4 = .ok (.lload_n 1, 1) := by decide +kernel
theorem dd_W_writeFirst_5 : decode mb_W_writeFirst 5 = .ok (.bipush 40, 2) := by decide +kernel
theorem dd_W_writeFirst_7 : decode mb_W_writeFirst 7 = .ok (.invokevirtual 52, 3) := by decide +kernel
theorem dd_W_writeFirst_10 : decode mb_W_writeFirst 10 = .ok (.ifCond .eq 20, 3) := by decide +kernel
theorem dd_W_writeFirst_13 : decode mb_W_writeFirst 13 = .ok (.aload_n 0, 1) := by decide +kernel
theorem dd_W_writeFirst_14 : decode mb_W_writeFirst 14 = .ok (.getfield 9, 3) := by decide +kernel
theorem dd_W_writeFirst_17 : decode mb_W_writeFirst 17 = .ok (.lload_n 3, 1) := by decide +kernel
theorem dd_W_writeFirst_18 : decode mb_W_writeFirst 18 = .ok (.bipush 64, 2) := by decide +kernel
theorem dd_W_writeFirst_20 : decode mb_W_writeFirst 20 = .ok (.invokevirtual 52, 3) := by decide +kernel
theorem dd_W_writeFirst_23 : decode mb_W_writeFirst 23 = .ok (.ifCond .eq 7, 3) := by decide +kernel
theorem dd_W_writeFirst_26 : decode mb_W_writeFirst 26 = .ok (.iconst 1, 1) := by decide +kernel
theorem dd_W_writeFirst_27 : decode mb_W_writeFirst 27 = .ok (.goto 4, 3) := by decide +kernel
theorem dd_W_writeFirst_30 : decode mb_W_writeFirst 30 = .ok (.iconst 0, 1) := by decide +kernel
theorem dd_W_writeFirst_31 : decode mb_W_writeFirst 31 = .ok (.ireturn, 1) := by decide +kernel
theorem dd_W_writeNext_0 : decode mb_W_writeNext 0 = .ok (.lload_n 1, 1) := by decide +kernel
theorem dd_W_writeNext_1 : decode mb_W_writeNext 1 = .ok (.aload_n 0, 1) := by decide +kernel
theorem dd_W_writeNext_2 : decode mb_W_writeNext 2 = .ok (.getfield 22, 3) := by decide +kernel
theorem dd_W_writeNext_5 : decode mb_W_writeNext 5 = .ok (.lsub, 1) := by decide +kernel
theorem dd_W_writeNext_6 : decode mb_W_writeNext 6 = .ok (.lstore 5, 2) := by decide +kernel
theorem dd_W_writeNext_8 : decode mb_W_writeNext 8 = .ok (.lload 5, 2) := by decide +kernel
theorem dd_W_writeNext_10 : decode mb_W_writeNext 10 = .ok (.aload_n 0, 1) := by decide +kernel
theorem dd_W_writeNext_11 : decode mb_W_writeNext 11 = .ok (.getfield 26, 3) := by decide +kernel
theorem dd_W_writeNext_14 : decode mb_W_writeNext 14 = .ok (.lsub, 1) := by decide +kernel
theorem dd_W_writeNext_15 : decode mb_W_writeNext 15 = .ok (.lstore 7, 2) := by decide +kernel
theorem dd_W_writeNext_17 : decode mb_W_writeNext 17 = .ok (.aload_n 0, 1) := by decide +kernel
theorem dd_W_writeNext_18 : decode mb_W_writeNext 18 = .ok (.lload 5, 2) := by decide +kernel
theorem dd_W_writeNext_20 : decode mb_W_writeNext 20 = .ok (.putfield 26, 3) := by decide +kernel
theorem dd_W_writeNext_23 : decode mb_W_writeNext 23 = .ok (.aload_n 0, 1) := by decide +kernel
theorem dd_W_writeNext_24 : decode mb_W_writeNext 24 = .ok (.lload 7, 2) := by decide +kernel
theorem dd_W_writeNext_26 : decode mb_W_writeNext 26 = .ok (.invokevirtual 58, 3) := by decide +kernel
theorem dd_W_writeNext_29 : decode mb_W_writeNext 29 = .ok (.ifCond .eq 20, 3) := by decide +kernel
theorem dd_W_writeNext_32 : decode mb_W_writeNext 32 = .ok (.aload_n 0, 1) := by decide +kernel
theorem dd_W_writeNext_33 : decode mb_W_writeNext 33 = .ok (.lload_n 3, 1) := by decide +kernel
theorem dd_W_writeNext_34 : decode mb_W_writeNext 34 = .ok (.aload_n 0, 1) := by decide +kernel
theorem dd_W_writeNext_35 : decode mb_W_writeNext 35 = .ok (.getfield 29, 3) := by decide +kernel
theorem dd_W_writeNext_38 : decode mb_W_writeNext 38 = .ok (.lxor, 1) := by decide +kernel
theorem dd_W_writeNext_39 : decode mb_W_writeNext 39 = .ok (.invokevirtual 62, 3) := by decide +kernel
theorem dd_W_writeNext_42 : decode mb_W_writeNext 42 = .ok (.ifCond .eq 7, 3) := by decide +kernel
theorem dd_W_writeNext_45 : decode mb_W_writeNext 45 = .ok (.iconst 1, 1) := by decide +kernel
theorem dd_W_writeNext_46 : decode mb_W_writeNext 46 = .ok (.goto 4, 3) := by decide +kernel
theorem dd_W_writeNext_49 : decode mb_W_writeNext 49 = .ok (.iconst 0, 1) := by decide +kernel
theorem dd_W_writeNext_50 : decode mb_W_writeNext 50 = .ok (.ireturn, 1) := by decide +kernel
theorem dd_W_writeTurn_0 : decode mb_W_writeTurn 0 = .ok (.lload_n 1, 1) := by decide +kernel
theorem dd_W_writeTurn_1 : decode mb_W_writeTurn 1 = .ok (.invokestatic 65, 3) := by decide +kernel
theorem dd_W_writeTurn_4 : decode mb_W_writeTurn 4 = .ok (.istore_n 3, 1) := by decide +kernel
theorem dd_W_writeTurn_5 : decode mb_W_writeTurn 5 = .ok (.getstatic 69, 3) := by decide +kernel
theorem dd_W_writeTurn_8 : decode mb_W_writeTurn 8 = .ok (.iload_n 3, 1) := by decide +kernel
theorem dd_W_writeTurn_9 : decode mb_W_writeTurn 9 = .ok (.iaload, 1) := by decide +kernel
theorem dd_W_writeTurn_10 : decode mb_W_writeTurn 10 = .ok (.istore 4, 2) := by decide +kernel
theorem dd_W_writeTurn_12 : decode mb_W_writeTurn 12 = .ok (.aload_n 0, 1) := by decide +kernel
theorem dd_W_writeTurn_13 : decode mb_W_writeTurn 13 = .ok (.iload_n 3, 1) := by decide +kernel
theorem dd_W_writeTurn_14 : decode mb_W_writeTurn 14 = .ok (.invokevirtual 73, 3) := by decide +kernel
theorem dd_W_writeTurn_17 : decode mb_W_writeTurn 17 = .ok (.ifCond .eq 27, 3) := by decide +kernel
theorem dd_W_writeTurn_20 : decode mb_W_writeTurn 20 = .ok (.aload_n 0, 1) := by decide +kernel
theorem dd_W_writeTurn_21 : decode mb_W_writeTurn 21 = .ok (.getfield 9, 3) := by decide +kernel
theorem dd_W_writeTurn_24 : decode mb_W_writeTurn 24 = .ok (.lload_n 1, 1) := by decide +kernel
theorem dd_W_writeTurn_25 : decode mb_W_writeTurn 25 = .ok (.lconst 1, 1) := by decide +kernel
theorem dd_W_writeTurn_26 : decode mb_W_writeTurn 26 = .ok (.iload 4, 2) := by decide +kernel
theorem dd_W_writeTurn_28 : decode mb_W_writeTurn 28 = .ok (.lshl, 1) := by decide +kernel
theorem dd_W_writeTurn_29 : decode mb_W_writeTurn 29 = .ok (.lconst 1, 1) := by decide +kernel
theorem dd_W_writeTurn_30 : decode mb_W_writeTurn 30 = .ok (.lsub, 1) := by decide +kernel
theorem dd_W_writeTurn_31 : decode mb_W_writeTurn 31 = .ok (.land, 1) := by decide +kernel
theorem dd_W_writeTurn_32 : decode mb_W_writeTurn 32 = .ok (.iload 4, 2) := by decide +kernel
theorem dd_W_writeTurn_34 : decode mb_W_writeTurn 34 = .ok (.invokevirtual 52, 3) := by decide +kernel
theorem dd_W_writeTurn_37 : decode mb_W_writeTurn 37 = .ok (.ifCond .eq 7, 3) := by decide +kernel
theorem dd_W_writeTurn_40 : decode mb_W_writeTurn 40 = .ok (.iconst 1, 1) := by decide +kernel
theorem dd_W_writeTurn_41 : decode mb_W_writeTurn 41 = .ok (.goto 4, 3) := by decide +kernel
theorem dd_W_writeTurn_44 : decode mb_W_writeTurn 44 = .ok (.iconst 0, 1) := by decide +kernel
theorem dd_W_writeTurn_45 : decode mb_W_writeTurn 45 = .ok (.ireturn, 1) := by decide +kernel
theorem dd_W_kindOf_0 : decode mb_W_kindOf 0 = .ok (.lload_n 0, 1) := by decide +kernel
theorem dd_W_kindOf_1 : decode mb_W_kindOf 1 = .ok (.lconst 0, 1) := by decide +kernel
theorem dd_W_kindOf_2 : decode mb_W_kindOf 2 = .ok (.lcmp, 1) := by decide +kernel
theorem dd_W_kindOf_3 : decode mb_W_kindOf 3 = .ok (.ifCond .ne 5, 3) := by decide +kernel
theorem dd_W_kindOf_6 : decode mb_W_kindOf 6 = .ok (.iconst 0, 1) := by decide +kernel
theorem dd_W_kindOf_7 : decode mb_W_kindOf 7 = .ok (.ireturn, 1) := by decide +kernel
theorem dd_W_kindOf_8 : decode mb_W_kindOf 8 = .ok (.iconst 1, 1) := by decide +kernel
theorem dd_W_kindOf_9 : decode mb_W_kindOf 9 = .ok (.istore_n 2, 1) := by decide +kernel
theorem dd_W_kindOf_10 : decode mb_W_kindOf 10 = .ok (.iload_n 2, 1) := by decide +kernel
theorem dd_W_kindOf_11 : decode mb_W_kindOf 11 = .ok (.iconst 4, 1) := by decide +kernel
theorem dd_W_kindOf_12 : decode mb_W_kindOf 12 = .ok (.if_icmp .ge 34, 3) := by decide +kernel
theorem dd_W_kindOf_15 : decode mb_W_kindOf 15 = .ok (.lconst 1, 1) := by decide +kernel
theorem dd_W_kindOf_16 : decode mb_W_kindOf 16 = .ok (.getstatic 69, 3) := by decide +kernel
theorem dd_W_kindOf_19 : decode mb_W_kindOf 19 = .ok (.iload_n 2, 1) := by decide +kernel
theorem dd_W_kindOf_20 : decode mb_W_kindOf 20 = .ok (.iaload, 1) := by decide +kernel
theorem dd_W_kindOf_21 : decode mb_W_kindOf 21 = .ok (.iconst 1, 1) := by decide +kernel
theorem dd_W_kindOf_22 : decode mb_W_kindOf 22 = .ok (.isub, 1) := by decide +kernel
theorem dd_W_kindOf_23 : decode mb_W_kindOf 23 = .ok (.lshl, 1) := by decide +kernel
theorem dd_W_kindOf_24 : decode mb_W_kindOf 24 = .ok (.lstore_n 3, 1) := by decide +kernel
theorem dd_W_kindOf_25 : decode mb_W_kindOf 25 = .ok (.lload_n 0, 1) := by decide +kernel
theorem dd_W_kindOf_26 : decode mb_W_kindOf 26 = .ok (.lload_n 3, 1) := by decide +kernel
theorem dd_W_kindOf_27 : decode mb_W_kindOf 27 = .ok (.lneg, 1) := by decide +kernel
theorem dd_W_kindOf_28 : decode mb_W_kindOf 28 = .ok (.lcmp, 1) := by decide +kernel
theorem dd_W_kindOf_29 : decode mb_W_kindOf 29 = .ok (.ifCond .lt 11, 3) := by decide +kernel
theorem dd_W_kindOf_32 : decode mb_W_kindOf 32 = .ok (.lload_n 0, 1) := by decide +kernel
theorem dd_W_kindOf_33 : decode mb_W_kindOf 33 = .ok (.lload_n 3, 1) := by decide +kernel
theorem dd_W_kindOf_34 : decode mb_W_kindOf 34 = .ok (.lcmp, 1) := by decide +kernel
theorem dd_W_kindOf_35 : decode mb_W_kindOf 35 = .ok (.ifCond .ge 5, 3) := by decide +kernel
theorem dd_W_kindOf_38 : decode mb_W_kindOf 38 = .ok (.iload_n 2, 1) := by decide +kernel
theorem dd_W_kindOf_39 : decode mb_W_kindOf 39 = .ok (.ireturn, 1) := by decide +kernel
theorem dd_W_kindOf_40 : decode mb_W_kindOf 40 = .ok (.iinc 2 1, 3) := by decide +kernel
theorem dd_W_kindOf_43 : decode mb_W_kindOf 43 = .ok (.goto (-33), 3) := by decide +kernel
theorem dd_W_kindOf_46 : decode mb_W_kindOf 46 = .ok (.iconst 4, 1) := by decide +kernel
theorem dd_W_kindOf_47 : decode mb_W_kindOf 47 = .ok (.ireturn, 1) := by decide +kernel
theorem dd_W_writeKind_0 : decode mb_W_writeKind 0 = .ok (.lconst 1, 1) := by decide +kernel
theorem dd_W_writeKind_1 : decode mb_W_writeKind 1 = .ok (.iload_n 1, 1) := by decide +kernel
theorem dd_W_writeKind_2 : decode mb_W_writeKind 2 = .ok (.lshl, 1) := by decide +kernel
theorem dd_W_writeKind_3 : decode mb_W_writeKind 3 = .ok (.lconst 1, 1) := by decide +kernel
theorem dd_W_writeKind_4 : decode mb_W_writeKind 4 = .ok (.lsub, 1) := by decide +kernel
theorem dd_W_writeKind_5 : decode mb_W_writeKind 5 = .ok (.lstore_n 2, 1) := by decide +kernel
theorem dd_W_writeKind_6 : decode mb_W_writeKind 6 = .ok (.iload_n 1, 1) := by decide +kernel
theorem dd_W_writeKind_7 : decode mb_W_writeKind 7 = .ok (.iconst 4, 1) := by decide +kernel
theorem dd_W_writeKind_8 : decode mb_W_writeKind 8 = .ok (.if_icmp .ne 15, 3) := by decide +kernel
theorem dd_W_writeKind_11 : decode mb_W_writeKind 11 = .ok (.aload_n 0, 1) := by decide +kernel
theorem dd_W_writeKind_12 : decode mb_W_writeKind 12 = .ok (.getfield 9, 3) := by decide +kernel
theorem dd_W_writeKind_15 : decode mb_W_writeKind 15 = .ok (.lload_n 2, 1) := by decide +kernel
theorem dd_W_writeKind_16 : decode mb_W_writeKind 16 = .ok (.iload_n 1, 1) := by decide +kernel
theorem dd_W_writeKind_17 : decode mb_W_writeKind 17 = .ok (.invokevirtual 52, 3) := by decide +kernel
theorem dd_W_writeKind_20 : decode mb_W_writeKind 20 = .ok (.goto 16, 3) := by decide +kernel
theorem dd_W_writeKind_23 : decode mb_W_writeKind 23 = .ok (.aload_n 0, 1) := by decide +kernel
theorem dd_W_writeKind_24 : decode mb_W_writeKind 24 = .ok (.getfield 9, 3) := by decide +kernel
theorem dd_W_writeKind_27 : decode mb_W_writeKind 27 = .ok (.lload_n 2, 1) := by decide +kernel
theorem dd_W_writeKind_28 : decode mb_W_writeKind 28 = .ok (.iconst 1, 1) := by decide +kernel
theorem dd_W_writeKind_29 : decode mb_W_writeKind 29 = .ok (.lshl, 1) := by decide +kernel
theorem dd_W_writeKind_30 : decode mb_W_writeKind 30 = .ok (.iload_n 1, 1) := by decide +kernel
theorem dd_W_writeKind_31 : decode mb_W_writeKind 31 = .ok (.iconst 1, 1) := by decide +kernel
theorem dd_W_writeKind_32 : decode mb_W_writeKind 32 = .ok (.iadd, 1) := by decide +kernel
theorem dd_W_writeKind_33 : decode mb_W_writeKind 33 = .ok (.invokevirtual 52, 3) := by decide +kernel
theorem dd_W_writeKind_36 : decode mb_W_writeKind 36 = .ok (.ireturn, 1) := by decide +kernel
theorem dd_W_writeDifference_0 : decode mb_W_writeDifference 0 = .ok (.lload_n 1, 1) := by decide +kernel
theorem dd_W_writeDifference_1 : decode mb_W_writeDifference 1 = .ok (.lconst 0, 1) := by decide +kernel
theorem dd_W_writeDifference_2 : decode mb_W_writeDifference 2 = .ok (.lcmp, 1) := by decide +kernel
theorem dd_W_writeDifference_3 : decode mb_W_writeDifference 3 = .ok (.ifCond .ne 13, 3) := by decide +kernel
theorem dd_W_writeDifference_6 : decode mb_W_writeDifference 6 = .ok (.aload_n 0, 1) := by decide +kernel
theorem dd_W_writeDifference_7 : decode mb_W_writeDifference 7 = .ok (.getfield 9, 3) := by decide +kernel
theorem dd_W_writeDifference_10 : decode mb_W_writeDifference 10 = .ok (.lconst 0, 1) := by decide +kernel
theorem dd_W_writeDifference_11 : decode mb_W_writeDifference 11 = .ok (.iconst 1, 1) := by decide +kernel
theorem dd_W_writeDifference_12 : decode mb_W_writeDifference 12 = .ok (.invokevirtual 52, 3) := by decide +kernel
theorem dd_W_writeDifference_15 : decode mb_W_writeDifference 15 = .ok (.ireturn, 1) := by decide +kernel
theorem dd_W_writeDifference_16 : decode mb_W_writeDifference 16 = .ok (.lload_n 1, 1) := by decide +kernel
theorem dd_W_writeDifference_17 : decode mb_W_writeDifference 17 = .ok (.invokestatic 77, 3) := by decide +kernel
theorem dd_W_writeDifference_20 : decode mb_W_writeDifference 20 = .ok (.bipush 31, 2) := by decide +kernel
theorem dd_W_writeDifference_22 : decode mb_W_writeDifference 22 = .ok (.invokestatic 82, 3) := by decide +kernel
theorem dd_W_writeDifference_25 : decode mb_W_writeDifference 25 = .ok (.istore_n 3, 1) := by decide +kernel
theorem dd_W_writeDifference_26 : decode mb_W_writeDifference 26 = .ok (.lload_n 1, 1) := by decide +kernel
theorem dd_W_writeDifference_27 : decode mb_W_writeDifference 27 = .ok (.invokestatic 88, 3) := by decide +kernel
theorem dd_W_writeDifference_30 : decode mb_W_writeDifference 30 = .ok (.istore 4, 2) := by decide +kernel
theorem dd_W_writeDifference_32 : decode mb_W_writeDifference 32 = .ok (.aload_n 0, 1) := by decide +kernel
theorem dd_W_writeDifference_33 : decode mb_W_writeDifference 33 = .ok (.getfield 18, 3) := by decide +kernel
theorem dd_W_writeDifference_36 : decode mb_W_writeDifference 36 = .ok (.iload_n 3, 1) := by decide +kernel
theorem dd_W_writeDifference_37 : decode mb_W_writeDifference 37 = .ok (.iload 4, 2) := by decide +kernel
theorem dd_W_writeDifference_39 : decode mb_W_writeDifference 39 = .ok (.invokevirtual 91, 3) := by decide +kernel
theorem dd_W_writeDifference_42 : decode mb_W_writeDifference 42 = .ok (.ifCond .eq 17, 3) := by decide +kernel
theorem dd_W_writeDifference_45 : decode mb_W_writeDifference 45 = .ok (.aload_n 0, 1) := by decide +kernel
theorem dd_W_writeDifference_46 : decode mb_W_writeDifference 46 = .ok (.getfield 9, 3) := by decide +kernel
theorem dd_W_writeDifference_49 : decode mb_W_writeDifference 49 = .ok (.ldc2_w 95, 3) := by decide +kernel
theorem dd_W_writeDifference_52 : decode mb_W_writeDifference 52 = .ok (.iconst 2, 1) := by decide +kernel
theorem dd_W_writeDifference_53 : decode mb_W_writeDifference 53 = .ok (.invokevirtual 52, 3) := by decide +kernel
theorem dd_W_writeDifference_56 : decode mb_W_writeDifference 56 = .ok (.goto 15, 3) := by decide +kernel
theorem dd_W_writeDifference_59 : decode mb_W_writeDifference 59 = .ok (.aload_n 0, 1) := by decide +kernel
theorem dd_W_writeDifference_60 : decode mb_W_writeDifference 60 = .ok (.iload_n 3, 1) := by decide +kernel
theorem dd_W_writeDifference_61 : decode mb_W_writeDifference 61 = .ok (.bipush 64, 2) := by decide +kernel
theorem dd_W_writeDifference_63 : decode mb_W_writeDifference 63 = .ok (.iload_n 3, 1) := by decide +kernel
theorem dd_W_writeDifference_64 : decode mb_W_writeDifference 64 = .ok (.isub, 1) := by decide +kernel
theorem dd_W_writeDifference_65 : decode mb_W_writeDifference 65 = .ok (.iload 4, 2) := by decide +kernel
theorem dd_W_writeDifference_67 : decode mb_W_writeDifference 67 = .ok (.isub, 1) := by decide +kernel
theorem dd_W_writeDifference_68 : decode mb_W_writeDifference 68 = .ok (.invokevirtual 97, 3) := by decide +kernel
theorem dd_W_writeDifference_71 : decode mb_W_writeDifference 71 = .ok (.istore 5, 2) := by decide +kernel
theorem dd_W_writeDifference_73 : decode mb_W_writeDifference 73 = .ok (.iload 5, 2) := by decide +kernel
theorem dd_W_writeDifference_75 : decode mb_W_writeDifference 75 = .ok (.ifCond .eq 33, 3) := by decide +kernel
theorem dd_W_writeDifference_78 : decode mb_W_writeDifference 78 = .ok (.aload_n 0, 1) := by decide +kernel
theorem dd_W_writeDifference_79 : decode mb_W_writeDifference 79 = .ok (.getfield 9, 3) := by decide +kernel
theorem dd_W_writeDifference_82 : decode mb_W_writeDifference 82 = .ok (.lload_n 1, 1) := by decide +kernel
theorem dd_W_writeDifference_83 : decode mb_W_writeDifference 83 = .ok (.aload_n 0, 1) := by decide +kernel
theorem dd_W_writeDifference_84 : decode mb_W_writeDifference 84 = .ok (.getfield 18, 3) := by decide +kernel
theorem dd_W_writeDifference_87 : decode mb_W_writeDifference 87 = .ok (.invokevirtual 100, 3) := by decide +kernel
theorem dd_W_writeDifference_90 : decode mb_W_writeDifference 90 = .ok (.lushr, 1) := by decide +kernel
theorem dd_W_writeDifference_91 : decode mb_W_writeDifference 91 = .ok (.aload_n 0, 1) := by decide +kernel
theorem dd_W_writeDifference_92 : decode mb_W_writeDifference 92 = .ok (.getfield 18, 3) := by decide +kernel
theorem dd_W_writeDifference_95 : decode mb_W_writeDifference 95 = .ok (.invokevirtual 103, 3) := by decide +kernel
theorem dd_W_writeDifference_98 : decode mb_W_writeDifference 98 = .ok (.invokevirtual 52, 3) := by decide +kernel
theorem dd_W_writeDifference_101 : decode mb_W_writeDifference 101 = .ok (.ifCond .eq 7, 3) := by decide +kernel
theorem dd_W_writeDifference_104 : decode mb_W_writeDifference 104 = .ok (.iconst 1, 1) := by decide +kernel
theorem dd_W_writeDifference_105 : decode mb_W_writeDifference 105 = .ok (.goto 4, 3) := by decide +kernel
theorem dd_W_writeDifference_108 : decode mb_W_writeDifference 108 = .ok (.iconst 0, 1) := by decide +kernel
theorem dd_W_writeDifference_109 : decode mb_W_writeDifference 109 = .ok (.ireturn, 1) := by decide +kernel
theorem dd_J_numberOfLeadingZeros_0 : decode mb_J_numberOfLeadingZeros 0 = .ok (.lload_n 0, 1) := by decide +kernel
theorem dd_J_numberOfLeadingZeros_1 : decode mb_J_numberOfLeadingZeros 1 = .ok (.bipush 32, 2) := by decide +kernel
theorem dd_J_numberOfLeadingZeros_3 : decode mb_J_numberOfLeadingZeros 3 = .ok (.lushr, 1) := by decide +kernel
theorem dd_J_numberOfLeadingZeros_4 : decode mb_J_numberOfLeadingZeros 4 = .ok (.l2i, 1) := by decide +kernel
theorem dd_J_numberOfLeadingZeros_5 : decode mb_J_numberOfLeadingZeros 5 = .ok (.istore_n 2, 1) := by decide +kernel
theorem dd_J_numberOfLeadingZeros_6 : decode mb_J_numberOfLeadingZeros 6 = .ok (.iload_n 2, 1) := by decide +kernel
theorem dd_J_numberOfLeadingZeros_7 : decode mb_J_numberOfLeadingZeros 7 = .ok (.ifCond .ne 14, 3) := by decide +kernel
theorem dd_J_numberOfLeadingZeros_10 : decode mb_J_numberOfLeadingZeros 10 = .ok (.bipush 32, 2) := by decide +kernel
theorem dd_J_numberOfLeadingZeros_12 : decode mb_J_numberOfLeadingZeros 12 = .ok (.lload_n 0, 1) := by decide +kernel
theorem dd_J_numberOfLeadingZeros_13 : decode mb_J_numberOfLeadingZeros 13 = .ok (.l2i, 1) := by decide +kernel
theorem dd_J_numberOfLeadingZeros_14 : decode mb_J_numberOfLeadingZeros 14 = .ok (.invokestatic 308, 3) := by decide +kernel
theorem dd_J_numberOfLeadingZeros_17 : decode mb_J_numberOfLeadingZeros 17 = .ok (.iadd, 1) := by decide +kernel
theorem dd_J_numberOfLeadingZeros_18 : decode mb_J_numberOfLeadingZeros 18 = .ok (.goto 7, 3) := by decide +kernel
theorem dd_J_numberOfLeadingZeros_21 : decode mb_J_numberOfLeadingZeros 21 = .ok (.iload_n 2, 1) := by decide +kernel
theorem dd_J_numberOfLeadingZeros_22 : decode mb_J_numberOfLeadingZeros 22 = .ok (.invokestatic 308, 3) := by decide +kernel
theorem dd_J_numberOfLeadingZeros_25 : decode mb_J_numberOfLeadingZeros 25 = .ok (.ireturn, 1) := by decide +kernel
theorem dd_I_numberOfLeadingZeros_0 : decode mb_I_numberOfLeadingZeros 0 = .ok (.iload_n 0, 1) := by decide +kernel
theorem dd_I_numberOfLeadingZeros_1 : decode mb_I_numberOfLeadingZeros 1 = .ok (.ifCond .gt 14, 3) := by decide +kernel
theorem dd_I_numberOfLeadingZeros_4 : decode mb_I_numberOfLeadingZeros 4 = .ok (.iload_n 0, 1) := by decide +kernel
theorem dd_I_numberOfLeadingZeros_5 : decode mb_I_numberOfLeadingZeros 5 = .ok (.ifCond .ne 8, 3) := by decide +kernel
theorem dd_I_numberOfLeadingZeros_8 : decode mb_I_numberOfLeadingZeros 8 = .ok (.bipush 32, 2) := by decide +kernel
theorem dd_I_numberOfLeadingZeros_10 : decode mb_I_numberOfLeadingZeros 10 = .ok (.goto 4, 3) := by decide +kernel
theorem dd_I_numberOfLeadingZeros_13 : decode mb_I_numberOfLeadingZeros 13 = .ok (.iconst 0, 1) := by decide +kernel
theorem dd_I_numberOfLeadingZeros_14 : decode mb_I_numberOfLeadingZeros 14 = .ok (.ireturn, 1) := by decide +kernel
theorem dd_I_numberOfLeadingZeros_15 : decode mb_I_numberOfLeadingZeros 15 = .ok (.bipush 31, 2) := by decide +kernel
theorem dd_I_numberOfLeadingZeros_17 : decode mb_I_numberOfLeadingZeros 17 = .ok (.istore_n 1, 1) := by decide +kernel
theorem dd_I_numberOfLeadingZeros_18 : decode mb_I_numberOfLeadingZeros 18 = .ok (.iload_n 0, 1) := by decide +kernel
theorem dd_I_numberOfLeadingZeros_19 : decode mb_I_numberOfLeadingZeros 19 = .ok (.ldc_w 264, 3) := by decide +kernel
theorem dd_I_numberOfLeadingZeros_22 : decode mb_I_numberOfLeadingZeros 22 = .ok (.if_icmp .lt 11, 3) := by decide +kernel
theorem dd_I_numberOfLeadingZeros_25 : decode mb_I_numberOfLeadingZeros 25 = .ok (.iinc 1 (-16), 3) := by decide +kernel
theorem dd_I_numberOfLeadingZeros_28 : decode mb_I_numberOfLeadingZeros 28 = .ok (.iload_n 0, 1) := by decide +kernel
theorem dd_I_numberOfLeadingZeros_29 : decode mb_I_numberOfLeadingZeros 29 = .ok (.bipush 16, 2) := by decide +kernel
theorem dd_I_numberOfLeadingZeros_31 : decode mb_I_numberOfLeadingZeros 31 = .ok (.iushr, 1) := by decide +kernel
theorem dd_I_numberOfLeadingZeros_32 : decode mb_I_numberOfLeadingZeros 32 = .ok (.istore_n 0, 1) := by decide +kernel
theorem dd_I_numberOfLeadingZeros_33 : decode mb_I_numberOfLeadingZeros 33 = .ok (.iload_n 0, 1) := by decide +kernel
theorem dd_I_numberOfLeadingZeros_34 : decode mb_I_numberOfLeadingZeros 34 = .ok (.sipush 256, 3) := by decide +kernel
theorem dd_I_numberOfLeadingZeros_37 : decode mb_I_numberOfLeadingZeros 37 = .ok (.if_icmp .lt 11, 3) := by decide +kernel
theorem dd_I_numberOfLeadingZeros_40 : decode mb_I_numberOfLeadingZeros 40 = .ok (.iinc 1 (-8), 3) := by decide +kernel
theorem dd_I_numberOfLeadingZeros_43 : decode mb_I_numberOfLeadingZeros 43 = .ok (.iload_n 0, 1) := by decide +kernel
theorem dd_I_numberOfLeadingZeros_44 : decode mb_I_numberOfLeadingZeros 44 = .ok (.bipush 8, 2) := by decide +kernel
theorem dd_I_numberOfLeadingZeros_46 : decode mb_I_numberOfLeadingZeros 46 = .ok (.iushr, 1) := by decide +kernel
theorem dd_I_numberOfLeadingZeros_47 : decode mb_I_numberOfLeadingZeros 47 = .ok (.istore_n 0, 1) := by decide +kernel
theorem dd_I_numberOfLeadingZeros_48 : decode mb_I_numberOfLeadingZeros 48 = .ok (.iload_n 0, 1) := by decide +kernel
theorem dd_I_numberOfLeadingZeros_49 : decode mb_I_numberOfLeadingZeros 49 = .ok (.bipush 16, 2) := by decide +kernel
theorem dd_I_numberOfLeadingZeros_51 : decode mb_I_numberOfLeadingZeros 51 = .ok (.if_icmp .lt 10, 3) := by decide +kernel
theorem dd_I_numberOfLeadingZeros_54 : decode mb_I_numberOfLeadingZeros 54 = .ok (.iinc 1 (-4), 3) := by decide +kernel
theorem dd_I_numberOfLeadingZeros_57 : decode mb_I_numberOfLeadingZeros 57 = .ok (.iload_n 0, 1) := by decide +kernel
theorem dd_I_numberOfLeadingZeros_58 : decode mb_I_numberOfLeadingZeros 58 = .ok (.iconst 4, 1) := by decide +kernel
theorem dd_I_numberOfLeadingZeros_59 : decode mb_I_numberOfLeadingZeros 59 = .ok (.iushr, 1) := by decide +kernel
theorem dd_I_numberOfLeadingZeros_60 : decode mb_I_numberOfLeadingZeros 60 = .ok (.istore_n 0, 1) := by decide +kernel
theorem dd_I_numberOfLeadingZeros_61 : decode mb_I_numberOfLeadingZeros 61 = .ok (.iload_n 0, 1) := by decide +kernel
theorem dd_I_numberOfLeadingZeros_62 : decode mb_I_numberOfLeadingZeros 62 = .ok (.iconst 4, 1) := by decide +kernel
theorem dd_I_numberOfLeadingZeros_63 : decode mb_I_numberOfLeadingZeros 63 = .ok (.if_icmp .lt 10, 3) := by decide +kernel
theorem dd_I_numberOfLeadingZeros_66 : decode mb_I_numberOfLeadingZeros 66 = .ok (.iinc 1 (-2), 3) := by decide +kernel
theorem dd_I_numberOfLeadingZeros_69 : decode mb_I_numberOfLeadingZeros 69 = .ok (.iload_n 0, 1) := by decide +kernel
theorem dd_I_numberOfLeadingZeros_70 : decode mb_I_numberOfLeadingZeros 70 = .ok (.iconst 2, 1) := by decide +kernel
theorem dd_I_numberOfLeadingZeros_71 : decode mb_I_numberOfLeadingZeros 71 = .ok (.iushr, 1) := by decide +kernel
theorem dd_I_numberOfLeadingZeros_72 : decode mb_I_numberOfLeadingZeros 72 = .ok (.istore_n 0, 1) := by decide +kernel
theorem dd_I_numberOfLeadingZeros_73 : decode mb_I_numberOfLeadingZeros 73 = .ok (.iload_n 1, 1) := by decide +kernel
theorem dd_I_numberOfLeadingZeros_74 : decode mb_I_numberOfLeadingZeros 74 = .ok (.iload_n 0, 1) := by decide +kernel
theorem dd_I_numberOfLeadingZeros_75 : decode mb_I_numberOfLeadingZeros 75 = .ok (.iconst 1, 1) := by decide +kernel
theorem dd_I_numberOfLeadingZeros_76 : decode mb_I_numberOfLeadingZeros 76 = .ok (.iushr, 1) := by decide +kernel
theorem dd_I_numberOfLeadingZeros_77 : decode mb_I_numberOfLeadingZeros 77 = .ok (.isub, 1) := by decide +kernel
theorem dd_I_numberOfLeadingZeros_78 : decode mb_I_numberOfLeadingZeros 78 = .ok (.ireturn, 1) := by decide +kernel
theorem dd_H_min_0 : decode mb_H_min 0 = .ok (.iload_n 0, 1) := by decide +kernel
theorem dd_H_min_1 : decode mb_H_min 1 = .ok (.iload_n 1, 1) := by decide +kernel
theorem dd_H_min_2 : decode mb_H_min 2 = .ok (.if_icmp .gt 7, 3) := by decide +kernel
theorem dd_H_min_5 : decode mb_H_min 5 = .ok (.iload_n 0, 1) := by decide +kernel
theorem dd_H_min_6 : decode mb_H_min 6 = .ok (.goto 4, 3) := by decide +kernel
theorem dd_H_min_9 : decode mb_H_min 9 = .ok (.iload_n 1, 1) := by decide +kernel
theorem dd_H_min_10 : decode mb_H_min 10 = .ok (.ireturn, 1) := by decide +kernel
theorem dd_J_numberOfTrailingZeros_0 : decode mb_J_numberOfTrailingZeros 0 = .ok (.lload_n 0, 1) := by decide +kernel
theorem dd_J_numberOfTrailingZeros_1 : decode mb_J_numberOfTrailingZeros 1 = .ok (.l2i, 1) := by decide +kernel
theorem dd_J_numberOfTrailingZeros_2 : decode mb_J_numberOfTrailingZeros 2 = .ok (.istore_n 2, 1) := by decide +kernel
theorem dd_J_numberOfTrailingZeros_3 : decode mb_J_numberOfTrailingZeros 3 = .ok (.iload_n 2, 1) := by decide +kernel
theorem dd_J_numberOfTrailingZeros_4 : decode mb_J_numberOfTrailingZeros 4 = .ok (.ifCond .ne 17, 3) := by decide +kernel
theorem dd_J_numberOfTrailingZeros_7 : decode mb_J_numberOfTrailingZeros 7 = .ok (.bipush 32, 2) := by decide +kernel
theorem dd_J_numberOfTrailingZeros_9 : decode mb_J_numberOfTrailingZeros 9 = .ok (.lload_n 0, 1) := by decide +kernel
theorem dd_J_numberOfTrailingZeros_10 : decode mb_J_numberOfTrailingZeros 10 = .ok (.bipush 32, 2) := by decide +kernel
theorem dd_J_numberOfTrailingZeros_12 : decode mb_J_numberOfTrailingZeros 12 = .ok (.lushr, 1) := by decide +kernel
theorem dd_J_numberOfTrailingZeros_13 : decode mb_J_numberOfTrailingZeros 13 = .ok (.l2i, 1) := by decide +kernel
theorem dd_J_numberOfTrailingZeros_14 : decode mb_J_numberOfTrailingZeros 14 = .ok (.invokestatic 311, 3) := by decide +kernel
theorem dd_J_numberOfTrailingZeros_17 : decode mb_J_numberOfTrailingZeros 17 = .ok (.iadd, 1) := by decide +kernel
theorem dd_J_numberOfTrailingZeros_18 : decode mb_J_numberOfTrailingZeros 18 = .ok (.goto 7, 3) := by decide +kernel
theorem dd_J_numberOfTrailingZeros_21 : decode mb_J_numberOfTrailingZeros 21 = .ok (.iload_n 2, 1) := by decide +kernel
theorem dd_J_numberOfTrailingZeros_22 : decode mb_J_numberOfTrailingZeros 22 = .ok (.invokestatic 311, 3) := by decide +kernel
theorem dd_J_numberOfTrailingZeros_25 : decode mb_J_numberOfTrailingZeros 25 = .ok (.ireturn, 1) := by decide +kernel
theorem dd_I_numberOfTrailingZeros_0 : decode mb_I_numberOfTrailingZeros 0 = .ok (.iload_n 0, 1) := by decide +kernel
theorem dd_I_numberOfTrailingZeros_1 : decode mb_I_numberOfTrailingZeros 1 = .ok (.iconst (-1), 1) := by decide +kernel
theorem dd_I_numberOfTrailingZeros_2 : decode mb_I_numberOfTrailingZeros 2 = .ok (.ixor, 1) := by decide +kernel
theorem dd_I_numberOfTrailingZeros_3 : decode mb_I_numberOfTrailingZeros 3 = .ok (.iload_n 0, 1) := by decide +kernel
theorem dd_I_numberOfTrailingZeros_4 : decode mb_I_numberOfTrailingZeros 4 = .ok (.iconst 1, 1) := by decide +kernel
theorem dd_I_numberOfTrailingZeros_5 : decode mb_I_numberOfTrailingZeros 5 = .ok (.isub, 1) := by decide +kernel
theorem dd_I_numberOfTrailingZeros_6 : decode mb_I_numberOfTrailingZeros 6 = .ok (.iand, 1) := by decide +kernel
theorem dd_I_numberOfTrailingZeros_7 : decode mb_I_numberOfTrailingZeros 7 = .ok (.istore_n 0, 1) := by decide +kernel
theorem dd_I_numberOfTrailingZeros_8 : decode mb_I_numberOfTrailingZeros 8 = .ok (.iload_n 0, 1) := by decide +kernel
theorem dd_I_numberOfTrailingZeros_9 : decode mb_I_numberOfTrailingZeros 9 = .ok (.ifCond .gt 8, 3) := by decide +kernel
theorem dd_I_numberOfTrailingZeros_12 : decode mb_I_numberOfTrailingZeros 12 = .ok (.iload_n 0, 1) := by decide +kernel
theorem dd_I_numberOfTrailingZeros_13 : decode mb_I_numberOfTrailingZeros 13 = .ok (.bipush 32, 2) := by decide +kernel
theorem dd_I_numberOfTrailingZeros_15 : decode mb_I_numberOfTrailingZeros 15 = .ok (.iand, 1) := by decide +kernel
theorem dd_I_numberOfTrailingZeros_16 : decode mb_I_numberOfTrailingZeros 16 = .ok (.ireturn, 1) := by decide +kernel
theorem dd_I_numberOfTrailingZeros_17 : decode mb_I_numberOfTrailingZeros 17 = .ok (.iconst 1, 1) := by decide +kernel
theorem dd_I_numberOfTrailingZeros_18 : decode mb_I_numberOfTrailingZeros 18 = .ok (.istore_n 1, 1) := by decide +kernel
theorem dd_I_numberOfTrailingZeros_19 : decode mb_I_numberOfTrailingZeros 19 = .ok (.iload_n 0, 1) := by decide +kernel
theorem dd_I_numberOfTrailingZeros_20 : decode mb_I_numberOfTrailingZeros 20 = .ok (.ldc_w 264, 3) := by decide +kernel
theorem dd_I_numberOfTrailingZeros_23 : decode mb_I_numberOfTrailingZeros 23 = .ok (.if_icmp .le 11, 3) := by decide +kernel
theorem dd_I_numberOfTrailingZeros_26 : decode mb_I_numberOfTrailingZeros 26 = .ok (.iinc 1 16, 3) := by decide +kernel
theorem dd_I_numberOfTrailingZeros_29 : decode mb_I_numberOfTrailingZeros 29 = .ok (.iload_n 0, 1) := by decide +kernel
theorem dd_I_numberOfTrailingZeros_30 : decode mb_I_numberOfTrailingZeros 30 = .ok (.bipush 16, 2) := by decide +kernel
theorem dd_I_numberOfTrailingZeros_32 : decode mb_I_numberOfTrailingZeros 32 = .ok (.iushr, 1) := by decide +kernel
theorem dd_I_numberOfTrailingZeros_33 : decode mb_I_numberOfTrailingZeros 33 = .ok (.istore_n 0, 1) := by decide +kernel
theorem dd_I_numberOfTrailingZeros_34 : decode mb_I_numberOfTrailingZeros 34 = .ok (.iload_n 0, 1) := by decide +kernel
theorem dd_I_numberOfTrailingZeros_35 : decode mb_I_numberOfTrailingZeros 35 = .ok (.sipush 256, 3) := by decide +kernel
theorem dd_I_numberOfTrailingZeros_38 : decode mb_I_numberOfTrailingZeros 38 = .ok (.if_icmp .le 11, 3) := by decide +kernel
theorem dd_I_numberOfTrailingZeros_41 : decode mb_I_numberOfTrailingZeros 41 = .ok (.iinc 1 8, 3) := by decide +kernel
theorem dd_I_numberOfTrailingZeros_44 : decode mb_I_numberOfTrailingZeros 44 = .ok (.iload_n 0, 1) := by decide +kernel
theorem dd_I_numberOfTrailingZeros_45 : decode mb_I_numberOfTrailingZeros 45 = .ok (.bipush 8, 2) := by decide +kernel
theorem dd_I_numberOfTrailingZeros_47 : decode mb_I_numberOfTrailingZeros 47 = .ok (.iushr, 1) := by decide +kernel
theorem dd_I_numberOfTrailingZeros_48 : decode mb_I_numberOfTrailingZeros 48 = .ok (.istore_n 0, 1) := by decide +kernel
theorem dd_I_numberOfTrailingZeros_49 : decode mb_I_numberOfTrailingZeros 49 = .ok (.iload_n 0, 1) := by decide +kernel
theorem dd_I_numberOfTrailingZeros_50 : decode mb_I_numberOfTrailingZeros 50 = .ok (.bipush 16, 2) := by decide +kernel
theorem dd_I_numberOfTrailingZeros_52 : decode mb_I_numberOfTrailingZeros 52 = .ok (.if_icmp .le 10, 3) := by decide +kernel
theorem dd_I_numberOfTrailingZeros_55 : decode mb_I_numberOfTrailingZeros 55 = .ok (.iinc 1 4, 3) := by decide +kernel
theorem dd_I_numberOfTrailingZeros_58 : decode mb_I_numberOfTrailingZeros 58 = .ok (.iload_n 0, 1) := by decide +kernel
theorem dd_I_numberOfTrailingZeros_59 : decode mb_I_numberOfTrailingZeros 59 = .ok (.iconst 4, 1) := by decide +kernel
theorem dd_I_numberOfTrailingZeros_60 : decode mb_I_numberOfTrailingZeros 60 = .ok (.iushr, 1) := by decide +kernel
theorem dd_I_numberOfTrailingZeros_61 : decode mb_I_numberOfTrailingZeros 61 = .ok (.istore_n 0, 1) := by decide +kernel
theorem dd_I_numberOfTrailingZeros_62 : decode mb_I_numberOfTrailingZeros 62 = .ok (.iload_n 0, 1) := by decide +kernel
theorem dd_I_numberOfTrailingZeros_63 : decode mb_I_numberOfTrailingZeros 63 = .ok (.iconst 4, 1) := by decide +kernel
theorem dd_I_numberOfTrailingZeros_64 : decode mb_I_numberOfTrailingZeros 64 = .ok (.if_icmp .le 10, 3) := by decide +kernel
theorem dd_I_numberOfTrailingZeros_67 : decode mb_I_numberOfTrailingZeros 67 = .ok (.iinc 1 2, 3) := by decide +kernel
theorem dd_I_numberOfTrailingZeros_70 : decode mb_I_numberOfTrailingZeros 70 = .ok (.iload_n 0, 1) := by decide +kernel
theorem dd_I_numberOfTrailingZeros_71 : decode mb_I_numberOfTrailingZeros 71 = .ok (.iconst 2, 1) := by decide +kernel
theorem dd_I_numberOfTrailingZeros_72 : decode mb_I_numberOfTrailingZeros 72 = .ok (.iushr, 1) := by decide +kernel
theorem dd_I_numberOfTrailingZeros_73 : decode mb_I_numberOfTrailingZeros 73 = .ok (.istore_n 0, 1) := by decide +kernel
theorem dd_I_numberOfTrailingZeros_74 : decode mb_I_numberOfTrailingZeros 74 = .ok (.iload_n 1, 1) := by decide +kernel
theorem dd_I_numberOfTrailingZeros_75 : decode mb_I_numberOfTrailingZeros 75 = .ok (.iload_n 0, 1) := by decide +kernel
theorem dd_I_numberOfTrailingZeros_76 : decode mb_I_numberOfTrailingZeros 76 = .ok (.iconst 1, 1) := by decide +kernel
theorem dd_I_numberOfTrailingZeros_77 : decode mb_I_numberOfTrailingZeros 77 = .ok (.iushr, 1) := by decide +kernel
theorem dd_I_numberOfTrailingZeros_78 : decode mb_I_numberOfTrailingZeros 78 = .ok (.iadd, 1) := by decide +kernel
theorem dd_I_numberOfTrailingZeros_79 : decode mb_I_numberOfTrailingZeros 79 = .ok (.ireturn, 1) := by decide +kernel
theorem dd_W_writeFrame_0 : decode mb_W_writeFrame 0 = .ok (.aload_n 0, 1) := by decide +kernel
theorem dd_W_writeFrame_1 : decode mb_W_writeFrame 1 = .ok (.getfield 18, 3) := by decide +kernel
theorem dd_W_writeFrame_4 : decode mb_W_writeFrame 4 = .ok (.iload_n 1, 1) := by decide +kernel
theorem dd_W_writeFrame_5 : decode mb_W_writeFrame 5 = .ok (.iload_n 2, 1) := by decide +kernel
theorem dd_W_writeFrame_6 : decode mb_W_writeFrame 6 = .ok (.invokevirtual 106, 3) := by decide +kernel
theorem dd_W_writeFrame_9 : decode mb_W_writeFrame 9 = .ok (.aload_n 0, 1) := by decide +kernel
theorem dd_W_writeFrame_10 : decode mb_W_writeFrame 10 = .ok (.getfield 9, 3) := by decide +kernel
theorem dd_W_writeFrame_13 : decode mb_W_writeFrame 13 = .ok (.ldc2_w 110, 3) := by decide +kernel
theorem dd_W_writeFrame_16 : decode mb_W_writeFrame 16 = .ok (.iconst 2, 1) := by decide +kernel
theorem dd_W_writeFrame_17 : decode mb_W_writeFrame 17 = .ok (.invokevirtual 52, 3) := by decide +kernel
theorem dd_W_writeFrame_20 : decode mb_W_writeFrame 20 = .ok (.ifCond .eq 36, 3) := by decide +kernel
theorem dd_W_writeFrame_23 : decode mb_W_writeFrame 23 = .ok (.aload_n 0, 1) := by decide +kernel
theorem dd_W_writeFrame_24 : decode mb_W_writeFrame 24 = .ok (.getfield 9, 3) := by decide +kernel
theorem dd_W_writeFrame_27 : decode mb_W_writeFrame 27 = .ok (.iload_n 1, 1) := by decide +kernel
theorem dd_W_writeFrame_28 : decode mb_W_writeFrame 28 = .ok (.i2l, 1) := by decide +kernel
theorem dd_W_writeFrame_29 : decode mb_W_writeFrame 29 = .ok (.iconst 5, 1) := by decide +kernel
theorem dd_W_writeFrame_30 : decode mb_W_writeFrame 30 = .ok (.invokevirtual 52, 3) := by decide +kernel
theorem dd_W_writeFrame_33 : decode mb_W_writeFrame 33 = .ok (.ifCond .eq 23, 3) := by decide +kernel
theorem dd_W_writeFrame_36 : decode mb_W_writeFrame 36 = .ok (.aload_n 0, 1) := by decide +kernel
theorem dd_W_writeFrame_37 : decode mb_W_writeFrame 37 = .ok (.getfield 9, 3) := by decide +kernel
theorem dd_W_writeFrame_40 : decode mb_W_writeFrame 40 = .ok (.iload_n 2, 1) := by decide +kernel
theorem dd_W_writeFrame_41 : decode mb_W_writeFrame 41 = .ok (.iconst 1, 1) := by decide +kernel
theorem dd_W_writeFrame_42 : decode mb_W_writeFrame 42 = .ok (.isub, 1) := by decide +kernel
theorem dd_W_writeFrame_43 : decode mb_W_writeFrame 43 = .ok (.i2l, 1) := by decide +kernel
theorem dd_W_writeFrame_44 : decode mb_W_writeFrame 44 = .ok (.bipush 6, 2) := by decide +kernel
theorem dd_W_writeFrame_46 : decode mb_W_writeFrame 46 = .ok (.invokevirtual 52, 3) := by decide +kernel
theorem dd_W_writeFrame_49 : decode mb_W_writeFrame 49 = .ok (.ifCond .eq 7, 3) := by decide +kernel
theorem dd_W_writeFrame_52 : decode mb_W_writeFrame 52 = .ok (.iconst 1, 1) := by decide +kernel
theorem dd_W_writeFrame_53 : decode mb_W_writeFrame 53 = .ok (.goto 4, 3) := by decide +kernel
theorem dd_W_writeFrame_56 : decode mb_W_writeFrame 56 = .ok (.iconst 0, 1) := by decide +kernel
theorem dd_W_writeFrame_57 : decode mb_W_writeFrame 57 = .ok (.ireturn, 1) := by decide +kernel
theorem dd_R_init_0 : decode mb_R_init 0 = .ok (.aload_n 0, 1) := by decide +kernel
theorem dd_R_init_1 : decode mb_R_init 1 = .ok (.invokespecial 3, 3) := by decide +kernel
theorem dd_R_init_4 : decode mb_R_init 4 = .ok (.aload_n 0, 1) := by decide +kernel
theorem dd_R_init_5 : decode mb_R_init 5 = .ok (.aload_n 1, 1) := by decide +kernel
theorem dd_R_init_6 : decode mb_R_init 6 = .ok (.putfield 9, 3) := by decide +kernel
theorem dd_R_init_9 : decode mb_R_init 9 = .ok (.aload_n 0, 1) := by decide +kernel
theorem dd_R_init_10 : decode mb_R_init 10 = .ok (.new 15, 3) := by decide +kernel
theorem dd_R_init_13 : decode mb_R_init 13 = .ok (.dup, 1) := by decide +kernel
theorem dd_R_init_14 : decode mb_R_init 14 = .ok (.invokespecial 17, 3) := by decide +kernel
theorem dd_R_init_17 : decode mb_R_init 17 = .ok (.putfield 18, 3) := by decide +kernel
theorem dd_R_init_20 : decode mb_R_init 20 = .ok (.aload_n 0, 1) := by decide +kernel
theorem dd_R_init_21 : decode mb_R_init 21 = .ok (.iconst 0, 1) := by decide +kernel
theorem dd_R_init_22 : decode mb_R_init 22 = .ok (.putfield 22, 3) := by decide +kernel
theorem dd_R_init_25 : decode mb_R_init 25 = .ok (.aload_n 0, 1) := by decide +kernel
theorem dd_R_init_26 : decode mb_R_init 26 = .ok (.lconst 0, 1) := by decide +kernel
theorem dd_R_init_27 : decode mb_R_init 27 = .ok (.putfield 26, 3) := by decide +kernel
theorem dd_R_init_30 : decode mb_R_init 30 = .ok (.aload_n 0, 1) := by decide +kernel
theorem dd_R_init_31 : decode mb_R_init 31 = .ok (.lconst 0, 1) := by decide +kernel
theorem dd_R_init_32 : decode mb_R_init 32 = .ok (.putfield 30, 3) := by decide +kernel
theorem dd_R_init_35 : decode mb_R_init 35 = .ok (.aload_n 0, 1) := by decide +kernel
theorem dd_R_init_36 : decode mb_R_init 36 = .ok (.lconst 0, 1) := by decide +kernel
theorem dd_R_init_37 : decode mb_R_init 37 = .ok (.putfield 33, 3) := by decide +kernel
theorem dd_R_init_40 : decode mb_R_init 40 = .ok (.aload_n 0, 1) := by decide +kernel
theorem dd_R_init_41 : decode mb_R_init 41 = .ok (.lconst 0, 1) := by decide +kernel
theorem dd_R_init_42 : decode mb_R_init 42 = .ok (.putfield 36, 3) := by decide +kernel
theorem dd_R_init_45 : decode mb_R_init 45 = .ok (.return_, 1) := by decide +kernel
theorem dd_R_readAll_0 : decode mb_R_readAll 0 = .ok (.iconst 0, 1) := by decide +kernel
theorem dd_R_readAll_1 : decode mb_R_readAll 1 = .ok (.istore_n 3, 1) := by decide +kernel
theorem dd_R_readAll_2 : decode mb_R_readAll 2 = .ok (.iload_n 3, 1) := by decide +kernel
theorem dd_R_readAll_3 : decode mb_R_readAll 3 = .ok (.iload_n 1, 1) := by decide +kernel
theorem dd_R_readAll_4 : decode mb_R_readAll 4 = .ok (.if_icmp .ge 48, 3) := by decide +kernel
theorem dd_R_readAll_7 : decode mb_R_readAll 7 = .ok (.iload_n 3, 1) := by decide +kernel
theorem dd_R_readAll_8 : decode mb_R_readAll 8 = .ok (.ifCond .ne 10, 3) := by decide +kernel
theorem dd_R_readAll_11 : decode mb_R_readAll 11 = .ok (.aload_n 0, 1) := by decide +kernel
theorem dd_R_readAll_12 : decode mb_R_readAll 12 = .ok (.invokevirtual 39, 3) := by decide +kernel
theorem dd_R_readAll_15 : decode mb_R_readAll 15 = .ok (.goto 7, 3) := by decide +kernel
theorem dd_R_readAll_18 : decode mb_R_readAll 18 = .ok (.aload_n 0, 1) := by decide +kernel
theorem dd_R_readAll_19 : decode mb_R_readAll 19 = .ok (.invokevirtual 43, 3) := by decide +kernel
theorem dd_R_readAll_22 : decode mb_R_readAll 22 = .ok (.istore 4, 2) := by decide +kernel
theorem dd_R_readAll_24 : decode mb_R_readAll 24 = .ok (.iload 4, 2) := by decide +kernel
theorem dd_R_readAll_26 : decode mb_R_readAll 26 = .ok (.ifCond .eq 18, 3) := by decide +kernel
theorem dd_R_readAll_29 : decode mb_R_readAll 29 = .ok (.aload_n 2, 1) := by decide +kernel
theorem dd_R_readAll_30 : decode mb_R_readAll 30 = .ok (.aload_n 0, 1) := by decide +kernel
theorem dd_R_readAll_31 : decode mb_R_readAll 31 = .ok (.getfield 30, 3) := by decide +kernel
theorem dd_R_readAll_34 : decode mb_R_readAll 34 = .ok (.aload_n 0, 1) := by decide +kernel
theorem dd_R_readAll_35 : decode mb_R_readAll 35 = .ok (.getfield 36, 3) := by decide +kernel
theorem dd_R_readAll_38 : decode mb_R_readAll 38 = .ok (.invokevirtual 46, 3) := by decide +kernel
theorem dd_R_readAll_41 : decode mb_R_readAll 41 = .ok (.ifCond .ne 5, 3) := by decide +kernel
theorem dd_R_readAll_44 : decode mb_R_readAll 44 = .ok (.iconst 0, 1) := by decide +kernel
theorem dd_R_readAll_45 : decode mb_R_readAll 45 = .ok (.ireturn, 1) := by decide +kernel
theorem dd_R_readAll_46 : decode mb_R_readAll 46 = .ok (.iinc 3 1, 3) := by decide +kernel
theorem dd_R_readAll_49 : decode mb_R_readAll 49 = .ok (.goto (-47), 3) := by decide +kernel
theorem dd_R_readAll_52 : decode mb_R_readAll 52 = .ok (.iconst 1, 1) := by decide +kernel
theorem dd_R_readAll_53 : decode mb_R_readAll 53 = .ok (.ireturn, 1) := by decide +kernel
theorem dd_R_readFirst_0 : decode mb_R_readFirst 0 = .ok (.aload_n 0, 1) := by decide +kernel
theorem dd_R_readFirst_1 : decode mb_R_readFirst 1 = .ok (.bipush 40, 2) := by decide +kernel
theorem dd_R_readFirst_3 : decode mb_R_readFirst 3 = .ok (.invokevirtual 62, 3) := by decide +kernel
theorem dd_R_readFirst_6 : decode mb_R_readFirst 6 = .ok (.ifCond .ne 5, 3) := by decide +kernel
theorem dd_R_readFirst_9 : decode mb_R_readFirst 9 = .ok (.iconst 0, 1) := by decide +kernel
theorem dd_R_readFirst_10 : decode mb_R_readFirst 10 = .ok (.ireturn, 1) := by decide +kernel
theorem dd_R_readFirst_11 : decode mb_R_readFirst 11 = .ok (.aload_n 0, 1) := by decide +kernel
theorem dd_R_readFirst_12 : decode mb_R_readFirst 12 = .ok (.aload_n 0, 1) := by decide +kernel
theorem dd_R_readFirst_13 : decode mb_R_readFirst 13 = .ok (.getfield 26, 3) := by decide +kernel
theorem dd_R_readFirst_16 : decode mb_R_readFirst 16 = .ok (.putfield 30, 3) := by decide +kernel
theorem dd_R_readFirst_19 : decode mb_R_readFirst 19 = .ok (.aload_n 0, 1) := by decide +kernel
theorem dd_R_readFirst_20 : decode mb_R_readFirst 20 = .ok (.bipush 64, 2) := by decide +kernel
theorem dd_R_readFirst_22 : decode mb_R_readFirst 22 = .ok (.invokevirtual 62, 3) := by decide +kernel
theorem dd_R_readFirst_25 : decode mb_R_readFirst 25 = .ok (.ifCond .ne 5, 3) := by decide +kernel
theorem dd_R_readFirst_28 : decode mb_R_readFirst 28 = .ok (.iconst 0, 1) := by decide +kernel
theorem dd_R_readFirst_29 : decode mb_R_readFirst 29 = .ok (.ireturn, 1) := by decide +kernel
theorem dd_R_readFirst_30 : decode mb_R_readFirst 30 = .ok (.aload_n 0, 1) := by decide +kernel
theorem dd_R_readFirst_31 : decode mb_R_readFirst 31 = .ok (.aload_n 0, 1) := by decide +kernel
theorem dd_R_readFirst_32 : decode mb_R_readFirst 32 = .ok (.getfield 26, 3) := by decide +kernel
theorem dd_R_readFirst_35 : decode mb_R_readFirst 35 = .ok (.putfield 36, 3) := by decide +kernel
theorem dd_R_readFirst_38 : decode mb_R_readFirst 38 = .ok (.iconst 1, 1) := by decide +kernel
theorem dd_R_readFirst_39 : decode mb_R_readFirst 39 = .ok (.ireturn, 1) := by decide +kernel
theorem dd_R_take_0 : decode mb_R_take 0 = .ok (.aload_n 0, 1) := by decide +kernel
theorem dd_R_take_1 : decode mb_R_take 1 = .ok (.getfield 9, 3) := by decide +kernel
theorem dd_R_take_4 : decode mb_R_take 4 = .ok (.aload_n 0, 1) := by decide +kernel
theorem dd_R_take_5 : decode mb_R_take 5 = .ok (.getfield 22, 3) := by decide +kernel
theorem dd_R_take_8 : decode mb_R_take 8 = .ok (.iload_n 1, 1) := by decide +kernel
theorem dd_R_take_9 : decode mb_R_take 9 = .ok (.invokevirtual 52, 3) := by decide +kernel
theorem dd_R_take_12 : decode mb_R_take 12 = .ok (.ifCond .ne 5, 3) := by decide +kernel
theorem dd_R_take_15 : decode mb_R_take 15 = .ok (.iconst 0, 1) := by decide +kernel
theorem dd_R_take_16 : decode mb_R_take 16 = .ok (.ireturn, 1) := by decide +kernel
theorem dd_R_take_17 : decode mb_R_take 17 = .ok (.aload_n 0, 1) := by decide +kernel
theorem dd_R_take_18 : decode mb_R_take 18 = .ok (.aload_n 0, 1) := by decide +kernel
theorem dd_R_take_19 : decode mb_R_take 19 = .ok (.getfield 9, 3) := by decide +kernel
theorem dd_R_take_22 : decode mb_R_take 22 = .ok (.aload_n 0, 1) := by decide +kernel
theorem dd_R_take_23 : decode mb_R_take 23 = .ok (.getfield 22, 3) := by decide +kernel
theorem dd_R_take_26 : decode mb_R_take 26 = .ok (.iload_n 1, 1) := by decide +kernel
theorem dd_R_take_27 : decode mb_R_take 27 = .ok (.invokevirtual 58, 3) := by decide +kernel
theorem dd_R_take_30 : decode mb_R_take 30 = .ok (.putfield 26, 3) := by decide +kernel
theorem dd_R_take_33 : decode mb_R_take 33 = .ok (.aload_n 0, 1) := by decide +kernel
theorem dd_R_take_34 : decode mb_R_take 34 = .ok (.dup, 1) := by decide +kernel
theorem dd_R_take_35 : decode mb_R_take 35 = .ok (.getfield 22, 3) := by decide +kernel
theorem dd_R_take_38 : decode mb_R_take 38 = .ok (.iload_n 1, 1) := by decide +kernel
theorem dd_R_take_39 : decode mb_R_take 39 = .ok (.iadd, 1) := by decide +kernel
theorem dd_R_take_40 : decode mb_R_take 40 = .ok (.putfield 22, 3) := by decide +kernel
theorem dd_R_take_43 : decode mb_R_take 43 = .ok (.iconst 1, 1) := by decide +kernel
theorem dd_R_take_44 : decode mb_R_take 44 = .ok (.ireturn, 1) := by decide +kernel
theorem dd_R_readNext_0 : decode mb_R_readNext 0 = .ok (.aload_n 0, 1) := by decide +kernel
theorem dd_R_readNext_1 : decode mb_R_readNext 1 = .ok (.invokevirtual 66, 3) := by decide +kernel
theorem dd_R_readNext_4 : decode mb_R_readNext 4 = .ok (.ifCond .eq 14, 3) := by decide +kernel
theorem dd_R_readNext_7 : decode mb_R_readNext 7 = .ok (.aload_n 0, 1) := by decide +kernel
theorem dd_R_readNext_8 : decode mb_R_readNext 8 = .ok (.invokevirtual 69, 3) := by decide +kernel
theorem dd_R_readNext_11 : decode mb_R_readNext 11 = .ok (.ifCond .eq 7, 3) := by decide +kernel
theorem dd_R_readNext_14 : decode mb_R_readNext 14 = .ok (.iconst 1, 1) := by decide +kernel
theorem dd_R_readNext_15 : decode mb_R_readNext 15 = .ok (.goto 4, 3) := by decide +kernel
theorem dd_R_readNext_18 : decode mb_R_readNext 18 = .ok (.iconst 0, 1) := by decide +kernel
theorem dd_R_readNext_19 : decode mb_R_readNext 19 = .ok (.ireturn, 1) := by decide +kernel
theorem dd_R_readTurn_0 : decode mb_R_readTurn 0 = .ok (.aload_n 0, 1) := by decide +kernel
theorem dd_R_readTurn_1 : decode mb_R_readTurn 1 = .ok (.invokevirtual 72, 3) := by decide +kernel
theorem dd_R_readTurn_4 : decode mb_R_readTurn 4 = .ok (.istore_n 1, 1) := by decide +kernel
theorem dd_R_readTurn_5 : decode mb_R_readTurn 5 = .ok (.iload_n 1, 1) := by decide +kernel
theorem dd_R_readTurn_6 : decode mb_R_readTurn 6 = .ok (.iconst (-1), 1) := by decide +kernel
theorem dd_R_readTurn_7 : decode mb_R_readTurn 7 = .ok (.if_icmp .ne 5, 3) := by decide +kernel
theorem dd_R_readTurn_10 : decode mb_R_readTurn 10 = .ok (.iconst 0, 1) := by decide +kernel
theorem dd_R_readTurn_11 : decode mb_R_readTurn 11 = .ok (.ireturn, 1) := by decide +kernel
theorem dd_R_readTurn_12 : decode mb_R_readTurn 12 = .ok (.iload_n 1, 1) := by decide +kernel
theorem dd_R_readTurn_13 : decode mb_R_readTurn 13 = .ok (.ifCond .le 36, 3) := by decide +kernel
theorem dd_R_readTurn_16 : decode mb_R_readTurn 16 = .ok (.getstatic 76, 3) := by decide +kernel
theorem dd_R_readTurn_19 : decode mb_R_readTurn 19 = .ok (.iload_n 1, 1) := by decide +kernel
theorem dd_R_readTurn_20 : decode mb_R_readTurn 20 = .ok (.iaload, 1) := by decide +kernel
theorem dd_R_readTurn_21 : decode mb_R_readTurn 21 = .ok (.istore_n 2, 1) := by decide +kernel
theorem dd_R_readTurn_22 : decode mb_R_readTurn 22 = .ok (.aload_n 0, 1) := by decide +kernel
theorem dd_R_readTurn_23 : decode mb_R_readTurn 23 = .ok (.iload_n 2, 1) := by decide +kernel
theorem dd_R_readTurn_24 : decode mb_R_readTurn 24 = .ok (.invokevirtual 62, 3) := by decide +kernel
theorem dd_R_readTurn_27 : decode mb_R_readTurn 27 = .ok (.ifCond .ne 5, 3) := by decide +kernel
theorem dd_R_readTurn_30 : decode mb_R_readTurn 30 = .ok (.iconst 0, 1) := by decide +kernel
theorem dd_R_readTurn_31 : decode mb_R_readTurn 31 = .ok (.ireturn, 1) := by decide +kernel
theorem dd_R_readTurn_32 : decode mb_R_readTurn 32 = .ok (.aload_n 0, 1) := by decide +kernel
theorem dd_R_readTurn_33 : decode mb_R_readTurn 33 = .ok (.dup, 1) := by decide +kernel
theorem dd_R_readTurn_34 : decode mb_R_readTurn 34 = .ok (.getfield 33, 3) := by decide +kernel
theorem dd_R_readTurn_37 : decode mb_R_readTurn 37 = .ok (.aload_n 0, 1) := by decide +kernel
theorem dd_R_readTurn_38 : decode mb_R_readTurn 38 = .ok (.getfield 26, 3) := by decide +kernel
theorem dd_R_readTurn_41 : decode mb_R_readTurn 41 = .ok (.iload_n 2, 1) := by decide +kernel
theorem dd_R_readTurn_42 : decode mb_R_readTurn 42 = .ok (.invokestatic 80, 3) := by decide +kernel
theorem dd_R_readTurn_45 : decode mb_R_readTurn 45 = .ok (.ladd, 1) := by decide +kernel
theorem dd_R_readTurn_46 : decode mb_R_readTurn 46 = .ok (.putfield 33, 3) := by decide +kernel
theorem dd_R_readTurn_49 : decode mb_R_readTurn 49 = .ok (.aload_n 0, 1) := by decide +kernel
theorem dd_R_readTurn_50 : decode mb_R_readTurn 50 = .ok (.dup, 1) := by decide +kernel
theorem dd_R_readTurn_51 : decode mb_R_readTurn 51 = .ok (.getfield 30, 3) := by decide +kernel
theorem dd_R_readTurn_54 : decode mb_R_readTurn 54 = .ok (.aload_n 0, 1) := by decide +kernel
theorem dd_R_readTurn_55 : decode mb_R_readTurn 55 = .ok (.getfield 33, 3) := by decide +kernel
theorem dd_R_readTurn_58 : decode mb_R_readTurn 58 = .ok (.ladd, 1) := by decide +kernel
theorem dd_R_readTurn_59 : decode mb_R_readTurn 59 = .ok (.putfield 30, 3) := by decide +kernel
theorem dd_R_readTurn_62 : decode mb_R_readTurn 62 = .ok (.aload_n 0, 1) := by decide +kernel
theorem dd_R_readTurn_63 : decode mb_R_readTurn 63 = .ok (.getfield 33, 3) := by decide +kernel
theorem dd_R_readTurn_66 : decode mb_R_readTurn 66 = .ok (.lconst 1, 1) := by decide +kernel
theorem dd_R_readTurn_67 : decode mb_R_readTurn 67 = .ok (.lcmp, 1) := by decide +kernel
theorem dd_R_readTurn_68 : decode mb_R_readTurn 68 = .ok (.ifCond .lt 18, 3) := by decide +kernel
theorem dd_R_readTurn_71 : decode mb_R_readTurn 71 = .ok (.aload_n 0, 1) := by decide +kernel
theorem dd_R_readTurn_72 : decode mb_R_readTurn 72 = .ok (.getfield 30, 3) := by decide +kernel
theorem dd_R_readTurn_75 : decode mb_R_readTurn 75 = .ok (.ldc2_w 84, 3) := by decide +kernel
theorem dd_R_readTurn_78 : decode mb_R_readTurn 78 = .ok (.lcmp, 1) := by decide +kernel
theorem dd_R_readTurn_79 : decode mb_R_readTurn 79 = .ok (.ifCond .gt 7, 3) := by decide +kernel
theorem dd_R_readTurn_82 : decode mb_R_readTurn 82 = .ok (.iconst 1, 1) := by decide +kernel
theorem dd_R_readTurn_83 : decode mb_R_readTurn 83 = .ok (.goto 4, 3) := by decide +kernel
theorem dd_R_readTurn_86 : decode mb_R_readTurn 86 = .ok (.iconst 0, 1) := by decide +kernel
theorem dd_R_readTurn_87 : decode mb_R_readTurn 87 = .ok (.ireturn, 1) := by decide +kernel
theorem dd_R_readKind_0 : decode mb_R_readKind 0 = .ok (.iconst 0, 1) := by decide +kernel
theorem dd_R_readKind_1 : decode mb_R_readKind 1 = .ok (.istore_n 1, 1) := by decide +kernel
theorem dd_R_readKind_2 : decode mb_R_readKind 2 = .ok (.iload_n 1, 1) := by decide +kernel
theorem dd_R_readKind_3 : decode mb_R_readKind 3 = .ok (.iconst 4, 1) := by decide +kernel
theorem dd_R_readKind_4 : decode mb_R_readKind 4 = .ok (.if_icmp .ge 30, 3) := by decide +kernel
theorem dd_R_readKind_7 : decode mb_R_readKind 7 = .ok (.aload_n 0, 1) := by decide +kernel
theorem dd_R_readKind_8 : decode mb_R_readKind 8 = .ok (.iconst 1, 1) := by decide +kernel
theorem dd_R_readKind_9 : decode mb_R_readKind 9 = .ok (.invokevirtual 62, 3) := by decide +kernel
theorem dd_R_readKind_12 : decode mb_R_readKind 12 = .ok (.ifCond .ne 5, 3) := by decide +kernel
theorem dd_R_readKind_15 : decode mb_R_readKind 15 = .ok (.iconst (-1), 1) := by decide +kernel
theorem dd_R_readKind_16 : decode mb_R_readKind 16 = .ok (.ireturn, 1) := by decide +kernel
theorem dd_R_readKind_17 : decode mb_R_readKind 17 = .ok (.aload_n 0, 1) := by decide +kernel
theorem dd_R_readKind_18 : decode mb_R_readKind 18 = .ok (.getfield 26, 3) := by decide +kernel
theorem dd_R_readKind_21 : decode mb_R_readKind 21 = .ok (.lconst 0, 1) := by decide +kernel
theorem dd_R_readKind_22 : decode mb_R_readKind 22 = .ok (.lcmp, 1) := by decide +kernel
theorem dd_R_readKind_23 : decode mb_R_readKind 23 = .ok (.ifCond .ne 5, 3) := by decide +kernel
theorem dd_R_readKind_26 : decode mb_R_readKind 26 = .ok (.iload_n 1, 1) := by decide +kernel
theorem dd_R_readKind_27 : decode mb_R_readKind 27 = .ok (.ireturn, 1) := by decide +kernel
theorem dd_R_readKind_28 : decode mb_R_readKind 28 = .ok (.iinc 1 1, 3) := by decide +kernel
theorem dd_R_readKind_31 : decode mb_R_readKind 31 = .ok (.goto (-29), 3) := by decide +kernel
theorem dd_R_readKind_34 : decode mb_R_readKind 34 = .ok (.iconst 4, 1) := by decide +kernel
theorem dd_R_readKind_35 : decode mb_R_readKind 35 = .ok (.ireturn, 1) := by decide +kernel
theorem dd_R_withSign_0 : decode mb_R_withSign 0 = .ok (.bipush 64, 2) := by decide +kernel
theorem dd_R_withSign_2 : decode mb_R_withSign 2 = .ok (.iload_n 2, 1) := by decide +kernel
theorem dd_R_withSign_3 : decode mb_R_withSign 3 = .ok (.isub, 1) := by decide +kernel
theorem dd_R_withSign_4 : decode mb_R_withSign 4 = .ok (.istore_n 3, 1) := by decide +kernel
theorem dd_R_withSign_5 : decode mb_R_withSign 5 = .ok (.lload_n 0, 1) := by decide +kernel
theorem dd_R_withSign_6 : decode mb_R_withSign 6 = .ok (.iload_n 3, 1) := by decide +kernel
theorem dd_R_withSign_7 : decode mb_R_withSign 7 = .ok (.lshl, 1) := by decide +kernel
theorem dd_R_withSign_8 : decode mb_R_withSign 8 = .ok (.iload_n 3, 1) := by decide +kernel
theorem dd_R_withSign_9 : decode mb_R_withSign 9 = .ok (.lshr, 1) := by decide +kernel
theorem dd_R_withSign_10 : decode mb_R_withSign 10 = .ok (.lreturn, 1) := by decide +kernel
theorem dd_R_readDifference_0 : decode mb_R_readDifference 0 = .ok (.aload_n 0, 1) := by decide +kernel
theorem dd_R_readDifference_1 : decode mb_R_readDifference 1 = .ok (.iconst 1, 1) := by decide +kernel
theorem dd_R_readDifference_2 : decode mb_R_readDifference 2 = .ok (.invokevirtual 62, 3) := by decide +kernel
theorem dd_R_readDifference_5 : decode mb_R_readDifference 5 = .ok (.ifCond .ne 5, 3) := by decide +kernel
theorem dd_R_readDifference_8 : decode mb_R_readDifference 8 = .ok (.iconst 0, 1) := by decide +kernel
theorem dd_R_readDifference_9 : decode mb_R_readDifference 9 = .ok (.ireturn, 1) := by decide +kernel
theorem dd_R_readDifference_10 : decode mb_R_readDifference 10 = .ok (.aload_n 0, 1) := by decide +kernel
theorem dd_R_readDifference_11 : decode mb_R_readDifference 11 = .ok (.getfield 26, 3) := by decide +kernel
theorem dd_R_readDifference_14 : decode mb_R_readDifference 14 = .ok (.lconst 0, 1) := by decide +kernel
theorem dd_R_readDifference_15 : decode mb_R_readDifference 15 = .ok (.lcmp, 1) := by decide +kernel
theorem dd_R_readDifference_16 : decode mb_R_readDifference 16 = .ok (.ifCond .ne 5, 3) := by decide +kernel
theorem dd_R_readDifference_19 : decode mb_R_readDifference 19 = .ok (.iconst 1, 1) := by decide +kernel
theorem dd_R_readDifference_20 : decode mb_R_readDifference 20 = .ok (.ireturn, 1) := by decide +kernel
theorem dd_R_readDifference_21 : decode mb_R_readDifference 21 = .ok (.aload_n 0, 1) := by decide +kernel
theorem dd_R_readDifference_22 : decode mb_R_readDifference 22 = .ok (.iconst 1, 1) := by decide +kernel
theorem dd_R_readDifference_23 : decode mb_R_readDifference 23 = .ok (.invokevirtual 62, 3) := by decide +kernel
theorem dd_R_readDifference_26 : decode mb_R_readDifference 26 = .ok (.ifCond .ne 5, 3) := by decide +kernel
theorem dd_R_readDifference_29 : decode mb_R_readDifference 29 = .ok (.iconst 0, 1) := by decide +kernel
theorem dd_R_readDifference_30 : decode mb_R_readDifference 30 = .ok (.ireturn, 1) := by decide +kernel
theorem dd_R_readDifference_31 : decode mb_R_readDifference 31 = .ok (.aload_n 0, 1) := by decide +kernel
theorem dd_R_readDifference_32 : decode mb_R_readDifference 32 = .ok (.getfield 26, 3) := by decide +kernel
theorem dd_R_readDifference_35 : decode mb_R_readDifference 35 = .ok (.lconst 0, 1) := by decide +kernel
theorem dd_R_readDifference_36 : decode mb_R_readDifference 36 = .ok (.lcmp, 1) := by decide +kernel
theorem dd_R_readDifference_37 : decode mb_R_readDifference 37 = .ok (.ifCond .ne 13, 3) := by decide +kernel
theorem dd_R_readDifference_40 : decode mb_R_readDifference 40 = .ok (.aload_n 0, 1) := by decide +kernel
theorem dd_R_readDifference_41 : decode mb_R_readDifference 41 = .ok (.getfield 18, 3) := by decide +kernel
theorem dd_R_readDifference_44 : decode mb_R_readDifference 44 = .ok (.invokevirtual 86, 3) := by decide +kernel
theorem dd_R_readDifference_47 : decode mb_R_readDifference 47 = .ok (.goto 7, 3) := by decide +kernel
theorem dd_R_readDifference_50 : decode mb_R_readDifference 50 = .ok (.aload_n 0, 1) := by decide +kernel
theorem dd_R_readDifference_51 : decode mb_R_readDifference 51 = .ok (.invokevirtual 89, 3) := by decide +kernel
theorem dd_R_readDifference_54 : decode mb_R_readDifference 54 = .ok (.istore_n 1, 1) := by decide +kernel
theorem dd_R_readDifference_55 : decode mb_R_readDifference 55 = .ok (.iload_n 1, 1) := by decide +kernel
theorem dd_R_readDifference_56 : decode mb_R_readDifference 56 = .ok (.ifCond .eq 17, 3) := by decide +kernel
theorem dd_R_readDifference_59 : decode mb_R_readDifference 59 = .ok (.aload_n 0, 1) := by decide +kernel
theorem dd_R_readDifference_60 : decode mb_R_readDifference 60 = .ok (.aload_n 0, 1) := by decide +kernel
theorem dd_R_readDifference_61 : decode mb_R_readDifference 61 = .ok (.getfield 18, 3) := by decide +kernel
theorem dd_R_readDifference_64 : decode mb_R_readDifference 64 = .ok (.invokevirtual 92, 3) := by decide +kernel
theorem dd_R_readDifference_67 : decode mb_R_readDifference 67 = .ok (.invokevirtual 62, 3) := by decide +kernel
theorem dd_R_readDifference_70 : decode mb_R_readDifference 70 = .ok (.ifCond .ne 5, 3) := by decide +kernel
theorem dd_R_readDifference_73 : decode mb_R_readDifference 73 = .ok (.iconst 0, 1) := by decide +kernel
theorem dd_R_readDifference_74 : decode mb_R_readDifference 74 = .ok (.ireturn, 1) := by decide +kernel
theorem dd_R_readDifference_75 : decode mb_R_readDifference 75 = .ok (.aload_n 0, 1) := by decide +kernel
theorem dd_R_readDifference_76 : decode mb_R_readDifference 76 = .ok (.dup, 1) := by decide +kernel
theorem dd_R_readDifference_77 : decode mb_R_readDifference 77 = .ok (.getfield 36, 3) := by decide +kernel
theorem dd_R_readDifference_80 : decode mb_R_readDifference 80 = .ok (.aload_n 0, 1) := by decide +kernel
theorem dd_R_readDifference_81 : decode mb_R_readDifference 81 = .ok (.getfield 26, 3) := by decide +kernel
theorem dd_R_readDifference_84 : decode mb_R_readDifference 84 = .ok (.aload_n 0, 1) := by decide +kernel
theorem dd_R_readDifference_85 : decode mb_R_readDifference 85 = .ok (.getfield 18, 3) := by decide +kernel
theorem dd_R_readDifference_88 : decode mb_R_readDifference 88 = .ok (.invokevirtual 95, 3) := by decide +kernel
theorem dd_R_readDifference_91 : decode mb_R_readDifference 91 = .ok (.lshl, 1) := by decide +kernel
theorem dd_R_readDifference_92 : decode mb_R_readDifference 92 = .ok (.lxor, 1) := by decide +kernel
theorem dd_R_readDifference_93 : decode mb_R_readDifference 93 = .ok (.putfield 36, 3) := by decide +kernel
theorem dd_R_readDifference_96 : decode mb_R_readDifference 96 = .ok (.iconst 1, 1) := by decide +kernel
theorem dd_R_readDifference_97 : decode mb_R_readDifference 97 = .ok (.ireturn, 1) := by decide +kernel
theorem dd_R_readFrame_0 : decode mb_R_readFrame 0 = .ok (.aload_n 0, 1) := by decide +kernel
theorem dd_R_readFrame_1 : decode mb_R_readFrame 1 = .ok (.iconst 5, 1) := by decide +kernel
theorem dd_R_readFrame_2 : decode mb_R_readFrame 2 = .ok (.invokevirtual 62, 3) := by decide +kernel
theorem dd_R_readFrame_5 : decode mb_R_readFrame 5 = .ok (.ifCond .ne 5, 3) := by decide +kernel
theorem dd_R_readFrame_8 : decode mb_R_readFrame 8 = .ok (.iconst 0, 1) := by decide +kernel
theorem dd_R_readFrame_9 : decode mb_R_readFrame 9 = .ok (.ireturn, 1) := by decide +kernel
theorem dd_R_readFrame_10 : decode mb_R_readFrame 10 = .ok (.aload_n 0, 1) := by decide +kernel
theorem dd_R_readFrame_11 : decode mb_R_readFrame 11 = .ok (.getfield 26, 3) := by decide +kernel
theorem dd_R_readFrame_14 : decode mb_R_readFrame 14 = .ok (.l2i, 1) := by decide +kernel
theorem dd_R_readFrame_15 : decode mb_R_readFrame 15 = .ok (.istore_n 1, 1) := by decide +kernel
theorem dd_R_readFrame_16 : decode mb_R_readFrame 16 = .ok (.aload_n 0, 1) := by decide +kernel
theorem dd_R_readFrame_17 : decode mb_R_readFrame 17 = .ok (.bipush 6, 2) := by decide +kernel
theorem dd_R_readFrame_19 : decode mb_R_readFrame 19 = .ok (.invokevirtual 62, 3) := by decide +kernel
theorem dd_R_readFrame_22 : decode mb_R_readFrame 22 = .ok (.ifCond .ne 5, 3) := by decide +kernel
theorem dd_R_readFrame_25 : decode mb_R_readFrame 25 = .ok (.iconst 0, 1) := by decide +kernel
theorem dd_R_readFrame_26 : decode mb_R_readFrame 26 = .ok (.ireturn, 1) := by decide +kernel
theorem dd_R_readFrame_27 : decode mb_R_readFrame 27 = .ok (.aload_n 0, 1) := by decide +kernel
theorem dd_R_readFrame_28 : decode mb_R_readFrame 28 = .ok (.getfield 26, 3) := by decide +kernel
theorem dd_R_readFrame_31 : decode mb_R_readFrame 31 = .ok (.l2i, 1) := by decide +kernel
theorem dd_R_readFrame_32 : decode mb_R_readFrame 32 = .ok (.iconst 1, 1) := by decide +kernel
theorem dd_R_readFrame_33 : decode mb_R_readFrame 33 = .ok (.iadd, 1) := by decide +kernel
theorem dd_R_readFrame_34 : decode mb_R_readFrame 34 = .ok (.istore_n 2, 1) := by decide +kernel
theorem dd_R_readFrame_35 : decode mb_R_readFrame 35 = .ok (.iload_n 1, 1) := by decide +kernel
theorem dd_R_readFrame_36 : decode mb_R_readFrame 36 = .ok (.iload_n 2, 1) := by decide +kernel
theorem dd_R_readFrame_37 : decode mb_R_readFrame 37 = .ok (.iadd, 1) := by decide +kernel
theorem dd_R_readFrame_38 : decode mb_R_readFrame 38 = .ok (.bipush 64, 2) := by decide +kernel
theorem dd_R_readFrame_40 : decode mb_R_readFrame 40 = .ok (.if_icmp .le 5, 3) := by decide +kernel
theorem dd_R_readFrame_43 : decode mb_R_readFrame 43 = .ok (.iconst 0, 1) := by decide +kernel
theorem dd_R_readFrame_44 : decode mb_R_readFrame 44 = .ok (.ireturn, 1) := by decide +kernel
theorem dd_R_readFrame_45 : decode mb_R_readFrame 45 = .ok (.aload_n 0, 1) := by decide +kernel
theorem dd_R_readFrame_46 : decode mb_R_readFrame 46 = .ok (.getfield 18, 3) := by decide +kernel
theorem dd_R_readFrame_49 : decode mb_R_readFrame 49 = .ok (.iload_n 1, 1) := by decide +kernel
theorem dd_R_readFrame_50 : decode mb_R_readFrame 50 = .ok (.iload_n 2, 1) := by decide +kernel
theorem dd_R_readFrame_51 : decode mb_R_readFrame 51 = .ok (.invokevirtual 98, 3) := by decide +kernel
theorem dd_R_readFrame_54 : decode mb_R_readFrame 54 = .ok (.iconst 1, 1) := by decide +kernel
theorem dd_R_readFrame_55 : decode mb_R_readFrame 55 = .ok (.ireturn, 1) := by decide +kernel
theorem dd_R_position_0 : decode mb_R_position 0 = .ok (.aload_n 0, 1) := by decide +kernel
theorem dd_R_position_1 : decode mb_R_position 1 = .ok (.getfield 22, 3) := by decide +kernel
theorem dd_R_position_4 : decode mb_R_position 4 = .ok (.ireturn, 1) := by decide +kernel
end
section
theorem dd_X_init_0 : decode mb_X_init 0 = .ok (.aload_n 0, 1) := by decide +kernel
theorem dd_X_init_1 : decode mb_X_init 1 = .ok (.invokespecial 1, 3) := by decide +kernel
theorem dd_X_init_4 : decode mb_X_init 4 = .ok (.aload_n 0, 1) := by decide +kernel
theorem dd_X_init_5 : decode mb_X_init 5 = .ok (.new 7, 3) := by decide +kernel
theorem dd_X_init_8 : decode mb_X_init 8 = .ok (.dup, 1) := by decide +kernel
theorem dd_X_init_9 : decode mb_X_init 9 = .ok (.invokespecial 9, 3) := by decide +kernel
theorem dd_X_init_12 : decode mb_X_init 12 = .ok (.putfield 10, 3) := by decide +kernel
theorem dd_X_init_15 : decode mb_X_init 15 = .ok (.aload_n 0, 1) := by decide +kernel
theorem dd_X_init_16 : decode mb_X_init 16 = .ok (.new 7, 3) := by decide +kernel
theorem dd_X_init_19 : decode mb_X_init 19 = .ok (.dup, 1) := by decide +kernel
theorem dd_X_init_20 : decode mb_X_init 20 = .ok (.invokespecial 9, 3) := by decide +kernel
theorem dd_X_init_23 : decode mb_X_init 23 = .ok (.putfield 16, 3) := by decide +kernel
theorem dd_X_init_26 : decode mb_X_init 26 = .ok (.aload_n 0, 1) := by decide +kernel
theorem dd_X_init_27 : decode mb_X_init 27 = .ok (.new 19, 3) := by decide +kernel
theorem dd_X_init_30 : decode mb_X_init 30 = .ok (.dup, 1) := by decide +kernel
theorem dd_X_init_31 : decode mb_X_init 31 = .ok (.invokespecial 21, 3) := by decide +kernel
theorem dd_X_init_34 : decode mb_X_init 34 = .ok (.putfield 22, 3) := by decide +kernel
theorem dd_X_init_37 : decode mb_X_init 37 = .ok (.aload_n 0, 1) := by decide +kernel
theorem dd_X_init_38 : decode mb_X_init 38 = .ok (.new 19, 3) := by decide +kernel
theorem dd_X_init_41 : decode mb_X_init 41 = .ok (.dup, 1) := by decide +kernel
theorem dd_X_init_42 : decode mb_X_init 42 = .ok (.invokespecial 21, 3) := by decide +kernel
theorem dd_X_init_45 : decode mb_X_init 45 = .ok (.putfield 26, 3) := by decide +kernel
theorem dd_X_init_48 : decode mb_X_init 48 = .ok (.aload_n 0, 1) := by decide +kernel
theorem dd_X_init_49 : decode mb_X_init 49 = .ok (.iconst 0, 1) := by decide +kernel
theorem dd_X_init_50 : decode mb_X_init 50 = .ok (.putfield 29, 3) := by decide +kernel
theorem dd_X_init_53 : decode mb_X_init 53 = .ok (.return_, 1) := by decide +kernel
theorem dd_X_taken_0 : decode mb_X_taken 0 = .ok (.aload_n 0, 1) := by decide +kernel
theorem dd_X_taken_1 : decode mb_X_taken 1 = .ok (.getfield 29, 3) := by decide +kernel
theorem dd_X_taken_4 : decode mb_X_taken 4 = .ok (.ireturn, 1) := by decide +kernel
theorem dd_X_add_0 : decode mb_X_add 0 = .ok (.lload_n 1, 1) := by decide +kernel
theorem dd_X_add_1 : decode mb_X_add 1 = .ok (.lconst 0, 1) := by decide +kernel
theorem dd_X_add_2 : decode mb_X_add 2 = .ok (.lcmp, 1) := by decide +kernel
theorem dd_X_add_3 : decode mb_X_add 3 = .ok (.ifCond .lt 11, 3) := by decide +kernel
theorem dd_X_add_6 : decode mb_X_add 6 = .ok (.lload_n 1, 1) := by decide +kernel
theorem dd_X_add_7 : decode mb_X_add 7 = .ok (.ldc2_w 33, 3) := by decide +kernel
theorem dd_X_add_10 : decode mb_X_add 10 = .ok (.lcmp, 1) := by decide +kernel
theorem dd_X_add_11 : decode mb_X_add 11 = .ok (.ifCond .le 13, 3) := by decide +kernel
theorem dd_X_add_14 : decode mb_X_add 14 = .ok (.new 35, 3) := by decide +kernel
theorem dd_X_add_17 : decode mb_X_add 17 = .ok (.dup, 1) := by decide +kernel
theorem dd_X_add_18 : decode mb_X_add 18 = .ok (.ldc 37, 2) := by decide +kernel
theorem dd_X_add_20 : decode mb_X_add 20 = .ok (.invokespecial 39, 3) := by decide +kernel
theorem dd_X_add_23 : decode mb_X_add 23 = .ok (.athrow, 1) := by decide +kernel
theorem dd_X_add_24 : decode mb_X_add 24 = .ok (.lload_n 1, 1) := by decide +kernel
theorem dd_X_add_25 : decode mb_X_add 25 = .ok (.aload_n 0, 1) := by decide +kernel
theorem dd_X_add_26 : decode mb_X_add 26 = .ok (.getfield 10, 3) := by decide +kernel
theorem dd_X_add_29 : decode mb_X_add 29 = .ok (.invokevirtual 42, 3) := by decide +kernel
theorem dd_X_add_32 : decode mb_X_add 32 = .ok (.lcmp, 1) := by decide +kernel
theorem dd_X_add_33 : decode mb_X_add 33 = .ok (.ifCond .gt 13, 3) := by decide +kernel
theorem dd_X_add_36 : decode mb_X_add 36 = .ok (.new 35, 3) := by decide +kernel
theorem dd_X_add_39 : decode mb_X_add 39 = .ok (.dup, 1) := by decide +kernel
theorem dd_X_add_40 : decode mb_X_add 40 = .ok (.ldc 46, 2) := by decide +kernel
theorem dd_X_add_42 : decode mb_X_add 42 = .ok (.invokespecial 39, 3) := by decide +kernel
theorem dd_X_add_45 : decode mb_X_add 45 = .ok (.athrow, 1) := by decide +kernel
theorem dd_X_add_46 : decode mb_X_add 46 = .ok (.aload_n 0, 1) := by decide +kernel
theorem dd_X_add_47 : decode mb_X_add 47 = .ok (.getfield 10, 3) := by decide +kernel
theorem dd_X_add_50 : decode mb_X_add 50 = .ok (.lload_n 1, 1) := by decide +kernel
theorem dd_X_add_51 : decode mb_X_add 51 = .ok (.lload_n 3, 1) := by decide +kernel
theorem dd_X_add_52 : decode mb_X_add 52 = .ok (.invokevirtual 48, 3) := by decide +kernel
theorem dd_X_add_55 : decode mb_X_add 55 = .ok (.ifCond .ne 13, 3) := by decide +kernel
theorem dd_X_add_58 : decode mb_X_add 58 = .ok (.new 52, 3) := by decide +kernel
theorem dd_X_add_61 : decode mb_X_add 61 = .ok (.dup, 1) := by decide +kernel
theorem dd_X_add_62 : decode mb_X_add 62 = .ok (.ldc 54, 2) := by decide +kernel
theorem dd_X_add_64 : decode mb_X_add 64 = .ok (.invokespecial 56, 3) := by decide +kernel
theorem dd_X_add_67 : decode mb_X_add 67 = .ok (.athrow, 1) := by decide +kernel
theorem dd_X_add_68 : decode mb_X_add 68 = .ok (.aload_n 0, 1) := by decide +kernel
theorem dd_X_add_69 : decode mb_X_add 69 = .ok (.getfield 10, 3) := by decide +kernel
theorem dd_X_add_72 : decode mb_X_add 72 = .ok (.invokevirtual 57, 3) := by decide +kernel
theorem dd_X_add_75 : decode mb_X_add 75 = .ok (.ireturn, 1) := by decide +kernel
theorem dd_X_keep_0 : decode mb_X_keep 0 = .ok (.aload_n 0, 1) := by decide +kernel
theorem dd_X_keep_1 : decode mb_X_keep 1 = .ok (.getfield 10, 3) := by decide +kernel
theorem dd_X_keep_4 : decode mb_X_keep 4 = .ok (.invokevirtual 57, 3) := by decide +kernel
theorem dd_X_keep_7 : decode mb_X_keep 7 = .ok (.istore_n 2, 1) := by decide +kernel
theorem dd_X_keep_8 : decode mb_X_keep 8 = .ok (.iload_n 1, 1) := by decide +kernel
theorem dd_X_keep_9 : decode mb_X_keep 9 = .ok (.ifCond .lt 8, 3) := by decide +kernel
theorem dd_X_keep_12 : decode mb_X_keep 12 = .ok (.iload_n 1, 1) := by decide +kernel
theorem dd_X_keep_13 : decode mb_X_keep 13 = .ok (.iload_n 2, 1) := by decide +kernel
theorem dd_X_keep_14 : decode mb_X_keep 14 = .ok (.if_icmp .le 13, 3) := by decide +kernel
theorem dd_X_keep_17 : decode mb_X_keep 17 = .ok (.new 35, 3) := by decide +kernel
theorem dd_X_keep_20 : decode mb_X_keep 20 = .ok (.dup, 1) := by decide +kernel
theorem dd_X_keep_21 : decode mb_X_keep 21 = .ok (.ldc 61, 2) := by decide +kernel
theorem dd_X_keep_23 : decode mb_X_keep 23 = .ok (.invokespecial 39, 3) := by decide +kernel
theorem dd_X_keep_26 : decode mb_X_keep 26 = .ok (.athrow, 1) := by decide +kernel
theorem dd_X_keep_27 : decode mb_X_keep 27 = .ok (.aload_n 0, 1) := by decide +kernel
theorem dd_X_keep_28 : decode mb_X_keep 28 = .ok (.getfield 10, 3) := by decide +kernel
theorem dd_X_keep_31 : decode mb_X_keep 31 = .ok (.iload_n 1, 1) := by decide +kernel
theorem dd_X_keep_32 : decode mb_X_keep 32 = .ok (.invokevirtual 63, 3) := by decide +kernel
theorem dd_X_keep_35 : decode mb_X_keep 35 = .ok (.iload_n 2, 1) := by decide +kernel
theorem dd_X_keep_36 : decode mb_X_keep 36 = .ok (.iload_n 1, 1) := by decide +kernel
theorem dd_X_keep_37 : decode mb_X_keep 37 = .ok (.isub, 1) := by decide +kernel
theorem dd_X_keep_38 : decode mb_X_keep 38 = .ok (.ireturn, 1) := by decide +kernel
theorem dd_X_pack_0 : decode mb_X_pack 0 = .ok (.aload_n 0, 1) := by decide +kernel
theorem dd_X_pack_1 : decode mb_X_pack 1 = .ok (.getfield 26, 3) := by decide +kernel
theorem dd_X_pack_4 : decode mb_X_pack 4 = .ok (.iconst 0, 1) := by decide +kernel
theorem dd_X_pack_5 : decode mb_X_pack 5 = .ok (.invokevirtual 67, 3) := by decide +kernel
theorem dd_X_pack_8 : decode mb_X_pack 8 = .ok (.new 68, 3) := by decide +kernel
theorem dd_X_pack_11 : decode mb_X_pack 11 = .ok (.dup, 1) := by decide +kernel
theorem dd_X_pack_12 : decode mb_X_pack 12 = .ok (.aload_n 0, 1) := by decide +kernel
theorem dd_X_pack_13 : decode mb_X_pack 13 = .ok (.getfield 26, 3) := by decide +kernel
theorem dd_X_pack_16 : decode mb_X_pack 16 = .ok (.invokespecial 70, 3) := by decide +kernel
theorem dd_X_pack_19 : decode mb_X_pack 19 = .ok (.aload_n 0, 1) := by decide +kernel
theorem dd_X_pack_20 : decode mb_X_pack 20 = .ok (.getfield 10, 3) := by decide +kernel
theorem dd_X_pack_23 : decode mb_X_pack 23 = .ok (.invokevirtual 73, 3) := by decide +kernel
theorem dd_X_pack_26 : decode mb_X_pack 26 = .ok (.ifCond .ne 13, 3) := by decide +kernel
theorem dd_X_pack_29 : decode mb_X_pack 29 = .ok (.new 52, 3) := by decide +kernel
theorem dd_X_pack_32 : decode mb_X_pack 32 = .ok (.dup, 1) := by decide +kernel
theorem dd_X_pack_33 : decode mb_X_pack 33 = .ok (.ldc 77, 2) := by decide +kernel
theorem dd_X_pack_35 : decode mb_X_pack 35 = .ok (.invokespecial 56, 3) := by decide +kernel
theorem dd_X_pack_38 : decode mb_X_pack 38 = .ok (.athrow, 1) := by decide +kernel
theorem dd_X_pack_39 : decode mb_X_pack 39 = .ok (.aload_n 0, 1) := by decide +kernel
theorem dd_X_pack_40 : decode mb_X_pack 40 = .ok (.getfield 22, 3) := by decide +kernel
theorem dd_X_pack_43 : decode mb_X_pack 43 = .ok (.astore_n 1, 1) := by decide +kernel
theorem dd_X_pack_44 : decode mb_X_pack 44 = .ok (.aload_n 0, 1) := by decide +kernel
theorem dd_X_pack_45 : decode mb_X_pack 45 = .ok (.aload_n 0, 1) := by decide +kernel
theorem dd_X_pack_46 : decode mb_X_pack 46 = .ok (.getfield 26, 3) := by decide +kernel
theorem dd_X_pack_49 : decode mb_X_pack 49 = .ok (.putfield 22, 3) := by decide +kernel
theorem dd_X_pack_52 : decode mb_X_pack 52 = .ok (.aload_n 0, 1) := by decide +kernel
theorem dd_X_pack_53 : decode mb_X_pack 53 = .ok (.aload_n 1, 1) := by decide +kernel
theorem dd_X_pack_54 : decode mb_X_pack 54 = .ok (.putfield 26, 3) := by decide +kernel
theorem dd_X_pack_57 : decode mb_X_pack 57 = .ok (.aload_n 0, 1) := by decide +kernel
theorem dd_X_pack_58 : decode mb_X_pack 58 = .ok (.getfield 22, 3) := by decide +kernel
theorem dd_X_pack_61 : decode mb_X_pack 61 = .ok (.invokevirtual 79, 3) := by decide +kernel
theorem dd_X_pack_64 : decode mb_X_pack 64 = .ok (.ireturn, 1) := by decide +kernel
theorem dd_X_unpack_0 : decode mb_X_unpack 0 = .ok (.iload_n 1, 1) := by decide +kernel
theorem dd_X_unpack_1 : decode mb_X_unpack 1 = .ok (.ifCond .lt 10, 3) := by decide +kernel
theorem dd_X_unpack_4 : decode mb_X_unpack 4 = .ok (.iload_n 1, 1) := by decide +kernel
theorem dd_X_unpack_5 : decode mb_X_unpack 5 = .ok (.sipush 3000, 3) := by decide +kernel
theorem dd_X_unpack_8 : decode mb_X_unpack 8 = .ok (.if_icmp .le 13, 3) := by decide +kernel
theorem dd_X_unpack_11 : decode mb_X_unpack 11 = .ok (.new 35, 3) := by decide +kernel
theorem dd_X_unpack_14 : decode mb_X_unpack 14 = .ok (.dup, 1) := by decide +kernel
theorem dd_X_unpack_15 : decode mb_X_unpack 15 = .ok (.ldc 80, 2) := by decide +kernel
theorem dd_X_unpack_17 : decode mb_X_unpack 17 = .ok (.invokespecial 39, 3) := by decide +kernel
theorem dd_X_unpack_20 : decode mb_X_unpack 20 = .ok (.athrow, 1) := by decide +kernel
theorem dd_X_unpack_21 : decode mb_X_unpack 21 = .ok (.aload_n 0, 1) := by decide +kernel
theorem dd_X_unpack_22 : decode mb_X_unpack 22 = .ok (.getfield 16, 3) := by decide +kernel
theorem dd_X_unpack_25 : decode mb_X_unpack 25 = .ok (.iconst 0, 1) := by decide +kernel
theorem dd_X_unpack_26 : decode mb_X_unpack 26 = .ok (.invokevirtual 63, 3) := by decide +kernel
theorem dd_X_unpack_29 : decode mb_X_unpack 29 = .ok (.new 82, 3) := by decide +kernel
theorem dd_X_unpack_32 : decode mb_X_unpack 32 = .ok (.dup, 1) := by decide +kernel
theorem dd_X_unpack_33 : decode mb_X_unpack 33 = .ok (.aload_n 0, 1) := by decide +kernel
theorem dd_X_unpack_34 : decode mb_X_unpack 34 = .ok (.getfield 22, 3) := by decide +kernel
theorem dd_X_unpack_37 : decode mb_X_unpack 37 = .ok (.invokespecial 84, 3) := by decide +kernel
theorem dd_X_unpack_40 : decode mb_X_unpack 40 = .ok (.astore_n 2, 1) := by decide +kernel
theorem dd_X_unpack_41 : decode mb_X_unpack 41 = .ok (.aload_n 2, 1) := by decide +kernel
theorem dd_X_unpack_42 : decode mb_X_unpack 42 = .ok (.iload_n 1, 1) := by decide +kernel
theorem dd_X_unpack_43 : decode mb_X_unpack 43 = .ok (.aload_n 0, 1) := by decide +kernel
theorem dd_X_unpack_44 : decode mb_X_unpack 44 = .ok (.getfield 16, 3) := by decide +kernel
theorem dd_X_unpack_47 : decode mb_X_unpack 47 = .ok (.invokevirtual 85, 3) := by decide +kernel
theorem dd_X_unpack_50 : decode mb_X_unpack 50 = .ok (.istore_n 3, 1) := by decide +kernel
theorem dd_X_unpack_51 : decode mb_X_unpack 51 = .ok (.aload_n 0, 1) := by decide +kernel
theorem dd_X_unpack_52 : decode mb_X_unpack 52 = .ok (.aload_n 2, 1) := by decide +kernel
theorem dd_X_unpack_53 : decode mb_X_unpack 53 = .ok (.invokevirtual 89, 3) := by decide +kernel
theorem dd_X_unpack_56 : decode mb_X_unpack 56 = .ok (.putfield 29, 3) := by decide +kernel
theorem dd_X_unpack_59 : decode mb_X_unpack 59 = .ok (.iload_n 3, 1) := by decide +kernel
theorem dd_X_unpack_60 : decode mb_X_unpack 60 = .ok (.ifCond .ne 5, 3) := by decide +kernel
theorem dd_X_unpack_63 : decode mb_X_unpack 63 = .ok (.iconst (-1), 1) := by decide +kernel
theorem dd_X_unpack_64 : decode mb_X_unpack 64 = .ok (.ireturn, 1) := by decide +kernel
theorem dd_X_unpack_65 : decode mb_X_unpack 65 = .ok (.aload_n 0, 1) := by decide +kernel
theorem dd_X_unpack_66 : decode mb_X_unpack 66 = .ok (.getfield 10, 3) := by decide +kernel
theorem dd_X_unpack_69 : decode mb_X_unpack 69 = .ok (.astore 4, 2) := by decide +kernel
theorem dd_X_unpack_71 : decode mb_X_unpack 71 = .ok (.aload_n 0, 1) := by decide +kernel
theorem dd_X_unpack_72 : decode mb_X_unpack 72 = .ok (.aload_n 0, 1) := by decide +kernel
theorem dd_X_unpack_73 : decode mb_X_unpack 73 = .ok (.getfield 16, 3) := by decide +kernel
theorem dd_X_unpack_76 : decode mb_X_unpack 76 = .ok (.putfield 10, 3) := by decide +kernel
theorem dd_X_unpack_79 : decode mb_X_unpack 79 = .ok (.aload_n 0, 1) := by decide +kernel
theorem dd_X_unpack_80 : decode mb_X_unpack 80 = .ok (.aload 4, 2) := by decide +kernel
theorem dd_X_unpack_82 : decode mb_X_unpack 82 = .ok (.putfield 16, 3) := by decide +kernel
theorem dd_X_unpack_85 : decode mb_X_unpack 85 = .ok (.aload_n 0, 1) := by decide +kernel
theorem dd_X_unpack_86 : decode mb_X_unpack 86 = .ok (.getfield 29, 3) := by decide +kernel
theorem dd_X_unpack_89 : decode mb_X_unpack 89 = .ok (.ireturn, 1) := by decide +kernel
theorem dd_X_count_0 : decode mb_X_count 0 = .ok (.iload_n 1, 1) := by decide +kernel
theorem dd_X_count_1 : decode mb_X_count 1 = .ok (.ifCond .ne 11, 3) := by decide +kernel
theorem dd_X_count_4 : decode mb_X_count 4 = .ok (.aload_n 0, 1) := by decide +kernel
theorem dd_X_count_5 : decode mb_X_count 5 = .ok (.getfield 10, 3) := by decide +kernel
theorem dd_X_count_8 : decode mb_X_count 8 = .ok (.invokevirtual 57, 3) := by decide +kernel
theorem dd_X_count_11 : decode mb_X_count 11 = .ok (.ireturn, 1) := by decide +kernel
theorem dd_X_count_12 : decode mb_X_count 12 = .ok (.iload_n 1, 1) := by decide +kernel
theorem dd_X_count_13 : decode mb_X_count 13 = .ok (.iconst 1, 1) := by decide +kernel
theorem dd_X_count_14 : decode mb_X_count 14 = .ok (.if_icmp .ne 11, 3) := by decide +kernel
theorem dd_X_count_17 : decode mb_X_count 17 = .ok (.aload_n 0, 1) := by decide +kernel
theorem dd_X_count_18 : decode mb_X_count 18 = .ok (.getfield 22, 3) := by decide +kernel
theorem dd_X_count_21 : decode mb_X_count 21 = .ok (.invokevirtual 79, 3) := by decide +kernel
theorem dd_X_count_24 : decode mb_X_count 24 = .ok (.ireturn, 1) := by decide +kernel
theorem dd_X_count_25 : decode mb_X_count 25 = .ok (.new 35, 3) := by decide +kernel
theorem dd_X_count_28 : decode mb_X_count 28 = .ok (.dup, 1) := by decide +kernel
theorem dd_X_count_29 : decode mb_X_count 29 = .ok (.ldc 92, 2) := by decide +kernel
theorem dd_X_count_31 : decode mb_X_count 31 = .ok (.invokespecial 39, 3) := by decide +kernel
theorem dd_X_count_34 : decode mb_X_count 34 = .ok (.athrow, 1) := by decide +kernel
theorem dd_X_time_0 : decode mb_X_time 0 = .ok (.aload_n 0, 1) := by decide +kernel
theorem dd_X_time_1 : decode mb_X_time 1 = .ok (.getfield 10, 3) := by decide +kernel
theorem dd_X_time_4 : decode mb_X_time 4 = .ok (.iload_n 1, 1) := by decide +kernel
theorem dd_X_time_5 : decode mb_X_time 5 = .ok (.invokevirtual 94, 3) := by decide +kernel
theorem dd_X_time_8 : decode mb_X_time 8 = .ok (.lreturn, 1) := by decide +kernel
theorem dd_X_value_0 : decode mb_X_value 0 = .ok (.aload_n 0, 1) := by decide +kernel
theorem dd_X_value_1 : decode mb_X_value 1 = .ok (.getfield 10, 3) := by decide +kernel
theorem dd_X_value_4 : decode mb_X_value 4 = .ok (.iload_n 1, 1) := by decide +kernel
theorem dd_X_value_5 : decode mb_X_value 5 = .ok (.invokevirtual 98, 3) := by decide +kernel
theorem dd_X_value_8 : decode mb_X_value 8 = .ok (.lreturn, 1) := by decide +kernel
theorem dd_X_bit_0 : decode mb_X_bit 0 = .ok (.aload_n 0, 1) := by decide +kernel
theorem dd_X_bit_1 : decode mb_X_bit 1 = .ok (.getfield 22, 3) := by decide +kernel
theorem dd_X_bit_4 : decode mb_X_bit 4 = .ok (.iload_n 1, 1) := by decide +kernel
theorem dd_X_bit_5 : decode mb_X_bit 5 = .ok (.invokevirtual 101, 3) := by decide +kernel
theorem dd_X_bit_8 : decode mb_X_bit 8 = .ok (.ireturn, 1) := by decide +kernel
theorem dd_X_flip_0 : decode mb_X_flip 0 = .ok (.aload_n 0, 1) := by decide +kernel
theorem dd_X_flip_1 : decode mb_X_flip 1 = .ok (.getfield 22, 3) := by decide +kernel
theorem dd_X_flip_4 : decode mb_X_flip 4 = .ok (.iload_n 1, 1) := by decide +kernel
theorem dd_X_flip_5 : decode mb_X_flip 5 = .ok (.invokevirtual 105, 3) := by decide +kernel
theorem dd_X_flip_8 : decode mb_X_flip 8 = .ok (.return_, 1) := by decide +kernel
theorem dd_X_put_0 : decode mb_X_put 0 = .ok (.iload_n 3, 1) := by decide +kernel
theorem dd_X_put_1 : decode mb_X_put 1 = .ok (.ifCond .lt 9, 3) := by decide +kernel
theorem dd_X_put_4 : decode mb_X_put 4 = .ok (.iload_n 3, 1) := by decide +kernel
theorem dd_X_put_5 : decode mb_X_put 5 = .ok (.bipush 64, 2) := by decide +kernel
theorem dd_X_put_7 : decode mb_X_put 7 = .ok (.if_icmp .le 13, 3) := by decide +kernel
theorem dd_X_put_10 : decode mb_X_put 10 = .ok (.new 35, 3) := by decide +kernel
theorem dd_X_put_13 : decode mb_X_put 13 = .ok (.dup, 1) := by decide +kernel
theorem dd_X_put_14 : decode mb_X_put 14 = .ok (.ldc 108, 2) := by decide +kernel
theorem dd_X_put_16 : decode mb_X_put 16 = .ok (.invokespecial 39, 3) := by decide +kernel
theorem dd_X_put_19 : decode mb_X_put 19 = .ok (.athrow, 1) := by decide +kernel
theorem dd_X_put_20 : decode mb_X_put 20 = .ok (.iload_n 3, 1) := by decide +kernel
theorem dd_X_put_21 : decode mb_X_put 21 = .ok (.bipush 64, 2) := by decide +kernel
theorem dd_X_put_23 : decode mb_X_put 23 = .ok (.if_icmp .ge 21, 3) := by decide +kernel
theorem dd_X_put_26 : decode mb_X_put 26 = .ok (.lload_n 1, 1) := by decide +kernel
theorem dd_X_put_27 : decode mb_X_put 27 = .ok (.iload_n 3, 1) := by decide +kernel
theorem dd_X_put_28 : decode mb_X_put 28 = .ok (.lushr, 1) := by decide +kernel
theorem dd_X_put_29 : decode mb_X_put 29 = .ok (.lconst 0, 1) := by decide +kernel
theorem dd_X_put_30 : decode mb_X_put 30 = .ok (.lcmp, 1) := by decide +kernel
theorem dd_X_put_31 : decode mb_X_put 31 = .ok (.ifCond .eq 13, 3) := by decide +kernel
theorem dd_X_put_34 : decode mb_X_put 34 = .ok (.new 35, 3) := by decide +kernel
theorem dd_X_put_37 : decode mb_X_put 37 = .ok (.dup, 1) := by decide +kernel
theorem dd_X_put_38 : decode mb_X_put 38 = .ok (.ldc 110, 2) := by decide +kernel
theorem dd_X_put_40 : decode mb_X_put 40 = .ok (.invokespecial 39, 3) := by decide +kernel
theorem dd_X_put_43 : decode mb_X_put 43 = .ok (.athrow, 1) := by decide +kernel
theorem dd_X_put_44 : decode mb_X_put 44 = .ok (.aload_n 0, 1) := by decide +kernel
theorem dd_X_put_45 : decode mb_X_put 45 = .ok (.getfield 22, 3) := by decide +kernel
theorem dd_X_put_48 : decode mb_X_put 48 = .ok (.lload_n 1, 1) := by decide +kernel
theorem dd_X_put_49 : decode mb_X_put 49 = .ok (.iload_n 3, 1) := by decide +kernel
theorem dd_X_put_50 : decode mb_X_put 50 = .ok (.invokevirtual 112, 3) := by decide +kernel
theorem dd_X_put_53 : decode mb_X_put 53 = .ok (.ifCond .ne 13, 3) := by decide +kernel
theorem dd_X_put_56 : decode mb_X_put 56 = .ok (.new 52, 3) := by decide +kernel
theorem dd_X_put_59 : decode mb_X_put 59 = .ok (.dup, 1) := by decide +kernel
theorem dd_X_put_60 : decode mb_X_put 60 = .ok (.ldc 77, 2) := by decide +kernel
theorem dd_X_put_62 : decode mb_X_put 62 = .ok (.invokespecial 56, 3) := by decide +kernel
theorem dd_X_put_65 : decode mb_X_put 65 = .ok (.athrow, 1) := by decide +kernel
theorem dd_X_put_66 : decode mb_X_put 66 = .ok (.aload_n 0, 1) := by decide +kernel
theorem dd_X_put_67 : decode mb_X_put 67 = .ok (.getfield 22, 3) := by decide +kernel
theorem dd_X_put_70 : decode mb_X_put 70 = .ok (.invokevirtual 79, 3) := by decide +kernel
theorem dd_X_put_73 : decode mb_X_put 73 = .ok (.ireturn, 1) := by decide +kernel
theorem dd_X_cut_0 : decode mb_X_cut 0 = .ok (.iload_n 1, 1) := by decide +kernel
theorem dd_X_cut_1 : decode mb_X_cut 1 = .ok (.ifCond .lt 14, 3) := by decide +kernel
theorem dd_X_cut_4 : decode mb_X_cut 4 = .ok (.iload_n 1, 1) := by decide +kernel
theorem dd_X_cut_5 : decode mb_X_cut 5 = .ok (.aload_n 0, 1) := by decide +kernel
theorem dd_X_cut_6 : decode mb_X_cut 6 = .ok (.getfield 22, 3) := by decide +kernel
theorem dd_X_cut_9 : decode mb_X_cut 9 = .ok (.invokevirtual 79, 3) := by decide +kernel
theorem dd_X_cut_12 : decode mb_X_cut 12 = .ok (.if_icmp .le 13, 3) := by decide +kernel
theorem dd_X_cut_15 : decode mb_X_cut 15 = .ok (.new 35, 3) := by decide +kernel
theorem dd_X_cut_18 : decode mb_X_cut 18 = .ok (.dup, 1) := by decide +kernel
theorem dd_X_cut_19 : decode mb_X_cut 19 = .ok (.ldc 115, 2) := by decide +kernel
theorem dd_X_cut_21 : decode mb_X_cut 21 = .ok (.invokespecial 39, 3) := by decide +kernel
theorem dd_X_cut_24 : decode mb_X_cut 24 = .ok (.athrow, 1) := by decide +kernel
theorem dd_X_cut_25 : decode mb_X_cut 25 = .ok (.aload_n 0, 1) := by decide +kernel
theorem dd_X_cut_26 : decode mb_X_cut 26 = .ok (.getfield 22, 3) := by decide +kernel
theorem dd_X_cut_29 : decode mb_X_cut 29 = .ok (.iload_n 1, 1) := by decide +kernel
theorem dd_X_cut_30 : decode mb_X_cut 30 = .ok (.invokevirtual 67, 3) := by decide +kernel
theorem dd_X_cut_33 : decode mb_X_cut 33 = .ok (.return_, 1) := by decide +kernel
theorem dd_L_add_0 : decode mb_L_add 0 = .ok (.aload 5, 2) := by decide +kernel
theorem dd_L_add_2 : decode mb_L_add 2 = .ok (.iconst 0, 1) := by decide +kernel
theorem dd_L_add_3 : decode mb_L_add 3 = .ok (.aload_n 0, 1) := by decide +kernel
theorem dd_L_add_4 : decode mb_L_add 4 = .ok (.lload_n 1, 1) := by decide +kernel
theorem dd_L_add_5 : decode mb_L_add 5 = .ok (.lload_n 3, 1) := by decide +kernel
theorem dd_L_add_6 : decode mb_L_add 6 = .ok (.invokevirtual 7, 3) := by decide +kernel
theorem dd_L_add_9 : decode mb_L_add 9 = .ok (.i2l, 1) := by decide +kernel
theorem dd_L_add_10 : decode mb_L_add 10 = .ok (.lastore, 1) := by decide +kernel
theorem dd_L_add_11 : decode mb_L_add 11 = .ok (.goto 11, 3) := by decide +kernel
theorem dd_L_add_14 : decode mb_L_add 14 = .ok (.astore 6, 2) := by decide +kernel
theorem dd_L_add_16 : decode mb_L_add 16 = .ok (.iconst 1, 1) := by decide +kernel
theorem dd_L_add_17 : decode mb_L_add 17 = .ok (.ireturn, 1) := by decide +kernel
theorem dd_L_add_18 : decode mb_L_add 18 = .ok (.astore 6, 2) := by decide +kernel
theorem dd_L_add_20 : decode mb_L_add 20 = .ok (.iconst 2, 1) := by decide +kernel
theorem dd_L_add_21 : decode mb_L_add 21 = .ok (.ireturn, 1) := by decide +kernel
theorem dd_L_add_22 : decode mb_L_add 22 = .ok (.iconst 0, 1) := by decide +kernel
theorem dd_L_add_23 : decode mb_L_add 23 = .ok (.ireturn, 1) := by decide +kernel
theorem dd_L_keep_0 : decode mb_L_keep 0 = .ok (.aload_n 2, 1) := by decide +kernel
theorem dd_L_keep_1 : decode mb_L_keep 1 = .ok (.iconst 0, 1) := by decide +kernel
theorem dd_L_keep_2 : decode mb_L_keep 2 = .ok (.aload_n 0, 1) := by decide +kernel
theorem dd_L_keep_3 : decode mb_L_keep 3 = .ok (.iload_n 1, 1) := by decide +kernel
theorem dd_L_keep_4 : decode mb_L_keep 4 = .ok (.invokevirtual 17, 3) := by decide +kernel
theorem dd_L_keep_7 : decode mb_L_keep 7 = .ok (.i2l, 1) := by decide +kernel
theorem dd_L_keep_8 : decode mb_L_keep 8 = .ok (.lastore, 1) := by decide +kernel
theorem dd_L_keep_9 : decode mb_L_keep 9 = .ok (.goto 6, 3) := by decide +kernel
theorem dd_L_keep_12 : decode mb_L_keep 12 = .ok (.astore_n 3, 1) := by decide +kernel
theorem dd_L_keep_13 : decode mb_L_keep 13 = .ok (.iconst 1, 1) := by decide +kernel
theorem dd_L_keep_14 : decode mb_L_keep 14 = .ok (.ireturn, 1) := by decide +kernel
theorem dd_L_keep_15 : decode mb_L_keep 15 = .ok (.iconst 0, 1) := by decide +kernel
theorem dd_L_keep_16 : decode mb_L_keep 16 = .ok (.ireturn, 1) := by decide +kernel
theorem dd_L_pack_0 : decode mb_L_pack 0 = .ok (.aload_n 1, 1) := by decide +kernel
theorem dd_L_pack_1 : decode mb_L_pack 1 = .ok (.iconst 0, 1) := by decide +kernel
theorem dd_L_pack_2 : decode mb_L_pack 2 = .ok (.aload_n 0, 1) := by decide +kernel
theorem dd_L_pack_3 : decode mb_L_pack 3 = .ok (.invokevirtual 21, 3) := by decide +kernel
theorem dd_L_pack_6 : decode mb_L_pack 6 = .ok (.i2l, 1) := by decide +kernel
theorem dd_L_pack_7 : decode mb_L_pack 7 = .ok (.lastore, 1) := by decide +kernel
theorem dd_L_pack_8 : decode mb_L_pack 8 = .ok (.goto 6, 3) := by decide +kernel
theorem dd_L_pack_11 : decode mb_L_pack 11 = .ok (.astore_n 2, 1) := by decide +kernel
theorem dd_L_pack_12 : decode mb_L_pack 12 = .ok (.iconst 1, 1) := by decide +kernel
theorem dd_L_pack_13 : decode mb_L_pack 13 = .ok (.ireturn, 1) := by decide +kernel
theorem dd_L_pack_14 : decode mb_L_pack 14 = .ok (.iconst 0, 1) := by decide +kernel
theorem dd_L_pack_15 : decode mb_L_pack 15 = .ok (.ireturn, 1) := by decide +kernel
theorem dd_L_unpack_0 : decode mb_L_unpack 0 = .ok (.aload_n 2, 1) := by decide +kernel
theorem dd_L_unpack_1 : decode mb_L_unpack 1 = .ok (.iconst 0, 1) := by decide +kernel
theorem dd_L_unpack_2 : decode mb_L_unpack 2 = .ok (.aload_n 0, 1) := by decide +kernel
theorem dd_L_unpack_3 : decode mb_L_unpack 3 = .ok (.iload_n 1, 1) := by decide +kernel
theorem dd_L_unpack_4 : decode mb_L_unpack 4 = .ok (.invokevirtual 25, 3) := by decide +kernel
theorem dd_L_unpack_7 : decode mb_L_unpack 7 = .ok (.i2l, 1) := by decide +kernel
theorem dd_L_unpack_8 : decode mb_L_unpack 8 = .ok (.lastore, 1) := by decide +kernel
theorem dd_L_unpack_9 : decode mb_L_unpack 9 = .ok (.goto 6, 3) := by decide +kernel
theorem dd_L_unpack_12 : decode mb_L_unpack 12 = .ok (.astore_n 3, 1) := by decide +kernel
theorem dd_L_unpack_13 : decode mb_L_unpack 13 = .ok (.iconst 1, 1) := by decide +kernel
theorem dd_L_unpack_14 : decode mb_L_unpack 14 = .ok (.ireturn, 1) := by decide +kernel
theorem dd_L_unpack_15 : decode mb_L_unpack 15 = .ok (.iconst 0, 1) := by decide +kernel
theorem dd_L_unpack_16 : decode mb_L_unpack 16 = .ok (.ireturn, 1) := by decide +kernel
theorem dd_L_count_0 : decode mb_L_count 0 = .ok (.aload_n 2, 1) := by decide +kernel
theorem dd_L_count_1 : decode mb_L_count 1 = .ok (.iconst 0, 1) := by decide +kernel
theorem dd_L_count_2 : decode mb_L_count 2 = .ok (.aload_n 0, 1) := by decide +kernel
theorem dd_L_count_3 : decode mb_L_count 3 = .ok (.iload_n 1, 1) := by decide +kernel
theorem dd_L_count_4 : decode mb_L_count 4 = .ok (.invokevirtual 28, 3) := by decide +kernel
theorem dd_L_count_7 : decode mb_L_count 7 = .ok (.i2l, 1) := by decide +kernel
theorem dd_L_count_8 : decode mb_L_count 8 = .ok (.lastore, 1) := by decide +kernel
theorem dd_L_count_9 : decode mb_L_count 9 = .ok (.goto 6, 3) := by decide +kernel
theorem dd_L_count_12 : decode mb_L_count 12 = .ok (.astore_n 3, 1) := by decide +kernel
theorem dd_L_count_13 : decode mb_L_count 13 = .ok (.iconst 1, 1) := by decide +kernel
theorem dd_L_count_14 : decode mb_L_count 14 = .ok (.ireturn, 1) := by decide +kernel
theorem dd_L_count_15 : decode mb_L_count 15 = .ok (.iconst 0, 1) := by decide +kernel
theorem dd_L_count_16 : decode mb_L_count 16 = .ok (.ireturn, 1) := by decide +kernel
theorem dd_L_time_0 : decode mb_L_time 0 = .ok (.aload_n 2, 1) := by decide +kernel
theorem dd_L_time_1 : decode mb_L_time 1 = .ok (.iconst 0, 1) := by decide +kernel
theorem dd_L_time_2 : decode mb_L_time 2 = .ok (.aload_n 0, 1) := by decide +kernel
theorem dd_L_time_3 : decode mb_L_time 3 = .ok (.iload_n 1, 1) := by decide +kernel
theorem dd_L_time_4 : decode mb_L_time 4 = .ok (.invokevirtual 31, 3) := by decide +kernel
theorem dd_L_time_7 : decode mb_L_time 7 = .ok (.lastore, 1) := by decide +kernel
theorem dd_L_time_8 : decode mb_L_time 8 = .ok (.goto 6, 3) := by decide +kernel
theorem dd_L_time_11 : decode mb_L_time 11 = .ok (.astore_n 3, 1) := by decide +kernel
theorem dd_L_time_12 : decode mb_L_time 12 = .ok (.iconst 1, 1) := by decide +kernel
theorem dd_L_time_13 : decode mb_L_time 13 = .ok (.ireturn, 1) := by decide +kernel
theorem dd_L_time_14 : decode mb_L_time 14 = .ok (.iconst 0, 1) := by decide +kernel
theorem dd_L_time_15 : decode mb_L_time 15 = .ok (.ireturn, 1) := by decide +kernel
theorem dd_L_value_0 : decode mb_L_value 0 = .ok (.aload_n 2, 1) := by decide +kernel
theorem dd_L_value_1 : decode mb_L_value 1 = .ok (.iconst 0, 1) := by decide +kernel
theorem dd_L_value_2 : decode mb_L_value 2 = .ok (.aload_n 0, 1) := by decide +kernel
theorem dd_L_value_3 : decode mb_L_value 3 = .ok (.iload_n 1, 1) := by decide +kernel
theorem dd_L_value_4 : decode mb_L_value 4 = .ok (.invokevirtual 37, 3) := by decide +kernel
theorem dd_L_value_7 : decode mb_L_value 7 = .ok (.lastore, 1) := by decide +kernel
theorem dd_L_value_8 : decode mb_L_value 8 = .ok (.goto 6, 3) := by decide +kernel
theorem dd_L_value_11 : decode mb_L_value 11 = .ok (.astore_n 3, 1) := by decide +kernel
theorem dd_L_value_12 : decode mb_L_value 12 = .ok (.iconst 1, 1) := by decide +kernel
theorem dd_L_value_13 : decode mb_L_value 13 = .ok (.ireturn, 1) := by decide +kernel
theorem dd_L_value_14 : decode mb_L_value 14 = .ok (.iconst 0, 1) := by decide +kernel
theorem dd_L_value_15 : decode mb_L_value 15 = .ok (.ireturn, 1) := by decide +kernel
theorem dd_L_bit_0 : decode mb_L_bit 0 = .ok (.aload_n 2, 1) := by decide +kernel
theorem dd_L_bit_1 : decode mb_L_bit 1 = .ok (.iconst 0, 1) := by decide +kernel
theorem dd_L_bit_2 : decode mb_L_bit 2 = .ok (.aload_n 0, 1) := by decide +kernel
theorem dd_L_bit_3 : decode mb_L_bit 3 = .ok (.iload_n 1, 1) := by decide +kernel
theorem dd_L_bit_4 : decode mb_L_bit 4 = .ok (.invokevirtual 40, 3) := by decide +kernel
theorem dd_L_bit_7 : decode mb_L_bit 7 = .ok (.ifCond .eq 7, 3) := by decide +kernel
theorem dd_L_bit_10 : decode mb_L_bit 10 = .ok (.lconst 1, 1) := by decide +kernel
theorem dd_L_bit_11 : decode mb_L_bit 11 = .ok (.goto 4, 3) := by decide +kernel
theorem dd_L_bit_14 : decode mb_L_bit 14 = .ok (.lconst 0, 1) := by decide +kernel
theorem dd_L_bit_15 : decode mb_L_bit 15 = .ok (.lastore, 1) := by decide +kernel
theorem dd_L_bit_16 : decode mb_L_bit 16 = .ok (.goto 6, 3) := by decide +kernel
theorem dd_L_bit_19 : decode mb_L_bit 19 = .ok (.astore_n 3, 1) := by decide +kernel
theorem dd_L_bit_20 : decode mb_L_bit 20 = .ok (.iconst 1, 1) := by decide +kernel
theorem dd_L_bit_21 : decode mb_L_bit 21 = .ok (.ireturn, 1) := by decide +kernel
theorem dd_L_bit_22 : decode mb_L_bit 22 = .ok (.iconst 0, 1) := by decide +kernel
theorem dd_L_bit_23 : decode mb_L_bit 23 = .ok (.ireturn, 1) := by decide +kernel
theorem dd_L_flip_0 : decode mb_L_flip 0 = .ok (.aload_n 0, 1) := by decide +kernel
theorem dd_L_flip_1 : decode mb_L_flip 1 = .ok (.iload_n 1, 1) := by decide +kernel
theorem dd_L_flip_2 : decode mb_L_flip 2 = .ok (.invokevirtual 44, 3) := by decide +kernel
theorem dd_L_flip_5 : decode mb_L_flip 5 = .ok (.goto 6, 3) := by decide +kernel
theorem dd_L_flip_8 : decode mb_L_flip 8 = .ok (.astore_n 2, 1) := by decide +kernel
theorem dd_L_flip_9 : decode mb_L_flip 9 = .ok (.iconst 1, 1) := by decide +kernel
theorem dd_L_flip_10 : decode mb_L_flip 10 = .ok (.ireturn, 1) := by decide +kernel
theorem dd_L_flip_11 : decode mb_L_flip 11 = .ok (.iconst 0, 1) := by decide +kernel
theorem dd_L_flip_12 : decode mb_L_flip 12 = .ok (.ireturn, 1) := by decide +kernel
theorem dd_L_put_0 : decode mb_L_put 0 = .ok (.aload 4, 2) := by decide +kernel
theorem dd_L_put_2 : decode mb_L_put 2 = .ok (.iconst 0, 1) := by decide +kernel
theorem dd_L_put_3 : decode mb_L_put 3 = .ok (.aload_n 0, 1) := by decide +kernel
theorem dd_L_put_4 : decode mb_L_put 4 = .ok (.lload_n 1, 1) := by decide +kernel
theorem dd_L_put_5 : decode mb_L_put 5 = .ok (.iload_n 3, 1) := by decide +kernel
theorem dd_L_put_6 : decode mb_L_put 6 = .ok (.invokevirtual 48, 3) := by decide +kernel
theorem dd_L_put_9 : decode mb_L_put 9 = .ok (.i2l, 1) := by decide +kernel
theorem dd_L_put_10 : decode mb_L_put 10 = .ok (.lastore, 1) := by decide +kernel
theorem dd_L_put_11 : decode mb_L_put 11 = .ok (.goto 11, 3) := by decide +kernel
theorem dd_L_put_14 : decode mb_L_put 14 = .ok (.astore 5, 2) := by decide +kernel
theorem dd_L_put_16 : decode mb_L_put 16 = .ok (.iconst 1, 1) := by decide +kernel
theorem dd_L_put_17 : decode mb_L_put 17 = .ok (.ireturn, 1) := by decide +kernel
theorem dd_L_put_18 : decode mb_L_put 18 = .ok (.astore 5, 2) := by decide +kernel
theorem dd_L_put_20 : decode mb_L_put 20 = .ok (.iconst 2, 1) := by decide +kernel
theorem dd_L_put_21 : decode mb_L_put 21 = .ok (.ireturn, 1) := by decide +kernel
theorem dd_L_put_22 : decode mb_L_put 22 = .ok (.iconst 0, 1) := by decide +kernel
theorem dd_L_put_23 : decode mb_L_put 23 = .ok (.ireturn, 1) := by decide +kernel
theorem dd_L_cut_0 : decode mb_L_cut 0 = .ok (.aload_n 0, 1) := by decide +kernel
theorem dd_L_cut_1 : decode mb_L_cut 1 = .ok (.iload_n 1, 1) := by decide +kernel
theorem dd_L_cut_2 : decode mb_L_cut 2 = .ok (.invokevirtual 52, 3) := by decide +kernel
theorem dd_L_cut_5 : decode mb_L_cut 5 = .ok (.goto 6, 3) := by decide +kernel
theorem dd_L_cut_8 : decode mb_L_cut 8 = .ok (.astore_n 2, 1) := by decide +kernel
theorem dd_L_cut_9 : decode mb_L_cut 9 = .ok (.iconst 1, 1) := by decide +kernel
theorem dd_L_cut_10 : decode mb_L_cut 10 = .ok (.ireturn, 1) := by decide +kernel
theorem dd_L_cut_11 : decode mb_L_cut 11 = .ok (.iconst 0, 1) := by decide +kernel
theorem dd_L_cut_12 : decode mb_L_cut 12 = .ok (.ireturn, 1) := by decide +kernel
end
section
theorem dd_M_init_0 : decode mb_M_init 0 = .ok (.aload_n 0, 1) := by decide +kernel
theorem dd_M_init_1 : decode mb_M_init 1 = .ok (.invokespecial 1, 3) := by decide +kernel
theorem dd_M_init_4 : decode mb_M_init 4 = .ok (.aload_n 0, 1) := by decide +kernel
theorem dd_M_init_5 : decode mb_M_init 5 = .ok (.sipush 3000, 3) := by decide +kernel
theorem dd_M_init_8 : decode mb_M_init 8 = .ok (.newarray .long, 2) := by decide +kernel
theorem dd_M_init_10 : decode mb_M_init 10 = .ok (.putfield 7, 3) := by decide +kernel
theorem dd_M_init_13 : decode mb_M_init 13 = .ok (.aload_n 0, 1) := by decide +kernel
theorem dd_M_init_14 : decode mb_M_init 14 = .ok (.sipush 3000, 3) := by decide +kernel
theorem dd_M_init_17 : decode mb_M_init 17 = .ok (.newarray .long, 2) := by decide +kernel
theorem dd_M_init_19 : decode mb_M_init 19 = .ok (.putfield 13, 3) := by decide +kernel
theorem dd_M_init_22 : decode mb_M_init 22 = .ok (.aload_n 0, 1) := by decide +kernel
theorem dd_M_init_23 : decode mb_M_init 23 = .ok (.ldc 16, 2) := by decide +kernel
theorem dd_M_init_25 : decode mb_M_init 25 = .ok (.newarray .byte, 2) := by decide +kernel
theorem dd_M_init_27 : decode mb_M_init 27 = .ok (.putfield 17, 3) := by decide +kernel
theorem dd_M_init_30 : decode mb_M_init 30 = .ok (.aload_n 0, 1) := by decide +kernel
theorem dd_M_init_31 : decode mb_M_init 31 = .ok (.sipush 3000, 3) := by decide +kernel
theorem dd_M_init_34 : decode mb_M_init 34 = .ok (.newarray .long, 2) := by decide +kernel
theorem dd_M_init_36 : decode mb_M_init 36 = .ok (.putfield 21, 3) := by decide +kernel
theorem dd_M_init_39 : decode mb_M_init 39 = .ok (.aload_n 0, 1) := by decide +kernel
theorem dd_M_init_40 : decode mb_M_init 40 = .ok (.sipush 3000, 3) := by decide +kernel
theorem dd_M_init_43 : decode mb_M_init 43 = .ok (.newarray .long, 2) := by decide +kernel
theorem dd_M_init_45 : decode mb_M_init 45 = .ok (.putfield 24, 3) := by decide +kernel
theorem dd_M_init_48 : decode mb_M_init 48 = .ok (.return_, 1) := by decide +kernel
theorem dd_M_thrown_0 : decode mb_M_thrown 0 = .ok (.aload_n 0, 1) := by decide +kernel
theorem dd_M_thrown_1 : decode mb_M_thrown 1 = .ok (.getfield 27, 3) := by decide +kernel
theorem dd_M_thrown_4 : decode mb_M_thrown 4 = .ok (.ireturn, 1) := by decide +kernel
theorem dd_M_add_0 : decode mb_M_add 0 = .ok (.lload_n 1, 1) := by decide +kernel
theorem dd_M_add_1 : decode mb_M_add 1 = .ok (.lconst 0, 1) := by decide +kernel
theorem dd_M_add_2 : decode mb_M_add 2 = .ok (.lcmp, 1) := by decide +kernel
theorem dd_M_add_3 : decode mb_M_add 3 = .ok (.ifCond .lt 38, 3) := by decide +kernel
theorem dd_M_add_6 : decode mb_M_add 6 = .ok (.lload_n 1, 1) := by decide +kernel
theorem dd_M_add_7 : decode mb_M_add 7 = .ok (.ldc2_w 31, 3) := by decide +kernel
theorem dd_M_add_10 : decode mb_M_add 10 = .ok (.lcmp, 1) := by decide +kernel
theorem dd_M_add_11 : decode mb_M_add 11 = .ok (.ifCond .gt 30, 3) := by decide +kernel
theorem dd_M_add_14 : decode mb_M_add 14 = .ok (.aload_n 0, 1) := by decide +kernel
theorem dd_M_add_15 : decode mb_M_add 15 = .ok (.getfield 33, 3) := by decide +kernel
theorem dd_M_add_18 : decode mb_M_add 18 = .ok (.ifCond .eq 19, 3) := by decide +kernel
theorem dd_M_add_21 : decode mb_M_add 21 = .ok (.lload_n 1, 1) := by decide +kernel
theorem dd_M_add_22 : decode mb_M_add 22 = .ok (.aload_n 0, 1) := by decide +kernel
theorem dd_M_add_23 : decode mb_M_add 23 = .ok (.getfield 7, 3) := by decide +kernel
theorem dd_M_add_26 : decode mb_M_add 26 = .ok (.aload_n 0, 1) := by decide +kernel
theorem dd_M_add_27 : decode mb_M_add 27 = .ok (.getfield 33, 3) := by decide +kernel
theorem dd_M_add_30 : decode mb_M_add 30 = .ok (.iconst 1, 1) := by decide +kernel
theorem dd_M_add_31 : decode mb_M_add 31 = .ok (.isub, 1) := by decide +kernel
theorem dd_M_add_32 : decode mb_M_add 32 = .ok (.laload, 1) := by decide +kernel
theorem dd_M_add_33 : decode mb_M_add 33 = .ok (.lcmp, 1) := by decide +kernel
theorem dd_M_add_34 : decode mb_M_add 34 = .ok (.ifCond .le 7, 3) := by decide +kernel
theorem dd_M_add_37 : decode mb_M_add 37 = .ok (.iconst 1, 1) := by decide +kernel
theorem dd_M_add_38 : decode mb_M_add 38 = .ok (.goto 4, 3) := by decide +kernel
theorem dd_M_add_41 : decode mb_M_add 41 = .ok (.iconst 0, 1) := by decide +kernel
theorem dd_M_add_42 : decode mb_M_add 42 = .ok (.istore 5, 2) := by decide +kernel
theorem dd_M_add_44 : decode mb_M_add 44 = .ok (.aload_n 0, 1) := by decide +kernel
theorem dd_M_add_45 : decode mb_M_add 45 = .ok (.iload 5, 2) := by decide +kernel
theorem dd_M_add_47 : decode mb_M_add 47 = .ok (.ifCond .ne 7, 3) := by decide +kernel
theorem dd_M_add_50 : decode mb_M_add 50 = .ok (.iconst 1, 1) := by decide +kernel
theorem dd_M_add_51 : decode mb_M_add 51 = .ok (.goto 18, 3) := by decide +kernel
theorem dd_M_add_54 : decode mb_M_add 54 = .ok (.aload_n 0, 1) := by decide +kernel
theorem dd_M_add_55 : decode mb_M_add 55 = .ok (.getfield 33, 3) := by decide +kernel
theorem dd_M_add_58 : decode mb_M_add 58 = .ok (.sipush 3000, 3) := by decide +kernel
theorem dd_M_add_61 : decode mb_M_add 61 = .ok (.if_icmp .ne 7, 3) := by decide +kernel
theorem dd_M_add_64 : decode mb_M_add 64 = .ok (.iconst 2, 1) := by decide +kernel
theorem dd_M_add_65 : decode mb_M_add 65 = .ok (.goto 4, 3) := by decide +kernel
theorem dd_M_add_68 : decode mb_M_add 68 = .ok (.iconst 0, 1) := by decide +kernel
theorem dd_M_add_69 : decode mb_M_add 69 = .ok (.putfield 27, 3) := by decide +kernel
theorem dd_M_add_72 : decode mb_M_add 72 = .ok (.aload_n 0, 1) := by decide +kernel
theorem dd_M_add_73 : decode mb_M_add 73 = .ok (.getfield 27, 3) := by decide +kernel
theorem dd_M_add_76 : decode mb_M_add 76 = .ok (.ifCond .le 5, 3) := by decide +kernel
theorem dd_M_add_79 : decode mb_M_add 79 = .ok (.iconst 0, 1) := by decide +kernel
theorem dd_M_add_80 : decode mb_M_add 80 = .ok (.ireturn, 1) := by decide +kernel
theorem dd_M_add_81 : decode mb_M_add 81 = .ok (.aload_n 0, 1) := by decide +kernel
theorem dd_M_add_82 : decode mb_M_add 82 = .ok (.getfield 7, 3) := by decide +kernel
theorem dd_M_add_85 : decode mb_M_add 85 = .ok (.aload_n 0, 1) := by decide +kernel
theorem dd_M_add_86 : decode mb_M_add 86 = .ok (.getfield 33, 3) := by decide +kernel
theorem dd_M_add_89 : decode mb_M_add 89 = .ok (.lload_n 1, 1) := by decide +kernel
theorem dd_M_add_90 : decode mb_M_add 90 = .ok (.lastore, 1) := by decide +kernel
theorem dd_M_add_91 : decode mb_M_add 91 = .ok (.aload_n 0, 1) := by decide +kernel
theorem dd_M_add_92 : decode mb_M_add 92 = .ok (.getfield 13, 3) := by decide +kernel
theorem dd_M_add_95 : decode mb_M_add 95 = .ok (.aload_n 0, 1) := by decide +kernel
theorem dd_M_add_96 : decode mb_M_add 96 = .ok (.getfield 33, 3) := by decide +kernel
theorem dd_M_add_99 : decode mb_M_add 99 = .ok (.lload_n 3, 1) := by decide +kernel
theorem dd_M_add_100 : decode mb_M_add 100 = .ok (.lastore, 1) := by decide +kernel
theorem dd_M_add_101 : decode mb_M_add 101 = .ok (.aload_n 0, 1) := by decide +kernel
theorem dd_M_add_102 : decode mb_M_add 102 = .ok (.dup, 1) := by decide +kernel
theorem dd_M_add_103 : decode mb_M_add 103 = .ok (.getfield 33, 3) := by decide +kernel
theorem dd_M_add_106 : decode mb_M_add 106 = .ok (.iconst 1, 1) := by decide +kernel
theorem dd_M_add_107 : decode mb_M_add 107 = .ok (.iadd, 1) := by decide +kernel
theorem dd_M_add_108 : decode mb_M_add 108 = .ok (.putfield 33, 3) := by decide +kernel
theorem dd_M_add_111 : decode mb_M_add 111 = .ok (.aload_n 0, 1) := by decide +kernel
theorem dd_M_add_112 : decode mb_M_add 112 = .ok (.getfield 33, 3) := by decide +kernel
theorem dd_M_add_115 : decode mb_M_add 115 = .ok (.ireturn, 1) := by decide +kernel
theorem dd_M_keep_0 : decode mb_M_keep 0 = .ok (.aload_n 0, 1) := by decide +kernel
theorem dd_M_keep_1 : decode mb_M_keep 1 = .ok (.iload_n 1, 1) := by decide +kernel
theorem dd_M_keep_2 : decode mb_M_keep 2 = .ok (.ifCond .lt 11, 3) := by decide +kernel
theorem dd_M_keep_5 : decode mb_M_keep 5 = .ok (.iload_n 1, 1) := by decide +kernel
theorem dd_M_keep_6 : decode mb_M_keep 6 = .ok (.aload_n 0, 1) := by decide +kernel
theorem dd_M_keep_7 : decode mb_M_keep 7 = .ok (.getfield 33, 3) := by decide +kernel
theorem dd_M_keep_10 : decode mb_M_keep 10 = .ok (.if_icmp .le 7, 3) := by decide +kernel
theorem dd_M_keep_13 : decode mb_M_keep 13 = .ok (.iconst 1, 1) := by decide +kernel
theorem dd_M_keep_14 : decode mb_M_keep 14 = .ok (.goto 4, 3) := by decide +kernel
theorem dd_M_keep_17 : decode mb_M_keep 17 = .ok (.iconst 0, 1) := by decide +kernel
theorem dd_M_keep_18 : decode mb_M_keep 18 = .ok (.putfield 27, 3) := by decide +kernel
theorem dd_M_keep_21 : decode mb_M_keep 21 = .ok (.aload_n 0, 1) := by decide +kernel
theorem dd_M_keep_22 : decode mb_M_keep 22 = .ok (.getfield 27, 3) := by decide +kernel
theorem dd_M_keep_25 : decode mb_M_keep 25 = .ok (.ifCond .le 5, 3) := by decide +kernel
theorem dd_M_keep_28 : decode mb_M_keep 28 = .ok (.iconst 0, 1) := by decide +kernel
theorem dd_M_keep_29 : decode mb_M_keep 29 = .ok (.ireturn, 1) := by decide +kernel
theorem dd_M_keep_30 : decode mb_M_keep 30 = .ok (.aload_n 0, 1) := by decide +kernel
theorem dd_M_keep_31 : decode mb_M_keep 31 = .ok (.getfield 33, 3) := by decide +kernel
theorem dd_M_keep_34 : decode mb_M_keep 34 = .ok (.iload_n 1, 1) := by decide +kernel
theorem dd_M_keep_35 : decode mb_M_keep 35 = .ok (.isub, 1) := by decide +kernel
theorem dd_M_keep_36 : decode mb_M_keep 36 = .ok (.istore_n 2, 1) := by decide +kernel
theorem dd_M_keep_37 : decode mb_M_keep 37 = .ok (.aload_n 0, 1) := by decide +kernel
theorem dd_M_keep_38 : decode mb_M_keep 38 = .ok (.iload_n 1, 1) := by decide +kernel
theorem dd_M_keep_39 : decode mb_M_keep 39 = .ok (.putfield 33, 3) := by decide +kernel
theorem dd_M_keep_42 : decode mb_M_keep 42 = .ok (.iload_n 2, 1) := by decide +kernel
theorem dd_M_keep_43 : decode mb_M_keep 43 = .ok (.ireturn, 1) := by decide +kernel
theorem dd_M_pack_0 : decode mb_M_pack 0 = .ok (.aload_n 0, 1) := by decide +kernel
theorem dd_M_pack_1 : decode mb_M_pack 1 = .ok (.iconst 0, 1) := by decide +kernel
theorem dd_M_pack_2 : decode mb_M_pack 2 = .ok (.putfield 27, 3) := by decide +kernel
theorem dd_M_pack_5 : decode mb_M_pack 5 = .ok (.aload_n 0, 1) := by decide +kernel
theorem dd_M_pack_6 : decode mb_M_pack 6 = .ok (.iconst 0, 1) := by decide +kernel
theorem dd_M_pack_7 : decode mb_M_pack 7 = .ok (.putfield 36, 3) := by decide +kernel
theorem dd_M_pack_10 : decode mb_M_pack 10 = .ok (.aload_n 0, 1) := by decide +kernel
theorem dd_M_pack_11 : decode mb_M_pack 11 = .ok (.iconst 0, 1) := by decide +kernel
theorem dd_M_pack_12 : decode mb_M_pack 12 = .ok (.putfield 63, 3) := by decide +kernel
theorem dd_M_pack_15 : decode mb_M_pack 15 = .ok (.iconst 0, 1) := by decide +kernel
theorem dd_M_pack_16 : decode mb_M_pack 16 = .ok (.istore_n 1, 1) := by decide +kernel
theorem dd_M_pack_17 : decode mb_M_pack 17 = .ok (.iload_n 1, 1) := by decide +kernel
theorem dd_M_pack_18 : decode mb_M_pack 18 = .ok (.aload_n 0, 1) := by decide +kernel
theorem dd_M_pack_19 : decode mb_M_pack 19 = .ok (.getfield 33, 3) := by decide +kernel
theorem dd_M_pack_22 : decode mb_M_pack 22 = .ok (.if_icmp .ge 107, 3) := by decide +kernel
theorem dd_M_pack_25 : decode mb_M_pack 25 = .ok (.iload_n 1, 1) := by decide +kernel
theorem dd_M_pack_26 : decode mb_M_pack 26 = .ok (.ifCond .ne 30, 3) := by decide +kernel
theorem dd_M_pack_29 : decode mb_M_pack 29 = .ok (.aload_n 0, 1) := by decide +kernel
theorem dd_M_pack_30 : decode mb_M_pack 30 = .ok (.aload_n 0, 1) := by decide +kernel
theorem dd_M_pack_31 : decode mb_M_pack 31 = .ok (.getfield 7, 3) := by decide +kernel
theorem dd_M_pack_34 : decode mb_M_pack 34 = .ok (.iconst 0, 1) := by decide +kernel
theorem dd_M_pack_35 : decode mb_M_pack 35 = .ok (.laload, 1) := by decide +kernel
theorem dd_M_pack_36 : decode mb_M_pack 36 = .ok (.bipush 40, 2) := by decide +kernel
theorem dd_M_pack_38 : decode mb_M_pack 38 = .ok (.invokevirtual 39, 3) := by decide +kernel
theorem dd_M_pack_41 : decode mb_M_pack 41 = .ok (.aload_n 0, 1) := by decide +kernel
theorem dd_M_pack_42 : decode mb_M_pack 42 = .ok (.aload_n 0, 1) := by decide +kernel
theorem dd_M_pack_43 : decode mb_M_pack 43 = .ok (.getfield 13, 3) := by decide +kernel
theorem dd_M_pack_46 : decode mb_M_pack 46 = .ok (.iconst 0, 1) := by decide +kernel
theorem dd_M_pack_47 : decode mb_M_pack 47 = .ok (.laload, 1) := by decide +kernel
theorem dd_M_pack_48 : decode mb_M_pack 48 = .ok (.bipush 64, 2) := by decide +kernel
theorem dd_M_pack_50 : decode mb_M_pack 50 = .ok (.invokevirtual 39, 3) := by decide +kernel
theorem dd_M_pack_53 : decode mb_M_pack 53 = .ok (.goto 70, 3) := by decide +kernel
theorem dd_M_pack_56 : decode mb_M_pack 56 = .ok (.aload_n 0, 1) := by decide +kernel
theorem dd_M_pack_57 : decode mb_M_pack 57 = .ok (.getfield 7, 3) := by decide +kernel
theorem dd_M_pack_60 : decode mb_M_pack 60 = .ok (.iload_n 1, 1) := by decide +kernel
theorem dd_M_pack_61 : decode mb_M_pack 61 = .ok (.laload, 1) := by decide +kernel
theorem dd_M_pack_62 : decode mb_M_pack 62 = .ok (.aload_n 0, 1) := by decide +kernel
theorem dd_M_pack_63 : decode mb_M_pack 63 = .ok (.getfield 7, 3) := by decide +kernel
theorem dd_M_pack_66 : decode mb_M_pack 66 = .ok (.iload_n 1, 1) := by decide +kernel
theorem dd_M_pack_67 : decode mb_M_pack 67 = .ok (.iconst 1, 1) := by decide +kernel
theorem dd_M_pack_68 : decode mb_M_pack 68 = .ok (.isub, 1) := by decide +kernel
theorem dd_M_pack_69 : decode mb_M_pack 69 = .ok (.laload, 1) := by decide +kernel
theorem dd_M_pack_70 : decode mb_M_pack 70 = .ok (.lsub, 1) := by decide +kernel
theorem dd_M_pack_71 : decode mb_M_pack 71 = .ok (.lstore_n 2, 1) := by decide +kernel
theorem dd_M_pack_72 : decode mb_M_pack 72 = .ok (.aload_n 0, 1) := by decide +kernel
theorem dd_M_pack_73 : decode mb_M_pack 73 = .ok (.iload_n 1, 1) := by decide +kernel
theorem dd_M_pack_74 : decode mb_M_pack 74 = .ok (.iconst 1, 1) := by decide +kernel
theorem dd_M_pack_75 : decode mb_M_pack 75 = .ok (.if_icmp .ne 7, 3) := by decide +kernel
theorem dd_M_pack_78 : decode mb_M_pack 78 = .ok (.lload_n 2, 1) := by decide +kernel
theorem dd_M_pack_79 : decode mb_M_pack 79 = .ok (.goto 22, 3) := by decide +kernel
theorem dd_M_pack_82 : decode mb_M_pack 82 = .ok (.lload_n 2, 1) := by decide +kernel
theorem dd_M_pack_83 : decode mb_M_pack 83 = .ok (.aload_n 0, 1) := by decide +kernel
theorem dd_M_pack_84 : decode mb_M_pack 84 = .ok (.getfield 7, 3) := by decide +kernel
theorem dd_M_pack_87 : decode mb_M_pack 87 = .ok (.iload_n 1, 1) := by decide +kernel
theorem dd_M_pack_88 : decode mb_M_pack 88 = .ok (.iconst 1, 1) := by decide +kernel
theorem dd_M_pack_89 : decode mb_M_pack 89 = .ok (.isub, 1) := by decide +kernel
theorem dd_M_pack_90 : decode mb_M_pack 90 = .ok (.laload, 1) := by decide +kernel
theorem dd_M_pack_91 : decode mb_M_pack 91 = .ok (.aload_n 0, 1) := by decide +kernel
theorem dd_M_pack_92 : decode mb_M_pack 92 = .ok (.getfield 7, 3) := by decide +kernel
theorem dd_M_pack_95 : decode mb_M_pack 95 = .ok (.iload_n 1, 1) := by decide +kernel
theorem dd_M_pack_96 : decode mb_M_pack 96 = .ok (.iconst 2, 1) := by decide +kernel
theorem dd_M_pack_97 : decode mb_M_pack 97 = .ok (.isub, 1) := by decide +kernel
theorem dd_M_pack_98 : decode mb_M_pack 98 = .ok (.laload, 1) := by decide +kernel
theorem dd_M_pack_99 : decode mb_M_pack 99 = .ok (.lsub, 1) := by decide +kernel
theorem dd_M_pack_100 : decode mb_M_pack 100 = .ok (.lsub, 1) := by decide +kernel
theorem dd_M_pack_101 : decode mb_M_pack 101 = .ok (.invokevirtual 71, 3) := by decide +kernel
theorem dd_M_pack_104 : decode mb_M_pack 104 = .ok (.aload_n 0, 1) := by decide +kernel
theorem dd_M_pack_105 : decode mb_M_pack 105 = .ok (.aload_n 0, 1) := by decide +kernel
theorem dd_M_pack_106 : decode mb_M_pack 106 = .ok (.getfield 13, 3) := by decide +kernel
theorem dd_M_pack_109 : decode mb_M_pack 109 = .ok (.iload_n 1, 1) := by decide +kernel
theorem dd_M_pack_110 : decode mb_M_pack 110 = .ok (.laload, 1) := by decide +kernel
theorem dd_M_pack_111 : decode mb_M_pack 111 = .ok (.aload_n 0, 1) := by decide +kernel
theorem dd_M_pack_112 : decode mb_M_pack 112 = .ok (.getfield 13, 3) := by decide +kernel
theorem dd_M_pack_115 : decode mb_M_pack 115 = .ok (.iload_n 1, 1) := by decide +kernel
theorem dd_M_pack_116 : decode mb_M_pack 116 = .ok (.iconst 1, 1) := by decide +kernel
theorem dd_M_pack_117 : decode mb_M_pack 117 = .ok (.isub, 1) := by decide +kernel
theorem dd_M_pack_118 : decode mb_M_pack 118 = .ok (.laload, 1) := by decide +kernel
theorem dd_M_pack_119 : decode mb_M_pack 119 = .ok (.lxor, 1) := by decide +kernel
theorem dd_M_pack_120 : decode mb_M_pack 120 = .ok (.invokevirtual 75, 3) := by decide +kernel
theorem dd_M_pack_123 : decode mb_M_pack 123 = .ok (.iinc 1 1, 3) := by decide +kernel
theorem dd_M_pack_126 : decode mb_M_pack 126 = .ok (.goto (-109), 3) := by decide +kernel
theorem dd_M_pack_129 : decode mb_M_pack 129 = .ok (.aload_n 0, 1) := by decide +kernel
theorem dd_M_pack_130 : decode mb_M_pack 130 = .ok (.getfield 36, 3) := by decide +kernel
theorem dd_M_pack_133 : decode mb_M_pack 133 = .ok (.ireturn, 1) := by decide +kernel
theorem dd_M_write_0 : decode mb_M_write 0 = .ok (.iload_n 3, 1) := by decide +kernel
theorem dd_M_write_1 : decode mb_M_write 1 = .ok (.iconst 1, 1) := by decide +kernel
theorem dd_M_write_2 : decode mb_M_write 2 = .ok (.isub, 1) := by decide +kernel
theorem dd_M_write_3 : decode mb_M_write 3 = .ok (.istore 4, 2) := by decide +kernel
theorem dd_M_write_5 : decode mb_M_write 5 = .ok (.iload 4, 2) := by decide +kernel
theorem dd_M_write_7 : decode mb_M_write 7 = .ok (.ifCond .lt 36, 3) := by decide +kernel
theorem dd_M_write_10 : decode mb_M_write 10 = .ok (.aload_n 0, 1) := by decide +kernel
theorem dd_M_write_11 : decode mb_M_write 11 = .ok (.getfield 17, 3) := by decide +kernel
theorem dd_M_write_14 : decode mb_M_write 14 = .ok (.aload_n 0, 1) := by decide +kernel
theorem dd_M_write_15 : decode mb_M_write 15 = .ok (.getfield 36, 3) := by decide +kernel
theorem dd_M_write_18 : decode mb_M_write 18 = .ok (.lload_n 1, 1) := by decide +kernel
theorem dd_M_write_19 : decode mb_M_write 19 = .ok (.iload 4, 2) := by decide +kernel
theorem dd_M_write_21 : decode mb_M_write 21 = .ok (.lushr, 1) := by decide +kernel
theorem dd_M_write_22 : decode mb_M_write 22 = .ok (.lconst 1, 1) := by decide +kernel
theorem dd_M_write_23 : decode mb_M_write 23 = .ok (.land, 1) := by decide +kernel
theorem dd_M_write_24 : decode mb_M_write 24 = .ok (.l2i, 1) := by decide +kernel
theorem dd_M_write_25 : decode mb_M_write 25 = .ok (.i2b, 1) := by decide +kernel
theorem dd_M_write_26 : decode mb_M_write 26 = .ok (.bastore, 1) := by decide +kernel
theorem dd_M_write_27 : decode mb_M_write 27 = .ok (.aload_n 0, 1) := by decide +kernel
theorem dd_M_write_28 : decode mb_M_write 28 = .ok (.dup, 1) := by decide +kernel
theorem dd_M_write_29 : decode mb_M_write 29 = .ok (.getfield 36, 3) := by decide +kernel
theorem dd_M_write_32 : decode mb_M_write 32 = .ok (.iconst 1, 1) := by decide +kernel
theorem dd_M_write_33 : decode mb_M_write 33 = .ok (.iadd, 1) := by decide +kernel
theorem dd_M_write_34 : decode mb_M_write 34 = .ok (.putfield 36, 3) := by decide +kernel
theorem dd_M_write_37 : decode mb_M_write 37 = .ok (.iinc 4 (-1), 3) := by decide +kernel
theorem dd_M_write_40 : decode mb_M_write 40 = .ok (.goto (-35), 3) := by decide +kernel
theorem dd_M_write_43 : decode mb_M_write 43 = .ok (.return_, 1) := by decide +kernel
theorem dd_M_writeTurn_0 : decode mb_M_writeTurn 0 = .ok (.lload_n 1, 1) := by decide +kernel
theorem dd_M_writeTurn_1 : decode mb_M_writeTurn 1 = .ok (.lconst 0, 1) := by decide +kernel
theorem dd_M_writeTurn_2 : decode mb_M_writeTurn 2 = .ok (.lcmp, 1) := by decide +kernel
theorem dd_M_writeTurn_3 : decode mb_M_writeTurn 3 = .ok (.ifCond .ne 12, 3) := by decide +kernel
theorem dd_M_writeTurn_6 : decode mb_M_writeTurn 6 = .ok (.aload_n 0, 1) := by decide +kernel
theorem dd_M_writeTurn_7 : decode mb_M_writeTurn 7 = .ok (.lconst 0, 1) := by decide +kernel
theorem dd_M_writeTurn_8 : decode mb_M_writeTurn 8 = .ok (.iconst 1, 1) := by decide +kernel
theorem dd_M_writeTurn_9 : decode mb_M_writeTurn 9 = .ok (.invokevirtual 39, 3) := by decide +kernel
theorem dd_M_writeTurn_12 : decode mb_M_writeTurn 12 = .ok (.goto 120, 3) := by decide +kernel
theorem dd_M_writeTurn_15 : decode mb_M_writeTurn 15 = .ok (.lload_n 1, 1) := by decide +kernel
theorem dd_M_writeTurn_16 : decode mb_M_writeTurn 16 = .ok (.ldc2_w 43, 3) := by decide +kernel
theorem dd_M_writeTurn_19 : decode mb_M_writeTurn 19 = .ok (.lcmp, 1) := by decide +kernel
theorem dd_M_writeTurn_20 : decode mb_M_writeTurn 20 = .ok (.ifCond .lt 29, 3) := by decide +kernel
theorem dd_M_writeTurn_23 : decode mb_M_writeTurn 23 = .ok (.lload_n 1, 1) := by decide +kernel
theorem dd_M_writeTurn_24 : decode mb_M_writeTurn 24 = .ok (.ldc2_w 45, 3) := by decide +kernel
theorem dd_M_writeTurn_27 : decode mb_M_writeTurn 27 = .ok (.lcmp, 1) := by decide +kernel
theorem dd_M_writeTurn_28 : decode mb_M_writeTurn 28 = .ok (.ifCond .gt 21, 3) := by decide +kernel
theorem dd_M_writeTurn_31 : decode mb_M_writeTurn 31 = .ok (.aload_n 0, 1) := by decide +kernel
theorem dd_M_writeTurn_32 : decode mb_M_writeTurn 32 = .ok (.ldc2_w 47, 3) := by decide +kernel
theorem dd_M_writeTurn_35 : decode mb_M_writeTurn 35 = .ok (.iconst 2, 1) := by decide +kernel
theorem dd_M_writeTurn_36 : decode mb_M_writeTurn 36 = .ok (.invokevirtual 39, 3) := by decide +kernel
theorem dd_M_writeTurn_39 : decode mb_M_writeTurn 39 = .ok (.aload_n 0, 1) := by decide +kernel
theorem dd_M_writeTurn_40 : decode mb_M_writeTurn 40 = .ok (.lload_n 1, 1) := by decide +kernel
theorem dd_M_writeTurn_41 : decode mb_M_writeTurn 41 = .ok (.bipush 7, 2) := by decide +kernel
theorem dd_M_writeTurn_43 : decode mb_M_writeTurn 43 = .ok (.invokevirtual 39, 3) := by decide +kernel
theorem dd_M_writeTurn_46 : decode mb_M_writeTurn 46 = .ok (.goto 86, 3) := by decide +kernel
theorem dd_M_writeTurn_49 : decode mb_M_writeTurn 49 = .ok (.lload_n 1, 1) := by decide +kernel
theorem dd_M_writeTurn_50 : decode mb_M_writeTurn 50 = .ok (.ldc2_w 49, 3) := by decide +kernel
theorem dd_M_writeTurn_53 : decode mb_M_writeTurn 53 = .ok (.lcmp, 1) := by decide +kernel
theorem dd_M_writeTurn_54 : decode mb_M_writeTurn 54 = .ok (.ifCond .lt 29, 3) := by decide +kernel
theorem dd_M_writeTurn_57 : decode mb_M_writeTurn 57 = .ok (.lload_n 1, 1) := by decide +kernel
theorem dd_M_writeTurn_58 : decode mb_M_writeTurn 58 = .ok (.ldc2_w 51, 3) := by decide +kernel
theorem dd_M_writeTurn_61 : decode mb_M_writeTurn 61 = .ok (.lcmp, 1) := by decide +kernel
theorem dd_M_writeTurn_62 : decode mb_M_writeTurn 62 = .ok (.ifCond .gt 21, 3) := by decide +kernel
theorem dd_M_writeTurn_65 : decode mb_M_writeTurn 65 = .ok (.aload_n 0, 1) := by decide +kernel
theorem dd_M_writeTurn_66 : decode mb_M_writeTurn 66 = .ok (.ldc2_w 53, 3) := by decide +kernel
theorem dd_M_writeTurn_69 : decode mb_M_writeTurn 69 = .ok (.iconst 3, 1) := by decide +kernel
theorem dd_M_writeTurn_70 : decode mb_M_writeTurn 70 = .ok (.invokevirtual 39, 3) := by decide +kernel
theorem dd_M_writeTurn_73 : decode mb_M_writeTurn 73 = .ok (.aload_n 0, 1) := by decide +kernel
theorem dd_M_writeTurn_74 : decode mb_M_writeTurn 74 = .ok (.lload_n 1, 1) := by decide +kernel
theorem dd_M_writeTurn_75 : decode mb_M_writeTurn 75 = .ok (.bipush 10, 2) := by decide +kernel
theorem dd_M_writeTurn_77 : decode mb_M_writeTurn 77 = .ok (.invokevirtual 39, 3) := by decide +kernel
theorem dd_M_writeTurn_80 : decode mb_M_writeTurn 80 = .ok (.goto 52, 3) := by decide +kernel
theorem dd_M_writeTurn_83 : decode mb_M_writeTurn 83 = .ok (.lload_n 1, 1) := by decide +kernel
theorem dd_M_writeTurn_84 : decode mb_M_writeTurn 84 = .ok (.ldc2_w 55, 3) := by decide +kernel
theorem dd_M_writeTurn_87 : decode mb_M_writeTurn 87 = .ok (.lcmp, 1) := by decide +kernel
theorem dd_M_writeTurn_88 : decode mb_M_writeTurn 88 = .ok (.ifCond .lt 29, 3) := by decide +kernel
theorem dd_M_writeTurn_91 : decode mb_M_writeTurn 91 = .ok (.lload_n 1, 1) := by decide +kernel
theorem dd_M_writeTurn_92 : decode mb_M_writeTurn 92 = .ok (.ldc2_w 57, 3) := by decide +kernel
theorem dd_M_writeTurn_95 : decode mb_M_writeTurn 95 = .ok (.lcmp, 1) := by decide +kernel
theorem dd_M_writeTurn_96 : decode mb_M_writeTurn 96 = .ok (.ifCond .gt 21, 3) := by decide +kernel
theorem dd_M_writeTurn_99 : decode mb_M_writeTurn 99 = .ok (.aload_n 0, 1) := by decide +kernel
theorem dd_M_writeTurn_100 : decode mb_M_writeTurn 100 = .ok (.ldc2_w 59, 3) := by decide +kernel
theorem dd_M_writeTurn_103 : decode mb_M_writeTurn 103 = .ok (.iconst 4, 1) := by decide +kernel
theorem dd_M_writeTurn_104 : decode mb_M_writeTurn 104 = .ok (.invokevirtual 39, 3) := by decide +kernel
theorem dd_M_writeTurn_107 : decode mb_M_writeTurn 107 = .ok (.aload_n 0, 1) := by decide +kernel
theorem dd_M_writeTurn_108 : decode mb_M_writeTurn 108 = .ok (.lload_n 1, 1) := by decide +kernel
theorem dd_M_writeTurn_109 : decode mb_M_writeTurn 109 = .ok (.bipush 13, 2) := by decide +kernel
theorem dd_M_writeTurn_111 : decode mb_M_writeTurn 111 = .ok (.invokevirtual 39, 3) := by decide +kernel
theorem dd_M_writeTurn_114 : decode mb_M_writeTurn 114 = .ok (.goto 18, 3) := by decide +kernel
theorem dd_M_writeTurn_117 : decode mb_M_writeTurn 117 = .ok (.aload_n 0, 1) := by decide +kernel
theorem dd_M_writeTurn_118 : decode mb_M_writeTurn 118 = .ok (.ldc2_w 61, 3) := by decide +kernel
theorem dd_M_writeTurn_121 : decode mb_M_writeTurn 121 = .ok (.iconst 4, 1) := by decide +kernel
theorem dd_M_writeTurn_122 : decode mb_M_writeTurn 122 = .ok (.invokevirtual 39, 3) := by decide +kernel
theorem dd_M_writeTurn_125 : decode mb_M_writeTurn 125 = .ok (.aload_n 0, 1) := by decide +kernel
theorem dd_M_writeTurn_126 : decode mb_M_writeTurn 126 = .ok (.lload_n 1, 1) := by decide +kernel
theorem dd_M_writeTurn_127 : decode mb_M_writeTurn 127 = .ok (.bipush 41, 2) := by decide +kernel
theorem dd_M_writeTurn_129 : decode mb_M_writeTurn 129 = .ok (.invokevirtual 39, 3) := by decide +kernel
theorem dd_M_writeTurn_132 : decode mb_M_writeTurn 132 = .ok (.return_, 1) := by decide +kernel
theorem dd_M_writeValue_0 : decode mb_M_writeValue 0 = .ok (.lload_n 1, 1) := by decide +kernel
theorem dd_M_writeValue_1 : decode mb_M_writeValue 1 = .ok (.lconst 0, 1) := by decide +kernel
theorem dd_M_writeValue_2 : decode mb_M_writeValue 2 = .ok (.lcmp, 1) := by decide +kernel
theorem dd_M_writeValue_3 : decode mb_M_writeValue 3 = .ok (.ifCond .ne 10, 3) := by decide +kernel
theorem dd_M_writeValue_6 : decode mb_M_writeValue 6 = .ok (.aload_n 0, 1) := by decide +kernel
theorem dd_M_writeValue_7 : decode mb_M_writeValue 7 = .ok (.lconst 0, 1) := by decide +kernel
theorem dd_M_writeValue_8 : decode mb_M_writeValue 8 = .ok (.iconst 1, 1) := by decide +kernel
theorem dd_M_writeValue_9 : decode mb_M_writeValue 9 = .ok (.invokevirtual 39, 3) := by decide +kernel
theorem dd_M_writeValue_12 : decode mb_M_writeValue 12 = .ok (.return_, 1) := by decide +kernel
theorem dd_M_writeValue_13 : decode mb_M_writeValue 13 = .ok (.iconst 0, 1) := by decide +kernel
theorem dd_M_writeValue_14 : decode mb_M_writeValue 14 = .ok (.istore_n 3, 1) := by decide +kernel
theorem dd_M_writeValue_15 : decode mb_M_writeValue 15 = .ok (.iload_n 3, 1) := by decide +kernel
theorem dd_M_writeValue_16 : decode mb_M_writeValue 16 = .ok (.bipush 31, 2) := by decide +kernel
theorem dd_M_writeValue_18 : decode mb_M_writeValue 18 = .ok (.if_icmp .ge 20, 3) := by decide +kernel
theorem dd_M_writeValue_21 : decode mb_M_writeValue 21 = .ok (.lload_n 1, 1) := by decide +kernel
theorem dd_M_writeValue_22 : decode mb_M_writeValue 22 = .ok (.bipush 63, 2) := by decide +kernel
theorem dd_M_writeValue_24 : decode mb_M_writeValue 24 = .ok (.iload_n 3, 1) := by decide +kernel
theorem dd_M_writeValue_25 : decode mb_M_writeValue 25 = .ok (.isub, 1) := by decide +kernel
theorem dd_M_writeValue_26 : decode mb_M_writeValue 26 = .ok (.lushr, 1) := by decide +kernel
theorem dd_M_writeValue_27 : decode mb_M_writeValue 27 = .ok (.lconst 0, 1) := by decide +kernel
theorem dd_M_writeValue_28 : decode mb_M_writeValue 28 = .ok (.lcmp, 1) := by decide +kernel
theorem dd_M_writeValue_29 : decode mb_M_writeValue 29 = .ok (.ifCond .ne 9, 3) := by decide +kernel
theorem dd_M_writeValue_32 : decode mb_M_writeValue 32 = .ok (.iinc 3 1, 3) := by decide +kernel
theorem dd_M_writeValue_35 : decode mb_M_writeValue 35 = .ok (.goto (-20), 3) := by decide +kernel
theorem dd_M_writeValue_38 : decode mb_M_writeValue 38 = .ok (.iconst 0, 1) := by decide +kernel
theorem dd_M_writeValue_39 : decode mb_M_writeValue 39 = .ok (.istore 4, 2) := by decide +kernel
theorem dd_M_writeValue_41 : decode mb_M_writeValue 41 = .ok (.lload_n 1, 1) := by decide +kernel
theorem dd_M_writeValue_42 : decode mb_M_writeValue 42 = .ok (.iload 4, 2) := by decide +kernel
theorem dd_M_writeValue_44 : decode mb_M_writeValue 44 = .ok (.lushr, 1) := by decide +kernel
theorem dd_M_writeValue_45 : decode mb_M_writeValue 45 = .ok (.lconst 1, 1) := by decide +kernel
theorem dd_M_writeValue_46 : decode mb_M_writeValue 46 = .ok (.land, 1) := by decide +kernel
theorem dd_M_writeValue_47 : decode mb_M_writeValue 47 = .ok (.lconst 0, 1) := by decide +kernel
theorem dd_M_writeValue_48 : decode mb_M_writeValue 48 = .ok (.lcmp, 1) := by decide +kernel
theorem dd_M_writeValue_49 : decode mb_M_writeValue 49 = .ok (.ifCond .ne 9, 3) := by decide +kernel
theorem dd_M_writeValue_52 : decode mb_M_writeValue 52 = .ok (.iinc 4 1, 3) := by decide +kernel
theorem dd_M_writeValue_55 : decode mb_M_writeValue 55 = .ok (.goto (-14), 3) := by decide +kernel
theorem dd_M_writeValue_58 : decode mb_M_writeValue 58 = .ok (.aload_n 0, 1) := by decide +kernel
theorem dd_M_writeValue_59 : decode mb_M_writeValue 59 = .ok (.getfield 63, 3) := by decide +kernel
theorem dd_M_writeValue_62 : decode mb_M_writeValue 62 = .ok (.ifCond .le 59, 3) := by decide +kernel
theorem dd_M_writeValue_65 : decode mb_M_writeValue 65 = .ok (.iload_n 3, 1) := by decide +kernel
theorem dd_M_writeValue_66 : decode mb_M_writeValue 66 = .ok (.aload_n 0, 1) := by decide +kernel
theorem dd_M_writeValue_67 : decode mb_M_writeValue 67 = .ok (.getfield 66, 3) := by decide +kernel
theorem dd_M_writeValue_70 : decode mb_M_writeValue 70 = .ok (.if_icmp .lt 51, 3) := by decide +kernel
theorem dd_M_writeValue_73 : decode mb_M_writeValue 73 = .ok (.iload 4, 2) := by decide +kernel
theorem dd_M_writeValue_75 : decode mb_M_writeValue 75 = .ok (.bipush 64, 2) := by decide +kernel
theorem dd_M_writeValue_77 : decode mb_M_writeValue 77 = .ok (.aload_n 0, 1) := by decide +kernel
theorem dd_M_writeValue_78 : decode mb_M_writeValue 78 = .ok (.getfield 66, 3) := by decide +kernel
theorem dd_M_writeValue_81 : decode mb_M_writeValue 81 = .ok (.isub, 1) := by decide +kernel
theorem dd_M_writeValue_82 : decode mb_M_writeValue 82 = .ok (.aload_n 0, 1) := by decide +kernel
theorem dd_M_writeValue_83 : decode mb_M_writeValue 83 = .ok (.getfield 63, 3) := by decide +kernel
theorem dd_M_writeValue_86 : decode mb_M_writeValue 86 = .ok (.isub, 1) := by decide +kernel
theorem dd_M_writeValue_87 : decode mb_M_writeValue 87 = .ok (.if_icmp .lt 34, 3) := by decide +kernel
theorem dd_M_writeValue_90 : decode mb_M_writeValue 90 = .ok (.aload_n 0, 1) := by decide +kernel
theorem dd_M_writeValue_91 : decode mb_M_writeValue 91 = .ok (.ldc2_w 47, 3) := by decide +kernel
theorem dd_M_writeValue_94 : decode mb_M_writeValue 94 = .ok (.iconst 2, 1) := by decide +kernel
theorem dd_M_writeValue_95 : decode mb_M_writeValue 95 = .ok (.invokevirtual 39, 3) := by decide +kernel
theorem dd_M_writeValue_98 : decode mb_M_writeValue 98 = .ok (.aload_n 0, 1) := by decide +kernel
theorem dd_M_writeValue_99 : decode mb_M_writeValue 99 = .ok (.lload_n 1, 1) := by decide +kernel
theorem dd_M_writeValue_100 : decode mb_M_writeValue 100 = .ok (.bipush 64, 2) := by decide +kernel
theorem dd_M_writeValue_102 : decode mb_M_writeValue 102 = .ok (.aload_n 0, 1) := by decide +kernel
theorem dd_M_writeValue_103 : decode mb_M_writeValue 103 = .ok (.getfield 66, 3) := by decide +kernel
theorem dd_M_writeValue_106 : decode mb_M_writeValue 106 = .ok (.isub, 1) := by decide +kernel
theorem dd_M_writeValue_107 : decode mb_M_writeValue 107 = .ok (.aload_n 0, 1) := by decide +kernel
theorem dd_M_writeValue_108 : decode mb_M_writeValue 108 = .ok (.getfield 63, 3) := by decide +kernel
theorem dd_M_writeValue_111 : decode mb_M_writeValue 111 = .ok (.isub, 1) := by decide +kernel
theorem dd_M_writeValue_112 : decode mb_M_writeValue 112 = .ok (.lushr, 1) := by decide +kernel
theorem dd_M_writeValue_113 : decode mb_M_writeValue 113 = .ok (.aload_n 0, 1) := by decide +kernel
theorem dd_M_writeValue_114 : decode mb_M_writeValue 114 = .ok (.getfield 63, 3) := by decide +kernel
theorem dd_M_writeValue_117 : decode mb_M_writeValue 117 = .ok (.invokevirtual 39, 3) := by decide +kernel
theorem dd_M_writeValue_120 : decode mb_M_writeValue 120 = .ok (.return_, 1) := by decide +kernel
theorem dd_M_writeValue_121 : decode mb_M_writeValue 121 = .ok (.bipush 64, 2) := by decide +kernel
theorem dd_M_writeValue_123 : decode mb_M_writeValue 123 = .ok (.iload_n 3, 1) := by decide +kernel
theorem dd_M_writeValue_124 : decode mb_M_writeValue 124 = .ok (.isub, 1) := by decide +kernel
theorem dd_M_writeValue_125 : decode mb_M_writeValue 125 = .ok (.iload 4, 2) := by decide +kernel
theorem dd_M_writeValue_127 : decode mb_M_writeValue 127 = .ok (.isub, 1) := by decide +kernel
theorem dd_M_writeValue_128 : decode mb_M_writeValue 128 = .ok (.istore 5, 2) := by decide +kernel
theorem dd_M_writeValue_130 : decode mb_M_writeValue 130 = .ok (.aload_n 0, 1) := by decide +kernel
theorem dd_M_writeValue_131 : decode mb_M_writeValue 131 = .ok (.ldc2_w 69, 3) := by decide +kernel
theorem dd_M_writeValue_134 : decode mb_M_writeValue 134 = .ok (.iconst 2, 1) := by decide +kernel
theorem dd_M_writeValue_135 : decode mb_M_writeValue 135 = .ok (.invokevirtual 39, 3) := by decide +kernel
theorem dd_M_writeValue_138 : decode mb_M_writeValue 138 = .ok (.aload_n 0, 1) := by decide +kernel
theorem dd_M_writeValue_139 : decode mb_M_writeValue 139 = .ok (.iload_n 3, 1) := by decide +kernel
theorem dd_M_writeValue_140 : decode mb_M_writeValue 140 = .ok (.i2l, 1) := by decide +kernel
theorem dd_M_writeValue_141 : decode mb_M_writeValue 141 = .ok (.iconst 5, 1) := by decide +kernel
theorem dd_M_writeValue_142 : decode mb_M_writeValue 142 = .ok (.invokevirtual 39, 3) := by decide +kernel
theorem dd_M_writeValue_145 : decode mb_M_writeValue 145 = .ok (.aload_n 0, 1) := by decide +kernel
theorem dd_M_writeValue_146 : decode mb_M_writeValue 146 = .ok (.iload 5, 2) := by decide +kernel
theorem dd_M_writeValue_148 : decode mb_M_writeValue 148 = .ok (.i2l, 1) := by decide +kernel
theorem dd_M_writeValue_149 : decode mb_M_writeValue 149 = .ok (.lconst 1, 1) := by decide +kernel
theorem dd_M_writeValue_150 : decode mb_M_writeValue 150 = .ok (.lsub, 1) := by decide +kernel
theorem dd_M_writeValue_151 : decode mb_M_writeValue 151 = .ok (.bipush 6, 2) := by decide +kernel
theorem dd_M_writeValue_153 : decode mb_M_writeValue 153 = .ok (.invokevirtual 39, 3) := by decide +kernel
theorem dd_M_writeValue_156 : decode mb_M_writeValue 156 = .ok (.aload_n 0, 1) := by decide +kernel
theorem dd_M_writeValue_157 : decode mb_M_writeValue 157 = .ok (.lload_n 1, 1) := by decide +kernel
theorem dd_M_writeValue_158 : decode mb_M_writeValue 158 = .ok (.iload 4, 2) := by decide +kernel
theorem dd_M_writeValue_160 : decode mb_M_writeValue 160 = .ok (.lushr, 1) := by decide +kernel
theorem dd_M_writeValue_161 : decode mb_M_writeValue 161 = .ok (.iload 5, 2) := by decide +kernel
theorem dd_M_writeValue_163 : decode mb_M_writeValue 163 = .ok (.invokevirtual 39, 3) := by decide +kernel
theorem dd_M_writeValue_166 : decode mb_M_writeValue 166 = .ok (.aload_n 0, 1) := by decide +kernel
theorem dd_M_writeValue_167 : decode mb_M_writeValue 167 = .ok (.iload_n 3, 1) := by decide +kernel
theorem dd_M_writeValue_168 : decode mb_M_writeValue 168 = .ok (.putfield 66, 3) := by decide +kernel
theorem dd_M_writeValue_171 : decode mb_M_writeValue 171 = .ok (.aload_n 0, 1) := by decide +kernel
theorem dd_M_writeValue_172 : decode mb_M_writeValue 172 = .ok (.iload 5, 2) := by decide +kernel
theorem dd_M_writeValue_174 : decode mb_M_writeValue 174 = .ok (.putfield 63, 3) := by decide +kernel
theorem dd_M_writeValue_177 : decode mb_M_writeValue 177 = .ok (.return_, 1) := by decide +kernel
theorem dd_M_unpack_0 : decode mb_M_unpack 0 = .ok (.aload_n 0, 1) := by decide +kernel
theorem dd_M_unpack_1 : decode mb_M_unpack 1 = .ok (.iload_n 1, 1) := by decide +kernel
theorem dd_M_unpack_2 : decode mb_M_unpack 2 = .ok (.ifCond .lt 10, 3) := by decide +kernel
theorem dd_M_unpack_5 : decode mb_M_unpack 5 = .ok (.iload_n 1, 1) := by decide +kernel
theorem dd_M_unpack_6 : decode mb_M_unpack 6 = .ok (.sipush 3000, 3) := by decide +kernel
theorem dd_M_unpack_9 : decode mb_M_unpack 9 = .ok (.if_icmp .le 7, 3) := by decide +kernel
theorem dd_M_unpack_12 : decode mb_M_unpack 12 = .ok (.iconst 1, 1) := by decide +kernel
theorem dd_M_unpack_13 : decode mb_M_unpack 13 = .ok (.goto 4, 3) := by decide +kernel
theorem dd_M_unpack_16 : decode mb_M_unpack 16 = .ok (.iconst 0, 1) := by decide +kernel
theorem dd_M_unpack_17 : decode mb_M_unpack 17 = .ok (.putfield 27, 3) := by decide +kernel
theorem dd_M_unpack_20 : decode mb_M_unpack 20 = .ok (.aload_n 0, 1) := by decide +kernel
theorem dd_M_unpack_21 : decode mb_M_unpack 21 = .ok (.getfield 27, 3) := by decide +kernel
theorem dd_M_unpack_24 : decode mb_M_unpack 24 = .ok (.ifCond .le 5, 3) := by decide +kernel
theorem dd_M_unpack_27 : decode mb_M_unpack 27 = .ok (.iconst 0, 1) := by decide +kernel
theorem dd_M_unpack_28 : decode mb_M_unpack 28 = .ok (.ireturn, 1) := by decide +kernel
theorem dd_M_unpack_29 : decode mb_M_unpack 29 = .ok (.aload_n 0, 1) := by decide +kernel
theorem dd_M_unpack_30 : decode mb_M_unpack 30 = .ok (.iconst 0, 1) := by decide +kernel
theorem dd_M_unpack_31 : decode mb_M_unpack 31 = .ok (.putfield 82, 3) := by decide +kernel
theorem dd_M_unpack_34 : decode mb_M_unpack 34 = .ok (.aload_n 0, 1) := by decide +kernel
theorem dd_M_unpack_35 : decode mb_M_unpack 35 = .ok (.iconst 0, 1) := by decide +kernel
theorem dd_M_unpack_36 : decode mb_M_unpack 36 = .ok (.putfield 78, 3) := by decide +kernel
theorem dd_M_unpack_39 : decode mb_M_unpack 39 = .ok (.aload_n 0, 1) := by decide +kernel
theorem dd_M_unpack_40 : decode mb_M_unpack 40 = .ok (.iconst 0, 1) := by decide +kernel
theorem dd_M_unpack_41 : decode mb_M_unpack 41 = .ok (.putfield 63, 3) := by decide +kernel
theorem dd_M_unpack_44 : decode mb_M_unpack 44 = .ok (.lconst 0, 1) := by decide +kernel
theorem dd_M_unpack_45 : decode mb_M_unpack 45 = .ok (.lstore_n 2, 1) := by decide +kernel
theorem dd_M_unpack_46 : decode mb_M_unpack 46 = .ok (.iconst 0, 1) := by decide +kernel
theorem dd_M_unpack_47 : decode mb_M_unpack 47 = .ok (.istore 4, 2) := by decide +kernel
theorem dd_M_unpack_49 : decode mb_M_unpack 49 = .ok (.iload 4, 2) := by decide +kernel
theorem dd_M_unpack_51 : decode mb_M_unpack 51 = .ok (.iload_n 1, 1) := by decide +kernel
theorem dd_M_unpack_52 : decode mb_M_unpack 52 = .ok (.if_icmp .ge 141, 3) := by decide +kernel
theorem dd_M_unpack_55 : decode mb_M_unpack 55 = .ok (.aload_n 0, 1) := by decide +kernel
theorem dd_M_unpack_56 : decode mb_M_unpack 56 = .ok (.getfield 78, 3) := by decide +kernel
theorem dd_M_unpack_59 : decode mb_M_unpack 59 = .ok (.ifCond .ne 134, 3) := by decide +kernel
theorem dd_M_unpack_62 : decode mb_M_unpack 62 = .ok (.iload 4, 2) := by decide +kernel
theorem dd_M_unpack_64 : decode mb_M_unpack 64 = .ok (.ifCond .ne 30, 3) := by decide +kernel
theorem dd_M_unpack_67 : decode mb_M_unpack 67 = .ok (.aload_n 0, 1) := by decide +kernel
theorem dd_M_unpack_68 : decode mb_M_unpack 68 = .ok (.getfield 21, 3) := by decide +kernel
theorem dd_M_unpack_71 : decode mb_M_unpack 71 = .ok (.iconst 0, 1) := by decide +kernel
theorem dd_M_unpack_72 : decode mb_M_unpack 72 = .ok (.aload_n 0, 1) := by decide +kernel
theorem dd_M_unpack_73 : decode mb_M_unpack 73 = .ok (.bipush 40, 2) := by decide +kernel
theorem dd_M_unpack_75 : decode mb_M_unpack 75 = .ok (.invokevirtual 85, 3) := by decide +kernel
theorem dd_M_unpack_78 : decode mb_M_unpack 78 = .ok (.lastore, 1) := by decide +kernel
theorem dd_M_unpack_79 : decode mb_M_unpack 79 = .ok (.aload_n 0, 1) := by decide +kernel
theorem dd_M_unpack_80 : decode mb_M_unpack 80 = .ok (.getfield 24, 3) := by decide +kernel
theorem dd_M_unpack_83 : decode mb_M_unpack 83 = .ok (.iconst 0, 1) := by decide +kernel
theorem dd_M_unpack_84 : decode mb_M_unpack 84 = .ok (.aload_n 0, 1) := by decide +kernel
theorem dd_M_unpack_85 : decode mb_M_unpack 85 = .ok (.bipush 64, 2) := by decide +kernel
theorem dd_M_unpack_87 : decode mb_M_unpack 87 = .ok (.invokevirtual 85, 3) := by decide +kernel
theorem dd_M_unpack_90 : decode mb_M_unpack 90 = .ok (.lastore, 1) := by decide +kernel
theorem dd_M_unpack_91 : decode mb_M_unpack 91 = .ok (.goto 96, 3) := by decide +kernel
theorem dd_M_unpack_94 : decode mb_M_unpack 94 = .ok (.lload_n 2, 1) := by decide +kernel
theorem dd_M_unpack_95 : decode mb_M_unpack 95 = .ok (.aload_n 0, 1) := by decide +kernel
theorem dd_M_unpack_96 : decode mb_M_unpack 96 = .ok (.invokevirtual 92, 3) := by decide +kernel
theorem dd_M_unpack_99 : decode mb_M_unpack 99 = .ok (.ladd, 1) := by decide +kernel
theorem dd_M_unpack_100 : decode mb_M_unpack 100 = .ok (.lstore_n 2, 1) := by decide +kernel
theorem dd_M_unpack_101 : decode mb_M_unpack 101 = .ok (.aload_n 0, 1) := by decide +kernel
theorem dd_M_unpack_102 : decode mb_M_unpack 102 = .ok (.getfield 21, 3) := by decide +kernel
theorem dd_M_unpack_105 : decode mb_M_unpack 105 = .ok (.iload 4, 2) := by decide +kernel
theorem dd_M_unpack_107 : decode mb_M_unpack 107 = .ok (.aload_n 0, 1) := by decide +kernel
theorem dd_M_unpack_108 : decode mb_M_unpack 108 = .ok (.getfield 21, 3) := by decide +kernel
theorem dd_M_unpack_111 : decode mb_M_unpack 111 = .ok (.iload 4, 2) := by decide +kernel
theorem dd_M_unpack_113 : decode mb_M_unpack 113 = .ok (.iconst 1, 1) := by decide +kernel
theorem dd_M_unpack_114 : decode mb_M_unpack 114 = .ok (.isub, 1) := by decide +kernel
theorem dd_M_unpack_115 : decode mb_M_unpack 115 = .ok (.laload, 1) := by decide +kernel
theorem dd_M_unpack_116 : decode mb_M_unpack 116 = .ok (.lload_n 2, 1) := by decide +kernel
theorem dd_M_unpack_117 : decode mb_M_unpack 117 = .ok (.ladd, 1) := by decide +kernel
theorem dd_M_unpack_118 : decode mb_M_unpack 118 = .ok (.lastore, 1) := by decide +kernel
theorem dd_M_unpack_119 : decode mb_M_unpack 119 = .ok (.aload_n 0, 1) := by decide +kernel
theorem dd_M_unpack_120 : decode mb_M_unpack 120 = .ok (.aload_n 0, 1) := by decide +kernel
theorem dd_M_unpack_121 : decode mb_M_unpack 121 = .ok (.getfield 78, 3) := by decide +kernel
theorem dd_M_unpack_124 : decode mb_M_unpack 124 = .ok (.ifCond .ne 23, 3) := by decide +kernel
theorem dd_M_unpack_127 : decode mb_M_unpack 127 = .ok (.lload_n 2, 1) := by decide +kernel
theorem dd_M_unpack_128 : decode mb_M_unpack 128 = .ok (.lconst 1, 1) := by decide +kernel
theorem dd_M_unpack_129 : decode mb_M_unpack 129 = .ok (.lcmp, 1) := by decide +kernel
theorem dd_M_unpack_130 : decode mb_M_unpack 130 = .ok (.ifCond .lt 17, 3) := by decide +kernel
theorem dd_M_unpack_133 : decode mb_M_unpack 133 = .ok (.aload_n 0, 1) := by decide +kernel
theorem dd_M_unpack_134 : decode mb_M_unpack 134 = .ok (.getfield 21, 3) := by decide +kernel
theorem dd_M_unpack_137 : decode mb_M_unpack 137 = .ok (.iload 4, 2) := by decide +kernel
theorem dd_M_unpack_139 : decode mb_M_unpack 139 = .ok (.laload, 1) := by decide +kernel
theorem dd_M_unpack_140 : decode mb_M_unpack 140 = .ok (.ldc2_w 31, 3) := by decide +kernel
theorem dd_M_unpack_143 : decode mb_M_unpack 143 = .ok (.lcmp, 1) := by decide +kernel
theorem dd_M_unpack_144 : decode mb_M_unpack 144 = .ok (.ifCond .le 7, 3) := by decide +kernel
theorem dd_M_unpack_147 : decode mb_M_unpack 147 = .ok (.iconst 1, 1) := by decide +kernel
theorem dd_M_unpack_148 : decode mb_M_unpack 148 = .ok (.goto 4, 3) := by decide +kernel
theorem dd_M_unpack_151 : decode mb_M_unpack 151 = .ok (.iconst 0, 1) := by decide +kernel
theorem dd_M_unpack_152 : decode mb_M_unpack 152 = .ok (.putfield 78, 3) := by decide +kernel
theorem dd_M_unpack_155 : decode mb_M_unpack 155 = .ok (.aload_n 0, 1) := by decide +kernel
theorem dd_M_unpack_156 : decode mb_M_unpack 156 = .ok (.getfield 24, 3) := by decide +kernel
theorem dd_M_unpack_159 : decode mb_M_unpack 159 = .ok (.iload 4, 2) := by decide +kernel
theorem dd_M_unpack_161 : decode mb_M_unpack 161 = .ok (.aload_n 0, 1) := by decide +kernel
theorem dd_M_unpack_162 : decode mb_M_unpack 162 = .ok (.getfield 24, 3) := by decide +kernel
theorem dd_M_unpack_165 : decode mb_M_unpack 165 = .ok (.iload 4, 2) := by decide +kernel
theorem dd_M_unpack_167 : decode mb_M_unpack 167 = .ok (.iconst 1, 1) := by decide +kernel
theorem dd_M_unpack_168 : decode mb_M_unpack 168 = .ok (.isub, 1) := by decide +kernel
theorem dd_M_unpack_169 : decode mb_M_unpack 169 = .ok (.laload, 1) := by decide +kernel
theorem dd_M_unpack_170 : decode mb_M_unpack 170 = .ok (.aload_n 0, 1) := by decide +kernel
theorem dd_M_unpack_171 : decode mb_M_unpack 171 = .ok (.getfield 78, 3) := by decide +kernel
theorem dd_M_unpack_174 : decode mb_M_unpack 174 = .ok (.ifCond .eq 7, 3) := by decide +kernel
theorem dd_M_unpack_177 : decode mb_M_unpack 177 = .ok (.lconst 0, 1) := by decide +kernel
theorem dd_M_unpack_178 : decode mb_M_unpack 178 = .ok (.goto 7, 3) := by decide +kernel
theorem dd_M_unpack_181 : decode mb_M_unpack 181 = .ok (.aload_n 0, 1) := by decide +kernel
theorem dd_M_unpack_182 : decode mb_M_unpack 182 = .ok (.invokevirtual 96, 3) := by decide +kernel
theorem dd_M_unpack_185 : decode mb_M_unpack 185 = .ok (.lxor, 1) := by decide +kernel
theorem dd_M_unpack_186 : decode mb_M_unpack 186 = .ok (.lastore, 1) := by decide +kernel
theorem dd_M_unpack_187 : decode mb_M_unpack 187 = .ok (.iinc 4 1, 3) := by decide +kernel
theorem dd_M_unpack_190 : decode mb_M_unpack 190 = .ok (.goto (-141), 3) := by decide +kernel
theorem dd_M_unpack_193 : decode mb_M_unpack 193 = .ok (.aload_n 0, 1) := by decide +kernel
theorem dd_M_unpack_194 : decode mb_M_unpack 194 = .ok (.aload_n 0, 1) := by decide +kernel
theorem dd_M_unpack_195 : decode mb_M_unpack 195 = .ok (.getfield 82, 3) := by decide +kernel
theorem dd_M_unpack_198 : decode mb_M_unpack 198 = .ok (.putfield 99, 3) := by decide +kernel
theorem dd_M_unpack_201 : decode mb_M_unpack 201 = .ok (.aload_n 0, 1) := by decide +kernel
theorem dd_M_unpack_202 : decode mb_M_unpack 202 = .ok (.getfield 78, 3) := by decide +kernel
theorem dd_M_unpack_205 : decode mb_M_unpack 205 = .ok (.ifCond .eq 5, 3) := by decide +kernel
theorem dd_M_unpack_208 : decode mb_M_unpack 208 = .ok (.iconst (-1), 1) := by decide +kernel
theorem dd_M_unpack_209 : decode mb_M_unpack 209 = .ok (.ireturn, 1) := by decide +kernel
theorem dd_M_unpack_210 : decode mb_M_unpack 210 = .ok (.iconst 0, 1) := by decide +kernel
theorem dd_M_unpack_211 : decode mb_M_unpack 211 = .ok (.istore 4, 2) := by decide +kernel
theorem dd_M_unpack_213 : decode mb_M_unpack 213 = .ok (.iload 4, 2) := by decide +kernel
theorem dd_M_unpack_215 : decode mb_M_unpack 215 = .ok (.iload_n 1, 1) := by decide +kernel
theorem dd_M_unpack_216 : decode mb_M_unpack 216 = .ok (.if_icmp .ge 37, 3) := by decide +kernel
theorem dd_M_unpack_219 : decode mb_M_unpack 219 = .ok (.aload_n 0, 1) := by decide +kernel
theorem dd_M_unpack_220 : decode mb_M_unpack 220 = .ok (.getfield 7, 3) := by decide +kernel
theorem dd_M_unpack_223 : decode mb_M_unpack 223 = .ok (.iload 4, 2) := by decide +kernel
theorem dd_M_unpack_225 : decode mb_M_unpack 225 = .ok (.aload_n 0, 1) := by decide +kernel
theorem dd_M_unpack_226 : decode mb_M_unpack 226 = .ok (.getfield 21, 3) := by decide +kernel
theorem dd_M_unpack_229 : decode mb_M_unpack 229 = .ok (.iload 4, 2) := by decide +kernel
theorem dd_M_unpack_231 : decode mb_M_unpack 231 = .ok (.laload, 1) := by decide +kernel
theorem dd_M_unpack_232 : decode mb_M_unpack 232 = .ok (.lastore, 1) := by decide +kernel
theorem dd_M_unpack_233 : decode mb_M_unpack 233 = .ok (.aload_n 0, 1) := by decide +kernel
theorem dd_M_unpack_234 : decode mb_M_unpack 234 = .ok (.getfield 13, 3) := by decide +kernel
theorem dd_M_unpack_237 : decode mb_M_unpack 237 = .ok (.iload 4, 2) := by decide +kernel
theorem dd_M_unpack_239 : decode mb_M_unpack 239 = .ok (.aload_n 0, 1) := by decide +kernel
theorem dd_M_unpack_240 : decode mb_M_unpack 240 = .ok (.getfield 24, 3) := by decide +kernel
theorem dd_M_unpack_243 : decode mb_M_unpack 243 = .ok (.iload 4, 2) := by decide +kernel
theorem dd_M_unpack_245 : decode mb_M_unpack 245 = .ok (.laload, 1) := by decide +kernel
theorem dd_M_unpack_246 : decode mb_M_unpack 246 = .ok (.lastore, 1) := by decide +kernel
theorem dd_M_unpack_247 : decode mb_M_unpack 247 = .ok (.iinc 4 1, 3) := by decide +kernel
theorem dd_M_unpack_250 : decode mb_M_unpack 250 = .ok (.goto (-37), 3) := by decide +kernel
theorem dd_M_unpack_253 : decode mb_M_unpack 253 = .ok (.aload_n 0, 1) := by decide +kernel
theorem dd_M_unpack_254 : decode mb_M_unpack 254 = .ok (.iload_n 1, 1) := by decide +kernel
theorem dd_M_unpack_255 : decode mb_M_unpack 255 = .ok (.putfield 33, 3) := by decide +kernel
theorem dd_M_unpack_258 : decode mb_M_unpack 258 = .ok (.aload_n 0, 1) := by decide +kernel
theorem dd_M_unpack_259 : decode mb_M_unpack 259 = .ok (.getfield 82, 3) := by decide +kernel
theorem dd_M_unpack_262 : decode mb_M_unpack 262 = .ok (.ireturn, 1) := by decide +kernel
theorem dd_M_read_0 : decode mb_M_read 0 = .ok (.aload_n 0, 1) := by decide +kernel
theorem dd_M_read_1 : decode mb_M_read 1 = .ok (.getfield 78, 3) := by decide +kernel
theorem dd_M_read_4 : decode mb_M_read 4 = .ok (.ifCond .ne 16, 3) := by decide +kernel
theorem dd_M_read_7 : decode mb_M_read 7 = .ok (.aload_n 0, 1) := by decide +kernel
theorem dd_M_read_8 : decode mb_M_read 8 = .ok (.getfield 82, 3) := by decide +kernel
theorem dd_M_read_11 : decode mb_M_read 11 = .ok (.iload_n 1, 1) := by decide +kernel
theorem dd_M_read_12 : decode mb_M_read 12 = .ok (.iadd, 1) := by decide +kernel
theorem dd_M_read_13 : decode mb_M_read 13 = .ok (.aload_n 0, 1) := by decide +kernel
theorem dd_M_read_14 : decode mb_M_read 14 = .ok (.getfield 36, 3) := by decide +kernel
theorem dd_M_read_17 : decode mb_M_read 17 = .ok (.if_icmp .le 10, 3) := by decide +kernel
theorem dd_M_read_20 : decode mb_M_read 20 = .ok (.aload_n 0, 1) := by decide +kernel
theorem dd_M_read_21 : decode mb_M_read 21 = .ok (.iconst 1, 1) := by decide +kernel
theorem dd_M_read_22 : decode mb_M_read 22 = .ok (.putfield 78, 3) := by decide +kernel
theorem dd_M_read_25 : decode mb_M_read 25 = .ok (.lconst 0, 1) := by decide +kernel
theorem dd_M_read_26 : decode mb_M_read 26 = .ok (.lreturn, 1) := by decide +kernel
theorem dd_M_read_27 : decode mb_M_read 27 = .ok (.lconst 0, 1) := by decide +kernel
theorem dd_M_read_28 : decode mb_M_read 28 = .ok (.lstore_n 2, 1) := by decide +kernel
theorem dd_M_read_29 : decode mb_M_read 29 = .ok (.iconst 0, 1) := by decide +kernel
theorem dd_M_read_30 : decode mb_M_read 30 = .ok (.istore 4, 2) := by decide +kernel
theorem dd_M_read_32 : decode mb_M_read 32 = .ok (.iload 4, 2) := by decide +kernel
theorem dd_M_read_34 : decode mb_M_read 34 = .ok (.iload_n 1, 1) := by decide +kernel
theorem dd_M_read_35 : decode mb_M_read 35 = .ok (.if_icmp .ge 34, 3) := by decide +kernel
theorem dd_M_read_38 : decode mb_M_read 38 = .ok (.lload_n 2, 1) := by decide +kernel
theorem dd_M_read_39 : decode mb_M_read 39 = .ok (.iconst 1, 1) := by decide +kernel
theorem dd_M_read_40 : decode mb_M_read 40 = .ok (.lshl, 1) := by decide +kernel
theorem dd_M_read_41 : decode mb_M_read 41 = .ok (.aload_n 0, 1) := by decide +kernel
theorem dd_M_read_42 : decode mb_M_read 42 = .ok (.getfield 17, 3) := by decide +kernel
theorem dd_M_read_45 : decode mb_M_read 45 = .ok (.aload_n 0, 1) := by decide +kernel
theorem dd_M_read_46 : decode mb_M_read 46 = .ok (.getfield 82, 3) := by decide +kernel
theorem dd_M_read_49 : decode mb_M_read 49 = .ok (.baload, 1) := by decide +kernel
theorem dd_M_read_50 : decode mb_M_read 50 = .ok (.i2l, 1) := by decide +kernel
theorem dd_M_read_51 : decode mb_M_read 51 = .ok (.lor, 1) := by decide +kernel
theorem dd_M_read_52 : decode mb_M_read 52 = .ok (.lstore_n 2, 1) := by decide +kernel
theorem dd_M_read_53 : decode mb_M_read 53 = .ok (.aload_n 0, 1) := by decide +kernel
theorem dd_M_read_54 : decode mb_M_read 54 = .ok (.dup, 1) := by decide +kernel
theorem dd_M_read_55 : decode mb_M_read 55 = .ok (.getfield 82, 3) := by decide +kernel
theorem dd_M_read_58 : decode mb_M_read 58 = .ok (.iconst 1, 1) := by decide +kernel
theorem dd_M_read_59 : decode mb_M_read 59 = .ok (.iadd, 1) := by decide +kernel
theorem dd_M_read_60 : decode mb_M_read 60 = .ok (.putfield 82, 3) := by decide +kernel
theorem dd_M_read_63 : decode mb_M_read 63 = .ok (.iinc 4 1, 3) := by decide +kernel
theorem dd_M_read_66 : decode mb_M_read 66 = .ok (.goto (-34), 3) := by decide +kernel
theorem dd_M_read_69 : decode mb_M_read 69 = .ok (.lload_n 2, 1) := by decide +kernel
theorem dd_M_read_70 : decode mb_M_read 70 = .ok (.lreturn, 1) := by decide +kernel
theorem dd_M_readTurn_0 : decode mb_M_readTurn 0 = .ok (.aload_n 0, 1) := by decide +kernel
theorem dd_M_readTurn_1 : decode mb_M_readTurn 1 = .ok (.iconst 1, 1) := by decide +kernel
theorem dd_M_readTurn_2 : decode mb_M_readTurn 2 = .ok (.invokevirtual 85, 3) := by decide +kernel
theorem dd_M_readTurn_5 : decode mb_M_readTurn 5 = .ok (.lconst 0, 1) := by decide +kernel
theorem dd_M_readTurn_6 : decode mb_M_readTurn 6 = .ok (.lcmp, 1) := by decide +kernel
theorem dd_M_readTurn_7 : decode mb_M_readTurn 7 = .ok (.ifCond .ne 5, 3) := by decide +kernel
theorem dd_M_readTurn_10 : decode mb_M_readTurn 10 = .ok (.lconst 0, 1) := by decide +kernel
theorem dd_M_readTurn_11 : decode mb_M_readTurn 11 = .ok (.lreturn, 1) := by decide +kernel
theorem dd_M_readTurn_12 : decode mb_M_readTurn 12 = .ok (.aload_n 0, 1) := by decide +kernel
theorem dd_M_readTurn_13 : decode mb_M_readTurn 13 = .ok (.iconst 1, 1) := by decide +kernel
theorem dd_M_readTurn_14 : decode mb_M_readTurn 14 = .ok (.invokevirtual 85, 3) := by decide +kernel
theorem dd_M_readTurn_17 : decode mb_M_readTurn 17 = .ok (.lconst 0, 1) := by decide +kernel
theorem dd_M_readTurn_18 : decode mb_M_readTurn 18 = .ok (.lcmp, 1) := by decide +kernel
theorem dd_M_readTurn_19 : decode mb_M_readTurn 19 = .ok (.ifCond .ne 10, 3) := by decide +kernel
theorem dd_M_readTurn_22 : decode mb_M_readTurn 22 = .ok (.aload_n 0, 1) := by decide +kernel
theorem dd_M_readTurn_23 : decode mb_M_readTurn 23 = .ok (.bipush 7, 2) := by decide +kernel
theorem dd_M_readTurn_25 : decode mb_M_readTurn 25 = .ok (.invokevirtual 89, 3) := by decide +kernel
theorem dd_M_readTurn_28 : decode mb_M_readTurn 28 = .ok (.lreturn, 1) := by decide +kernel
theorem dd_M_readTurn_29 : decode mb_M_readTurn 29 = .ok (.aload_n 0, 1) := by decide +kernel
theorem dd_M_readTurn_30 : decode mb_M_readTurn 30 = .ok (.iconst 1, 1) := by decide +kernel
theorem dd_M_readTurn_31 : decode mb_M_readTurn 31 = .ok (.invokevirtual 85, 3) := by decide +kernel
theorem dd_M_readTurn_34 : decode mb_M_readTurn 34 = .ok (.lconst 0, 1) := by decide +kernel
theorem dd_M_readTurn_35 : decode mb_M_readTurn 35 = .ok (.lcmp, 1) := by decide +kernel
theorem dd_M_readTurn_36 : decode mb_M_readTurn 36 = .ok (.ifCond .ne 10, 3) := by decide +kernel
theorem dd_M_readTurn_39 : decode mb_M_readTurn 39 = .ok (.aload_n 0, 1) := by decide +kernel
theorem dd_M_readTurn_40 : decode mb_M_readTurn 40 = .ok (.bipush 10, 2) := by decide +kernel
theorem dd_M_readTurn_42 : decode mb_M_readTurn 42 = .ok (.invokevirtual 89, 3) := by decide +kernel
theorem dd_M_readTurn_45 : decode mb_M_readTurn 45 = .ok (.lreturn, 1) := by decide +kernel
theorem dd_M_readTurn_46 : decode mb_M_readTurn 46 = .ok (.aload_n 0, 1) := by decide +kernel
theorem dd_M_readTurn_47 : decode mb_M_readTurn 47 = .ok (.iconst 1, 1) := by decide +kernel
theorem dd_M_readTurn_48 : decode mb_M_readTurn 48 = .ok (.invokevirtual 85, 3) := by decide +kernel
theorem dd_M_readTurn_51 : decode mb_M_readTurn 51 = .ok (.lconst 0, 1) := by decide +kernel
theorem dd_M_readTurn_52 : decode mb_M_readTurn 52 = .ok (.lcmp, 1) := by decide +kernel
theorem dd_M_readTurn_53 : decode mb_M_readTurn 53 = .ok (.ifCond .ne 12, 3) := by decide +kernel
theorem dd_M_readTurn_56 : decode mb_M_readTurn 56 = .ok (.aload_n 0, 1) := by decide +kernel
theorem dd_M_readTurn_57 : decode mb_M_readTurn 57 = .ok (.bipush 13, 2) := by decide +kernel
theorem dd_M_readTurn_59 : decode mb_M_readTurn 59 = .ok (.invokevirtual 89, 3) := by decide +kernel
theorem dd_M_readTurn_62 : decode mb_M_readTurn 62 = .ok (.goto 9, 3) := by decide +kernel
theorem dd_M_readTurn_65 : decode mb_M_readTurn 65 = .ok (.aload_n 0, 1) := by decide +kernel
theorem dd_M_readTurn_66 : decode mb_M_readTurn 66 = .ok (.bipush 41, 2) := by decide +kernel
theorem dd_M_readTurn_68 : decode mb_M_readTurn 68 = .ok (.invokevirtual 89, 3) := by decide +kernel
theorem dd_M_readTurn_71 : decode mb_M_readTurn 71 = .ok (.lreturn, 1) := by decide +kernel
theorem dd_M_readSigned_0 : decode mb_M_readSigned 0 = .ok (.aload_n 0, 1) := by decide +kernel
theorem dd_M_readSigned_1 : decode mb_M_readSigned 1 = .ok (.iload_n 1, 1) := by decide +kernel
theorem dd_M_readSigned_2 : decode mb_M_readSigned 2 = .ok (.invokevirtual 85, 3) := by decide +kernel
theorem dd_M_readSigned_5 : decode mb_M_readSigned 5 = .ok (.lstore_n 2, 1) := by decide +kernel
theorem dd_M_readSigned_6 : decode mb_M_readSigned 6 = .ok (.lload_n 2, 1) := by decide +kernel
theorem dd_M_readSigned_7 : decode mb_M_readSigned 7 = .ok (.iload_n 1, 1) := by decide +kernel
theorem dd_M_readSigned_8 : decode mb_M_readSigned 8 = .ok (.iconst 1, 1) := by decide +kernel
theorem dd_M_readSigned_9 : decode mb_M_readSigned 9 = .ok (.isub, 1) := by decide +kernel
theorem dd_M_readSigned_10 : decode mb_M_readSigned 10 = .ok (.lshr, 1) := by decide +kernel
theorem dd_M_readSigned_11 : decode mb_M_readSigned 11 = .ok (.lconst 1, 1) := by decide +kernel
theorem dd_M_readSigned_12 : decode mb_M_readSigned 12 = .ok (.lcmp, 1) := by decide +kernel
theorem dd_M_readSigned_13 : decode mb_M_readSigned 13 = .ok (.ifCond .ne 11, 3) := by decide +kernel
theorem dd_M_readSigned_16 : decode mb_M_readSigned 16 = .ok (.lload_n 2, 1) := by decide +kernel
theorem dd_M_readSigned_17 : decode mb_M_readSigned 17 = .ok (.lconst 1, 1) := by decide +kernel
theorem dd_M_readSigned_18 : decode mb_M_readSigned 18 = .ok (.iload_n 1, 1) := by decide +kernel
theorem dd_M_readSigned_19 : decode mb_M_readSigned 19 = .ok (.lshl, 1) := by decide +kernel
theorem dd_M_readSigned_20 : decode mb_M_readSigned 20 = .ok (.lsub, 1) := by decide +kernel
theorem dd_M_readSigned_21 : decode mb_M_readSigned 21 = .ok (.goto 4, 3) := by decide +kernel
theorem dd_M_readSigned_24 : decode mb_M_readSigned 24 = .ok (.lload_n 2, 1) := by decide +kernel
theorem dd_M_readSigned_25 : decode mb_M_readSigned 25 = .ok (.lreturn, 1) := by decide +kernel
theorem dd_M_readValue_0 : decode mb_M_readValue 0 = .ok (.aload_n 0, 1) := by decide +kernel
theorem dd_M_readValue_1 : decode mb_M_readValue 1 = .ok (.iconst 1, 1) := by decide +kernel
theorem dd_M_readValue_2 : decode mb_M_readValue 2 = .ok (.invokevirtual 85, 3) := by decide +kernel
theorem dd_M_readValue_5 : decode mb_M_readValue 5 = .ok (.lconst 0, 1) := by decide +kernel
theorem dd_M_readValue_6 : decode mb_M_readValue 6 = .ok (.lcmp, 1) := by decide +kernel
theorem dd_M_readValue_7 : decode mb_M_readValue 7 = .ok (.ifCond .ne 5, 3) := by decide +kernel
theorem dd_M_readValue_10 : decode mb_M_readValue 10 = .ok (.lconst 0, 1) := by decide +kernel
theorem dd_M_readValue_11 : decode mb_M_readValue 11 = .ok (.lreturn, 1) := by decide +kernel
theorem dd_M_readValue_12 : decode mb_M_readValue 12 = .ok (.aload_n 0, 1) := by decide +kernel
theorem dd_M_readValue_13 : decode mb_M_readValue 13 = .ok (.iconst 1, 1) := by decide +kernel
theorem dd_M_readValue_14 : decode mb_M_readValue 14 = .ok (.invokevirtual 85, 3) := by decide +kernel
theorem dd_M_readValue_17 : decode mb_M_readValue 17 = .ok (.lconst 1, 1) := by decide +kernel
theorem dd_M_readValue_18 : decode mb_M_readValue 18 = .ok (.lcmp, 1) := by decide +kernel
theorem dd_M_readValue_19 : decode mb_M_readValue 19 = .ok (.ifCond .ne 54, 3) := by decide +kernel
theorem dd_M_readValue_22 : decode mb_M_readValue 22 = .ok (.aload_n 0, 1) := by decide +kernel
theorem dd_M_readValue_23 : decode mb_M_readValue 23 = .ok (.iconst 5, 1) := by decide +kernel
theorem dd_M_readValue_24 : decode mb_M_readValue 24 = .ok (.invokevirtual 85, 3) := by decide +kernel
theorem dd_M_readValue_27 : decode mb_M_readValue 27 = .ok (.l2i, 1) := by decide +kernel
theorem dd_M_readValue_28 : decode mb_M_readValue 28 = .ok (.istore_n 1, 1) := by decide +kernel
theorem dd_M_readValue_29 : decode mb_M_readValue 29 = .ok (.aload_n 0, 1) := by decide +kernel
theorem dd_M_readValue_30 : decode mb_M_readValue 30 = .ok (.bipush 6, 2) := by decide +kernel
theorem dd_M_readValue_32 : decode mb_M_readValue 32 = .ok (.invokevirtual 85, 3) := by decide +kernel
theorem dd_M_readValue_35 : decode mb_M_readValue 35 = .ok (.l2i, 1) := by decide +kernel
theorem dd_M_readValue_36 : decode mb_M_readValue 36 = .ok (.iconst 1, 1) := by decide +kernel
theorem dd_M_readValue_37 : decode mb_M_readValue 37 = .ok (.iadd, 1) := by decide +kernel
theorem dd_M_readValue_38 : decode mb_M_readValue 38 = .ok (.istore_n 2, 1) := by decide +kernel
theorem dd_M_readValue_39 : decode mb_M_readValue 39 = .ok (.aload_n 0, 1) := by decide +kernel
theorem dd_M_readValue_40 : decode mb_M_readValue 40 = .ok (.aload_n 0, 1) := by decide +kernel
theorem dd_M_readValue_41 : decode mb_M_readValue 41 = .ok (.getfield 78, 3) := by decide +kernel
theorem dd_M_readValue_44 : decode mb_M_readValue 44 = .ok (.ifCond .ne 11, 3) := by decide +kernel
theorem dd_M_readValue_47 : decode mb_M_readValue 47 = .ok (.iload_n 1, 1) := by decide +kernel
theorem dd_M_readValue_48 : decode mb_M_readValue 48 = .ok (.iload_n 2, 1) := by decide +kernel
theorem dd_M_readValue_49 : decode mb_M_readValue 49 = .ok (.iadd, 1) := by decide +kernel
theorem dd_M_readValue_50 : decode mb_M_readValue 50 = .ok (.bipush 64, 2) := by decide +kernel
theorem dd_M_readValue_52 : decode mb_M_readValue 52 = .ok (.if_icmp .le 7, 3) := by decide +kernel
theorem dd_M_readValue_55 : decode mb_M_readValue 55 = .ok (.iconst 1, 1) := by decide +kernel
theorem dd_M_readValue_56 : decode mb_M_readValue 56 = .ok (.goto 4, 3) := by decide +kernel
theorem dd_M_readValue_59 : decode mb_M_readValue 59 = .ok (.iconst 0, 1) := by decide +kernel
theorem dd_M_readValue_60 : decode mb_M_readValue 60 = .ok (.putfield 78, 3) := by decide +kernel
theorem dd_M_readValue_63 : decode mb_M_readValue 63 = .ok (.aload_n 0, 1) := by decide +kernel
theorem dd_M_readValue_64 : decode mb_M_readValue 64 = .ok (.iload_n 1, 1) := by decide +kernel
theorem dd_M_readValue_65 : decode mb_M_readValue 65 = .ok (.putfield 66, 3) := by decide +kernel
theorem dd_M_readValue_68 : decode mb_M_readValue 68 = .ok (.aload_n 0, 1) := by decide +kernel
theorem dd_M_readValue_69 : decode mb_M_readValue 69 = .ok (.iload_n 2, 1) := by decide +kernel
theorem dd_M_readValue_70 : decode mb_M_readValue 70 = .ok (.putfield 63, 3) := by decide +kernel
theorem dd_M_readValue_73 : decode mb_M_readValue 73 = .ok (.aload_n 0, 1) := by decide +kernel
theorem dd_M_readValue_74 : decode mb_M_readValue 74 = .ok (.aload_n 0, 1) := by decide +kernel
theorem dd_M_readValue_75 : decode mb_M_readValue 75 = .ok (.getfield 78, 3) := by decide +kernel
theorem dd_M_readValue_78 : decode mb_M_readValue 78 = .ok (.ifCond .ne 10, 3) := by decide +kernel
theorem dd_M_readValue_81 : decode mb_M_readValue 81 = .ok (.aload_n 0, 1) := by decide +kernel
theorem dd_M_readValue_82 : decode mb_M_readValue 82 = .ok (.getfield 63, 3) := by decide +kernel
theorem dd_M_readValue_85 : decode mb_M_readValue 85 = .ok (.ifCond .ne 7, 3) := by decide +kernel
theorem dd_M_readValue_88 : decode mb_M_readValue 88 = .ok (.iconst 1, 1) := by decide +kernel
theorem dd_M_readValue_89 : decode mb_M_readValue 89 = .ok (.goto 4, 3) := by decide +kernel
theorem dd_M_readValue_92 : decode mb_M_readValue 92 = .ok (.iconst 0, 1) := by decide +kernel
theorem dd_M_readValue_93 : decode mb_M_readValue 93 = .ok (.putfield 78, 3) := by decide +kernel
theorem dd_M_readValue_96 : decode mb_M_readValue 96 = .ok (.aload_n 0, 1) := by decide +kernel
theorem dd_M_readValue_97 : decode mb_M_readValue 97 = .ok (.getfield 78, 3) := by decide +kernel
theorem dd_M_readValue_100 : decode mb_M_readValue 100 = .ok (.ifCond .eq 7, 3) := by decide +kernel
theorem dd_M_readValue_103 : decode mb_M_readValue 103 = .ok (.lconst 0, 1) := by decide +kernel
theorem dd_M_readValue_104 : decode mb_M_readValue 104 = .ok (.goto 24, 3) := by decide +kernel
theorem dd_M_readValue_107 : decode mb_M_readValue 107 = .ok (.aload_n 0, 1) := by decide +kernel
theorem dd_M_readValue_108 : decode mb_M_readValue 108 = .ok (.aload_n 0, 1) := by decide +kernel
theorem dd_M_readValue_109 : decode mb_M_readValue 109 = .ok (.getfield 63, 3) := by decide +kernel
theorem dd_M_readValue_112 : decode mb_M_readValue 112 = .ok (.invokevirtual 85, 3) := by decide +kernel
theorem dd_M_readValue_115 : decode mb_M_readValue 115 = .ok (.bipush 64, 2) := by decide +kernel
theorem dd_M_readValue_117 : decode mb_M_readValue 117 = .ok (.aload_n 0, 1) := by decide +kernel
theorem dd_M_readValue_118 : decode mb_M_readValue 118 = .ok (.getfield 66, 3) := by decide +kernel
theorem dd_M_readValue_121 : decode mb_M_readValue 121 = .ok (.isub, 1) := by decide +kernel
theorem dd_M_readValue_122 : decode mb_M_readValue 122 = .ok (.aload_n 0, 1) := by decide +kernel
theorem dd_M_readValue_123 : decode mb_M_readValue 123 = .ok (.getfield 63, 3) := by decide +kernel
theorem dd_M_readValue_126 : decode mb_M_readValue 126 = .ok (.isub, 1) := by decide +kernel
theorem dd_M_readValue_127 : decode mb_M_readValue 127 = .ok (.lshl, 1) := by decide +kernel
theorem dd_M_readValue_128 : decode mb_M_readValue 128 = .ok (.lreturn, 1) := by decide +kernel
theorem dd_M_taken_0 : decode mb_M_taken 0 = .ok (.aload_n 0, 1) := by decide +kernel
theorem dd_M_taken_1 : decode mb_M_taken 1 = .ok (.iconst 0, 1) := by decide +kernel
theorem dd_M_taken_2 : decode mb_M_taken 2 = .ok (.putfield 27, 3) := by decide +kernel
theorem dd_M_taken_5 : decode mb_M_taken 5 = .ok (.aload_n 0, 1) := by decide +kernel
theorem dd_M_taken_6 : decode mb_M_taken 6 = .ok (.getfield 99, 3) := by decide +kernel
theorem dd_M_taken_9 : decode mb_M_taken 9 = .ok (.ireturn, 1) := by decide +kernel
theorem dd_M_count_0 : decode mb_M_count 0 = .ok (.aload_n 0, 1) := by decide +kernel
theorem dd_M_count_1 : decode mb_M_count 1 = .ok (.iload_n 1, 1) := by decide +kernel
theorem dd_M_count_2 : decode mb_M_count 2 = .ok (.ifCond .eq 8, 3) := by decide +kernel
theorem dd_M_count_5 : decode mb_M_count 5 = .ok (.iload_n 1, 1) := by decide +kernel
theorem dd_M_count_6 : decode mb_M_count 6 = .ok (.iconst 1, 1) := by decide +kernel
theorem dd_M_count_7 : decode mb_M_count 7 = .ok (.if_icmp .ne 7, 3) := by decide +kernel
theorem dd_M_count_10 : decode mb_M_count 10 = .ok (.iconst 0, 1) := by decide +kernel
theorem dd_M_count_11 : decode mb_M_count 11 = .ok (.goto 4, 3) := by decide +kernel
theorem dd_M_count_14 : decode mb_M_count 14 = .ok (.iconst 1, 1) := by decide +kernel
theorem dd_M_count_15 : decode mb_M_count 15 = .ok (.putfield 27, 3) := by decide +kernel
theorem dd_M_count_18 : decode mb_M_count 18 = .ok (.aload_n 0, 1) := by decide +kernel
theorem dd_M_count_19 : decode mb_M_count 19 = .ok (.getfield 27, 3) := by decide +kernel
theorem dd_M_count_22 : decode mb_M_count 22 = .ok (.ifCond .le 7, 3) := by decide +kernel
theorem dd_M_count_25 : decode mb_M_count 25 = .ok (.iconst 0, 1) := by decide +kernel
theorem dd_M_count_26 : decode mb_M_count 26 = .ok (.goto 18, 3) := by decide +kernel
theorem dd_M_count_29 : decode mb_M_count 29 = .ok (.iload_n 1, 1) := by decide +kernel
theorem dd_M_count_30 : decode mb_M_count 30 = .ok (.ifCond .ne 10, 3) := by decide +kernel
theorem dd_M_count_33 : decode mb_M_count 33 = .ok (.aload_n 0, 1) := by decide +kernel
theorem dd_M_count_34 : decode mb_M_count 34 = .ok (.getfield 33, 3) := by decide +kernel
theorem dd_M_count_37 : decode mb_M_count 37 = .ok (.goto 7, 3) := by decide +kernel
theorem dd_M_count_40 : decode mb_M_count 40 = .ok (.aload_n 0, 1) := by decide +kernel
theorem dd_M_count_41 : decode mb_M_count 41 = .ok (.getfield 36, 3) := by decide +kernel
theorem dd_M_count_44 : decode mb_M_count 44 = .ok (.ireturn, 1) := by decide +kernel
theorem dd_M_time_0 : decode mb_M_time 0 = .ok (.aload_n 0, 1) := by decide +kernel
theorem dd_M_time_1 : decode mb_M_time 1 = .ok (.iload_n 1, 1) := by decide +kernel
theorem dd_M_time_2 : decode mb_M_time 2 = .ok (.ifCond .lt 11, 3) := by decide +kernel
theorem dd_M_time_5 : decode mb_M_time 5 = .ok (.iload_n 1, 1) := by decide +kernel
theorem dd_M_time_6 : decode mb_M_time 6 = .ok (.aload_n 0, 1) := by decide +kernel
theorem dd_M_time_7 : decode mb_M_time 7 = .ok (.getfield 33, 3) := by decide +kernel
theorem dd_M_time_10 : decode mb_M_time 10 = .ok (.if_icmp .lt 7, 3) := by decide +kernel
theorem dd_M_time_13 : decode mb_M_time 13 = .ok (.iconst 1, 1) := by decide +kernel
theorem dd_M_time_14 : decode mb_M_time 14 = .ok (.goto 4, 3) := by decide +kernel
theorem dd_M_time_17 : decode mb_M_time 17 = .ok (.iconst 0, 1) := by decide +kernel
theorem dd_M_time_18 : decode mb_M_time 18 = .ok (.putfield 27, 3) := by decide +kernel
theorem dd_M_time_21 : decode mb_M_time 21 = .ok (.aload_n 0, 1) := by decide +kernel
theorem dd_M_time_22 : decode mb_M_time 22 = .ok (.getfield 27, 3) := by decide +kernel
theorem dd_M_time_25 : decode mb_M_time 25 = .ok (.ifCond .le 7, 3) := by decide +kernel
theorem dd_M_time_28 : decode mb_M_time 28 = .ok (.lconst 0, 1) := by decide +kernel
theorem dd_M_time_29 : decode mb_M_time 29 = .ok (.goto 9, 3) := by decide +kernel
theorem dd_M_time_32 : decode mb_M_time 32 = .ok (.aload_n 0, 1) := by decide +kernel
theorem dd_M_time_33 : decode mb_M_time 33 = .ok (.getfield 7, 3) := by decide +kernel
theorem dd_M_time_36 : decode mb_M_time 36 = .ok (.iload_n 1, 1) := by decide +kernel
theorem dd_M_time_37 : decode mb_M_time 37 = .ok (.laload, 1) := by decide +kernel
theorem dd_M_time_38 : decode mb_M_time 38 = .ok (.lreturn, 1) := by decide +kernel
theorem dd_M_value_0 : decode mb_M_value 0 = .ok (.aload_n 0, 1) := by decide +kernel
theorem dd_M_value_1 : decode mb_M_value 1 = .ok (.iload_n 1, 1) := by decide +kernel
theorem dd_M_value_2 : decode mb_M_value 2 = .ok (.ifCond .lt 11, 3) := by decide +kernel
theorem dd_M_value_5 : decode mb_M_value 5 = .ok (.iload_n 1, 1) := by decide +kernel
theorem dd_M_value_6 : decode mb_M_value 6 = .ok (.aload_n 0, 1) := by decide +kernel
theorem dd_M_value_7 : decode mb_M_value 7 = .ok (.getfield 33, 3) := by decide +kernel
theorem dd_M_value_10 : decode mb_M_value 10 = .ok (.if_icmp .lt 7, 3) := by decide +kernel
theorem dd_M_value_13 : decode mb_M_value 13 = .ok (.iconst 1, 1) := by decide +kernel
theorem dd_M_value_14 : decode mb_M_value 14 = .ok (.goto 4, 3) := by decide +kernel
theorem dd_M_value_17 : decode mb_M_value 17 = .ok (.iconst 0, 1) := by decide +kernel
theorem dd_M_value_18 : decode mb_M_value 18 = .ok (.putfield 27, 3) := by decide +kernel
theorem dd_M_value_21 : decode mb_M_value 21 = .ok (.aload_n 0, 1) := by decide +kernel
theorem dd_M_value_22 : decode mb_M_value 22 = .ok (.getfield 27, 3) := by decide +kernel
theorem dd_M_value_25 : decode mb_M_value 25 = .ok (.ifCond .le 7, 3) := by decide +kernel
theorem dd_M_value_28 : decode mb_M_value 28 = .ok (.lconst 0, 1) := by decide +kernel
theorem dd_M_value_29 : decode mb_M_value 29 = .ok (.goto 9, 3) := by decide +kernel
theorem dd_M_value_32 : decode mb_M_value 32 = .ok (.aload_n 0, 1) := by decide +kernel
theorem dd_M_value_33 : decode mb_M_value 33 = .ok (.getfield 13, 3) := by decide +kernel
theorem dd_M_value_36 : decode mb_M_value 36 = .ok (.iload_n 1, 1) := by decide +kernel
theorem dd_M_value_37 : decode mb_M_value 37 = .ok (.laload, 1) := by decide +kernel
theorem dd_M_value_38 : decode mb_M_value 38 = .ok (.lreturn, 1) := by decide +kernel
theorem dd_M_bit_0 : decode mb_M_bit 0 = .ok (.aload_n 0, 1) := by decide +kernel
theorem dd_M_bit_1 : decode mb_M_bit 1 = .ok (.iload_n 1, 1) := by decide +kernel
theorem dd_M_bit_2 : decode mb_M_bit 2 = .ok (.ifCond .lt 11, 3) := by decide +kernel
theorem dd_M_bit_5 : decode mb_M_bit 5 = .ok (.iload_n 1, 1) := by decide +kernel
theorem dd_M_bit_6 : decode mb_M_bit 6 = .ok (.aload_n 0, 1) := by decide +kernel
theorem dd_M_bit_7 : decode mb_M_bit 7 = .ok (.getfield 36, 3) := by decide +kernel
theorem dd_M_bit_10 : decode mb_M_bit 10 = .ok (.if_icmp .lt 7, 3) := by decide +kernel
theorem dd_M_bit_13 : decode mb_M_bit 13 = .ok (.iconst 1, 1) := by decide +kernel
theorem dd_M_bit_14 : decode mb_M_bit 14 = .ok (.goto 4, 3) := by decide +kernel
theorem dd_M_bit_17 : decode mb_M_bit 17 = .ok (.iconst 0, 1) := by decide +kernel
theorem dd_M_bit_18 : decode mb_M_bit 18 = .ok (.putfield 27, 3) := by decide +kernel
theorem dd_M_bit_21 : decode mb_M_bit 21 = .ok (.aload_n 0, 1) := by decide +kernel
theorem dd_M_bit_22 : decode mb_M_bit 22 = .ok (.getfield 27, 3) := by decide +kernel
theorem dd_M_bit_25 : decode mb_M_bit 25 = .ok (.ifCond .ne 17, 3) := by decide +kernel
theorem dd_M_bit_28 : decode mb_M_bit 28 = .ok (.aload_n 0, 1) := by decide +kernel
theorem dd_M_bit_29 : decode mb_M_bit 29 = .ok (.getfield 17, 3) := by decide +kernel
theorem dd_M_bit_32 : decode mb_M_bit 32 = .ok (.iload_n 1, 1) := by decide +kernel
theorem dd_M_bit_33 : decode mb_M_bit 33 = .ok (.baload, 1) := by decide +kernel
theorem dd_M_bit_34 : decode mb_M_bit 34 = .ok (.iconst 1, 1) := by decide +kernel
theorem dd_M_bit_35 : decode mb_M_bit 35 = .ok (.if_icmp .ne 7, 3) := by decide +kernel
theorem dd_M_bit_38 : decode mb_M_bit 38 = .ok (.iconst 1, 1) := by decide +kernel
theorem dd_M_bit_39 : decode mb_M_bit 39 = .ok (.goto 4, 3) := by decide +kernel
theorem dd_M_bit_42 : decode mb_M_bit 42 = .ok (.iconst 0, 1) := by decide +kernel
theorem dd_M_bit_43 : decode mb_M_bit 43 = .ok (.ireturn, 1) := by decide +kernel
theorem dd_M_flip_0 : decode mb_M_flip 0 = .ok (.aload_n 0, 1) := by decide +kernel
theorem dd_M_flip_1 : decode mb_M_flip 1 = .ok (.iload_n 1, 1) := by decide +kernel
theorem dd_M_flip_2 : decode mb_M_flip 2 = .ok (.ifCond .lt 11, 3) := by decide +kernel
theorem dd_M_flip_5 : decode mb_M_flip 5 = .ok (.iload_n 1, 1) := by decide +kernel
theorem dd_M_flip_6 : decode mb_M_flip 6 = .ok (.aload_n 0, 1) := by decide +kernel
theorem dd_M_flip_7 : decode mb_M_flip 7 = .ok (.getfield 36, 3) := by decide +kernel
theorem dd_M_flip_10 : decode mb_M_flip 10 = .ok (.if_icmp .lt 7, 3) := by decide +kernel
theorem dd_M_flip_13 : decode mb_M_flip 13 = .ok (.iconst 1, 1) := by decide +kernel
theorem dd_M_flip_14 : decode mb_M_flip 14 = .ok (.goto 4, 3) := by decide +kernel
theorem dd_M_flip_17 : decode mb_M_flip 17 = .ok (.iconst 0, 1) := by decide +kernel
theorem dd_M_flip_18 : decode mb_M_flip 18 = .ok (.putfield 27, 3) := by decide +kernel
theorem dd_M_flip_21 : decode mb_M_flip 21 = .ok (.aload_n 0, 1) := by decide +kernel
theorem dd_M_flip_22 : decode mb_M_flip 22 = .ok (.getfield 27, 3) := by decide +kernel
theorem dd_M_flip_25 : decode mb_M_flip 25 = .ok (.ifCond .ne 18, 3) := by decide +kernel
theorem dd_M_flip_28 : decode mb_M_flip 28 = .ok (.aload_n 0, 1) := by decide +kernel
theorem dd_M_flip_29 : decode mb_M_flip 29 = .ok (.getfield 17, 3) := by decide +kernel
theorem dd_M_flip_32 : decode mb_M_flip 32 = .ok (.iload_n 1, 1) := by decide +kernel
theorem dd_M_flip_33 : decode mb_M_flip 33 = .ok (.iconst 1, 1) := by decide +kernel
theorem dd_M_flip_34 : decode mb_M_flip 34 = .ok (.aload_n 0, 1) := by decide +kernel
theorem dd_M_flip_35 : decode mb_M_flip 35 = .ok (.getfield 17, 3) := by decide +kernel
theorem dd_M_flip_38 : decode mb_M_flip 38 = .ok (.iload_n 1, 1) := by decide +kernel
theorem dd_M_flip_39 : decode mb_M_flip 39 = .ok (.baload, 1) := by decide +kernel
theorem dd_M_flip_40 : decode mb_M_flip 40 = .ok (.isub, 1) := by decide +kernel
theorem dd_M_flip_41 : decode mb_M_flip 41 = .ok (.i2b, 1) := by decide +kernel
theorem dd_M_flip_42 : decode mb_M_flip 42 = .ok (.bastore, 1) := by decide +kernel
theorem dd_M_flip_43 : decode mb_M_flip 43 = .ok (.return_, 1) := by decide +kernel
theorem dd_M_put_0 : decode mb_M_put 0 = .ok (.iload_n 3, 1) := by decide +kernel
theorem dd_M_put_1 : decode mb_M_put 1 = .ok (.ifCond .lt 37, 3) := by decide +kernel
theorem dd_M_put_4 : decode mb_M_put 4 = .ok (.iload_n 3, 1) := by decide +kernel
theorem dd_M_put_5 : decode mb_M_put 5 = .ok (.bipush 64, 2) := by decide +kernel
theorem dd_M_put_7 : decode mb_M_put 7 = .ok (.if_icmp .gt 31, 3) := by decide +kernel
theorem dd_M_put_10 : decode mb_M_put 10 = .ok (.iload_n 3, 1) := by decide +kernel
theorem dd_M_put_11 : decode mb_M_put 11 = .ok (.bipush 64, 2) := by decide +kernel
theorem dd_M_put_13 : decode mb_M_put 13 = .ok (.if_icmp .eq 21, 3) := by decide +kernel
theorem dd_M_put_16 : decode mb_M_put 16 = .ok (.lload_n 1, 1) := by decide +kernel
theorem dd_M_put_17 : decode mb_M_put 17 = .ok (.iload_n 3, 1) := by decide +kernel
theorem dd_M_put_18 : decode mb_M_put 18 = .ok (.lushr, 1) := by decide +kernel
theorem dd_M_put_19 : decode mb_M_put 19 = .ok (.lconst 0, 1) := by decide +kernel
theorem dd_M_put_20 : decode mb_M_put 20 = .ok (.lcmp, 1) := by decide +kernel
theorem dd_M_put_21 : decode mb_M_put 21 = .ok (.ifCond .ne 17, 3) := by decide +kernel
theorem dd_M_put_24 : decode mb_M_put 24 = .ok (.iload_n 3, 1) := by decide +kernel
theorem dd_M_put_25 : decode mb_M_put 25 = .ok (.ifCond .gt 9, 3) := by decide +kernel
theorem dd_M_put_28 : decode mb_M_put 28 = .ok (.lload_n 1, 1) := by decide +kernel
theorem dd_M_put_29 : decode mb_M_put 29 = .ok (.lconst 0, 1) := by decide +kernel
theorem dd_M_put_30 : decode mb_M_put 30 = .ok (.lcmp, 1) := by decide +kernel
theorem dd_M_put_31 : decode mb_M_put 31 = .ok (.ifCond .ne 7, 3) := by decide +kernel
theorem dd_M_put_34 : decode mb_M_put 34 = .ok (.iconst 1, 1) := by decide +kernel
theorem dd_M_put_35 : decode mb_M_put 35 = .ok (.goto 4, 3) := by decide +kernel
theorem dd_M_put_38 : decode mb_M_put 38 = .ok (.iconst 0, 1) := by decide +kernel
theorem dd_M_put_39 : decode mb_M_put 39 = .ok (.istore 4, 2) := by decide +kernel
theorem dd_M_put_41 : decode mb_M_put 41 = .ok (.aload_n 0, 1) := by decide +kernel
theorem dd_M_put_42 : decode mb_M_put 42 = .ok (.iload 4, 2) := by decide +kernel
theorem dd_M_put_44 : decode mb_M_put 44 = .ok (.ifCond .ne 7, 3) := by decide +kernel
theorem dd_M_put_47 : decode mb_M_put 47 = .ok (.iconst 1, 1) := by decide +kernel
theorem dd_M_put_48 : decode mb_M_put 48 = .ok (.goto 19, 3) := by decide +kernel
theorem dd_M_put_51 : decode mb_M_put 51 = .ok (.aload_n 0, 1) := by decide +kernel
theorem dd_M_put_52 : decode mb_M_put 52 = .ok (.getfield 36, 3) := by decide +kernel
theorem dd_M_put_55 : decode mb_M_put 55 = .ok (.iload_n 3, 1) := by decide +kernel
theorem dd_M_put_56 : decode mb_M_put 56 = .ok (.iadd, 1) := by decide +kernel
theorem dd_M_put_57 : decode mb_M_put 57 = .ok (.ldc 16, 2) := by decide +kernel
theorem dd_M_put_59 : decode mb_M_put 59 = .ok (.if_icmp .le 7, 3) := by decide +kernel
theorem dd_M_put_62 : decode mb_M_put 62 = .ok (.iconst 2, 1) := by decide +kernel
theorem dd_M_put_63 : decode mb_M_put 63 = .ok (.goto 4, 3) := by decide +kernel
theorem dd_M_put_66 : decode mb_M_put 66 = .ok (.iconst 0, 1) := by decide +kernel
theorem dd_M_put_67 : decode mb_M_put 67 = .ok (.putfield 27, 3) := by decide +kernel
theorem dd_M_put_70 : decode mb_M_put 70 = .ok (.aload_n 0, 1) := by decide +kernel
theorem dd_M_put_71 : decode mb_M_put 71 = .ok (.getfield 27, 3) := by decide +kernel
theorem dd_M_put_74 : decode mb_M_put 74 = .ok (.ifCond .le 5, 3) := by decide +kernel
theorem dd_M_put_77 : decode mb_M_put 77 = .ok (.iconst 0, 1) := by decide +kernel
theorem dd_M_put_78 : decode mb_M_put 78 = .ok (.ireturn, 1) := by decide +kernel
theorem dd_M_put_79 : decode mb_M_put 79 = .ok (.aload_n 0, 1) := by decide +kernel
theorem dd_M_put_80 : decode mb_M_put 80 = .ok (.lload_n 1, 1) := by decide +kernel
theorem dd_M_put_81 : decode mb_M_put 81 = .ok (.iload_n 3, 1) := by decide +kernel
theorem dd_M_put_82 : decode mb_M_put 82 = .ok (.invokevirtual 39, 3) := by decide +kernel
theorem dd_M_put_85 : decode mb_M_put 85 = .ok (.aload_n 0, 1) := by decide +kernel
theorem dd_M_put_86 : decode mb_M_put 86 = .ok (.getfield 36, 3) := by decide +kernel
theorem dd_M_put_89 : decode mb_M_put 89 = .ok (.ireturn, 1) := by decide +kernel
theorem dd_M_cut_0 : decode mb_M_cut 0 = .ok (.aload_n 0, 1) := by decide +kernel
theorem dd_M_cut_1 : decode mb_M_cut 1 = .ok (.iload_n 1, 1) := by decide +kernel
theorem dd_M_cut_2 : decode mb_M_cut 2 = .ok (.ifCond .lt 11, 3) := by decide +kernel
theorem dd_M_cut_5 : decode mb_M_cut 5 = .ok (.iload_n 1, 1) := by decide +kernel
theorem dd_M_cut_6 : decode mb_M_cut 6 = .ok (.aload_n 0, 1) := by decide +kernel
theorem dd_M_cut_7 : decode mb_M_cut 7 = .ok (.getfield 36, 3) := by decide +kernel
theorem dd_M_cut_10 : decode mb_M_cut 10 = .ok (.if_icmp .le 7, 3) := by decide +kernel
theorem dd_M_cut_13 : decode mb_M_cut 13 = .ok (.iconst 1, 1) := by decide +kernel
theorem dd_M_cut_14 : decode mb_M_cut 14 = .ok (.goto 4, 3) := by decide +kernel
theorem dd_M_cut_17 : decode mb_M_cut 17 = .ok (.iconst 0, 1) := by decide +kernel
theorem dd_M_cut_18 : decode mb_M_cut 18 = .ok (.putfield 27, 3) := by decide +kernel
theorem dd_M_cut_21 : decode mb_M_cut 21 = .ok (.aload_n 0, 1) := by decide +kernel
theorem dd_M_cut_22 : decode mb_M_cut 22 = .ok (.aload_n 0, 1) := by decide +kernel
theorem dd_M_cut_23 : decode mb_M_cut 23 = .ok (.getfield 27, 3) := by decide +kernel
theorem dd_M_cut_26 : decode mb_M_cut 26 = .ok (.ifCond .ne 7, 3) := by decide +kernel
theorem dd_M_cut_29 : decode mb_M_cut 29 = .ok (.iload_n 1, 1) := by decide +kernel
theorem dd_M_cut_30 : decode mb_M_cut 30 = .ok (.goto 7, 3) := by decide +kernel
theorem dd_M_cut_33 : decode mb_M_cut 33 = .ok (.aload_n 0, 1) := by decide +kernel
theorem dd_M_cut_34 : decode mb_M_cut 34 = .ok (.getfield 36, 3) := by decide +kernel
theorem dd_M_cut_37 : decode mb_M_cut 37 = .ok (.putfield 36, 3) := by decide +kernel
theorem dd_M_cut_40 : decode mb_M_cut 40 = .ok (.return_, 1) := by decide +kernel
end
section
theorem dd_L_law_0 : decode mb_L_law 0 = .ok (.new 8, 3) := by decide +kernel
theorem dd_L_law_3 : decode mb_L_law 3 = .ok (.dup, 1) := by decide +kernel
theorem dd_L_law_4 : decode mb_L_law 4 = .ok (.invokespecial 55, 3) := by decide +kernel
theorem dd_L_law_7 : decode mb_L_law 7 = .ok (.astore_n 1, 1) := by decide +kernel
theorem dd_L_law_8 : decode mb_L_law 8 = .ok (.new 56, 3) := by decide +kernel
theorem dd_L_law_11 : decode mb_L_law 11 = .ok (.dup, 1) := by decide +kernel
theorem dd_L_law_12 : decode mb_L_law 12 = .ok (.invokespecial 58, 3) := by decide +kernel
theorem dd_L_law_15 : decode mb_L_law 15 = .ok (.astore_n 2, 1) := by decide +kernel
theorem dd_L_law_16 : decode mb_L_law 16 = .ok (.iconst 1, 1) := by decide +kernel
theorem dd_L_law_17 : decode mb_L_law 17 = .ok (.newarray .long, 2) := by decide +kernel
theorem dd_L_law_19 : decode mb_L_law 19 = .ok (.astore_n 3, 1) := by decide +kernel
theorem dd_L_law_20 : decode mb_L_law 20 = .ok (.iconst 0, 1) := by decide +kernel
theorem dd_L_law_21 : decode mb_L_law 21 = .ok (.istore 4, 2) := by decide +kernel
theorem dd_L_law_23 : decode mb_L_law 23 = .ok (.iload 4, 2) := by decide +kernel
theorem dd_L_law_25 : decode mb_L_law 25 = .ok (.aload_n 0, 1) := by decide +kernel
theorem dd_L_law_26 : decode mb_L_law 26 = .ok (.arraylength, 1) := by decide +kernel
theorem dd_L_law_27 : decode mb_L_law 27 = .ok (.iconst 5, 1) := by decide +kernel
theorem dd_L_law_28 : decode mb_L_law 28 = .ok (.isub, 1) := by decide +kernel
theorem dd_L_law_29 : decode mb_L_law 29 = .ok (.if_icmp .gt 779, 3) := by decide +kernel
theorem dd_L_law_32 : decode mb_L_law 32 = .ok (.aload_n 0, 1) := by decide +kernel
theorem dd_L_law_33 : decode mb_L_law 33 = .ok (.iload 4, 2) := by decide +kernel
theorem dd_L_law_35 : decode mb_L_law 35 = .ok (.iaload, 1) := by decide +kernel
theorem dd_L_law_36 : decode mb_L_law 36 = .ok (.bipush 15, 2) := by decide +kernel
theorem dd_L_law_38 : decode mb_L_law 38 = .ok (.iand, 1) := by decide +kernel
theorem dd_L_law_39 : decode mb_L_law 39 = .ok (.tableswitch 763 0 11 #[61, 193, 249, 293, 349, 362, 418, 473, 528, 591, 627, 727], 61) := by decide +kernel
theorem dd_L_law_100 : decode mb_L_law 100 = .ok (.aload_n 1, 1) := by decide +kernel
theorem dd_L_law_101 : decode mb_L_law 101 = .ok (.aload_n 0, 1) := by decide +kernel
theorem dd_L_law_102 : decode mb_L_law 102 = .ok (.iload 4, 2) := by decide +kernel
theorem dd_L_law_104 : decode mb_L_law 104 = .ok (.iconst 1, 1) := by decide +kernel
theorem dd_L_law_105 : decode mb_L_law 105 = .ok (.iadd, 1) := by decide +kernel
theorem dd_L_law_106 : decode mb_L_law 106 = .ok (.iaload, 1) := by decide +kernel
theorem dd_L_law_107 : decode mb_L_law 107 = .ok (.i2l, 1) := by decide +kernel
theorem dd_L_law_108 : decode mb_L_law 108 = .ok (.bipush 32, 2) := by decide +kernel
theorem dd_L_law_110 : decode mb_L_law 110 = .ok (.lshl, 1) := by decide +kernel
theorem dd_L_law_111 : decode mb_L_law 111 = .ok (.aload_n 0, 1) := by decide +kernel
theorem dd_L_law_112 : decode mb_L_law 112 = .ok (.iload 4, 2) := by decide +kernel
theorem dd_L_law_114 : decode mb_L_law 114 = .ok (.iconst 2, 1) := by decide +kernel
theorem dd_L_law_115 : decode mb_L_law 115 = .ok (.iadd, 1) := by decide +kernel
theorem dd_L_law_116 : decode mb_L_law 116 = .ok (.iaload, 1) := by decide +kernel
theorem dd_L_law_117 : decode mb_L_law 117 = .ok (.i2l, 1) := by decide +kernel
theorem dd_L_law_118 : decode mb_L_law 118 = .ok (.ldc2_w 59, 3) := by decide +kernel
theorem dd_L_law_121 : decode mb_L_law 121 = .ok (.land, 1) := by decide +kernel
theorem dd_L_law_122 : decode mb_L_law 122 = .ok (.lor, 1) := by decide +kernel
theorem dd_L_law_123 : decode mb_L_law 123 = .ok (.aload_n 0, 1) := by decide +kernel
theorem dd_L_law_124 : decode mb_L_law 124 = .ok (.iload 4, 2) := by decide +kernel
theorem dd_L_law_126 : decode mb_L_law 126 = .ok (.iconst 3, 1) := by decide +kernel
theorem dd_L_law_127 : decode mb_L_law 127 = .ok (.iadd, 1) := by decide +kernel
theorem dd_L_law_128 : decode mb_L_law 128 = .ok (.iaload, 1) := by decide +kernel
theorem dd_L_law_129 : decode mb_L_law 129 = .ok (.i2l, 1) := by decide +kernel
theorem dd_L_law_130 : decode mb_L_law 130 = .ok (.bipush 32, 2) := by decide +kernel
theorem dd_L_law_132 : decode mb_L_law 132 = .ok (.lshl, 1) := by decide +kernel
theorem dd_L_law_133 : decode mb_L_law 133 = .ok (.aload_n 0, 1) := by decide +kernel
theorem dd_L_law_134 : decode mb_L_law 134 = .ok (.iload 4, 2) := by decide +kernel
theorem dd_L_law_136 : decode mb_L_law 136 = .ok (.iconst 4, 1) := by decide +kernel
theorem dd_L_law_137 : decode mb_L_law 137 = .ok (.iadd, 1) := by decide +kernel
theorem dd_L_law_138 : decode mb_L_law 138 = .ok (.iaload, 1) := by decide +kernel
theorem dd_L_law_139 : decode mb_L_law 139 = .ok (.i2l, 1) := by decide +kernel
theorem dd_L_law_140 : decode mb_L_law 140 = .ok (.ldc2_w 59, 3) := by decide +kernel
theorem dd_L_law_143 : decode mb_L_law 143 = .ok (.land, 1) := by decide +kernel
theorem dd_L_law_144 : decode mb_L_law 144 = .ok (.lor, 1) := by decide +kernel
theorem dd_L_law_145 : decode mb_L_law 145 = .ok (.aload_n 3, 1) := by decide +kernel
theorem dd_L_law_146 : decode mb_L_law 146 = .ok (.invokestatic 61, 3) := by decide +kernel
theorem dd_L_law_149 : decode mb_L_law 149 = .ok (.istore 5, 2) := by decide +kernel
theorem dd_L_law_151 : decode mb_L_law 151 = .ok (.aload_n 2, 1) := by decide +kernel
theorem dd_L_law_152 : decode mb_L_law 152 = .ok (.aload_n 0, 1) := by decide +kernel
theorem dd_L_law_153 : decode mb_L_law 153 = .ok (.iload 4, 2) := by decide +kernel
theorem dd_L_law_155 : decode mb_L_law 155 = .ok (.iconst 1, 1) := by decide +kernel
theorem dd_L_law_156 : decode mb_L_law 156 = .ok (.iadd, 1) := by decide +kernel
theorem dd_L_law_157 : decode mb_L_law 157 = .ok (.iaload, 1) := by decide +kernel
theorem dd_L_law_158 : decode mb_L_law 158 = .ok (.i2l, 1) := by decide +kernel
theorem dd_L_law_159 : decode mb_L_law 159 = .ok (.bipush 32, 2) := by decide +kernel
theorem dd_L_law_161 : decode mb_L_law 161 = .ok (.lshl, 1) := by decide +kernel
theorem dd_L_law_162 : decode mb_L_law 162 = .ok (.aload_n 0, 1) := by decide +kernel
theorem dd_L_law_163 : decode mb_L_law 163 = .ok (.iload 4, 2) := by decide +kernel
theorem dd_L_law_165 : decode mb_L_law 165 = .ok (.iconst 2, 1) := by decide +kernel
theorem dd_L_law_166 : decode mb_L_law 166 = .ok (.iadd, 1) := by decide +kernel
theorem dd_L_law_167 : decode mb_L_law 167 = .ok (.iaload, 1) := by decide +kernel
theorem dd_L_law_168 : decode mb_L_law 168 = .ok (.i2l, 1) := by decide +kernel
theorem dd_L_law_169 : decode mb_L_law 169 = .ok (.ldc2_w 59, 3) := by decide +kernel
theorem dd_L_law_172 : decode mb_L_law 172 = .ok (.land, 1) := by decide +kernel
theorem dd_L_law_173 : decode mb_L_law 173 = .ok (.lor, 1) := by decide +kernel
theorem dd_L_law_174 : decode mb_L_law 174 = .ok (.aload_n 0, 1) := by decide +kernel
theorem dd_L_law_175 : decode mb_L_law 175 = .ok (.iload 4, 2) := by decide +kernel
theorem dd_L_law_177 : decode mb_L_law 177 = .ok (.iconst 3, 1) := by decide +kernel
theorem dd_L_law_178 : decode mb_L_law 178 = .ok (.iadd, 1) := by decide +kernel
theorem dd_L_law_179 : decode mb_L_law 179 = .ok (.iaload, 1) := by decide +kernel
theorem dd_L_law_180 : decode mb_L_law 180 = .ok (.i2l, 1) := by decide +kernel
theorem dd_L_law_181 : decode mb_L_law 181 = .ok (.bipush 32, 2) := by decide +kernel
theorem dd_L_law_183 : decode mb_L_law 183 = .ok (.lshl, 1) := by decide +kernel
theorem dd_L_law_184 : decode mb_L_law 184 = .ok (.aload_n 0, 1) := by decide +kernel
theorem dd_L_law_185 : decode mb_L_law 185 = .ok (.iload 4, 2) := by decide +kernel
theorem dd_L_law_187 : decode mb_L_law 187 = .ok (.iconst 4, 1) := by decide +kernel
theorem dd_L_law_188 : decode mb_L_law 188 = .ok (.iadd, 1) := by decide +kernel
theorem dd_L_law_189 : decode mb_L_law 189 = .ok (.iaload, 1) := by decide +kernel
theorem dd_L_law_190 : decode mb_L_law 190 = .ok (.i2l, 1) := by decide +kernel
theorem dd_L_law_191 : decode mb_L_law 191 = .ok (.ldc2_w 59, 3) := by decide +kernel
theorem dd_L_law_194 : decode mb_L_law 194 = .ok (.land, 1) := by decide +kernel
theorem dd_L_law_195 : decode mb_L_law 195 = .ok (.lor, 1) := by decide +kernel
theorem dd_L_law_196 : decode mb_L_law 196 = .ok (.invokevirtual 66, 3) := by decide +kernel
theorem dd_L_law_199 : decode mb_L_law 199 = .ok (.istore 6, 2) := by decide +kernel
theorem dd_L_law_201 : decode mb_L_law 201 = .ok (.aload_n 2, 1) := by decide +kernel
theorem dd_L_law_202 : decode mb_L_law 202 = .ok (.invokevirtual 67, 3) := by decide +kernel
theorem dd_L_law_205 : decode mb_L_law 205 = .ok (.iload 5, 2) := by decide +kernel
theorem dd_L_law_207 : decode mb_L_law 207 = .ok (.if_icmp .eq 5, 3) := by decide +kernel
theorem dd_L_law_210 : decode mb_L_law 210 = .ok (.iconst 0, 1) := by decide +kernel
theorem dd_L_law_211 : decode mb_L_law 211 = .ok (.ireturn, 1) := by decide +kernel
theorem dd_L_law_212 : decode mb_L_law 212 = .ok (.iload 5, 2) := by decide +kernel
theorem dd_L_law_214 : decode mb_L_law 214 = .ok (.ifCond .ne 15, 3) := by decide +kernel
theorem dd_L_law_217 : decode mb_L_law 217 = .ok (.aload_n 3, 1) := by decide +kernel
theorem dd_L_law_218 : decode mb_L_law 218 = .ok (.iconst 0, 1) := by decide +kernel
theorem dd_L_law_219 : decode mb_L_law 219 = .ok (.laload, 1) := by decide +kernel
theorem dd_L_law_220 : decode mb_L_law 220 = .ok (.iload 6, 2) := by decide +kernel
theorem dd_L_law_222 : decode mb_L_law 222 = .ok (.i2l, 1) := by decide +kernel
theorem dd_L_law_223 : decode mb_L_law 223 = .ok (.lcmp, 1) := by decide +kernel
theorem dd_L_law_224 : decode mb_L_law 224 = .ok (.ifCond .eq 5, 3) := by decide +kernel
theorem dd_L_law_227 : decode mb_L_law 227 = .ok (.iconst 0, 1) := by decide +kernel
theorem dd_L_law_228 : decode mb_L_law 228 = .ok (.ireturn, 1) := by decide +kernel
theorem dd_L_law_229 : decode mb_L_law 229 = .ok (.goto 573, 3) := by decide +kernel
theorem dd_L_law_232 : decode mb_L_law 232 = .ok (.aload_n 1, 1) := by decide +kernel
theorem dd_L_law_233 : decode mb_L_law 233 = .ok (.aload_n 0, 1) := by decide +kernel
theorem dd_L_law_234 : decode mb_L_law 234 = .ok (.iload 4, 2) := by decide +kernel
theorem dd_L_law_236 : decode mb_L_law 236 = .ok (.iconst 1, 1) := by decide +kernel
theorem dd_L_law_237 : decode mb_L_law 237 = .ok (.iadd, 1) := by decide +kernel
theorem dd_L_law_238 : decode mb_L_law 238 = .ok (.iaload, 1) := by decide +kernel
theorem dd_L_law_239 : decode mb_L_law 239 = .ok (.aload_n 3, 1) := by decide +kernel
theorem dd_L_law_240 : decode mb_L_law 240 = .ok (.invokestatic 70, 3) := by decide +kernel
theorem dd_L_law_243 : decode mb_L_law 243 = .ok (.istore 5, 2) := by decide +kernel
theorem dd_L_law_245 : decode mb_L_law 245 = .ok (.aload_n 2, 1) := by decide +kernel
theorem dd_L_law_246 : decode mb_L_law 246 = .ok (.aload_n 0, 1) := by decide +kernel
theorem dd_L_law_247 : decode mb_L_law 247 = .ok (.iload 4, 2) := by decide +kernel
theorem dd_L_law_249 : decode mb_L_law 249 = .ok (.iconst 1, 1) := by decide +kernel
theorem dd_L_law_250 : decode mb_L_law 250 = .ok (.iadd, 1) := by decide +kernel
theorem dd_L_law_251 : decode mb_L_law 251 = .ok (.iaload, 1) := by decide +kernel
theorem dd_L_law_252 : decode mb_L_law 252 = .ok (.invokevirtual 73, 3) := by decide +kernel
theorem dd_L_law_255 : decode mb_L_law 255 = .ok (.istore 6, 2) := by decide +kernel
theorem dd_L_law_257 : decode mb_L_law 257 = .ok (.aload_n 2, 1) := by decide +kernel
theorem dd_L_law_258 : decode mb_L_law 258 = .ok (.invokevirtual 67, 3) := by decide +kernel
theorem dd_L_law_261 : decode mb_L_law 261 = .ok (.iload 5, 2) := by decide +kernel
theorem dd_L_law_263 : decode mb_L_law 263 = .ok (.if_icmp .eq 5, 3) := by decide +kernel
theorem dd_L_law_266 : decode mb_L_law 266 = .ok (.iconst 0, 1) := by decide +kernel
theorem dd_L_law_267 : decode mb_L_law 267 = .ok (.ireturn, 1) := by decide +kernel
theorem dd_L_law_268 : decode mb_L_law 268 = .ok (.iload 5, 2) := by decide +kernel
theorem dd_L_law_270 : decode mb_L_law 270 = .ok (.ifCond .ne 15, 3) := by decide +kernel
theorem dd_L_law_273 : decode mb_L_law 273 = .ok (.aload_n 3, 1) := by decide +kernel
theorem dd_L_law_274 : decode mb_L_law 274 = .ok (.iconst 0, 1) := by decide +kernel
theorem dd_L_law_275 : decode mb_L_law 275 = .ok (.laload, 1) := by decide +kernel
theorem dd_L_law_276 : decode mb_L_law 276 = .ok (.iload 6, 2) := by decide +kernel
theorem dd_L_law_278 : decode mb_L_law 278 = .ok (.i2l, 1) := by decide +kernel
theorem dd_L_law_279 : decode mb_L_law 279 = .ok (.lcmp, 1) := by decide +kernel
theorem dd_L_law_280 : decode mb_L_law 280 = .ok (.ifCond .eq 5, 3) := by decide +kernel
theorem dd_L_law_283 : decode mb_L_law 283 = .ok (.iconst 0, 1) := by decide +kernel
theorem dd_L_law_284 : decode mb_L_law 284 = .ok (.ireturn, 1) := by decide +kernel
theorem dd_L_law_285 : decode mb_L_law 285 = .ok (.goto 517, 3) := by decide +kernel
theorem dd_L_law_288 : decode mb_L_law 288 = .ok (.aload_n 1, 1) := by decide +kernel
theorem dd_L_law_289 : decode mb_L_law 289 = .ok (.aload_n 3, 1) := by decide +kernel
theorem dd_L_law_290 : decode mb_L_law 290 = .ok (.invokestatic 74, 3) := by decide +kernel
theorem dd_L_law_293 : decode mb_L_law 293 = .ok (.istore 5, 2) := by decide +kernel
theorem dd_L_law_295 : decode mb_L_law 295 = .ok (.aload_n 2, 1) := by decide +kernel
theorem dd_L_law_296 : decode mb_L_law 296 = .ok (.invokevirtual 77, 3) := by decide +kernel
theorem dd_L_law_299 : decode mb_L_law 299 = .ok (.istore 6, 2) := by decide +kernel
theorem dd_L_law_301 : decode mb_L_law 301 = .ok (.aload_n 2, 1) := by decide +kernel
theorem dd_L_law_302 : decode mb_L_law 302 = .ok (.invokevirtual 67, 3) := by decide +kernel
theorem dd_L_law_305 : decode mb_L_law 305 = .ok (.iload 5, 2) := by decide +kernel
theorem dd_L_law_307 : decode mb_L_law 307 = .ok (.if_icmp .eq 5, 3) := by decide +kernel
theorem dd_L_law_310 : decode mb_L_law 310 = .ok (.iconst 0, 1) := by decide +kernel
theorem dd_L_law_311 : decode mb_L_law 311 = .ok (.ireturn, 1) := by decide +kernel
theorem dd_L_law_312 : decode mb_L_law 312 = .ok (.iload 5, 2) := by decide +kernel
theorem dd_L_law_314 : decode mb_L_law 314 = .ok (.ifCond .ne 15, 3) := by decide +kernel
theorem dd_L_law_317 : decode mb_L_law 317 = .ok (.aload_n 3, 1) := by decide +kernel
theorem dd_L_law_318 : decode mb_L_law 318 = .ok (.iconst 0, 1) := by decide +kernel
theorem dd_L_law_319 : decode mb_L_law 319 = .ok (.laload, 1) := by decide +kernel
theorem dd_L_law_320 : decode mb_L_law 320 = .ok (.iload 6, 2) := by decide +kernel
theorem dd_L_law_322 : decode mb_L_law 322 = .ok (.i2l, 1) := by decide +kernel
theorem dd_L_law_323 : decode mb_L_law 323 = .ok (.lcmp, 1) := by decide +kernel
theorem dd_L_law_324 : decode mb_L_law 324 = .ok (.ifCond .eq 5, 3) := by decide +kernel
theorem dd_L_law_327 : decode mb_L_law 327 = .ok (.iconst 0, 1) := by decide +kernel
theorem dd_L_law_328 : decode mb_L_law 328 = .ok (.ireturn, 1) := by decide +kernel
theorem dd_L_law_329 : decode mb_L_law 329 = .ok (.goto 473, 3) := by decide +kernel
theorem dd_L_law_332 : decode mb_L_law 332 = .ok (.aload_n 1, 1) := by decide +kernel
theorem dd_L_law_333 : decode mb_L_law 333 = .ok (.aload_n 0, 1) := by decide +kernel
theorem dd_L_law_334 : decode mb_L_law 334 = .ok (.iload 4, 2) := by decide +kernel
theorem dd_L_law_336 : decode mb_L_law 336 = .ok (.iconst 1, 1) := by decide +kernel
theorem dd_L_law_337 : decode mb_L_law 337 = .ok (.iadd, 1) := by decide +kernel
theorem dd_L_law_338 : decode mb_L_law 338 = .ok (.iaload, 1) := by decide +kernel
theorem dd_L_law_339 : decode mb_L_law 339 = .ok (.aload_n 3, 1) := by decide +kernel
theorem dd_L_law_340 : decode mb_L_law 340 = .ok (.invokestatic 78, 3) := by decide +kernel
theorem dd_L_law_343 : decode mb_L_law 343 = .ok (.istore 5, 2) := by decide +kernel
theorem dd_L_law_345 : decode mb_L_law 345 = .ok (.aload_n 2, 1) := by decide +kernel
theorem dd_L_law_346 : decode mb_L_law 346 = .ok (.aload_n 0, 1) := by decide +kernel
theorem dd_L_law_347 : decode mb_L_law 347 = .ok (.iload 4, 2) := by decide +kernel
theorem dd_L_law_349 : decode mb_L_law 349 = .ok (.iconst 1, 1) := by decide +kernel
theorem dd_L_law_350 : decode mb_L_law 350 = .ok (.iadd, 1) := by decide +kernel
theorem dd_L_law_351 : decode mb_L_law 351 = .ok (.iaload, 1) := by decide +kernel
theorem dd_L_law_352 : decode mb_L_law 352 = .ok (.invokevirtual 80, 3) := by decide +kernel
theorem dd_L_law_355 : decode mb_L_law 355 = .ok (.istore 6, 2) := by decide +kernel
theorem dd_L_law_357 : decode mb_L_law 357 = .ok (.aload_n 2, 1) := by decide +kernel
theorem dd_L_law_358 : decode mb_L_law 358 = .ok (.invokevirtual 67, 3) := by decide +kernel
theorem dd_L_law_361 : decode mb_L_law 361 = .ok (.iload 5, 2) := by decide +kernel
theorem dd_L_law_363 : decode mb_L_law 363 = .ok (.if_icmp .eq 5, 3) := by decide +kernel
theorem dd_L_law_366 : decode mb_L_law 366 = .ok (.iconst 0, 1) := by decide +kernel
theorem dd_L_law_367 : decode mb_L_law 367 = .ok (.ireturn, 1) := by decide +kernel
theorem dd_L_law_368 : decode mb_L_law 368 = .ok (.iload 5, 2) := by decide +kernel
theorem dd_L_law_370 : decode mb_L_law 370 = .ok (.ifCond .ne 15, 3) := by decide +kernel
theorem dd_L_law_373 : decode mb_L_law 373 = .ok (.aload_n 3, 1) := by decide +kernel
theorem dd_L_law_374 : decode mb_L_law 374 = .ok (.iconst 0, 1) := by decide +kernel
theorem dd_L_law_375 : decode mb_L_law 375 = .ok (.laload, 1) := by decide +kernel
theorem dd_L_law_376 : decode mb_L_law 376 = .ok (.iload 6, 2) := by decide +kernel
theorem dd_L_law_378 : decode mb_L_law 378 = .ok (.i2l, 1) := by decide +kernel
theorem dd_L_law_379 : decode mb_L_law 379 = .ok (.lcmp, 1) := by decide +kernel
theorem dd_L_law_380 : decode mb_L_law 380 = .ok (.ifCond .eq 5, 3) := by decide +kernel
theorem dd_L_law_383 : decode mb_L_law 383 = .ok (.iconst 0, 1) := by decide +kernel
theorem dd_L_law_384 : decode mb_L_law 384 = .ok (.ireturn, 1) := by decide +kernel
theorem dd_L_law_385 : decode mb_L_law 385 = .ok (.goto 417, 3) := by decide +kernel
theorem dd_L_law_388 : decode mb_L_law 388 = .ok (.aload_n 1, 1) := by decide +kernel
theorem dd_L_law_389 : decode mb_L_law 389 = .ok (.invokevirtual 81, 3) := by decide +kernel
theorem dd_L_law_392 : decode mb_L_law 392 = .ok (.aload_n 2, 1) := by decide +kernel
theorem dd_L_law_393 : decode mb_L_law 393 = .ok (.invokevirtual 84, 3) := by decide +kernel
theorem dd_L_law_396 : decode mb_L_law 396 = .ok (.if_icmp .eq 406, 3) := by decide +kernel
theorem dd_L_law_399 : decode mb_L_law 399 = .ok (.iconst 0, 1) := by decide +kernel
theorem dd_L_law_400 : decode mb_L_law 400 = .ok (.ireturn, 1) := by decide +kernel
theorem dd_L_law_401 : decode mb_L_law 401 = .ok (.aload_n 1, 1) := by decide +kernel
theorem dd_L_law_402 : decode mb_L_law 402 = .ok (.aload_n 0, 1) := by decide +kernel
theorem dd_L_law_403 : decode mb_L_law 403 = .ok (.iload 4, 2) := by decide +kernel
theorem dd_L_law_405 : decode mb_L_law 405 = .ok (.iconst 1, 1) := by decide +kernel
theorem dd_L_law_406 : decode mb_L_law 406 = .ok (.iadd, 1) := by decide +kernel
theorem dd_L_law_407 : decode mb_L_law 407 = .ok (.iaload, 1) := by decide +kernel
theorem dd_L_law_408 : decode mb_L_law 408 = .ok (.aload_n 3, 1) := by decide +kernel
theorem dd_L_law_409 : decode mb_L_law 409 = .ok (.invokestatic 85, 3) := by decide +kernel
theorem dd_L_law_412 : decode mb_L_law 412 = .ok (.istore 5, 2) := by decide +kernel
theorem dd_L_law_414 : decode mb_L_law 414 = .ok (.aload_n 2, 1) := by decide +kernel
theorem dd_L_law_415 : decode mb_L_law 415 = .ok (.aload_n 0, 1) := by decide +kernel
theorem dd_L_law_416 : decode mb_L_law 416 = .ok (.iload 4, 2) := by decide +kernel
theorem dd_L_law_418 : decode mb_L_law 418 = .ok (.iconst 1, 1) := by decide +kernel
theorem dd_L_law_419 : decode mb_L_law 419 = .ok (.iadd, 1) := by decide +kernel
theorem dd_L_law_420 : decode mb_L_law 420 = .ok (.iaload, 1) := by decide +kernel
theorem dd_L_law_421 : decode mb_L_law 421 = .ok (.invokevirtual 87, 3) := by decide +kernel
theorem dd_L_law_424 : decode mb_L_law 424 = .ok (.istore 6, 2) := by decide +kernel
theorem dd_L_law_426 : decode mb_L_law 426 = .ok (.aload_n 2, 1) := by decide +kernel
theorem dd_L_law_427 : decode mb_L_law 427 = .ok (.invokevirtual 67, 3) := by decide +kernel
theorem dd_L_law_430 : decode mb_L_law 430 = .ok (.iload 5, 2) := by decide +kernel
theorem dd_L_law_432 : decode mb_L_law 432 = .ok (.if_icmp .eq 5, 3) := by decide +kernel
theorem dd_L_law_435 : decode mb_L_law 435 = .ok (.iconst 0, 1) := by decide +kernel
theorem dd_L_law_436 : decode mb_L_law 436 = .ok (.ireturn, 1) := by decide +kernel
theorem dd_L_law_437 : decode mb_L_law 437 = .ok (.iload 5, 2) := by decide +kernel
theorem dd_L_law_439 : decode mb_L_law 439 = .ok (.ifCond .ne 15, 3) := by decide +kernel
theorem dd_L_law_442 : decode mb_L_law 442 = .ok (.aload_n 3, 1) := by decide +kernel
theorem dd_L_law_443 : decode mb_L_law 443 = .ok (.iconst 0, 1) := by decide +kernel
theorem dd_L_law_444 : decode mb_L_law 444 = .ok (.laload, 1) := by decide +kernel
theorem dd_L_law_445 : decode mb_L_law 445 = .ok (.iload 6, 2) := by decide +kernel
theorem dd_L_law_447 : decode mb_L_law 447 = .ok (.i2l, 1) := by decide +kernel
theorem dd_L_law_448 : decode mb_L_law 448 = .ok (.lcmp, 1) := by decide +kernel
theorem dd_L_law_449 : decode mb_L_law 449 = .ok (.ifCond .eq 5, 3) := by decide +kernel
theorem dd_L_law_452 : decode mb_L_law 452 = .ok (.iconst 0, 1) := by decide +kernel
theorem dd_L_law_453 : decode mb_L_law 453 = .ok (.ireturn, 1) := by decide +kernel
theorem dd_L_law_454 : decode mb_L_law 454 = .ok (.goto 348, 3) := by decide +kernel
theorem dd_L_law_457 : decode mb_L_law 457 = .ok (.aload_n 1, 1) := by decide +kernel
theorem dd_L_law_458 : decode mb_L_law 458 = .ok (.aload_n 0, 1) := by decide +kernel
theorem dd_L_law_459 : decode mb_L_law 459 = .ok (.iload 4, 2) := by decide +kernel
theorem dd_L_law_461 : decode mb_L_law 461 = .ok (.iconst 1, 1) := by decide +kernel
theorem dd_L_law_462 : decode mb_L_law 462 = .ok (.iadd, 1) := by decide +kernel
theorem dd_L_law_463 : decode mb_L_law 463 = .ok (.iaload, 1) := by decide +kernel
theorem dd_L_law_464 : decode mb_L_law 464 = .ok (.aload_n 3, 1) := by decide +kernel
theorem dd_L_law_465 : decode mb_L_law 465 = .ok (.invokestatic 88, 3) := by decide +kernel
theorem dd_L_law_468 : decode mb_L_law 468 = .ok (.istore 5, 2) := by decide +kernel
theorem dd_L_law_470 : decode mb_L_law 470 = .ok (.aload_n 2, 1) := by decide +kernel
theorem dd_L_law_471 : decode mb_L_law 471 = .ok (.aload_n 0, 1) := by decide +kernel
theorem dd_L_law_472 : decode mb_L_law 472 = .ok (.iload 4, 2) := by decide +kernel
theorem dd_L_law_474 : decode mb_L_law 474 = .ok (.iconst 1, 1) := by decide +kernel
theorem dd_L_law_475 : decode mb_L_law 475 = .ok (.iadd, 1) := by decide +kernel
theorem dd_L_law_476 : decode mb_L_law 476 = .ok (.iaload, 1) := by decide +kernel
theorem dd_L_law_477 : decode mb_L_law 477 = .ok (.invokevirtual 90, 3) := by decide +kernel
theorem dd_L_law_480 : decode mb_L_law 480 = .ok (.lstore 6, 2) := by decide +kernel
theorem dd_L_law_482 : decode mb_L_law 482 = .ok (.aload_n 2, 1) := by decide +kernel
theorem dd_L_law_483 : decode mb_L_law 483 = .ok (.invokevirtual 67, 3) := by decide +kernel
theorem dd_L_law_486 : decode mb_L_law 486 = .ok (.iload 5, 2) := by decide +kernel
theorem dd_L_law_488 : decode mb_L_law 488 = .ok (.if_icmp .eq 5, 3) := by decide +kernel
theorem dd_L_law_491 : decode mb_L_law 491 = .ok (.iconst 0, 1) := by decide +kernel
theorem dd_L_law_492 : decode mb_L_law 492 = .ok (.ireturn, 1) := by decide +kernel
theorem dd_L_law_493 : decode mb_L_law 493 = .ok (.iload 5, 2) := by decide +kernel
theorem dd_L_law_495 : decode mb_L_law 495 = .ok (.ifCond .ne 14, 3) := by decide +kernel
theorem dd_L_law_498 : decode mb_L_law 498 = .ok (.aload_n 3, 1) := by decide +kernel
theorem dd_L_law_499 : decode mb_L_law 499 = .ok (.iconst 0, 1) := by decide +kernel
theorem dd_L_law_500 : decode mb_L_law 500 = .ok (.laload, 1) := by decide +kernel
theorem dd_L_law_501 : decode mb_L_law 501 = .ok (.lload 6, 2) := by decide +kernel
theorem dd_L_law_503 : decode mb_L_law 503 = .ok (.lcmp, 1) := by decide +kernel
theorem dd_L_law_504 : decode mb_L_law 504 = .ok (.ifCond .eq 5, 3) := by decide +kernel
theorem dd_L_law_507 : decode mb_L_law 507 = .ok (.iconst 0, 1) := by decide +kernel
theorem dd_L_law_508 : decode mb_L_law 508 = .ok (.ireturn, 1) := by decide +kernel
theorem dd_L_law_509 : decode mb_L_law 509 = .ok (.goto 293, 3) := by decide +kernel
theorem dd_L_law_512 : decode mb_L_law 512 = .ok (.aload_n 1, 1) := by decide +kernel
theorem dd_L_law_513 : decode mb_L_law 513 = .ok (.aload_n 0, 1) := by decide +kernel
theorem dd_L_law_514 : decode mb_L_law 514 = .ok (.iload 4, 2) := by decide +kernel
theorem dd_L_law_516 : decode mb_L_law 516 = .ok (.iconst 1, 1) := by decide +kernel
theorem dd_L_law_517 : decode mb_L_law 517 = .ok (.iadd, 1) := by decide +kernel
theorem dd_L_law_518 : decode mb_L_law 518 = .ok (.iaload, 1) := by decide +kernel
theorem dd_L_law_519 : decode mb_L_law 519 = .ok (.aload_n 3, 1) := by decide +kernel
theorem dd_L_law_520 : decode mb_L_law 520 = .ok (.invokestatic 91, 3) := by decide +kernel
theorem dd_L_law_523 : decode mb_L_law 523 = .ok (.istore 5, 2) := by decide +kernel
theorem dd_L_law_525 : decode mb_L_law 525 = .ok (.aload_n 2, 1) := by decide +kernel
theorem dd_L_law_526 : decode mb_L_law 526 = .ok (.aload_n 0, 1) := by decide +kernel
theorem dd_L_law_527 : decode mb_L_law 527 = .ok (.iload 4, 2) := by decide +kernel
theorem dd_L_law_529 : decode mb_L_law 529 = .ok (.iconst 1, 1) := by decide +kernel
theorem dd_L_law_530 : decode mb_L_law 530 = .ok (.iadd, 1) := by decide +kernel
theorem dd_L_law_531 : decode mb_L_law 531 = .ok (.iaload, 1) := by decide +kernel
theorem dd_L_law_532 : decode mb_L_law 532 = .ok (.invokevirtual 93, 3) := by decide +kernel
theorem dd_L_law_535 : decode mb_L_law 535 = .ok (.lstore 6, 2) := by decide +kernel
theorem dd_L_law_537 : decode mb_L_law 537 = .ok (.aload_n 2, 1) := by decide +kernel
theorem dd_L_law_538 : decode mb_L_law 538 = .ok (.invokevirtual 67, 3) := by decide +kernel
theorem dd_L_law_541 : decode mb_L_law 541 = .ok (.iload 5, 2) := by decide +kernel
theorem dd_L_law_543 : decode mb_L_law 543 = .ok (.if_icmp .eq 5, 3) := by decide +kernel
theorem dd_L_law_546 : decode mb_L_law 546 = .ok (.iconst 0, 1) := by decide +kernel
theorem dd_L_law_547 : decode mb_L_law 547 = .ok (.ireturn, 1) := by decide +kernel
theorem dd_L_law_548 : decode mb_L_law 548 = .ok (.iload 5, 2) := by decide +kernel
theorem dd_L_law_550 : decode mb_L_law 550 = .ok (.ifCond .ne 14, 3) := by decide +kernel
theorem dd_L_law_553 : decode mb_L_law 553 = .ok (.aload_n 3, 1) := by decide +kernel
theorem dd_L_law_554 : decode mb_L_law 554 = .ok (.iconst 0, 1) := by decide +kernel
theorem dd_L_law_555 : decode mb_L_law 555 = .ok (.laload, 1) := by decide +kernel
theorem dd_L_law_556 : decode mb_L_law 556 = .ok (.lload 6, 2) := by decide +kernel
theorem dd_L_law_558 : decode mb_L_law 558 = .ok (.lcmp, 1) := by decide +kernel
theorem dd_L_law_559 : decode mb_L_law 559 = .ok (.ifCond .eq 5, 3) := by decide +kernel
theorem dd_L_law_562 : decode mb_L_law 562 = .ok (.iconst 0, 1) := by decide +kernel
theorem dd_L_law_563 : decode mb_L_law 563 = .ok (.ireturn, 1) := by decide +kernel
theorem dd_L_law_564 : decode mb_L_law 564 = .ok (.goto 238, 3) := by decide +kernel
theorem dd_L_law_567 : decode mb_L_law 567 = .ok (.aload_n 1, 1) := by decide +kernel
theorem dd_L_law_568 : decode mb_L_law 568 = .ok (.aload_n 0, 1) := by decide +kernel
theorem dd_L_law_569 : decode mb_L_law 569 = .ok (.iload 4, 2) := by decide +kernel
theorem dd_L_law_571 : decode mb_L_law 571 = .ok (.iconst 1, 1) := by decide +kernel
theorem dd_L_law_572 : decode mb_L_law 572 = .ok (.iadd, 1) := by decide +kernel
theorem dd_L_law_573 : decode mb_L_law 573 = .ok (.iaload, 1) := by decide +kernel
theorem dd_L_law_574 : decode mb_L_law 574 = .ok (.aload_n 3, 1) := by decide +kernel
theorem dd_L_law_575 : decode mb_L_law 575 = .ok (.invokestatic 94, 3) := by decide +kernel
theorem dd_L_law_578 : decode mb_L_law 578 = .ok (.istore 5, 2) := by decide +kernel
theorem dd_L_law_580 : decode mb_L_law 580 = .ok (.aload_n 2, 1) := by decide +kernel
theorem dd_L_law_581 : decode mb_L_law 581 = .ok (.aload_n 0, 1) := by decide +kernel
theorem dd_L_law_582 : decode mb_L_law 582 = .ok (.iload 4, 2) := by decide +kernel
theorem dd_L_law_584 : decode mb_L_law 584 = .ok (.iconst 1, 1) := by decide +kernel
theorem dd_L_law_585 : decode mb_L_law 585 = .ok (.iadd, 1) := by decide +kernel
theorem dd_L_law_586 : decode mb_L_law 586 = .ok (.iaload, 1) := by decide +kernel
theorem dd_L_law_587 : decode mb_L_law 587 = .ok (.invokevirtual 96, 3) := by decide +kernel
theorem dd_L_law_590 : decode mb_L_law 590 = .ok (.istore 6, 2) := by decide +kernel
theorem dd_L_law_592 : decode mb_L_law 592 = .ok (.aload_n 2, 1) := by decide +kernel
theorem dd_L_law_593 : decode mb_L_law 593 = .ok (.invokevirtual 67, 3) := by decide +kernel
theorem dd_L_law_596 : decode mb_L_law 596 = .ok (.iload 5, 2) := by decide +kernel
theorem dd_L_law_598 : decode mb_L_law 598 = .ok (.if_icmp .eq 5, 3) := by decide +kernel
theorem dd_L_law_601 : decode mb_L_law 601 = .ok (.iconst 0, 1) := by decide +kernel
theorem dd_L_law_602 : decode mb_L_law 602 = .ok (.ireturn, 1) := by decide +kernel
theorem dd_L_law_603 : decode mb_L_law 603 = .ok (.iload 5, 2) := by decide +kernel
theorem dd_L_law_605 : decode mb_L_law 605 = .ok (.ifCond .ne 22, 3) := by decide +kernel
theorem dd_L_law_608 : decode mb_L_law 608 = .ok (.aload_n 3, 1) := by decide +kernel
theorem dd_L_law_609 : decode mb_L_law 609 = .ok (.iconst 0, 1) := by decide +kernel
theorem dd_L_law_610 : decode mb_L_law 610 = .ok (.laload, 1) := by decide +kernel
theorem dd_L_law_611 : decode mb_L_law 611 = .ok (.iload 6, 2) := by decide +kernel
theorem dd_L_law_613 : decode mb_L_law 613 = .ok (.ifCond .eq 7, 3) := by decide +kernel
theorem dd_L_law_616 : decode mb_L_law 616 = .ok (.lconst 1, 1) := by decide +kernel
theorem dd_L_law_617 : decode mb_L_law 617 = .ok (.goto 4, 3) := by decide +kernel
theorem dd_L_law_620 : decode mb_L_law 620 = .ok (.lconst 0, 1) := by decide +kernel
theorem dd_L_law_621 : decode mb_L_law 621 = .ok (.lcmp, 1) := by decide +kernel
theorem dd_L_law_622 : decode mb_L_law 622 = .ok (.ifCond .eq 5, 3) := by decide +kernel
theorem dd_L_law_625 : decode mb_L_law 625 = .ok (.iconst 0, 1) := by decide +kernel
theorem dd_L_law_626 : decode mb_L_law 626 = .ok (.ireturn, 1) := by decide +kernel
theorem dd_L_law_627 : decode mb_L_law 627 = .ok (.goto 175, 3) := by decide +kernel
theorem dd_L_law_630 : decode mb_L_law 630 = .ok (.aload_n 1, 1) := by decide +kernel
theorem dd_L_law_631 : decode mb_L_law 631 = .ok (.aload_n 0, 1) := by decide +kernel
theorem dd_L_law_632 : decode mb_L_law 632 = .ok (.iload 4, 2) := by decide +kernel
theorem dd_L_law_634 : decode mb_L_law 634 = .ok (.iconst 1, 1) := by decide +kernel
theorem dd_L_law_635 : decode mb_L_law 635 = .ok (.iadd, 1) := by decide +kernel
theorem dd_L_law_636 : decode mb_L_law 636 = .ok (.iaload, 1) := by decide +kernel
theorem dd_L_law_637 : decode mb_L_law 637 = .ok (.invokestatic 97, 3) := by decide +kernel
theorem dd_L_law_640 : decode mb_L_law 640 = .ok (.istore 5, 2) := by decide +kernel
theorem dd_L_law_642 : decode mb_L_law 642 = .ok (.aload_n 2, 1) := by decide +kernel
theorem dd_L_law_643 : decode mb_L_law 643 = .ok (.aload_n 0, 1) := by decide +kernel
theorem dd_L_law_644 : decode mb_L_law 644 = .ok (.iload 4, 2) := by decide +kernel
theorem dd_L_law_646 : decode mb_L_law 646 = .ok (.iconst 1, 1) := by decide +kernel
theorem dd_L_law_647 : decode mb_L_law 647 = .ok (.iadd, 1) := by decide +kernel
theorem dd_L_law_648 : decode mb_L_law 648 = .ok (.iaload, 1) := by decide +kernel
theorem dd_L_law_649 : decode mb_L_law 649 = .ok (.invokevirtual 100, 3) := by decide +kernel
theorem dd_L_law_652 : decode mb_L_law 652 = .ok (.aload_n 2, 1) := by decide +kernel
theorem dd_L_law_653 : decode mb_L_law 653 = .ok (.invokevirtual 67, 3) := by decide +kernel
theorem dd_L_law_656 : decode mb_L_law 656 = .ok (.iload 5, 2) := by decide +kernel
theorem dd_L_law_658 : decode mb_L_law 658 = .ok (.if_icmp .eq 5, 3) := by decide +kernel
theorem dd_L_law_661 : decode mb_L_law 661 = .ok (.iconst 0, 1) := by decide +kernel
theorem dd_L_law_662 : decode mb_L_law 662 = .ok (.ireturn, 1) := by decide +kernel
theorem dd_L_law_663 : decode mb_L_law 663 = .ok (.goto 139, 3) := by decide +kernel
theorem dd_L_law_666 : decode mb_L_law 666 = .ok (.aload_n 1, 1) := by decide +kernel
theorem dd_L_law_667 : decode mb_L_law 667 = .ok (.aload_n 0, 1) := by decide +kernel
theorem dd_L_law_668 : decode mb_L_law 668 = .ok (.iload 4, 2) := by decide +kernel
theorem dd_L_law_670 : decode mb_L_law 670 = .ok (.iconst 1, 1) := by decide +kernel
theorem dd_L_law_671 : decode mb_L_law 671 = .ok (.iadd, 1) := by decide +kernel
theorem dd_L_law_672 : decode mb_L_law 672 = .ok (.iaload, 1) := by decide +kernel
theorem dd_L_law_673 : decode mb_L_law 673 = .ok (.i2l, 1) := by decide +kernel
theorem dd_L_law_674 : decode mb_L_law 674 = .ok (.bipush 32, 2) := by decide +kernel
theorem dd_L_law_676 : decode mb_L_law 676 = .ok (.lshl, 1) := by decide +kernel
theorem dd_L_law_677 : decode mb_L_law 677 = .ok (.aload_n 0, 1) := by decide +kernel
theorem dd_L_law_678 : decode mb_L_law 678 = .ok (.iload 4, 2) := by decide +kernel
theorem dd_L_law_680 : decode mb_L_law 680 = .ok (.iconst 2, 1) := by decide +kernel
theorem dd_L_law_681 : decode mb_L_law 681 = .ok (.iadd, 1) := by decide +kernel
theorem dd_L_law_682 : decode mb_L_law 682 = .ok (.iaload, 1) := by decide +kernel
theorem dd_L_law_683 : decode mb_L_law 683 = .ok (.i2l, 1) := by decide +kernel
theorem dd_L_law_684 : decode mb_L_law 684 = .ok (.ldc2_w 59, 3) := by decide +kernel
theorem dd_L_law_687 : decode mb_L_law 687 = .ok (.land, 1) := by decide +kernel
theorem dd_L_law_688 : decode mb_L_law 688 = .ok (.lor, 1) := by decide +kernel
theorem dd_L_law_689 : decode mb_L_law 689 = .ok (.aload_n 0, 1) := by decide +kernel
theorem dd_L_law_690 : decode mb_L_law 690 = .ok (.iload 4, 2) := by decide +kernel
theorem dd_L_law_692 : decode mb_L_law 692 = .ok (.iconst 3, 1) := by decide +kernel
theorem dd_L_law_693 : decode mb_L_law 693 = .ok (.iadd, 1) := by decide +kernel
theorem dd_L_law_694 : decode mb_L_law 694 = .ok (.iaload, 1) := by decide +kernel
theorem dd_L_law_695 : decode mb_L_law 695 = .ok (.aload_n 3, 1) := by decide +kernel
theorem dd_L_law_696 : decode mb_L_law 696 = .ok (.invokestatic 101, 3) := by decide +kernel
theorem dd_L_law_699 : decode mb_L_law 699 = .ok (.istore 5, 2) := by decide +kernel
theorem dd_L_law_701 : decode mb_L_law 701 = .ok (.aload_n 2, 1) := by decide +kernel
theorem dd_L_law_702 : decode mb_L_law 702 = .ok (.aload_n 0, 1) := by decide +kernel
theorem dd_L_law_703 : decode mb_L_law 703 = .ok (.iload 4, 2) := by decide +kernel
theorem dd_L_law_705 : decode mb_L_law 705 = .ok (.iconst 1, 1) := by decide +kernel
theorem dd_L_law_706 : decode mb_L_law 706 = .ok (.iadd, 1) := by decide +kernel
theorem dd_L_law_707 : decode mb_L_law 707 = .ok (.iaload, 1) := by decide +kernel
theorem dd_L_law_708 : decode mb_L_law 708 = .ok (.i2l, 1) := by decide +kernel
theorem dd_L_law_709 : decode mb_L_law 709 = .ok (.bipush 32, 2) := by decide +kernel
theorem dd_L_law_711 : decode mb_L_law 711 = .ok (.lshl, 1) := by decide +kernel
theorem dd_L_law_712 : decode mb_L_law 712 = .ok (.aload_n 0, 1) := by decide +kernel
theorem dd_L_law_713 : decode mb_L_law 713 = .ok (.iload 4, 2) := by decide +kernel
theorem dd_L_law_715 : decode mb_L_law 715 = .ok (.iconst 2, 1) := by decide +kernel
theorem dd_L_law_716 : decode mb_L_law 716 = .ok (.iadd, 1) := by decide +kernel
theorem dd_L_law_717 : decode mb_L_law 717 = .ok (.iaload, 1) := by decide +kernel
theorem dd_L_law_718 : decode mb_L_law 718 = .ok (.i2l, 1) := by decide +kernel
theorem dd_L_law_719 : decode mb_L_law 719 = .ok (.ldc2_w 59, 3) := by decide +kernel
theorem dd_L_law_722 : decode mb_L_law 722 = .ok (.land, 1) := by decide +kernel
theorem dd_L_law_723 : decode mb_L_law 723 = .ok (.lor, 1) := by decide +kernel
theorem dd_L_law_724 : decode mb_L_law 724 = .ok (.aload_n 0, 1) := by decide +kernel
theorem dd_L_law_725 : decode mb_L_law 725 = .ok (.iload 4, 2) := by decide +kernel
theorem dd_L_law_727 : decode mb_L_law 727 = .ok (.iconst 3, 1) := by decide +kernel
theorem dd_L_law_728 : decode mb_L_law 728 = .ok (.iadd, 1) := by decide +kernel
theorem dd_L_law_729 : decode mb_L_law 729 = .ok (.iaload, 1) := by decide +kernel
theorem dd_L_law_730 : decode mb_L_law 730 = .ok (.invokevirtual 104, 3) := by decide +kernel
theorem dd_L_law_733 : decode mb_L_law 733 = .ok (.istore 6, 2) := by decide +kernel
theorem dd_L_law_735 : decode mb_L_law 735 = .ok (.aload_n 2, 1) := by decide +kernel
theorem dd_L_law_736 : decode mb_L_law 736 = .ok (.invokevirtual 67, 3) := by decide +kernel
theorem dd_L_law_739 : decode mb_L_law 739 = .ok (.iload 5, 2) := by decide +kernel
theorem dd_L_law_741 : decode mb_L_law 741 = .ok (.if_icmp .eq 5, 3) := by decide +kernel
theorem dd_L_law_744 : decode mb_L_law 744 = .ok (.iconst 0, 1) := by decide +kernel
theorem dd_L_law_745 : decode mb_L_law 745 = .ok (.ireturn, 1) := by decide +kernel
theorem dd_L_law_746 : decode mb_L_law 746 = .ok (.iload 5, 2) := by decide +kernel
theorem dd_L_law_748 : decode mb_L_law 748 = .ok (.ifCond .ne 15, 3) := by decide +kernel
theorem dd_L_law_751 : decode mb_L_law 751 = .ok (.aload_n 3, 1) := by decide +kernel
theorem dd_L_law_752 : decode mb_L_law 752 = .ok (.iconst 0, 1) := by decide +kernel
theorem dd_L_law_753 : decode mb_L_law 753 = .ok (.laload, 1) := by decide +kernel
theorem dd_L_law_754 : decode mb_L_law 754 = .ok (.iload 6, 2) := by decide +kernel
theorem dd_L_law_756 : decode mb_L_law 756 = .ok (.i2l, 1) := by decide +kernel
theorem dd_L_law_757 : decode mb_L_law 757 = .ok (.lcmp, 1) := by decide +kernel
theorem dd_L_law_758 : decode mb_L_law 758 = .ok (.ifCond .eq 5, 3) := by decide +kernel
theorem dd_L_law_761 : decode mb_L_law 761 = .ok (.iconst 0, 1) := by decide +kernel
theorem dd_L_law_762 : decode mb_L_law 762 = .ok (.ireturn, 1) := by decide +kernel
theorem dd_L_law_763 : decode mb_L_law 763 = .ok (.goto 39, 3) := by decide +kernel
theorem dd_L_law_766 : decode mb_L_law 766 = .ok (.aload_n 1, 1) := by decide +kernel
theorem dd_L_law_767 : decode mb_L_law 767 = .ok (.aload_n 0, 1) := by decide +kernel
theorem dd_L_law_768 : decode mb_L_law 768 = .ok (.iload 4, 2) := by decide +kernel
theorem dd_L_law_770 : decode mb_L_law 770 = .ok (.iconst 1, 1) := by decide +kernel
theorem dd_L_law_771 : decode mb_L_law 771 = .ok (.iadd, 1) := by decide +kernel
theorem dd_L_law_772 : decode mb_L_law 772 = .ok (.iaload, 1) := by decide +kernel
theorem dd_L_law_773 : decode mb_L_law 773 = .ok (.invokestatic 105, 3) := by decide +kernel
theorem dd_L_law_776 : decode mb_L_law 776 = .ok (.istore 5, 2) := by decide +kernel
theorem dd_L_law_778 : decode mb_L_law 778 = .ok (.aload_n 2, 1) := by decide +kernel
theorem dd_L_law_779 : decode mb_L_law 779 = .ok (.aload_n 0, 1) := by decide +kernel
theorem dd_L_law_780 : decode mb_L_law 780 = .ok (.iload 4, 2) := by decide +kernel
theorem dd_L_law_782 : decode mb_L_law 782 = .ok (.iconst 1, 1) := by decide +kernel
theorem dd_L_law_783 : decode mb_L_law 783 = .ok (.iadd, 1) := by decide +kernel
theorem dd_L_law_784 : decode mb_L_law 784 = .ok (.iaload, 1) := by decide +kernel
theorem dd_L_law_785 : decode mb_L_law 785 = .ok (.invokevirtual 107, 3) := by decide +kernel
theorem dd_L_law_788 : decode mb_L_law 788 = .ok (.aload_n 2, 1) := by decide +kernel
theorem dd_L_law_789 : decode mb_L_law 789 = .ok (.invokevirtual 67, 3) := by decide +kernel
theorem dd_L_law_792 : decode mb_L_law 792 = .ok (.iload 5, 2) := by decide +kernel
theorem dd_L_law_794 : decode mb_L_law 794 = .ok (.if_icmp .eq 5, 3) := by decide +kernel
theorem dd_L_law_797 : decode mb_L_law 797 = .ok (.iconst 0, 1) := by decide +kernel
theorem dd_L_law_798 : decode mb_L_law 798 = .ok (.ireturn, 1) := by decide +kernel
theorem dd_L_law_799 : decode mb_L_law 799 = .ok (.goto 3, 3) := by decide +kernel
theorem dd_L_law_802 : decode mb_L_law 802 = .ok (.iinc 4 5, 3) := by decide +kernel
theorem dd_L_law_805 : decode mb_L_law 805 = .ok (.goto (-782), 3) := by decide +kernel
theorem dd_L_law_808 : decode mb_L_law 808 = .ok (.iconst 1, 1) := by decide +kernel
theorem dd_L_law_809 : decode mb_L_law 809 = .ok (.ireturn, 1) := by decide +kernel
end
section
/-! Bits of longs, rows of bits, numbers in rows of bits: nothing of the machine -/
theorem wb_tb (n : Nat) : (lN n).toBitVec = BitVec.ofNat 64 n := rfl
theorem wb_c : ∀ k, k < 64 → ((nI k).toInt64 &&& 63) = lN k := by decide +kernel
theorem wb_cu : ∀ k, k < 64 → ((nI k).toInt64.toUInt64 &&& Int64.toUInt64 63) = UInt64.ofNat k := by decide +kernel
theorem wb_sm : ∀ k, k < 64 → (BitVec.ofNat 64 k).smod 64 = BitVec.ofNat 64 k := by decide +kernel
def cp_b (x : Int64) (j : Nat) : Bool := x.toBitVec.getLsbD j
theorem cp_ext {x y : Int64} (h : ∀ j, j < 64 → cp_b x j = cp_b y j) : x = y :=
  Int64.toBitVec_inj.mp (BitVec.eq_of_getLsbD_eq (fun i hi => h i hi))
theorem cp_big (x : Int64) {j : Nat} (h : 64 ≤ j) : cp_b x j = false := BitVec.getLsbD_of_ge _ _ h
theorem cp_or (x y : Int64) (j : Nat) : cp_b (x ||| y) j = (cp_b x j || cp_b y j) := by
  unfold cp_b; rw [Int64.toBitVec_or, BitVec.getLsbD_or]
theorem cp_and (x y : Int64) (j : Nat) : cp_b (x &&& y) j = (cp_b x j && cp_b y j) := by
  unfold cp_b; rw [Int64.toBitVec_and, BitVec.getLsbD_and]
theorem cp_xor (x y : Int64) (j : Nat) : cp_b (x ^^^ y) j = (cp_b x j ^^ cp_b y j) := by
  unfold cp_b; rw [Int64.toBitVec_xor, BitVec.getLsbD_xor]
theorem cp_0 (j : Nat) : cp_b 0 j = false := by
  unfold cp_b; show (0#64).getLsbD j = false; exact BitVec.getLsbD_zero
theorem cp_N (n j : Nat) : cp_b (lN n) j = (decide (j < 64) && n.testBit j) := by
  unfold cp_b; rw [wb_tb, BitVec.getLsbD_ofNat]
theorem cp_shl (x : Int64) {k : Nat} (hk : k < 64) {j : Nat} (hj : j < 64) : cp_b (x <<< ((nI k).toInt64 &&& 63)) j = (decide (k ≤ j) && cp_b x (j - k)) := by
  unfold cp_b
  have e : (BitVec.ofNat 64 k).toNat = k := by rw [BitVec.toNat_ofNat]; exact Nat.mod_eq_of_lt (by omega)
  rw [wb_c k hk, Int64.toBitVec_shiftLeft, wb_tb, wb_sm k hk, BitVec.shiftLeft_eq', e, BitVec.getLsbD_shiftLeft, decide_eq_true hj, Bool.true_and]
  by_cases c : k ≤ j
  · rw [decide_eq_true c, decide_eq_false (by omega)]; rfl
  · rw [decide_eq_false c, decide_eq_true (by omega)]; rfl
theorem cp_ushr (x : Int64) {k : Nat} (hk : k < 64) (j : Nat) : cp_b (x.toUInt64 >>> ((nI k).toInt64.toUInt64 &&& Int64.toUInt64 63)).toInt64 j = cp_b x (k + j) := by
  rw [wb_cu k hk]
  have h1 : (UInt64.ofNat k).toNat = k := by
    show (BitVec.ofNat 64 k).toNat = k
    rw [BitVec.toNat_ofNat, Nat.mod_eq_of_lt (by omega)]
  have e : (x.toUInt64 >>> UInt64.ofNat k).toInt64.toBitVec = x.toBitVec >>> k := by
    apply BitVec.eq_of_toNat_eq
    show (x.toUInt64 >>> UInt64.ofNat k).toNat = _
    rw [UInt64.toNat_shiftRight, h1, Nat.mod_eq_of_lt hk, BitVec.toNat_ushiftRight]
    rfl
  unfold cp_b
  rw [e, BitVec.getLsbD_ushiftRight]
/-- a number of n bits: none above -/
def cp_fit (v : Int64) (n : Nat) : Prop := ∀ j, n ≤ j → cp_b v j = false
theorem cp_fit_64 (v : Int64) : cp_fit v 64 := fun _ h => cp_big v h
theorem cp_fit_N {a n : Nat} (h : a < 2 ^ n) : cp_fit (lN a) n := fun j hj => by
  rw [cp_N, Nat.testBit_lt_two_pow (Nat.lt_of_lt_of_le h (Nat.pow_le_pow_right (by decide) hj)), Bool.and_false]
theorem cp_fit_0 (n : Nat) : cp_fit 0 n := fun j _ => cp_0 j
theorem cp_ushr0 (v : Int64) {n : Nat} (hn : n < 64) : (v.toUInt64 >>> ((nI n).toInt64.toUInt64 &&& Int64.toUInt64 63)).toInt64 = 0 ↔ cp_fit v n := by
  constructor
  · intro h j hj
    have e := cp_ushr v hn (j - n)
    rw [h, cp_0, show n + (j - n) = j by omega] at e
    exact e.symm
  · intro h
    apply cp_ext
    intro j _
    rw [cp_ushr v hn, cp_0]
    exact h _ (by omega)
/-- a row of bits, read -/
def cp_g (L : List Bool) (i : Nat) : Bool := (L[i]?).getD false
theorem cp_g_l {L M : List Bool} {i : Nat} (h : i < L.length) : cp_g (L ++ M) i = cp_g L i := by
  unfold cp_g; rw [List.getElem?_append_left h]
theorem cp_g_r {L M : List Bool} {i : Nat} (h : L.length ≤ i) : cp_g (L ++ M) i = cp_g M (i - L.length) := by
  unfold cp_g; rw [List.getElem?_append_right h]
theorem cp_g_take {L : List Bool} {n i : Nat} (h : i < n) : cp_g (L.take n) i = cp_g L i := by
  unfold cp_g; rw [List.getElem?_take_of_lt h]
theorem cp_g_set (L : List Bool) (k i : Nat) (b : Bool) : cp_g (L.set k b) i = if k = i ∧ i < L.length then b else cp_g L i := by
  unfold cp_g
  rw [List.getElem?_set]
  by_cases e : k = i
  · subst e
    by_cases c : k < L.length
    · simp [c]
    · simp [c]
  · simp [e]
/-- the n low bits of v, the highest first -/
def cp_bl (v : Int64) : Nat → List Bool
  | 0 => []
  | n + 1 => cp_b v n :: cp_bl v n
theorem cp_bl_len (v : Int64) (n : Nat) : (cp_bl v n).length = n := by
  induction n with
  | zero => rfl
  | succ n ih => rw [cp_bl, List.length_cons, ih]
theorem cp_bl_g (v : Int64) : ∀ (n i : Nat), i < n → cp_g (cp_bl v n) i = cp_b v (n - 1 - i)
  | 0, i, h => by omega
  | n + 1, 0, _ => by
    show (some (cp_b v n)).getD false = _
    simp
  | n + 1, i + 1, h => by
    have e := cp_bl_g v n i (by omega)
    show ((cp_bl v n)[i]?).getD false = _
    rw [show n + 1 - 1 - (i + 1) = n - 1 - i by omega]
    exact e
theorem cp_bl_congr {v w : Int64} : ∀ {n : Nat}, (∀ j, j < n → cp_b v j = cp_b w j) → cp_bl v n = cp_bl w n
  | 0, _ => rfl
  | n + 1, h => by rw [cp_bl, cp_bl, h n (by omega), cp_bl_congr (fun j hj => h j (by omega))]
theorem cp_app_g (L : List Bool) (v : Int64) (n i : Nat) (h : i < L.length + n) : cp_g (L ++ cp_bl v n) i = if i < L.length then cp_g L i else cp_b v (n - 1 - (i - L.length)) := by
  by_cases c : i < L.length
  · rw [if_pos c, cp_g_l c]
  · rw [if_neg c, cp_g_r (by omega), cp_bl_g v n _ (by omega)]
/-- the number of n bits from bit p on -/
def cp_n (L : List Bool) (p : Nat) : Nat → Nat
  | 0 => 0
  | n + 1 => 2 * cp_n L p n + (cp_g L (p + n)).toNat
theorem cp_n_lt (L : List Bool) (p n : Nat) : cp_n L p n < 2 ^ n := by
  induction n with
  | zero => exact Nat.one_pos
  | succ n ih =>
    have := Bool.toNat_le (cp_g L (p + n))
    rw [cp_n, Nat.pow_succ]
    omega
theorem cp_n_bit (L : List Bool) (p : Nat) : ∀ (n j : Nat), (cp_n L p n).testBit j = (decide (j < n) && cp_g L (p + n - 1 - j))
  | 0, j => by rw [cp_n, Nat.zero_testBit]; rfl
  | n + 1, 0 => by
    rw [cp_n, Nat.testBit_zero, show p + (n + 1) - 1 - 0 = p + n by omega, decide_eq_true (by omega : 0 < n + 1), Bool.true_and]
    cases cp_g L (p + n)
    · rw [Bool.toNat_false, Nat.add_zero, Nat.mul_mod_right]; rfl
    · rw [Bool.toNat_true, show (2 * cp_n L p n + 1) % 2 = 1 by omega]; rfl
  | n + 1, j + 1 => by
    have := Bool.toNat_le (cp_g L (p + n))
    rw [cp_n, Nat.testBit_succ, show (2 * cp_n L p n + (cp_g L (p + n)).toNat) / 2 = cp_n L p n by omega, cp_n_bit L p n j, show p + (n + 1) - 1 - (j + 1) = p + n - 1 - j by omega]
    by_cases c : j < n
    · rw [decide_eq_true c, decide_eq_true (by omega : j + 1 < n + 1)]
    · rw [decide_eq_false c, decide_eq_false (by omega : ¬ j + 1 < n + 1)]
theorem cp_nN_bit (L : List Bool) (p n j : Nat) (hn : n ≤ 64) : cp_b (lN (cp_n L p n)) j = (decide (j < n) && cp_g L (p + n - 1 - j)) := by
  rw [cp_N, cp_n_bit]
  by_cases c : j < n
  · rw [decide_eq_true (by omega : j < 64), Bool.true_and]
  · rw [decide_eq_false c]; simp
/-- bits in words, 64 a word, the first one highest -/
def cp_w (w : Nat → Int64) (i : Nat) : Bool := cp_b (w (i / 64)) (63 - i % 64)
def cp_Rw (w : Nat → Int64) (L : List Bool) : Prop := ∀ i, i < L.length → cp_w w i = cp_g L i
/-- BitRow.numberAt -/
theorem cp_num1 {w : Nat → Int64} {L : List Bool} (h : cp_Rw w L) {p n : Nat} (h0 : 0 < n) (hn : n ≤ 64) (hp : p + n ≤ L.length) (hc : p % 64 + n ≤ 64) :
    ((w (p / 64) <<< ((nI (p % 64)).toInt64 &&& 63)).toUInt64 >>> ((nI (64 - n)).toInt64.toUInt64 &&& Int64.toUInt64 63)).toInt64 = lN (cp_n L p n) := by
  apply cp_ext
  intro j hj
  rw [cp_ushr _ (by omega), cp_nN_bit L p n j hn]
  by_cases c : j < n
  · rw [decide_eq_true c, Bool.true_and, cp_shl _ (by omega) (by omega), ← h _ (by omega), decide_eq_true (by omega), Bool.true_and]
    unfold cp_w
    rw [show (p + n - 1 - j) / 64 = p / 64 by omega, show 63 - (p + n - 1 - j) % 64 = 64 - n + j - p % 64 by omega]
  · rw [decide_eq_false c, Bool.false_and]
    exact cp_big _ (by omega)
theorem cp_num2 {w : Nat → Int64} {L : List Bool} (h : cp_Rw w L) {p n : Nat} (h0 : 0 < n) (hn : n ≤ 64) (hp : p + n ≤ L.length) (hc : 64 < p % 64 + n) :
    ((w (p / 64) <<< ((nI (p % 64)).toInt64 &&& 63) ||| ((w (p / 64 + 1)).toUInt64 >>> ((nI (64 - p % 64)).toInt64.toUInt64 &&& Int64.toUInt64 63)).toInt64).toUInt64 >>> ((nI (64 - n)).toInt64.toUInt64 &&& Int64.toUInt64 63)).toInt64 = lN (cp_n L p n) := by
  apply cp_ext
  intro j hj
  rw [cp_ushr _ (by omega), cp_nN_bit L p n j hn]
  by_cases c : j < n
  · rw [decide_eq_true c, Bool.true_and, cp_or, cp_shl _ (by omega) (by omega), cp_ushr _ (by omega), ← h _ (by omega)]
    unfold cp_w
    by_cases d : p % 64 ≤ 64 - n + j
    · rw [decide_eq_true d, Bool.true_and, cp_big (w (p / 64 + 1)) (by omega), Bool.or_false, show (p + n - 1 - j) / 64 = p / 64 by omega, show 63 - (p + n - 1 - j) % 64 = 64 - n + j - p % 64 by omega]
    · rw [decide_eq_false d, Bool.false_and, Bool.false_or, show (p + n - 1 - j) / 64 = p / 64 + 1 by omega, show 63 - (p + n - 1 - j) % 64 = 64 - p % 64 + (64 - n + j) by omega]
  · rw [decide_eq_false c, Bool.false_and]
    exact cp_big _ (by omega)
/-- BitRow.append: the head of the last word -/
def cp_hd (w : Nat → Int64) (s : Nat) : Int64 := if s % 64 = 0 then 0 else ((w (s / 64)).toUInt64 >>> ((nI (64 - s % 64)).toInt64.toUInt64 &&& Int64.toUInt64 63)).toInt64 <<< ((nI (64 - s % 64)).toInt64 &&& 63)
theorem cp_hd_b (w : Nat → Int64) (s : Nat) {j : Nat} (hj : j < 64) : cp_b (cp_hd w s) j = (decide (64 - s % 64 ≤ j) && cp_b (w (s / 64)) j) := by
  unfold cp_hd
  by_cases c : s % 64 = 0
  · rw [if_pos c, cp_0, decide_eq_false (by omega), Bool.false_and]
  · rw [if_neg c, cp_shl _ (by omega) hj]
    by_cases d : 64 - s % 64 ≤ j
    · rw [decide_eq_true d, Bool.true_and, Bool.true_and, cp_ushr _ (by omega), show 64 - s % 64 + (j - (64 - s % 64)) = j by omega]
    · rw [decide_eq_false d, Bool.false_and, Bool.false_and]
theorem cp_app1 {w : Nat → Int64} {L : List Bool} (h : cp_Rw w L) {v : Int64} {n : Nat} (h0 : 0 < n) (hf : cp_fit v n) (hc : n ≤ 64 - L.length % 64) :
    cp_Rw (vp_updL w (L.length / 64) (cp_hd w L.length ||| v <<< ((nI (64 - L.length % 64 - n)).toInt64 &&& 63))) (L ++ cp_bl v n) := by
  intro i hi
  rw [List.length_append, cp_bl_len] at hi
  rw [cp_app_g L v n i hi]
  unfold cp_w vp_updL
  by_cases c : i < L.length
  · rw [if_pos c, ← h i c]
    unfold cp_w
    by_cases d : i / 64 = L.length / 64
    · rw [if_pos d, cp_or, cp_hd_b w _ (by omega), decide_eq_true (by omega), Bool.true_and, cp_shl _ (by omega) (by omega), d]
      rw [hf (63 - i % 64 - (64 - L.length % 64 - n)) (by omega), Bool.and_false, Bool.or_false]
    · rw [if_neg d]
  · rw [if_neg c, if_pos (by omega), cp_or, cp_hd_b w _ (by omega), decide_eq_false (by omega), Bool.false_and, Bool.false_or, cp_shl _ (by omega) (by omega), decide_eq_true (by omega), Bool.true_and]
    rw [show 63 - i % 64 - (64 - L.length % 64 - n) = n - 1 - (i - L.length) by omega]
theorem cp_app2 {w : Nat → Int64} {L : List Bool} (h : cp_Rw w L) {v : Int64} {n : Nat} (hn : n ≤ 64) (hf : cp_fit v n) (hc : 64 - L.length % 64 < n) :
    cp_Rw (vp_updL (vp_updL w (L.length / 64) (cp_hd w L.length ||| (v.toUInt64 >>> ((nI (n - (64 - L.length % 64))).toInt64.toUInt64 &&& Int64.toUInt64 63)).toInt64)) (L.length / 64 + 1) (v <<< ((nI (64 - (n - (64 - L.length % 64)))).toInt64 &&& 63))) (L ++ cp_bl v n) := by
  intro i hi
  rw [List.length_append, cp_bl_len] at hi
  rw [cp_app_g L v n i hi]
  unfold cp_w vp_updL
  by_cases c : i < L.length
  · rw [if_pos c, ← h i c]
    unfold cp_w
    rw [if_neg (by omega)]
    by_cases d : i / 64 = L.length / 64
    · rw [if_pos d, cp_or, cp_hd_b w _ (by omega), decide_eq_true (by omega), Bool.true_and, cp_ushr _ (by omega), d]
      rw [hf (n - (64 - L.length % 64) + (63 - i % 64)) (by omega), Bool.or_false]
    · rw [if_neg d]
  · rw [if_neg c]
    by_cases d : i / 64 = L.length / 64 + 1
    · rw [if_pos d, cp_shl _ (by omega) (by omega), decide_eq_true (by omega), Bool.true_and, show 63 - i % 64 - (64 - (n - (64 - L.length % 64))) = n - 1 - (i - L.length) by omega]
    · rw [if_neg d, if_pos (by omega), cp_or, cp_hd_b w _ (by omega), decide_eq_false (by omega), Bool.false_and, Bool.false_or, cp_ushr _ (by omega), show n - (64 - L.length % 64) + (63 - i % 64) = n - 1 - (i - L.length) by omega]
end
section
/-! The document's codec, as functions: packing (cp_pk), reading (cp_ru) -/
/-- how many bits a turn has behind its kind -/
def cp_tb (k : Nat) : Nat := if k = 0 then 0 else if k = 1 then 7 else if k = 2 then 10 else if k = 3 then 13 else 41
def cp_kd (t : Int64) : Nat := if t = 0 then 0 else if -64 ≤ t ∧ t ≤ 63 then 1 else if -512 ≤ t ∧ t ≤ 511 then 2 else if -4096 ≤ t ∧ t ≤ 4095 then 3 else 4
def cp_kb (k : Nat) : List Bool := if k = 0 then cp_bl 0 1 else if k = 1 then cp_bl 2 2 else if k = 2 then cp_bl 6 3 else if k = 3 then cp_bl 14 4 else cp_bl 15 4
def cp_wt (t : Int64) : List Bool := cp_kb (cp_kd t) ++ cp_bl t (cp_tb (cp_kd t))
theorem cp_kd_le (t : Int64) : cp_kd t ≤ 4 := by
  unfold cp_kd
  by_cases h0 : t = 0
  · rw [if_pos h0]; decide
  · rw [if_neg h0]
    by_cases h1 : -64 ≤ t ∧ t ≤ 63
    · rw [if_pos h1]; decide
    · rw [if_neg h1]
      by_cases h2 : -512 ≤ t ∧ t ≤ 511
      · rw [if_pos h2]; decide
      · rw [if_neg h2]
        by_cases h3 : -4096 ≤ t ∧ t ≤ 4095
        · rw [if_pos h3]; decide
        · rw [if_neg h3]; decide
theorem cp_wt_len (t : Int64) : (cp_wt t).length ≤ 45 := by
  unfold cp_wt
  have h := cp_kd_le t
  generalize cp_kd t = k at h
  have : k = 0 ∨ k = 1 ∨ k = 2 ∨ k = 3 ∨ k = 4 := by omega
  rcases this with rfl | rfl | rfl | rfl | rfl <;> simp [cp_kb, cp_tb, cp_bl_len]
/-- how many 0s stand above the highest 1, below the lowest 1 -/
def cp_lzr (x : Int64) : Nat → Nat
  | 0 => 0
  | n + 1 => if cp_b x n = true then 0 else cp_lzr x n + 1
def cp_lz (x : Int64) : Nat := cp_lzr x 64
def cp_tzr (x : Int64) : Nat → Nat → Nat
  | 0, b => b
  | n + 1, b => if cp_b x b = true then b else cp_tzr x n (b + 1)
def cp_tz (x : Int64) : Nat := cp_tzr x 64 0
theorem cp_lzr_spec (x : Int64) : ∀ n, (∀ j, j < cp_lzr x n → cp_b x (n - 1 - j) = false) ∧ cp_lzr x n ≤ n ∧ (cp_lzr x n < n → cp_b x (n - 1 - cp_lzr x n) = true)
  | 0 => ⟨fun j h => absurd h (Nat.not_lt_zero j), Nat.le_refl 0, fun h => absurd h (Nat.lt_irrefl 0)⟩
  | n + 1 => by
    obtain ⟨h1, h2, h3⟩ := cp_lzr_spec x n
    rw [cp_lzr]
    by_cases c : cp_b x n = true
    · rw [if_pos c]
      exact ⟨fun j h => absurd h (Nat.not_lt_zero j), Nat.zero_le _, fun _ => by rw [show n + 1 - 1 - 0 = n by omega]; exact c⟩
    · rw [if_neg c]
      refine ⟨fun j h => ?_, by omega, fun h => ?_⟩
      · cases j with
        | zero => rw [show n + 1 - 1 - 0 = n by omega]; cases hb : cp_b x n with
          | true => exact absurd hb c
          | false => rfl
        | succ j => rw [show n + 1 - 1 - (j + 1) = n - 1 - j by omega]; exact h1 j (by omega)
      · rw [show n + 1 - 1 - (cp_lzr x n + 1) = n - 1 - cp_lzr x n by omega]; exact h3 (by omega)
theorem cp_tzr_spec (x : Int64) : ∀ n b, b ≤ cp_tzr x n b ∧ cp_tzr x n b ≤ b + n ∧ (∀ j, b ≤ j → j < cp_tzr x n b → cp_b x j = false) ∧ (cp_tzr x n b < b + n → cp_b x (cp_tzr x n b) = true)
  | 0, b => ⟨Nat.le_refl b, Nat.le_refl b, fun j h1 h2 => by rw [cp_tzr] at h2; omega, fun h => by rw [cp_tzr] at h; omega⟩
  | n + 1, b => by
    obtain ⟨h1, h2, h3, h4⟩ := cp_tzr_spec x n (b + 1)
    rw [cp_tzr]
    by_cases c : cp_b x b = true
    · rw [if_pos c]
      exact ⟨Nat.le_refl b, by omega, fun j a1 a2 => by omega, fun _ => c⟩
    · rw [if_neg c]
      refine ⟨by omega, by omega, fun j a1 a2 => ?_, fun h => h4 (by omega)⟩
      rcases Nat.lt_or_ge b j with e | e
      · exact h3 j e a2
      · have : j = b := by omega
        subst this
        cases hb : cp_b x j with
        | true => exact absurd hb c
        | false => rfl
theorem cp_ne0 {x : Int64} (h : x ≠ 0) : ∃ j, j < 64 ∧ cp_b x j = true := by
  refine Classical.byContradiction (fun n => h (cp_ext (fun j hj => ?_)))
  rw [cp_0]
  cases hb : cp_b x j with
  | true => exact absurd ⟨j, hj, hb⟩ n
  | false => rfl
theorem cp_lz_lt {x : Int64} (h : x ≠ 0) : cp_lz x < 64 := by
  obtain ⟨h1, h2, -⟩ := cp_lzr_spec x 64
  obtain ⟨j, hj, hb⟩ := cp_ne0 h
  refine Classical.byContradiction (fun n => ?_)
  have e := h1 (63 - j) (by unfold cp_lz at n; omega)
  rw [show 64 - 1 - (63 - j) = j by omega, hb] at e
  cases e
theorem cp_tz_lt {x : Int64} (h : x ≠ 0) : cp_tz x < 64 := by
  obtain ⟨h1, h2, h3, -⟩ := cp_tzr_spec x 64 0
  obtain ⟨j, hj, hb⟩ := cp_ne0 h
  refine Classical.byContradiction (fun n => ?_)
  have e := h3 j (by omega) (by unfold cp_tz at n; omega)
  rw [hb] at e
  cases e
theorem cp_lz_top {x : Int64} (h : x ≠ 0) : cp_b x (63 - cp_lz x) = true := (cp_lzr_spec x 64).2.2 (cp_lz_lt h)
theorem cp_lz_above (x : Int64) {j : Nat} (h : 64 ≤ j + cp_lz x) : cp_b x j = false := by
  rcases Nat.lt_or_ge j 64 with c | c
  · have e := (cp_lzr_spec x 64).1 (63 - j) (by unfold cp_lz at h; omega)
    rwa [show 64 - 1 - (63 - j) = j by omega] at e
  · exact cp_big x c
theorem cp_tz_low {x : Int64} (h : x ≠ 0) : cp_b x (cp_tz x) = true := (cp_tzr_spec x 64 0).2.2.2 (by have := cp_tz_lt h; unfold cp_tz at this; omega)
theorem cp_tz_below (x : Int64) {j : Nat} (h : j < cp_tz x) : cp_b x j = false := (cp_tzr_spec x 64 0).2.2.1 j (Nat.zero_le j) h
theorem cp_lt_sum {x : Int64} (h : x ≠ 0) : cp_lz x + cp_tz x ≤ 63 := by
  have a := cp_lz_top h
  have b := cp_lz_lt h
  refine Classical.byContradiction (fun n => ?_)
  rw [cp_tz_below x (by omega)] at a
  cases a
/-- x moved right by k -/
def cp_sr (x : Int64) (k : Nat) : Int64 := (x.toUInt64 >>> ((nI k).toInt64.toUInt64 &&& Int64.toUInt64 63)).toInt64
/-- the value: its bits, the frame behind it; (z, n): a frame of n bits behind the z highest; n = 0: none -/
def cp_wv (z n : Nat) (x : Int64) : List Bool × Nat × Nat :=
  if x = 0 then (cp_bl 0 1, z, n)
  else if 0 < n ∧ z ≤ min (cp_lz x) 31 ∧ 64 - z - n ≤ cp_tz x then (cp_bl 2 2 ++ cp_bl (cp_sr x (64 - z - n)) n, z, n)
  else (((cp_bl 3 2 ++ cp_bl (lN (min (cp_lz x) 31)) 5) ++ cp_bl (lN (64 - min (cp_lz x) 31 - cp_tz x - 1)) 6) ++ cp_bl (cp_sr x (cp_tz x)) (64 - min (cp_lz x) 31 - cp_tz x), min (cp_lz x) 31, 64 - min (cp_lz x) 31 - cp_tz x)
theorem cp_wv_frame {z n : Nat} (h : z + n ≤ 64) (x : Int64) : (cp_wv z n x).2.1 + (cp_wv z n x).2.2 ≤ 64 := by
  unfold cp_wv
  split
  · exact h
  · split
    · exact h
    · show min (cp_lz x) 31 + (64 - min (cp_lz x) 31 - cp_tz x) ≤ 64
      omega
theorem cp_wv_len {z n : Nat} (h : z + n ≤ 64) (x : Int64) : (cp_wv z n x).1.length ≤ 77 := by
  unfold cp_wv
  split
  · simp [cp_bl_len]
  · split
    · simp only [List.length_append, cp_bl_len]; omega
    · simp only [List.length_append, cp_bl_len]; omega
/-- the turn of point i -/
def cp_tn (f : Nat → Int64) (i : Nat) : Int64 := if i = 1 then f 1 - f 0 else (f i - f (i - 1)) - (f (i - 1) - f (i - 2))
/-- the first i points packed: bits, frame -/
def cp_pk (f g : Nat → Int64) : Nat → List Bool × Nat × Nat
  | 0 => ([], 0, 0)
  | i + 1 => if i = 0 then (cp_bl (f 0) 40 ++ cp_bl (g 0) 64, 0, 0)
    else (((cp_pk f g i).1 ++ cp_wt (cp_tn f i)) ++ (cp_wv (cp_pk f g i).2.1 (cp_pk f g i).2.2 (g i ^^^ g (i - 1))).1, (cp_wv (cp_pk f g i).2.1 (cp_pk f g i).2.2 (g i ^^^ g (i - 1))).2)
theorem cp_pk_1 (f g : Nat → Int64) : cp_pk f g 1 = (cp_bl (f 0) 40 ++ cp_bl (g 0) 64, 0, 0) := rfl
theorem cp_pk_s (f g : Nat → Int64) {i : Nat} (h : i ≠ 0) : cp_pk f g (i + 1) = (((cp_pk f g i).1 ++ cp_wt (cp_tn f i)) ++ (cp_wv (cp_pk f g i).2.1 (cp_pk f g i).2.2 (g i ^^^ g (i - 1))).1, (cp_wv (cp_pk f g i).2.1 (cp_pk f g i).2.2 (g i ^^^ g (i - 1))).2) := by
  rw [cp_pk, if_neg h]
theorem cp_pk_inv (f g : Nat → Int64) : ∀ i, (cp_pk f g i).1.length ≤ 122 * i ∧ (cp_pk f g i).2.1 + (cp_pk f g i).2.2 ≤ 64
  | 0 => ⟨Nat.le_refl 0, Nat.zero_le 64⟩
  | i + 1 => by
    by_cases c : i = 0
    · subst c
      rw [cp_pk_1]
      exact ⟨by simp [cp_bl_len], Nat.zero_le 64⟩
    · obtain ⟨h1, h2⟩ := cp_pk_inv f g i
      rw [cp_pk_s f g c]
      have a := cp_wt_len (cp_tn f i)
      have b := cp_wv_len h2 (g i ^^^ g (i - 1))
      refine ⟨?_, cp_wv_frame h2 _⟩
      simp only [List.length_append]
      omega
theorem cp_tn_congr {f f' : Nat → Int64} {n i : Nat} (h : ∀ j, j < n → f j = f' j) (hi : i < n) : cp_tn f i = cp_tn f' i := by
  unfold cp_tn
  by_cases c : i = 1
  · subst c; rw [if_pos rfl, if_pos rfl, h 1 hi, h 0 (by omega)]
  · rw [if_neg c, if_neg c, h i hi, h (i - 1) (by omega), h (i - 2) (by omega)]
theorem cp_pk_congr {f g f' g' : Nat → Int64} {n : Nat} (h : ∀ j, j < n → f j = f' j ∧ g j = g' j) : ∀ i, i ≤ n → cp_pk f g i = cp_pk f' g' i
  | 0, _ => rfl
  | i + 1, hi => by
    by_cases c : i = 0
    · subst c
      rw [cp_pk_1, cp_pk_1, (h 0 hi).1, (h 0 hi).2]
    · rw [cp_pk_s f g c, cp_pk_s f' g' c, cp_pk_congr h i (by omega), cp_tn_congr (fun j hj => (h j hj).1) hi, (h i hi).2, (h (i - 1) (by omega)).2]
/-! reading: (right, place, time, step, value, zeros above the frame, bits of the frame) -/
abbrev cp_S : Type := Bool × Nat × Int64 × Int64 × Int64 × Nat × Nat
def cp_max : Int64 := 1099511627775
/-- how many 1s tell the kind, at most j of them; none where the bits end -/
def cp_k (L : List Bool) : Nat → Nat → Option Nat × Nat
  | 0, p => (some 0, p)
  | j + 1, p => if p + 1 ≤ L.length then (if cp_g L p = true then ((cp_k L j (p + 1)).1.map (· + 1), (cp_k L j (p + 1)).2) else (some 0, p + 1)) else (none, p)
/-- a number of n bits with a sign -/
def cp_sg (n a : Nat) : Int64 := if a < 2 ^ (n - 1) then lN a else lN a - lN (2 ^ n)
def cp_rd (L : List Bool) (p : Nat) (t d v : Int64) (z n : Nat) : cp_S :=
  if p + n ≤ L.length then (true, p + n, t, d, v ^^^ (lN (cp_n L p n) <<< ((nI (64 - z - n)).toInt64 &&& 63)), z, n) else (false, p, t, d, v, z, n)
def cp_rv (L : List Bool) (p : Nat) (t d v : Int64) (z n : Nat) : cp_S :=
  if p + 1 ≤ L.length then
    if cp_g L p = true then
      if p + 2 ≤ L.length then
        if cp_g L (p + 1) = true then
          if p + 7 ≤ L.length then
            if p + 13 ≤ L.length then
              if cp_n L (p + 2) 5 + (cp_n L (p + 7) 6 + 1) ≤ 64 then cp_rd L (p + 13) t d v (cp_n L (p + 2) 5) (cp_n L (p + 7) 6 + 1)
              else (false, p + 13, t, d, v, z, n)
            else (false, p + 7, t, d, v, z, n)
          else (false, p + 2, t, d, v, z, n)
        else if n = 0 then (false, p + 2, t, d, v, z, n) else cp_rd L (p + 2) t d v z n
      else (false, p + 1, t, d, v, z, n)
    else (true, p + 1, t, d, v, z, n)
  else (false, p, t, d, v, z, n)
/-- the turn: the new step, where it is right; the place behind it -/
def cp_rt (L : List Bool) (p : Nat) (d : Int64) : Option Int64 × Nat :=
  match cp_k L 4 p with
  | (none, q) => (none, q)
  | (some k, q) => if k = 0 then (some d, q) else if q + cp_tb k ≤ L.length then (some (d + cp_sg (cp_tb k) (cp_n L q (cp_tb k))), q + cp_tb k) else (none, q)
def cp_rn (L : List Bool) (s : cp_S) : cp_S :=
  match cp_rt L s.2.1 s.2.2.2.1 with
  | (none, q) => (false, q, s.2.2)
  | (some d, q) => if 1 ≤ d ∧ s.2.2.1 + d ≤ cp_max then cp_rv L q (s.2.2.1 + d) d s.2.2.2.2.1 s.2.2.2.2.2.1 s.2.2.2.2.2.2 else (false, q, s.2.2)
def cp_r1 (L : List Bool) : cp_S :=
  if 40 ≤ L.length then (if 104 ≤ L.length then (true, 104, lN (cp_n L 0 40), 0, lN (cp_n L 40 64), 0, 0) else (false, 40, 0, 0, 0, 0, 0)) else (false, 0, 0, 0, 0, 0, 0)
/-- i points read -/
def cp_ru (L : List Bool) : Nat → cp_S
  | 0 => (true, 0, 0, 0, 0, 0, 0)
  | i + 1 => if (cp_ru L i).1 = true then (if i = 0 then cp_r1 L else cp_rn L (cp_ru L i)) else cp_ru L i
theorem cp_shr (x : Int64) {k : Nat} (hk : k < 64) {j : Nat} (hj : j < 64) : cp_b (x >>> ((nI k).toInt64 &&& 63)) j = if k + j < 64 then cp_b x (k + j) else cp_b x 63 := by
  unfold cp_b
  have e : (BitVec.ofNat 64 k).toNat = k := by rw [BitVec.toNat_ofNat]; exact Nat.mod_eq_of_lt (by omega)
  rw [wb_c k hk, Int64.toBitVec_shiftRight, wb_tb, wb_sm k hk, BitVec.sshiftRight', e, BitVec.getLsbD_sshiftRight, decide_eq_false (by omega), BitVec.msb_eq_getLsbD_last]
  rfl
theorem cp_lN_sub {a b : Nat} (hb : b ≤ 2 ^ 64) : lN a - lN b = lN (a + 2 ^ 64 - b) := by
  have h : lN a = lN (a + 2 ^ 64) := by
    apply Int64.toBitVec_inj.mp
    rw [wb_tb, wb_tb]
    apply BitVec.eq_of_toNat_eq
    rw [BitVec.toNat_ofNat, BitVec.toNat_ofNat, Nat.add_mod_right]
  rw [h, lN_sub (by omega)]
theorem cp_sg_c {n a : Nat} (h0 : 0 < n) (hn : n < 64) (ha : a < 2 ^ n) : (lN a <<< ((nI (64 - n)).toInt64 &&& 63)) >>> ((nI (64 - n)).toInt64 &&& 63) = cp_sg n a := by
  have hp : 2 ^ n ≤ 2 ^ 64 := Nat.pow_le_pow_right (by decide) (by omega)
  have hq : 2 ^ n = 2 ^ (n - 1) * 2 := by rw [← Nat.pow_succ]; congr 1; omega
  apply cp_ext
  intro j hj
  rw [cp_shr _ (by omega) hj]
  have hb : cp_b (cp_sg n a) j = if j < n then a.testBit j else a.testBit (n - 1) := by
    unfold cp_sg
    by_cases c : a < 2 ^ (n - 1)
    · rw [if_pos c, cp_N, decide_eq_true hj, Bool.true_and]
      by_cases d : j < n
      · rw [if_pos d]
      · rw [if_neg d, Nat.testBit_lt_two_pow c, Nat.testBit_lt_two_pow (Nat.lt_of_lt_of_le ha (Nat.pow_le_pow_right (by decide) (by omega)))]
    · rw [if_neg c, cp_lN_sub hp, show a + 2 ^ 64 - 2 ^ n = 2 ^ n * (2 ^ (64 - n) - 1) + a by
        rw [Nat.mul_sub, Nat.mul_one, ← Nat.pow_add, show n + (64 - n) = 64 by omega]; omega, cp_N, decide_eq_true hj, Bool.true_and, Nat.testBit_two_pow_mul_add _ ha]
      by_cases d : j < n
      · rw [if_pos d, if_pos d]
      · rw [if_neg d, if_neg d, Nat.testBit_two_pow_sub_one, decide_eq_true (by omega)]
        have : a.testBit (n - 1) = true := by
          rw [Nat.testBit_eq_decide_div_mod_eq, decide_eq_true_eq]
          have h1 : a / 2 ^ (n - 1) = 1 := by
            apply Nat.div_eq_of_lt_le <;> omega
          rw [h1]
        rw [this]
  rw [hb]
  by_cases d : j < n
  · rw [if_pos d, if_pos (by omega), cp_shl _ (by omega) (by omega), decide_eq_true (by omega), Bool.true_and, cp_N, decide_eq_true (by omega), Bool.true_and, show 64 - n + j - (64 - n) = j by omega]
  · rw [if_neg d, if_neg (by omega), cp_shl _ (by omega) (by omega), decide_eq_true (by omega), Bool.true_and, cp_N, decide_eq_true (by omega), Bool.true_and, show 63 - (64 - n) = n - 1 by omega]
theorem cp_acc {a : Nat} (b : Bool) (ha : a < 2 ^ 63) : (lN a <<< ((nI 1).toInt64 &&& 63)) ||| lN b.toNat = lN (2 * a + b.toNat) := by
  apply cp_ext
  intro j hj
  have hb := Bool.toNat_le b
  rw [cp_or, cp_shl _ (by decide) hj, cp_N, cp_N, cp_N, decide_eq_true hj, Bool.true_and, Bool.true_and]
  cases j with
  | zero =>
    have : (2 * a + b.toNat) % 2 = b.toNat % 2 := by omega
    rw [Nat.testBit_zero b.toNat, Nat.testBit_zero (2 * a + b.toNat), decide_eq_false (by omega), Bool.false_and, Bool.false_or, this]
  | succ j =>
    rw [Nat.testBit_succ, Nat.testBit_succ, show b.toNat / 2 = 0 by omega, show (2 * a + b.toNat) / 2 = a by omega, Nat.zero_testBit, Bool.or_false, decide_eq_true (by omega), decide_eq_true (by omega), Bool.true_and, Bool.true_and, Nat.add_sub_cancel]
end
section
/-! The JDK's counts of zeros, as numbers -/
def cz_b (x : Int32) (j : Nat) : Bool := x.toBitVec.getLsbD j
theorem cz_N {n : Nat} (j : Nat) : cz_b (nI n) j = (decide (j < 32) && n.testBit j) := by
  unfold cz_b
  show (BitVec.ofNat 32 n).getLsbD j = _
  rw [BitVec.getLsbD_ofNat]
theorem cz_of (x : Int32) : ∃ n, n < 2 ^ 32 ∧ x = nI n := ⟨x.toBitVec.toNat, x.toBitVec.isLt, Int32.toBitVec_inj.mp (by show _ = BitVec.ofNat 32 _; simp)⟩
/-- the place of the highest 1 by bounds -/
theorem cz_lz {x : Int64} {a m : Nat} (hx : x = lN a) (ha : a < 2 ^ 64) (h1 : 2 ^ m ≤ a) (h2 : a < 2 ^ (m + 1)) : cp_lz x = 63 - m := by
  subst hx
  have hm : m < 64 := by
    refine Classical.byContradiction (fun n => ?_)
    have : 2 ^ 64 ≤ 2 ^ m := Nat.pow_le_pow_right (by decide) (by omega)
    omega
  have hne : lN a ≠ 0 := by
    intro z
    have e : cp_b (lN a) m = true := by
      rw [cp_N, decide_eq_true hm, Bool.true_and, Nat.testBit_eq_decide_div_mod_eq, decide_eq_true_eq]
      have h3 : a / 2 ^ m = 1 := by
        apply Nat.div_eq_of_lt_le
        · omega
        · rw [Nat.pow_succ] at h2; omega
      rw [h3]
    rw [z, cp_0] at e
    cases e
  have t := cp_lz_top hne
  have b := cp_lz_lt hne
  rcases Nat.lt_trichotomy (63 - cp_lz (lN a)) m with c | c | c
  · have e : cp_b (lN a) m = true := by
      rw [cp_N, decide_eq_true hm, Bool.true_and, Nat.testBit_eq_decide_div_mod_eq, decide_eq_true_eq]
      have h3 : a / 2 ^ m = 1 := by
        apply Nat.div_eq_of_lt_le
        · omega
        · rw [Nat.pow_succ] at h2; omega
      rw [h3]
    rw [cp_lz_above (lN a) (by omega)] at e
    cases e
  · omega
  · rw [cp_N, Nat.testBit_lt_two_pow (Nat.lt_of_lt_of_le h2 (Nat.pow_le_pow_right (by decide) c)), Bool.and_false] at t
    cases t
theorem cz_tz {x : Int64} {a t b : Nat} (hx : x = lN a) (ht : t < 64) (h : a = 2 ^ (t + 1) * b + 2 ^ t) : cp_tz x = t := by
  subst hx
  have hp : 2 ^ t < 2 ^ (t + 1) := Nat.pow_lt_pow_right (by decide) (by omega)
  have hb : ∀ j, j < t + 1 → cp_b (lN a) j = decide (j = t) := by
    intro j hj
    rw [cp_N, decide_eq_true (by omega), Bool.true_and, h, Nat.testBit_two_pow_mul_add _ hp, if_pos hj, Nat.testBit_two_pow]
    by_cases e : t = j
    · rw [decide_eq_true e, decide_eq_true e.symm]
    · rw [decide_eq_false e, decide_eq_false (fun z => e z.symm)]
  have hne : lN a ≠ 0 := by
    intro z
    have e := hb t (by omega)
    rw [z, cp_0, decide_eq_true rfl] at e
    cases e
  have q := cp_tz_low hne
  rcases Nat.lt_trichotomy (cp_tz (lN a)) t with c | c | c
  · rw [hb _ (by omega), decide_eq_false (by omega)] at q
    cases q
  · exact c
  · have e := hb t (by omega)
    rw [cp_tz_below (lN a) c, decide_eq_true rfl] at e
    cases e
end
section
/-! What every method may count on beside its own cells: the statics that a throw reads, the table TURN_BITS, words that aren't good ones, the texts of the throws -/
abbrev ex_A : String := "java/lang/IllegalArgumentException"
abbrev ex_S : String := "java/lang/IllegalStateException"
abbrev ex_I : String := "java/lang/IndexOutOfBoundsException"
abbrev ex_N : List String := ["java/lang/RuntimeException", "java/lang/Exception"]
def ct_BW : List Cond := [.castable ex_A ex_A, .castable ex_S ex_S, .castable ex_I ex_I, .declares ⟨"java/lang/RuntimeException", "<init>", "(Ljava/lang/String;)V"⟩, .declares ⟨"java/lang/Exception", "<init>", "(Ljava/lang/String;)V"⟩, .declares ⟨"java/lang/Throwable", "<init>", "(Ljava/lang/String;)V"⟩, .fieldLinkNest cn_W 69 cn_X "TURN_BITS" "[I" cn_X, .fieldLinkNest cn_R 76 cn_X "TURN_BITS" "[I" cn_X]
def ct_SW : List (String × Nat × String) := [(cn_X, 37, "no time"), (cn_X, 46, "the time is not above the latest one"), (cn_X, 54, "there are 3000 points"), (cn_X, 61, "there are not so many points"), (cn_P, 26, "no such point"), (cn_X, 77, "more than 400000 bits"), (cn_X, 80, "k is not 0 .. 3000"), (cn_X, 92, "neither points nor bits"), (cn_B, 21, "no such bit"), (cn_X, 108, "n is not 0 .. 64"), (cn_X, 110, "v is not a number of n bits"), (cn_X, 115, "there are not so many bits")]
def ct_tb (A : Nat → Prop) (U : State) (H : Heap) : Prop := ∃ t : Nat, va_Z cn_X "TURN_BITS" "[I" (.ref t) A U H ∧ va_T .int t 5 (fun j => .int (nI (cp_tb j))) A U H
def ct_Z (A : Nat → Prop) (U : State) (H : Heap) : Prop :=
  (vx_Zq Bundle.tN "UNASSIGNED_STACK" Bundle.steD A U H ∧ vx_Zq Bundle.tN "SUPPRESSED_SENTINEL" Bundle.listD A U H) ∧ ct_tb A U H ∧ (∀ w ∈ ct_BW, va_Nw w U) ∧ (∀ q ∈ ct_SW, ∃ a, vk_R q.1 q.2.1 q.2.2 a U) ∧ va_Nc ex_S ex_A U
theorem ct_BW_t : ∀ w ∈ ct_BW, w.onTables = true := by decide +kernel
theorem ct_BW_warm {s U : State} (hW : s.WarmedH U.vm) (h : ∀ w ∈ ct_BW, va_Nw w s) : ∀ w ∈ ct_BW, va_Nw w U := by
  intro w hw
  have h' := h w hw
  simp only [ct_BW, List.mem_cons, List.not_mem_nil, or_false] at hw
  rcases hw with rfl | rfl | rfl | rfl | rfl | rfl | rfl | rfl
  · exact va_Nw.warmC hW h'
  · exact va_Nw.warmC hW h'
  · exact va_Nw.warmC hW h'
  · exact va_Nw.warmD hW h'
  · exact va_Nw.warmD hW h'
  · exact va_Nw.warmD hW h'
  · exact va_Nw.warmF hW h'
  · exact va_Nw.warmF hW h'
theorem ct_Z.same {A : Nat → Prop} {u U : State} {H : Heap} (hv : u.vm = U.vm) (h : ct_Z A u H) : ct_Z A U H := by
  obtain ⟨⟨h1, h2⟩, ⟨t, h3, h4⟩, h5, h6, h7⟩ := h
  have ha : u.vm.Alike U.vm := by rw [hv]; exact Vm.Alike.refl _
  exact ⟨⟨h1.moved ha, h2.moved ha⟩, ⟨t, h3.moved ha, h4.moved ha⟩, fun w hw => va_Nw.same (ct_BW_t w hw) hv (h5 w hw), fun q hq => by
    obtain ⟨a, ha⟩ := h6 q hq
    exact ⟨a, vk_R.same hv.symm ha⟩, h7.moved ha⟩
theorem ct_Z.warm {A : Nat → Prop} {s U : State} {H : Heap} (hW : s.WarmedH U.vm) (h : ct_Z A s H) : ct_Z A U H := by
  obtain ⟨⟨h1, h2⟩, ⟨t, h3, h4⟩, h5, h6, h7⟩ := h
  exact ⟨⟨h1.moved hW.alike, h2.moved hW.alike⟩, ⟨t, h3.moved hW.alike, h4.moved hW.alike⟩, ct_BW_warm hW h5, fun q hq => by
    obtain ⟨a, ha⟩ := h6 q hq
    exact ⟨a, vk_R.warm hW ha⟩, h7.moved hW.alike⟩
theorem ct_Z.kept {A : Nat → Prop} {U : State} {H H1 : Heap} (h : ct_Z A U H) (hq : ∀ a : Nat, a < H.size → ¬ A a → H1[a]? = H[a]?) : ct_Z A U H1 := by
  obtain ⟨⟨h1, h2⟩, ⟨t, h3, h4⟩, h5, h6, h7⟩ := h
  exact ⟨⟨h1.kept hq, h2.kept hq⟩, ⟨t, h3.kept hq, h4.kept hq⟩, h5, h6, h7⟩
theorem ct_Z.narrow {A B : Nat → Prop} {U : State} {H : Heap} (h : ct_Z A U H) (hAB : ∀ q, B q → A q) : ct_Z B U H := by
  obtain ⟨⟨h1, h2⟩, ⟨t, h3, h4⟩, h5, h6, h7⟩ := h
  exact ⟨⟨h1.narrow hAB, h2.narrow hAB⟩, ⟨t, h3.narrow hAB, h4.narrow hAB⟩, h5, h6, h7⟩
/-! Contracts over worlds, in one form; calls by that form. 'ct_ty': the two array classes (longs, bytes) -/
abbrev ct_ty (cJ cB : ClassId) : List (ClassId × FieldType) := [(cJ, .long), (cB, .byte)]
def ct_pre (D : va_G) (cl : List vw_C) (cJ cB : ClassId) (ws : va_W) (sz : Nat) : State → Prop := fun U => U.heap.size = sz ∧ va_P D cl ws U.heap ∧ va_K D cl (ct_ty cJ cB) U ∧ va_D (fun _ => True) ws ∧ ct_Z (va_A ws sz) U U.heap
def ct_at (D : va_G) (cl : List vw_C) (cJ cB : ClassId) (A : Nat → Prop) (ws : va_W) : State → Prop := fun t => va_P D cl ws t.heap ∧ va_K D cl (ct_ty cJ cB) t ∧ va_D A ws
abbrev ct_i {S : Type} (l : Launch) (y : MethodName) (wd : List Cond) (rm : Room) (D : va_G) (cl : List vw_C) (cJ cB : ClassId) (av : List Value) (ws : va_W) (sz : Nat) (post : Int32 → S → Prop) (F : S → va_W) (mc ms : Nat) : Prop :=
  Met l y wd rm (va_Pc av (ct_pre D cl cJ cB ws sz)) (va_Qi post (fun u => ct_at D cl cJ cB (va_A ws sz) (F u)) (va_A ws sz)) mc ms (va_A ws sz)
abbrev ct_l {S : Type} (l : Launch) (y : MethodName) (wd : List Cond) (rm : Room) (D : va_G) (cl : List vw_C) (cJ cB : ClassId) (av : List Value) (ws : va_W) (sz : Nat) (post : Int64 → S → Prop) (F : S → va_W) (mc ms : Nat) : Prop :=
  Met l y wd rm (va_Pc av (ct_pre D cl cJ cB ws sz)) (va_Ql post (fun u => ct_at D cl cJ cB (va_A ws sz) (F u)) (va_A ws sz)) mc ms (va_A ws sz)
abbrev ct_v {S : Type} (l : Launch) (y : MethodName) (wd : List Cond) (rm : Room) (D : va_G) (cl : List vw_C) (cJ cB : ClassId) (av : List Value) (ws : va_W) (sz : Nat) (post : S → Prop) (F : S → va_W) (mc ms : Nat) : Prop :=
  Met l y wd rm (va_Pc av (ct_pre D cl cJ cB ws sz)) (va_Qv post (fun u => ct_at D cl cJ cB (va_A ws sz) (F u)) (va_A ws sz)) mc ms (va_A ws sz)
theorem ct_blind {D : va_G} {cl : List vw_C} {cJ cB : ClassId} {av : List Value} {ws : va_W} {sz : Nat} : FrameBlind (va_Pc av (ct_pre D cl cJ cB ws sz)) := fun a U g mk q => by
  obtain ⟨q0, q1, qP, qK, qD, qZ⟩ := q
  exact ⟨q0, q1, qP, va_K.moved (u := U) (U := U.calling g mk a) (Vm.Alike.refl U.vm) qK, qD, ct_Z.same (u := U) (U := U.calling g mk a) rfl qZ⟩
/-- the walk of a method's body gives its contract -/
theorem ct_ofW {l : Launch} {y : MethodName} {wd wd' : List Cond} {rm : Room} {D : va_G} {cl : List vw_C} {cJ cB : ClassId} {av : List Value} {ws : va_W} {sz : Nat} {Qc : Array Value → State → Outcome → State → Prop} {mc ms : Nat} {cc : ByteArray} {maxL : Nat} {ret : Option FieldType}
    (hy : plainName y.cls = true) (hw : wd = Cond.code y cc maxL ret :: wd') (hn : (lg_sl av).length ≤ maxL)
    (body : ∀ (p : Program) (e : Env) (s : State) (m : MethodId) (below : List Frame) (meth : Method) (c : Code), p.tables.exec = Jvm.exec → c.code = cc → meth.sig.returnType = ret → c.maxLocals = maxL → (∀ w ∈ wd, w.before av.toArray s = true) → s.vm.findClass y.cls = some m.cls → meth.locks = false → meth.name = y.name → s.heap.size = sz →
      va_K D cl (ct_ty cJ cB) s → va_P D cl ws s.heap → va_D (va_A ws sz) ws → (∀ q, s.heap.size ≤ q → va_A ws sz q) → va_S (va_A ws sz) s.heap s.heap [] → ct_Z (va_A ws sz) s s.heap → ∀ ls : Array Slot, lv_has ls maxL (lv_args 0 av) →
      W p l e rm s m av.toArray below meth c s.heap [] 0 0 (MQ below Qc av.toArray s mc ms (va_A ws sz)) (F0 m 0 ls [])) :
    Met l y wd rm (va_Pc av (ct_pre D cl cJ cB ws sz)) Qc mc ms (va_A ws sz) := by
  refine Met.ofW (cc := cc) (maxL := maxL) (ret := ret) hy hw ?_
  intro p e s m args below meth c s₁ B hml hv
  obtain ⟨rfl, hsz, hP, hK, hD0, hZ⟩ := hv
  have hts := atoms_spec (ws := wd) B.pre
  have hown := findClass_of_methodNamed B.named
  have hin : meth.name = y.name := (name_of_methodNamed B.named B.method).1
  have hl := lv_entry av (n := maxL) hn
  rw [lg_entry_eq]
  exact body p e s m below meth c B.exec B.bytes B.returns hml hts hown B.notSynchronized hin hsz hK hP (hD0.self (sz := sz)) (fun q h => Or.inr (by rw [← hsz]; exact h)) va_S.rf hZ _ hl
section CT
variable {p : Program} {l : Launch} {e : Env} {R : Room} {s : State} {m : MethodId} {args : Array Value} {below : List Frame} {meth : Method} {c : Code} {H H0 : Heap} {locs : List Loc} {cells slots : Nat} {Q : State → Prop}
variable {D : va_G} {cl : List vw_C} {cJ cB : ClassId} {A : Nat → Prop} {cc : ByteArray} {pc : Nat} {ls : Array Slot} {rest : List Value}
theorem ct_top {x y : Value} (h : x = y) (k : W p l e R s m args below meth c H locs cells slots Q (F0 m pc ls (y :: rest))) : W p l e R s m args below meth c H locs cells slots Q (F0 m pc ls (x :: rest)) := by
  subst h; exact k
theorem ct_topi {x y : Int32} (h : x = y) (k : W p l e R s m args below meth c H locs cells slots Q (F0 m pc ls (.int y :: rest))) : W p l e R s m args below meth c H locs cells slots Q (F0 m pc ls (.int x :: rest)) := by
  subst h; exact k
theorem ct_topl {x y : Int64} (h : x = y) (k : W p l e R s m args below meth c H locs cells slots Q (F0 m pc ls (.long y :: rest))) : W p l e R s m args below meth c H locs cells slots Q (F0 m pc ls (.long x :: rest)) := by
  subst h; exact k
/-- ends -/
theorem ct_iret {S : Type} {post : Int32 → S → Prop} {F : S → va_W} {v : Int32} {u : S} {ws : va_W} (hx : p.tables.exec = Jvm.exec) (hb : c.code = cc) (hr : meth.sig.returnType = some .int) (hlocks : meth.locks = false) (hK : va_K D cl (ct_ty cJ cB) s) (hP : va_P D cl ws H) (hD : va_D A ws) (hS : va_S A s.heap H locs) (hF : F u = ws) (hp : post v u) (hdg : decode cc pc = .ok (.ireturn, 1)) :
    W p l e R s m args below meth c H locs cells slots (MQ below (va_Qi post (fun u => ct_at D cl cJ cB A (F u)) A) args s cells slots A) (F0 m pc ls [.int v]) := by
  subst hF
  exact W.iret hx hb hr (fun t ht hW => ⟨⟨v, u, rfl, hp, by rw [ht]; exact hP, va_K.moved hW.alike hK, hD⟩, hS.F ht⟩) hS.2.2 hdg hlocks
theorem ct_zret {S : Type} {post : Int32 → S → Prop} {F : S → va_W} {v : Int32} {u : S} {ws : va_W} (hx : p.tables.exec = Jvm.exec) (hb : c.code = cc) (hr : meth.sig.returnType = some .boolean) (hlocks : meth.locks = false) (hn : narrow .boolean (.int v) = .int v) (hK : va_K D cl (ct_ty cJ cB) s) (hP : va_P D cl ws H) (hD : va_D A ws) (hS : va_S A s.heap H locs) (hF : F u = ws) (hp : post v u) (hdg : decode cc pc = .ok (.ireturn, 1)) :
    W p l e R s m args below meth c H locs cells slots (MQ below (va_Qi post (fun u => ct_at D cl cJ cB A (F u)) A) args s cells slots A) (F0 m pc ls [.int v]) := by
  subst hF
  exact W.zret hx hb hr hn (fun t ht hW => ⟨⟨v, u, rfl, hp, by rw [ht]; exact hP, va_K.moved hW.alike hK, hD⟩, hS.F ht⟩) hS.2.2 hdg hlocks
theorem ct_lret {S : Type} {post : Int64 → S → Prop} {F : S → va_W} {v : Int64} {u : S} {ws : va_W} (hx : p.tables.exec = Jvm.exec) (hb : c.code = cc) (hr : meth.sig.returnType = some .long) (hlocks : meth.locks = false) (hK : va_K D cl (ct_ty cJ cB) s) (hP : va_P D cl ws H) (hD : va_D A ws) (hS : va_S A s.heap H locs) (hF : F u = ws) (hp : post v u) (hdg : decode cc pc = .ok (.lreturn, 1)) :
    W p l e R s m args below meth c H locs cells slots (MQ below (va_Ql post (fun u => ct_at D cl cJ cB A (F u)) A) args s cells slots A) (F0 m pc ls [.long v]) := by
  subst hF
  exact W.lret hx hb hr (fun t ht hW => ⟨⟨v, u, rfl, hp, by rw [ht]; exact hP, va_K.moved hW.alike hK, hD⟩, hS.F ht⟩) hS.2.2 hdg hlocks
theorem ct_vret {S : Type} {post : S → Prop} {F : S → va_W} {u : S} {ws : va_W} (hx : p.tables.exec = Jvm.exec) (hb : c.code = cc) (hr : meth.sig.returnType = none) (hlocks : meth.locks = false) (hK : va_K D cl (ct_ty cJ cB) s) (hP : va_P D cl ws H) (hD : va_D A ws) (hS : va_S A s.heap H locs) (hF : F u = ws) (hp : post u) (hdg : decode cc pc = .ok (.return_, 1)) :
    W p l e R s m args below meth c H locs cells slots (MQ below (va_Qv post (fun u => ct_at D cl cJ cB A (F u)) A) args s cells slots A) (F0 m pc ls []) := by
  subst hF
  exact W.vret hx hb hr (fun t ht hW => ⟨⟨u, rfl, hp, by rw [ht]; exact hP, va_K.moved hW.alike hK, hD⟩, hS.F ht⟩) hS.2.2 hdg hlocks
/-- a new array of longs, of bytes: its class is known -/
theorem ct_newa {atype : ArrayType} (hx : p.tables.exec = Jvm.exec) (hb : c.code = cc) (harr : (Cond.arrayClass (newarray.typeOf atype)).before args s = true) {ty : FieldType} (hty : newarray.typeOf atype = ty) {ws : va_W} (hK : va_K D cl (ct_ty cJ cB) s) (hP : va_P D cl ws H) (hD : va_D A ws) (hS : va_S A H0 H locs) (hA : ∀ q, H0.size ≤ q → A q)
    {n : Int32} {N' : Nat} {a0 : vp_A} {cA0 : ClassId} (hin : s.vm.findClass ("[" ++ ty.toString) = some cA0) (ha : ∀ cA : ClassId, vp_cell cA a0 = arrV cA N' (fun _ => defaultValue ty)) (hn : ¬ n < 0) (hN : n.toNatClampNeg = N') (hbytes : N' * componentBytes ty ≤ 536870912) (hcells : cells + 1 ≤ R.cells) (hslots : slots + N' ≤ R.slots) (hdg : decode cc pc = .ok (.newarray atype, 2))
    (kk : ∀ (q : Nat) (H1 : Heap), va_P D cl (ws ++ [(q, .inl (cA0, a0))]) H1 → va_D A (ws ++ [(q, .inl (cA0, a0))]) → va_S A H0 H1 locs →
      W p l e R s m args below meth c H1 locs (cells + 1) (slots + N') Q (F0 m (pc + 2) ls (.ref q :: rest))) : W p l e R s m args below meth c H locs cells slots Q (F0 m pc ls (.int n :: rest)) := by
  subst hty
  refine va_newaK hx hb harr rfl hdg rfl hn hN hbytes hcells hslots rfl fun H1 cA e1 z1 o1 hAr hNm => ?_
  have hcA : cA = cA0 := Option.some.inj (hNm.symm.trans hin)
  subst hcA
  have hk : ∀ (k : Nat) (x : Nat × va_E), ws[k]? = some x → H1[x.1]? = H[x.1]? := fun k x hx => o1 x.1 ((hP k x hx).lt)
  refine kk H.size H1 ((hP.kept hk).app (fun k x hx => ?_)) (hD.push hP rfl (hA _ hS.1)) ⟨Nat.le_trans hS.1 (by omega), fun x h1 h2 => (o1 x (Nat.lt_of_lt_of_le h1 hS.1)).trans (hS.2.1 x h1 h2), hS.2.2⟩
  have hz : k < 1 := (List.getElem?_eq_some_iff.mp hx).1
  rw [show k = 0 by omega] at hx
  cases hx
  show H1[H.size]? = some (vp_cell _ _)
  rw [ha]
  exact e1
theorem ct_J (hK : va_K D cl (ct_ty cJ cB) s) : s.vm.findClass ("[" ++ FieldType.long.toString) = some cJ := (hK.2 0 _ rfl).2
theorem ct_B (hK : va_K D cl (ct_ty cJ cB) s) : s.vm.findClass ("[" ++ FieldType.byte.toString) = some cB := (hK.2 1 _ rfl).2
/-! calls: the callee's cells 'wc' stand at the places isC of the caller's ws, the rest 'wr' at isR -/
variable {y : MethodName} {bytes : ByteArray} {maxL nL mc ms n index : Nat} {ret : Option FieldType} {wd : List Cond} {rm : Room} {Ts : List Cond} {own C : String} {b : Addr} {As st0 : List Value} {ws wc wr : va_W}
theorem ct_pc (hZ : ct_Z A s s.heap) (hK : va_K D cl (ct_ty cJ cB) s) (hP : va_P D cl ws H) (hD : va_D A ws) (hS : va_S A s.heap H locs) (hA : ∀ q, s.heap.size ≤ q → A q) (isC : List Nat) (hC : isC.map (fun i => ws[i]?) = wc.map some) (hnC : va_nd isC = true) {av : List Value} : ∀ U : State, U.heap = H → s.WarmedH U.vm → va_Pc av (ct_pre D cl cJ cB wc H.size) av.toArray U := by
  intro U hU hW
  have hDc := hD.sub isC hnC hC
  refine ⟨rfl, by rw [hU], ?_, va_K.moved hW.alike hK, hDc.weaken (fun _ _ _ _ => trivial), ?_⟩
  rotate_left
  · rw [hU]
    exact ((hZ.kept hS.2.1).warm hW).narrow (va_free hD hS hA isC hC)
  rw [hU]
  intro k q hk
  have h1 : (isC.map (fun i => ws[i]?))[k]? = some (some q) := by rw [hC, List.getElem?_map, hk]; rfl
  rw [List.getElem?_map] at h1
  cases hi : isC[k]? with
  | none => rw [hi] at h1; cases h1
  | some i => rw [hi] at h1; exact hP i q (Option.some.inj h1)
theorem ct_recv (hK : va_K D cl (ct_ty cJ cB) s) (hP : va_P D cl ws H) {q0 ci : Nat} {fs : List Value} {q : vw_C} (he : ws[q0]? = some (b, .inr (ci, fs))) (hc : cl[ci]? = some q) : ∃ cell : Cell, H[b]? = some cell ∧ cell.vm.isStatics = false ∧ s.vm.findClass q.1 = some cell.cls := va_recv hK hP hc he
section CTi
variable {S : Type} {F : S → va_W}
theorem ct_behind_i {post : Int32 → S → Prop} {av : List Value} (hr : va_Run p l e R s m args below meth c H locs cells slots mc ms (F0 m pc ls st0) rest (va_Qi post (fun u => ct_at D cl cJ cB (va_A wc H.size) (F u)) (va_A wc H.size) av.toArray) (va_A wc H.size)) (hK : va_K D cl (ct_ty cJ cB) s) (hP : va_P D cl ws H) (hD : va_D A ws) (hS : va_S A s.heap H locs) (hA : ∀ q, s.heap.size ≤ q → A q)
    (isC isR : List Nat) (hC : isC.map (fun i => ws[i]?) = wc.map some) (hR : isR.map (fun i => ws[i]?) = wr.map some) (hn : va_nd isR = true) (hdis : ∀ i ∈ isR, i ∉ isC)
    (kk : ∀ (r : Int32) (u : S) (H1 : Heap) (locs1 : List Loc), post r u → va_P D cl (wr ++ F u) H1 → va_D A (wr ++ F u) → va_S A s.heap H1 locs1 → W p l e R s m args below meth c H1 locs1 (cells + mc) (slots + ms) Q (F0 m (pc + 3) ls (.int r :: rest))) : W p l e R s m args below meth c H locs cells slots Q (F0 m pc ls st0) := by
  have hFc := va_free (wc := wc) hD hS hA isC hC
  refine va_calli hr hS (fun q _ h => hFc q h) hFc (fun r u t H1 locs1 ht hvm hw hB hz1 hk1 hS1 => ?_)
  obtain ⟨hP1, -, hD1⟩ := hB
  rw [ht] at hP1
  obtain ⟨hP2, hD2⟩ := va_join hP hD isC isR hC hR hn hdis hk1 hFc hP1 hD1
  exact kk r u H1 locs1 hw hP2 hD2 hS1
theorem ct_behind_l {post : Int64 → S → Prop} {av : List Value} (hr : va_Run p l e R s m args below meth c H locs cells slots mc ms (F0 m pc ls st0) rest (va_Ql post (fun u => ct_at D cl cJ cB (va_A wc H.size) (F u)) (va_A wc H.size) av.toArray) (va_A wc H.size)) (hK : va_K D cl (ct_ty cJ cB) s) (hP : va_P D cl ws H) (hD : va_D A ws) (hS : va_S A s.heap H locs) (hA : ∀ q, s.heap.size ≤ q → A q)
    (isC isR : List Nat) (hC : isC.map (fun i => ws[i]?) = wc.map some) (hR : isR.map (fun i => ws[i]?) = wr.map some) (hn : va_nd isR = true) (hdis : ∀ i ∈ isR, i ∉ isC)
    (kk : ∀ (r : Int64) (u : S) (H1 : Heap) (locs1 : List Loc), post r u → va_P D cl (wr ++ F u) H1 → va_D A (wr ++ F u) → va_S A s.heap H1 locs1 → W p l e R s m args below meth c H1 locs1 (cells + mc) (slots + ms) Q (F0 m (pc + 3) ls (.long r :: rest))) : W p l e R s m args below meth c H locs cells slots Q (F0 m pc ls st0) := by
  have hFc := va_free (wc := wc) hD hS hA isC hC
  refine va_calll hr hS (fun q _ h => hFc q h) hFc (fun r u t H1 locs1 ht hvm hw hB hz1 hk1 hS1 => ?_)
  obtain ⟨hP1, -, hD1⟩ := hB
  rw [ht] at hP1
  obtain ⟨hP2, hD2⟩ := va_join hP hD isC isR hC hR hn hdis hk1 hFc hP1 hD1
  exact kk r u H1 locs1 hw hP2 hD2 hS1
theorem ct_behind_v {post : S → Prop} {av : List Value} (hr : va_Run p l e R s m args below meth c H locs cells slots mc ms (F0 m pc ls st0) rest (va_Qv post (fun u => ct_at D cl cJ cB (va_A wc H.size) (F u)) (va_A wc H.size) av.toArray) (va_A wc H.size)) (hK : va_K D cl (ct_ty cJ cB) s) (hP : va_P D cl ws H) (hD : va_D A ws) (hS : va_S A s.heap H locs) (hA : ∀ q, s.heap.size ≤ q → A q)
    (isC isR : List Nat) (hC : isC.map (fun i => ws[i]?) = wc.map some) (hR : isR.map (fun i => ws[i]?) = wr.map some) (hn : va_nd isR = true) (hdis : ∀ i ∈ isR, i ∉ isC)
    (kk : ∀ (u : S) (H1 : Heap) (locs1 : List Loc), post u → va_P D cl (wr ++ F u) H1 → va_D A (wr ++ F u) → va_S A s.heap H1 locs1 → W p l e R s m args below meth c H1 locs1 (cells + mc) (slots + ms) Q (F0 m (pc + 3) ls rest)) : W p l e R s m args below meth c H locs cells slots Q (F0 m pc ls st0) := by
  have hFc := va_free (wc := wc) hD hS hA isC hC
  refine va_callv hr hS (fun q _ h => hFc q h) hFc (fun u t H1 locs1 ht hvm hw hB hz1 hk1 hS1 => ?_)
  obtain ⟨hP1, -, hD1⟩ := hB
  rw [ht] at hP1
  obtain ⟨hP2, hD2⟩ := va_join hP hD isC isR hC hR hn hdis hk1 hFc hP1 hD1
  exact kk u H1 locs1 hw hP2 hD2 hS1
end CTi
end CT
/-! methods that throw: what was there stays as it was -/
def cx_X (D : va_G) (cl : List vw_C) (cJ cB : ClassId) (A : Nat → Prop) (ws : va_W) (px : String → Prop) : String → State → State → Prop := vx_X (fun _ : Unit => True) (fun E _ t => px E ∧ ct_at D cl cJ cB A ws t) A
abbrev cx_i {S : Type} (l : Launch) (y : MethodName) (wd : List Cond) (rm : Room) (D : va_G) (cl : List vw_C) (cJ cB : ClassId) (av : List Value) (ws : va_W) (sz : Nat) (post : Int32 → S → Prop) (F : S → va_W) (px : String → Prop) (mc ms : Nat) : Prop :=
  vx_Met l y wd rm (va_Pc av (ct_pre D cl cJ cB ws sz)) (va_Qi post (fun u => ct_at D cl cJ cB (va_A ws sz) (F u)) (va_A ws sz)) (cx_X D cl cJ cB (va_A ws sz) ws px) mc ms (va_A ws sz)
abbrev cx_l {S : Type} (l : Launch) (y : MethodName) (wd : List Cond) (rm : Room) (D : va_G) (cl : List vw_C) (cJ cB : ClassId) (av : List Value) (ws : va_W) (sz : Nat) (post : Int64 → S → Prop) (F : S → va_W) (px : String → Prop) (mc ms : Nat) : Prop :=
  vx_Met l y wd rm (va_Pc av (ct_pre D cl cJ cB ws sz)) (va_Ql post (fun u => ct_at D cl cJ cB (va_A ws sz) (F u)) (va_A ws sz)) (cx_X D cl cJ cB (va_A ws sz) ws px) mc ms (va_A ws sz)
abbrev cx_v {S : Type} (l : Launch) (y : MethodName) (wd : List Cond) (rm : Room) (D : va_G) (cl : List vw_C) (cJ cB : ClassId) (av : List Value) (ws : va_W) (sz : Nat) (post : S → Prop) (F : S → va_W) (px : String → Prop) (mc ms : Nat) : Prop :=
  vx_Met l y wd rm (va_Pc av (ct_pre D cl cJ cB ws sz)) (va_Qv post (fun u => ct_at D cl cJ cB (va_A ws sz) (F u)) (va_A ws sz)) (cx_X D cl cJ cB (va_A ws sz) ws px) mc ms (va_A ws sz)
theorem cx_ofW {l : Launch} {y : MethodName} {wd wd' : List Cond} {rm : Room} {D : va_G} {cl : List vw_C} {cJ cB : ClassId} {av : List Value} {ws : va_W} {sz : Nat} {Qc : Array Value → State → Outcome → State → Prop} {XC : String → State → State → Prop} {mc ms : Nat} {cc : ByteArray} {maxL : Nat} {ret : Option FieldType}
    (hy : plainName y.cls = true) (hw : wd = Cond.code y cc maxL ret :: wd') (hn : (lg_sl av).length ≤ maxL)
    (body : ∀ (p : Program) (e : Env) (s : State) (m : MethodId) (below : List Frame) (meth : Method) (c : Code), p.tables.exec = Jvm.exec → c.code = cc → meth.sig.returnType = ret → c.maxLocals = maxL → (∀ w ∈ wd, w.before av.toArray s = true) → s.vm.findClass y.cls = some m.cls → meth.locks = false → meth.name = y.name → s.heap.size = sz →
      va_K D cl (ct_ty cJ cB) s → va_P D cl ws s.heap → va_D (va_A ws sz) ws → (∀ q, s.heap.size ≤ q → va_A ws sz q) → va_S (va_A ws sz) s.heap s.heap [] → ct_Z (va_A ws sz) s s.heap → (∀ x ∈ c.exceptionTable.toList, False) → ∀ ls : Array Slot, lv_has ls maxL (lv_args 0 av) →
      W p l e rm s m av.toArray below meth c s.heap [] 0 0 (vx_MQ below Qc XC av.toArray s mc ms (va_A ws sz)) (F0 m 0 ls [])) :
    vx_Met l y wd rm (va_Pc av (ct_pre D cl cJ cB ws sz)) Qc XC mc ms (va_A ws sz) := by
  refine vx_ofW (cc := cc) (maxL := maxL) (ret := ret) hy hw ?_
  intro p e s m args below meth c s₁ B hml hex hv
  obtain ⟨rfl, hsz, hP, hK, hD0, hZ⟩ := hv
  have hts := atoms_spec (ws := wd) B.pre
  have hown := findClass_of_methodNamed B.named
  have hin : meth.name = y.name := (name_of_methodNamed B.named B.method).1
  have hl := lv_entry av (n := maxL) hn
  rw [lg_entry_eq]
  exact body p e s m below meth c B.exec B.bytes B.returns hml hts hown B.notSynchronized hin hsz hK hP (hD0.self (sz := sz)) (fun q h => Or.inr (by rw [← hsz]; exact h)) va_S.rf hZ hex _ hl
section CX
variable {p : Program} {l : Launch} {e : Env} {R : Room} {s : State} {m : MethodId} {args : Array Value} {below : List Frame} {meth : Method} {c : Code} {H : Heap} {locs : List Loc} {cells slots : Nat} {Q : State → Prop}
variable {D : va_G} {cl : List vw_C} {cJ cB : ClassId} {A : Nat → Prop} {cc : ByteArray} {pc : Nat} {ls : Array Slot} {rest : List Value}
theorem ct_hat {own cls : String} {ic : Nat} (hw : ∀ w ∈ TB, w.before args s = true) (hZ : ct_Z A s s.heap) (h1 : ∀ w ∈ (vx_atS own ic cls ex_N).filter goodWord, w ∈ TB) (h2 : ∀ w ∈ (vx_atS own ic cls ex_N).filter (fun w => !goodWord w), w ∈ ct_BW) : ∀ w ∈ vx_atS own ic cls ex_N, w.before args s = true :=
  vx_hat (fun w h => hw w (h1 w h)) h2 (fun w h => va_Nw.use (ct_BW_t w h) (hZ.2.2.1 w h))
/-- 'throw new E("text")' where nothing has been changed -/
theorem cx_throw {Qc : Array Value → State → Outcome → State → Prop} {px : String → Prop} (hx : p.tables.exec = Jvm.exec) (hb : c.code = cc) (hl : l.stackTraces = false) {own cls text : String} {ik is ic mc ms : Nat} {ws : va_W}
    (hw : ∀ w ∈ TB, w.before args s = true) (hZ : ct_Z A s s.heap) (hown : s.vm.findClass own = some m.cls) (hcls : Bundle.fit cls = true)
    (hk : Cond.classLink own ik cls ∈ TB) (hini : Cond.initialized cls ∈ TB) (hstr : (own, is, text) ∈ ct_SW) (h1 : ∀ w ∈ (vx_atS own ic cls ex_N).filter goodWord, w ∈ TB) (h2 : ∀ w ∈ (vx_atS own ic cls ex_N).filter (fun w => !goodWord w), w ∈ ct_BW)
    (hgood : ∀ w ∈ Cond.classLink own ik cls :: Cond.initialized cls :: vx_atS own ic cls ex_N, vx_ot w = true)
    (hK : va_K D cl (ct_ty cJ cB) s) (hP : va_P D cl ws H) (hD : va_D A ws) (hS : va_S A s.heap H locs) (hsize : ls.size = c.maxLocals) (hex : ∀ x ∈ c.exceptionTable.toList, False)
    (d0 : decode cc pc = .ok (.new ik, 3)) (d3 : decode cc (pc + 3) = .ok (.dup, 1)) (d4 : decode cc (pc + 4) = .ok (.ldc is, 2)) (d6 : decode cc (pc + 6) = .ok (.invokespecial ic, 3)) (d9 : decode cc (pc + 9) = .ok (.athrow, 1))
    (hRf : 5 < R.frames) (hRl : (rest.map fun v => v.category).sum + 82 ≤ R.locals) (hRc : cells + 1 ≤ R.cells) (hRs : slots + 6 ≤ R.slots) (hlocks : meth.locks = false) (hpx : px cls) (hc : cells + 1 ≤ mc) (hs : slots + 6 ≤ ms) :
    W p l e R s m args below meth c H locs cells slots (vx_MQ below Qc (cx_X D cl cJ cB A ws px) args s mc ms A) (F0 m pc ls rest) := by
  obtain ⟨sa, hsa⟩ := hZ.2.2.2.1 _ hstr
  refine vx_throwS (text := text) (names := ex_N) (sa := sa) (A := A) hx hb hl hown hcls (by decide +kernel) (hw _ hk) (hw _ hini) hsa (ct_hat hw hZ h1 h2) hgood hZ.1.1 hZ.1.2 hS hsize d0 d3 d4 d6 d9 (fun x h => (hex x h).elim) hRf hRl hRc hRs hlocks (fun t ht hz hq => ?_) hS.2.2 hc hs
  refine ⟨(), trivial, ⟨hpx, hP.kept (fun k q hk => hq q.1 (hP k q hk).lt), va_K.moved ht hK, hD⟩, Nat.le_trans hS.1 hz, fun q h1 h2 => ?_⟩
  rw [hq q (Nat.lt_of_lt_of_le h1 hS.1)]
  exact hS.2.1 q h1 h2
/-- what a callee has thrown goes on to the caller -/
theorem cx_out {Qc : Array Value → State → Outcome → State → Prop} {px : String → Prop} {E : String} {ce : Cell} {q : Addr} {mc ms : Nat} {ws : va_W} (hex : ∀ x ∈ c.exceptionTable.toList, False) (hlocks : meth.locks = false) (hcell : H[q]? = some ce) (hv : ce.vm = .none) (hcl : s.vm.findClass E = some ce.cls)
    (hK : va_K D cl (ct_ty cJ cB) s) (hP : va_P D cl ws H) (hD : va_D A ws) (hS : va_S A s.heap H locs) (hpx : px E) (hc : cells ≤ mc) (hs : slots ≤ ms) :
    vx_W p l e R s m args below meth c H locs cells slots (vx_MQ below Qc (cx_X D cl cJ cB A ws px) args s mc ms A) (F0 m pc ls rest) q :=
  vx_out (fun x h => (hex x h).elim) hlocks hcell hv hcl (fun t ht hvm => ⟨(), trivial, ⟨hpx, by rw [ht]; exact hP, va_K.moved hvm hK, hD⟩, hS.F ht⟩) hS.2.2 hc hs
variable {mc ms : Nat} {st0 : List Value} {ws wc wr : va_W} {S : Type} {F : S → va_W} {px : String → Prop}
theorem cx_behind_i {post : Int32 → S → Prop} {av : List Value} (hr : vx_Run p l e R s m args below meth c H locs cells slots mc ms (F0 m pc ls st0) rest (va_Qi post (fun u => ct_at D cl cJ cB (va_A wc H.size) (F u)) (va_A wc H.size) av.toArray) (cx_X D cl cJ cB (va_A wc H.size) wc px) (va_A wc H.size)) (hK : va_K D cl (ct_ty cJ cB) s) (hP : va_P D cl ws H) (hD : va_D A ws) (hS : va_S A s.heap H locs) (hA : ∀ q, s.heap.size ≤ q → A q)
    (isC isR : List Nat) (hC : isC.map (fun i => ws[i]?) = wc.map some) (hR : isR.map (fun i => ws[i]?) = wr.map some) (hn : va_nd isR = true) (hdis : ∀ i ∈ isR, i ∉ isC)
    (kx : ∀ (E : String) (ce : Cell) (q : Addr) (H1 : Heap) (locs1 : List Loc), px E → va_P D cl (wr ++ wc) H1 → va_D A (wr ++ wc) → va_S A s.heap H1 locs1 → H1[q]? = some ce → ce.vm = .none → s.vm.findClass E = some ce.cls → vx_W p l e R s m args below meth c H1 locs1 (cells + mc) (slots + ms) Q (F0 m pc ls rest) q)
    (kk : ∀ (r : Int32) (u : S) (H1 : Heap) (locs1 : List Loc), post r u → va_P D cl (wr ++ F u) H1 → va_D A (wr ++ F u) → va_S A s.heap H1 locs1 → W p l e R s m args below meth c H1 locs1 (cells + mc) (slots + ms) Q (F0 m (pc + 3) ls (.int r :: rest))) : W p l e R s m args below meth c H locs cells slots Q (F0 m pc ls st0) := by
  have hFc := va_free (wc := wc) hD hS hA isC hC
  refine vx_calli hr hS (fun q _ h => hFc q h) hFc (fun q _ h => hFc q h) (fun E ce q9 u t H1 locs1 ht hvm hp hB hz1 hk1 hS1 hce hcv hcl => ?_) (fun r u t H1 locs1 ht hvm hw hB hz1 hk1 hS1 => ?_)
  · obtain ⟨hpx, hP1, -, hD1⟩ := hB
    rw [ht] at hP1
    obtain ⟨hP2, hD2⟩ := va_join hP hD isC isR hC hR hn hdis hk1 hFc hP1 hD1
    exact kx E ce q9 H1 locs1 hpx hP2 hD2 hS1 hce hcv hcl
  · obtain ⟨hP1, -, hD1⟩ := hB
    rw [ht] at hP1
    obtain ⟨hP2, hD2⟩ := va_join hP hD isC isR hC hR hn hdis hk1 hFc hP1 hD1
    exact kk r u H1 locs1 hw hP2 hD2 hS1
theorem cx_behind_l {post : Int64 → S → Prop} {av : List Value} (hr : vx_Run p l e R s m args below meth c H locs cells slots mc ms (F0 m pc ls st0) rest (va_Ql post (fun u => ct_at D cl cJ cB (va_A wc H.size) (F u)) (va_A wc H.size) av.toArray) (cx_X D cl cJ cB (va_A wc H.size) wc px) (va_A wc H.size)) (hK : va_K D cl (ct_ty cJ cB) s) (hP : va_P D cl ws H) (hD : va_D A ws) (hS : va_S A s.heap H locs) (hA : ∀ q, s.heap.size ≤ q → A q)
    (isC isR : List Nat) (hC : isC.map (fun i => ws[i]?) = wc.map some) (hR : isR.map (fun i => ws[i]?) = wr.map some) (hn : va_nd isR = true) (hdis : ∀ i ∈ isR, i ∉ isC)
    (kx : ∀ (E : String) (ce : Cell) (q : Addr) (H1 : Heap) (locs1 : List Loc), px E → va_P D cl (wr ++ wc) H1 → va_D A (wr ++ wc) → va_S A s.heap H1 locs1 → H1[q]? = some ce → ce.vm = .none → s.vm.findClass E = some ce.cls → vx_W p l e R s m args below meth c H1 locs1 (cells + mc) (slots + ms) Q (F0 m pc ls rest) q)
    (kk : ∀ (r : Int64) (u : S) (H1 : Heap) (locs1 : List Loc), post r u → va_P D cl (wr ++ F u) H1 → va_D A (wr ++ F u) → va_S A s.heap H1 locs1 → W p l e R s m args below meth c H1 locs1 (cells + mc) (slots + ms) Q (F0 m (pc + 3) ls (.long r :: rest))) : W p l e R s m args below meth c H locs cells slots Q (F0 m pc ls st0) := by
  have hFc := va_free (wc := wc) hD hS hA isC hC
  refine vx_calll hr hS (fun q _ h => hFc q h) hFc (fun q _ h => hFc q h) (fun E ce q9 u t H1 locs1 ht hvm hp hB hz1 hk1 hS1 hce hcv hcl => ?_) (fun r u t H1 locs1 ht hvm hw hB hz1 hk1 hS1 => ?_)
  · obtain ⟨hpx, hP1, -, hD1⟩ := hB
    rw [ht] at hP1
    obtain ⟨hP2, hD2⟩ := va_join hP hD isC isR hC hR hn hdis hk1 hFc hP1 hD1
    exact kx E ce q9 H1 locs1 hpx hP2 hD2 hS1 hce hcv hcl
  · obtain ⟨hP1, -, hD1⟩ := hB
    rw [ht] at hP1
    obtain ⟨hP2, hD2⟩ := va_join hP hD isC isR hC hR hn hdis hk1 hFc hP1 hD1
    exact kk r u H1 locs1 hw hP2 hD2 hS1
theorem cx_behind_v {post : S → Prop} {av : List Value} (hr : vx_Run p l e R s m args below meth c H locs cells slots mc ms (F0 m pc ls st0) rest (va_Qv post (fun u => ct_at D cl cJ cB (va_A wc H.size) (F u)) (va_A wc H.size) av.toArray) (cx_X D cl cJ cB (va_A wc H.size) wc px) (va_A wc H.size)) (hK : va_K D cl (ct_ty cJ cB) s) (hP : va_P D cl ws H) (hD : va_D A ws) (hS : va_S A s.heap H locs) (hA : ∀ q, s.heap.size ≤ q → A q)
    (isC isR : List Nat) (hC : isC.map (fun i => ws[i]?) = wc.map some) (hR : isR.map (fun i => ws[i]?) = wr.map some) (hn : va_nd isR = true) (hdis : ∀ i ∈ isR, i ∉ isC)
    (kx : ∀ (E : String) (ce : Cell) (q : Addr) (H1 : Heap) (locs1 : List Loc), px E → va_P D cl (wr ++ wc) H1 → va_D A (wr ++ wc) → va_S A s.heap H1 locs1 → H1[q]? = some ce → ce.vm = .none → s.vm.findClass E = some ce.cls → vx_W p l e R s m args below meth c H1 locs1 (cells + mc) (slots + ms) Q (F0 m pc ls rest) q)
    (kk : ∀ (u : S) (H1 : Heap) (locs1 : List Loc), post u → va_P D cl (wr ++ F u) H1 → va_D A (wr ++ F u) → va_S A s.heap H1 locs1 → W p l e R s m args below meth c H1 locs1 (cells + mc) (slots + ms) Q (F0 m (pc + 3) ls rest)) : W p l e R s m args below meth c H locs cells slots Q (F0 m pc ls st0) := by
  have hFc := va_free (wc := wc) hD hS hA isC hC
  refine vx_callv hr hS (fun q _ h => hFc q h) hFc (fun q _ h => hFc q h) (fun E ce q9 u t H1 locs1 ht hvm hp hB hz1 hk1 hS1 hce hcv hcl => ?_) (fun u t H1 locs1 ht hvm hw hB hz1 hk1 hS1 => ?_)
  · obtain ⟨hpx, hP1, -, hD1⟩ := hB
    rw [ht] at hP1
    obtain ⟨hP2, hD2⟩ := va_join hP hD isC isR hC hR hn hdis hk1 hFc hP1 hD1
    exact kx E ce q9 H1 locs1 hpx hP2 hD2 hS1 hce hcv hcl
  · obtain ⟨hP1, -, hD1⟩ := hB
    rw [ht] at hP1
    obtain ⟨hP2, hD2⟩ := va_join hP hD isC isR hC hR hn hdis hk1 hFc hP1 hD1
    exact kk u H1 locs1 hw hP2 hD2 hS1
end CX
end
section
/-! answers of kind boolean; small helps -/
def bI (P : Prop) [Decidable P] : Int32 := if P then nI 1 else nI 0
theorem bI_t {P : Prop} [Decidable P] (h : P) : nI 1 = bI P := (if_pos h).symm
theorem bI_f {P : Prop} [Decidable P] (h : ¬ P) : nI 0 = bI P := (if_neg h).symm
theorem bI_z {P : Prop} [Decidable P] : bI P = 0 ↔ ¬ P := by
  unfold bI
  by_cases h : P
  · rw [if_pos h]; exact ⟨fun z => absurd z (by decide), fun z => absurd h z⟩
  · rw [if_neg h]; exact ⟨fun _ => h, fun _ => by decide⟩
theorem bI_n {P : Prop} [Decidable P] : ¬ bI P = 0 ↔ P := by
  rw [bI_z, Decidable.not_not]
theorem bI_nb {P : Prop} [Decidable P] : narrow .boolean (.int (bI P)) = .int (bI P) := by
  unfold bI
  by_cases h : P
  · rw [if_pos h]; decide
  · rw [if_neg h]; decide
theorem bI_c {P Q : Prop} [Decidable P] [Decidable Q] (h : P ↔ Q) : bI P = bI Q := by
  unfold bI
  by_cases p : P
  · rw [if_pos p, if_pos (h.mp p)]
  · rw [if_neg p, if_neg (fun z => p (h.mpr z))]
theorem ct_zeq {a : Nat} (h : a < 2 ^ 31) : nI a = 0 ↔ a = 0 := by rw [← nI_0]; exact nI_eq h (by decide)
theorem ct_zlt {a : Nat} (h : a < 2 ^ 31) : nI a < 0 ↔ a < 0 := by rw [← nI_0]; exact nI_ltI h (by decide)
theorem ct_zle {a : Nat} (h : a < 2 ^ 31) : nI a ≤ 0 ↔ a ≤ 0 := by rw [← nI_0]; exact nI_leI h (by decide)
theorem ct_zgt {a : Nat} (h : a < 2 ^ 31) : 0 < nI a ↔ 0 < a := by rw [← nI_0]; exact nI_ltI (by decide) h
theorem ct_zge {a : Nat} (h : a < 2 ^ 31) : 0 ≤ nI a ↔ 0 ≤ a := by rw [← nI_0]; exact nI_leI (by decide) h
theorem ct_dec {n : Nat} (h : 0 < n) : nI n + Int32.ofInt (-1) = nI (n - 1) := by
  obtain ⟨k, rfl⟩ : ∃ k, n = k + 1 := ⟨n - 1, by omega⟩
  exact pk_m1 k
theorem ht_X_39_1 : ∀ w ∈ (vx_atS cn_X 39 "java/lang/IllegalArgumentException" ex_N).filter goodWord, w ∈ TB := fun w h => List.mem_filter.mpr ⟨(show ∀ w ∈ (vx_atS cn_X 39 "java/lang/IllegalArgumentException" ex_N).filter goodWord, w ∈ lw_tbl by decide +kernel) w h, (List.mem_filter.mp h).2⟩
theorem ht_X_39_2 : ∀ w ∈ (vx_atS cn_X 39 "java/lang/IllegalArgumentException" ex_N).filter (fun w => !goodWord w), w ∈ ct_BW := by decide +kernel
theorem ht_X_35_39_3 : ∀ w ∈ Cond.classLink cn_X 35 "java/lang/IllegalArgumentException" :: Cond.initialized "java/lang/IllegalArgumentException" :: vx_atS cn_X 39 "java/lang/IllegalArgumentException" ex_N, vx_ot w = true := by decide +kernel
theorem ht_X_56_1 : ∀ w ∈ (vx_atS cn_X 56 "java/lang/IllegalStateException" ex_N).filter goodWord, w ∈ TB := fun w h => List.mem_filter.mpr ⟨(show ∀ w ∈ (vx_atS cn_X 56 "java/lang/IllegalStateException" ex_N).filter goodWord, w ∈ lw_tbl by decide +kernel) w h, (List.mem_filter.mp h).2⟩
theorem ht_X_56_2 : ∀ w ∈ (vx_atS cn_X 56 "java/lang/IllegalStateException" ex_N).filter (fun w => !goodWord w), w ∈ ct_BW := by decide +kernel
theorem ht_X_52_56_3 : ∀ w ∈ Cond.classLink cn_X 52 "java/lang/IllegalStateException" :: Cond.initialized "java/lang/IllegalStateException" :: vx_atS cn_X 56 "java/lang/IllegalStateException" ex_N, vx_ot w = true := by decide +kernel
theorem ht_P_28_1 : ∀ w ∈ (vx_atS cn_P 28 "java/lang/IndexOutOfBoundsException" ex_N).filter goodWord, w ∈ TB := fun w h => List.mem_filter.mpr ⟨(show ∀ w ∈ (vx_atS cn_P 28 "java/lang/IndexOutOfBoundsException" ex_N).filter goodWord, w ∈ lw_tbl by decide +kernel) w h, (List.mem_filter.mp h).2⟩
theorem ht_P_28_2 : ∀ w ∈ (vx_atS cn_P 28 "java/lang/IndexOutOfBoundsException" ex_N).filter (fun w => !goodWord w), w ∈ ct_BW := by decide +kernel
theorem ht_P_24_28_3 : ∀ w ∈ Cond.classLink cn_P 24 "java/lang/IndexOutOfBoundsException" :: Cond.initialized "java/lang/IndexOutOfBoundsException" :: vx_atS cn_P 28 "java/lang/IndexOutOfBoundsException" ex_N, vx_ot w = true := by decide +kernel
theorem ht_B_23_1 : ∀ w ∈ (vx_atS cn_B 23 "java/lang/IndexOutOfBoundsException" ex_N).filter goodWord, w ∈ TB := fun w h => List.mem_filter.mpr ⟨(show ∀ w ∈ (vx_atS cn_B 23 "java/lang/IndexOutOfBoundsException" ex_N).filter goodWord, w ∈ lw_tbl by decide +kernel) w h, (List.mem_filter.mp h).2⟩
theorem ht_B_23_2 : ∀ w ∈ (vx_atS cn_B 23 "java/lang/IndexOutOfBoundsException" ex_N).filter (fun w => !goodWord w), w ∈ ct_BW := by decide +kernel
theorem ht_B_19_23_3 : ∀ w ∈ Cond.classLink cn_B 19 "java/lang/IndexOutOfBoundsException" :: Cond.initialized "java/lang/IndexOutOfBoundsException" :: vx_atS cn_B 23 "java/lang/IndexOutOfBoundsException" ex_N, vx_ot w = true := by decide +kernel
end
section
/-! more of rows of bits -/
theorem cp_n1 (L : List Bool) (j : Nat) : lN (cp_n L j 1) = 1 ↔ cp_g L j = true := by
  rw [show cp_n L j 1 = (cp_g L j).toNat by rw [cp_n, cp_n, Nat.mul_zero, Nat.zero_add, Nat.add_zero]]
  cases cp_g L j
  · exact ⟨fun z => absurd z (by decide), fun z => absurd z (by decide)⟩
  · exact ⟨fun _ => rfl, fun _ => by decide⟩
theorem cp_n0 (L : List Bool) (j : Nat) : lN (cp_n L j 1) = 0 ↔ cp_g L j = false := by
  rw [show cp_n L j 1 = (cp_g L j).toNat by rw [cp_n, cp_n, Nat.mul_zero, Nat.zero_add, Nat.add_zero]]
  cases cp_g L j
  · exact ⟨fun _ => rfl, fun _ => by decide⟩
  · exact ⟨fun z => absurd z (by decide), fun z => absurd z (by decide)⟩
theorem cp_inv {w : Nat → Int64} {L : List Bool} (h : cp_Rw w L) {j : Nat} (hj : j < L.length) : cp_Rw (vp_updL w (j / 64) (w (j / 64) ^^^ (1 <<< ((nI (63 - j % 64)).toInt64 &&& 63)))) (L.set j (!cp_g L j)) := by
  intro i hi
  rw [List.length_set] at hi
  rw [cp_g_set]
  unfold cp_w vp_updL
  have hb : ∀ t, cp_b 1 t = decide (t = 0) := by
    intro t
    show cp_b (lN 1) t = _
    rw [cp_N]
    cases t with
    | zero => decide
    | succ t => rw [Nat.testBit_succ, show 1 / 2 = 0 by decide, Nat.zero_testBit, Bool.and_false, decide_eq_false (by omega)]
  by_cases d : i / 64 = j / 64
  · rw [if_pos d, cp_xor, cp_shl _ (by omega) (by omega), hb, ← d]
    have hw := h i hi
    unfold cp_w at hw
    rw [hw]
    by_cases e : j = i
    · subst e
      rw [if_pos ⟨rfl, hi⟩, decide_eq_true (by omega), decide_eq_true (by omega)]
      cases cp_g L j <;> rfl
    · rw [if_neg (fun z => e z.1)]
      by_cases f : 63 - j % 64 ≤ 63 - i % 64
      · rw [decide_eq_false (show ¬ 63 - i % 64 - (63 - j % 64) = 0 by omega), Bool.and_false, Bool.xor_false]
      · rw [decide_eq_false f, Bool.false_and, Bool.xor_false]
  · rw [if_neg d, if_neg (fun z => d (by rw [z.1]))]
    exact h i hi
theorem cp_cut {w : Nat → Int64} {L : List Bool} (h : cp_Rw w L) (n : Nat) : cp_Rw w (L.take n) := by
  intro i hi
  rw [List.length_take] at hi
  rw [cp_g_take (by omega)]
  exact h i (by omega)
/-- a place in a row of n -/
def cp_ix (k : Int32) (n : Nat) : Prop := ∃ j : Nat, j < n ∧ k = nI j
theorem cp_ix_of {k : Int32} {n : Nat} (hn : n < 2 ^ 31) (h1 : ¬ k < 0) (h2 : k < nI n) : ∃ j : Nat, j < n ∧ k = nI j := by
  rcases pk_ix k hn with a | a | a
  · exact absurd a h1
  · rw [Int32.le_iff_toInt_le] at a
    rw [Int32.lt_iff_toInt_lt] at h2
    omega
  · exact a
theorem cp_ix_n {k : Int32} {n : Nat} (hn : n < 2 ^ 31) (h : k < 0 ∨ ¬ k < nI n) : ¬ cp_ix k n := by
  rintro ⟨j, hj, rfl⟩
  rcases h with h | h
  · exact nI_pos (by omega) h
  · exact h (nI_lt hj hn)
end
section
set_option maxHeartbeats 4000000 in
set_option maxRecDepth 100000 in
theorem cc_F_init (l : Launch) (D : va_G) (cJ cB : ClassId) (q : Nat) (sz : Nat) : ct_v l my_F_init (Cond.code my_F_init mb_F_init 1 none :: TB) ({ frames := 1, cells := 0, slots := 0, locals := 12 } : Room) D classes cJ cB [.ref q] [(q, .inr (1, [.int 0, .int 0]))] sz (fun (u : Unit) => True) (fun u => [(q, .inr (1, [.int (nI 0), .int (nI 0)]))]) 0 0 := by
  refine ct_ofW (cc := mb_F_init) (maxL := 1) (ret := none) (by decide) rfl (Nat.le_of_ble_eq_true rfl) ?_
  intro p e s m below meth c hx hb hr hml hts hown hlocks hin hsz hK hP hD hA hS hZ ls hl
  have hw : ∀ w ∈ TB, w.before _ s = true := fun w h => hts w (List.mem_cons_of_mem _ h)
  have hown : s.vm.findClass cn_F = some m.cls := hown
  have hin : meth.name = "<init>" := hin
  generalize hAe : va_A [(q, .inr (1, [.int 0, .int 0]))] sz = A at hD hA hS hZ ⊢
  clear hAe
  have hl : lv_has ls 1 [(0, .ref q)] := hl
  have hP : va_P D classes [(q, .inr (1, [.int 0, .int 0]))] s.heap := hP
  refine lv_aload_n hx hb dd_F_init_0 rfl (lv_at hl 0 rfl) ?_
  refine W.objInit hx hb hown (hw _ wi_238) (hw _ wi_44) (hw _ wi_obj) rfl (by rw [hml]; exact hl.1) rfl dd_F_init_1 (Nat.le_of_ble_eq_true rfl) (Nat.le_of_ble_eq_true rfl) ?_
  refine W.eq (g2 := F0 m 4 ls []) rfl ?_
  refine lv_aload_n hx hb dd_F_init_4 rfl (lv_at hl 0 rfl) ?_
  refine lv_iconst (v := nI 0) hx hb dd_F_init_5 (by decide) ?_
  refine va_put (D := D) (ci := 1) (v := .int (nI 0)) (ty := .int) (C := cn_F) (T := cf_F) (N := 2) hx hb hw in_F ty_F to_F nn_F hown hK hP hD hS 0 rfl rfl 0 (by decide) (hw _ wi_239) (fun _ h9 => h9) rfl (by decide +kernel) (rfl) (rfl) (Nat.le_of_ble_eq_true rfl) dd_F_init_6 (fun H locs hP hD hS => ?_)
  have hP : va_P D classes [(q, .inr (1, [.int (nI 0), .int 0]))] H := hP
  have hD : va_D A [(q, .inr (1, [.int (nI 0), .int 0]))] := hD
  refine lv_aload_n hx hb dd_F_init_9 rfl (lv_at hl 0 rfl) ?_
  refine lv_iconst (v := nI 0) hx hb dd_F_init_10 (by decide) ?_
  refine va_put (D := D) (ci := 1) (v := .int (nI 0)) (ty := .int) (C := cn_F) (T := cf_F) (N := 2) hx hb hw in_F ty_F to_F nn_F hown hK hP hD hS 0 rfl rfl 1 (by decide) (hw _ wi_240) (fun _ h9 => h9) rfl (by decide +kernel) (rfl) (rfl) (Nat.le_of_ble_eq_true rfl) dd_F_init_11 (fun H locs hP hD hS => ?_)
  have hP : va_P D classes [(q, .inr (1, [.int (nI 0), .int (nI 0)]))] H := hP
  have hD : va_D A [(q, .inr (1, [.int (nI 0), .int (nI 0)]))] := hD
  refine ct_vret (u := ()) hx hb hr hlocks hK hP hD hS rfl ?_ dd_F_init_14
  trivial

set_option maxHeartbeats 4000000 in
set_option maxRecDepth 100000 in
theorem cc_F_isThere (l : Launch) (D : va_G) (cJ cB : ClassId) (q : Nat) (ld wd : Nat) (sz : Nat) (h1 : ld + wd ≤ 64) : ct_i l my_F_isThere (Cond.code my_F_isThere mb_F_isThere 1 (some .boolean) :: TB) ({ frames := 0, cells := 0, slots := 0, locals := 0 } : Room) D classes cJ cB [.ref q] [(q, .inr (1, [.int (nI ld), .int (nI wd)]))] sz (fun (r : Int32) (u : Unit) => r = bI (0 < wd)) (fun u => [(q, .inr (1, [.int (nI ld), .int (nI wd)]))]) 0 0 := by
  refine ct_ofW (cc := mb_F_isThere) (maxL := 1) (ret := some .boolean) (by decide) rfl (Nat.le_of_ble_eq_true rfl) ?_
  intro p e s m below meth c hx hb hr hml hts hown hlocks hin hsz hK hP hD hA hS hZ ls hl
  have hw : ∀ w ∈ TB, w.before _ s = true := fun w h => hts w (List.mem_cons_of_mem _ h)
  have hown : s.vm.findClass cn_F = some m.cls := hown
  have hin : meth.name = "isThere" := hin
  generalize hAe : va_A [(q, .inr (1, [.int (nI ld), .int (nI wd)]))] sz = A at hD hA hS hZ ⊢
  clear hAe
  have hl : lv_has ls 1 [(0, .ref q)] := hl
  have hP : va_P D classes [(q, .inr (1, [.int (nI ld), .int (nI wd)]))] s.heap := hP
  refine lv_aload_n hx hb dd_F_isThere_0 rfl (lv_at hl 0 rfl) ?_
  refine va_get (D := D) (ci := 1) (C := cn_F) (T := cf_F) (N := 2) hx hb hw in_F hown hK hP 0 rfl rfl 1 (by decide) (hw _ wi_240) (fun _ h9 => h9) rfl dd_F_isThere_1 ?_
  refine lv_if_le (tgt := 11) hx hb dd_F_isThere_4 (by decide) (fun c_4 => ?_) (fun c_4 => ?_)
  · skip
    have c_4 : wd ≤ 0 := (ct_zle (by omega)).mp c_4
    refine lv_iconst (v := nI 0) hx hb dd_F_isThere_11 (by decide) ?_
    refine ct_zret (u := ()) hx hb hr hlocks (by decide) hK hP hD hS rfl ?_ dd_F_isThere_12
    exact bI_f (by omega)
  have c_4 : ¬ (wd ≤ 0) := fun z => c_4 ((ct_zle (by omega)).mpr z)
  refine lv_iconst (v := nI 1) hx hb dd_F_isThere_7 (by decide) ?_
  refine lv_goto (tgt := 12) hx hb dd_F_isThere_8 (by decide) ?_
  refine ct_zret (u := ()) hx hb hr hlocks (by decide) hK hP hD hS rfl ?_ dd_F_isThere_12
  exact bI_t (by omega)

set_option maxHeartbeats 4000000 in
set_option maxRecDepth 100000 in
theorem cc_F_width (l : Launch) (D : va_G) (cJ cB : ClassId) (q : Nat) (ld wd : Nat) (sz : Nat) (h1 : ld + wd ≤ 64) : ct_i l my_F_width (Cond.code my_F_width mb_F_width 1 (some .int) :: TB) ({ frames := 0, cells := 0, slots := 0, locals := 0 } : Room) D classes cJ cB [.ref q] [(q, .inr (1, [.int (nI ld), .int (nI wd)]))] sz (fun (r : Int32) (u : Unit) => r = nI wd) (fun u => [(q, .inr (1, [.int (nI ld), .int (nI wd)]))]) 0 0 := by
  refine ct_ofW (cc := mb_F_width) (maxL := 1) (ret := some .int) (by decide) rfl (Nat.le_of_ble_eq_true rfl) ?_
  intro p e s m below meth c hx hb hr hml hts hown hlocks hin hsz hK hP hD hA hS hZ ls hl
  have hw : ∀ w ∈ TB, w.before _ s = true := fun w h => hts w (List.mem_cons_of_mem _ h)
  have hown : s.vm.findClass cn_F = some m.cls := hown
  have hin : meth.name = "width" := hin
  generalize hAe : va_A [(q, .inr (1, [.int (nI ld), .int (nI wd)]))] sz = A at hD hA hS hZ ⊢
  clear hAe
  have hl : lv_has ls 1 [(0, .ref q)] := hl
  have hP : va_P D classes [(q, .inr (1, [.int (nI ld), .int (nI wd)]))] s.heap := hP
  refine lv_aload_n hx hb dd_F_width_0 rfl (lv_at hl 0 rfl) ?_
  refine va_get (D := D) (ci := 1) (C := cn_F) (T := cf_F) (N := 2) hx hb hw in_F hown hK hP 0 rfl rfl 1 (by decide) (hw _ wi_240) (fun _ h9 => h9) rfl dd_F_width_1 ?_
  refine ct_iret (u := ()) hx hb hr hlocks hK hP hD hS rfl ?_ dd_F_width_4
  rfl

set_option maxHeartbeats 4000000 in
set_option maxRecDepth 100000 in
theorem cc_F_below (l : Launch) (D : va_G) (cJ cB : ClassId) (q : Nat) (ld wd : Nat) (sz : Nat) (h1 : ld + wd ≤ 64) : ct_i l my_F_below (Cond.code my_F_below mb_F_below 1 (some .int) :: TB) ({ frames := 0, cells := 0, slots := 0, locals := 0 } : Room) D classes cJ cB [.ref q] [(q, .inr (1, [.int (nI ld), .int (nI wd)]))] sz (fun (r : Int32) (u : Unit) => r = nI (64 - ld - wd)) (fun u => [(q, .inr (1, [.int (nI ld), .int (nI wd)]))]) 0 0 := by
  refine ct_ofW (cc := mb_F_below) (maxL := 1) (ret := some .int) (by decide) rfl (Nat.le_of_ble_eq_true rfl) ?_
  intro p e s m below meth c hx hb hr hml hts hown hlocks hin hsz hK hP hD hA hS hZ ls hl
  have hw : ∀ w ∈ TB, w.before _ s = true := fun w h => hts w (List.mem_cons_of_mem _ h)
  have hown : s.vm.findClass cn_F = some m.cls := hown
  have hin : meth.name = "below" := hin
  generalize hAe : va_A [(q, .inr (1, [.int (nI ld), .int (nI wd)]))] sz = A at hD hA hS hZ ⊢
  clear hAe
  have hl : lv_has ls 1 [(0, .ref q)] := hl
  have hP : va_P D classes [(q, .inr (1, [.int (nI ld), .int (nI wd)]))] s.heap := hP
  refine lv_bipush (v := nI 64) hx hb dd_F_below_0 (by decide) ?_
  refine lv_aload_n hx hb dd_F_below_2 rfl (lv_at hl 0 rfl) ?_
  refine va_get (D := D) (ci := 1) (C := cn_F) (T := cf_F) (N := 2) hx hb hw in_F hown hK hP 0 rfl rfl 0 (by decide) (hw _ wi_239) (fun _ h9 => h9) rfl dd_F_below_3 ?_
  refine lv_isub hx hb dd_F_below_6 ?_
  refine ct_topi (y := nI (64 - ld)) (pk_sub (by omega)) ?_
  refine lv_aload_n hx hb dd_F_below_7 rfl (lv_at hl 0 rfl) ?_
  refine va_get (D := D) (ci := 1) (C := cn_F) (T := cf_F) (N := 2) hx hb hw in_F hown hK hP 0 rfl rfl 1 (by decide) (hw _ wi_240) (fun _ h9 => h9) rfl dd_F_below_8 ?_
  refine lv_isub hx hb dd_F_below_11 ?_
  refine ct_topi (y := nI (64 - ld - wd)) (pk_sub (by omega)) ?_
  refine ct_iret (u := ()) hx hb hr hlocks hK hP hD hS rfl ?_ dd_F_below_12
  rfl

set_option maxHeartbeats 4000000 in
set_option maxRecDepth 100000 in
theorem cc_F_holds (l : Launch) (D : va_G) (cJ cB : ClassId) (q : Nat) (ld wd : Nat) (a b : Nat) (sz : Nat) (h1 : ld + wd ≤ 64) (h2 : a ≤ 64) (h3 : b ≤ 64) : ct_i l my_F_holds (Cond.code my_F_holds mb_F_holds 3 (some .boolean) :: TB) ({ frames := 1, cells := 0, slots := 0, locals := 20 } : Room) D classes cJ cB [.ref q, .int (nI a), .int (nI b)] [(q, .inr (1, [.int (nI ld), .int (nI wd)]))] sz (fun (r : Int32) (u : Unit) => r = bI (0 < wd ∧ ld ≤ a ∧ 64 - ld - wd ≤ b)) (fun u => [(q, .inr (1, [.int (nI ld), .int (nI wd)]))]) 0 0 := by
  refine ct_ofW (cc := mb_F_holds) (maxL := 3) (ret := some .boolean) (by decide) rfl (Nat.le_of_ble_eq_true rfl) ?_
  intro p e s m below meth c hx hb hr hml hts hown hlocks hin hsz hK hP hD hA hS hZ ls hl
  have hw : ∀ w ∈ TB, w.before _ s = true := fun w h => hts w (List.mem_cons_of_mem _ h)
  have hown : s.vm.findClass cn_F = some m.cls := hown
  have hin : meth.name = "holds" := hin
  generalize hAe : va_A [(q, .inr (1, [.int (nI ld), .int (nI wd)]))] sz = A at hD hA hS hZ ⊢
  clear hAe
  have hl : lv_has ls 3 [(0, .ref q), (1, .int (nI a)), (2, .int (nI b))] := hl
  have hP : va_P D classes [(q, .inr (1, [.int (nI ld), .int (nI wd)]))] s.heap := hP
  refine lv_aload_n hx hb dd_F_holds_0 rfl (lv_at hl 0 rfl) ?_
  refine ct_behind_i (wc := [(q, .inr (1, [.int (nI ld), .int (nI wd)]))]) (wr := []) (av := [.ref q]) (va_runV (As := []) (rest := []) ⟨hx, hb, hml, hown, hw⟩ (cc_F_isThere l D cJ cB q ld wd _ h1) (cwV 0 hw (tb_V wi_341 wi_342 wi_343 wi_32 wi_344) rfl rfl rfl (by decide +kernel) ⟨Nat.le_of_ble_eq_true rfl, Nat.le_of_ble_eq_true rfl⟩) ⟨ct_blind, ct_recv hK hP (q0 := 0) (ci := 1) rfl rfl, ct_pc hZ hK hP hD hS hA [0] rfl (by decide)⟩ rfl rfl hl.1 rfl (lv_room (Nat.le_of_ble_eq_true rfl)) dd_F_holds_1 ⟨Nat.le_of_ble_eq_true rfl, Nat.le_of_ble_eq_true rfl⟩) hK hP hD hS hA [0] [] rfl rfl (by decide) (by decide) (fun r_1 u_1 H locs hw_1 hP hD hS => ?_)
  subst hw_1
  have hP : va_P D classes [(q, .inr (1, [.int (nI ld), .int (nI wd)]))] H := hP
  have hD : va_D A [(q, .inr (1, [.int (nI ld), .int (nI wd)]))] := hD
  refine lv_if_eq (tgt := 27) hx hb dd_F_holds_4 (by decide) (fun c_4 => ?_) (fun c_4 => ?_)
  · skip
    have c_4 : ¬ (0 < wd) := bI_z.mp c_4
    refine lv_iconst (v := nI 0) hx hb dd_F_holds_27 (by decide) ?_
    refine ct_zret (u := ()) hx hb hr hlocks (by decide) hK hP hD hS rfl ?_ dd_F_holds_28
    exact bI_f (by omega)
  have c_4 : 0 < wd := bI_n.mp c_4
  refine lv_iload_n hx hb dd_F_holds_7 rfl (lv_at hl 1 rfl) ?_
  refine lv_aload_n hx hb dd_F_holds_8 rfl (lv_at hl 0 rfl) ?_
  refine va_get (D := D) (ci := 1) (C := cn_F) (T := cf_F) (N := 2) hx hb hw in_F hown hK hP 0 rfl rfl 0 (by decide) (hw _ wi_239) (fun _ h9 => h9) rfl dd_F_holds_9 ?_
  refine lv_icmp_lt (tgt := 27) hx hb dd_F_holds_12 (by decide) (fun c_12 => ?_) (fun c_12 => ?_)
  · skip
    have c_12 : a < ld := (nI_ltI (by omega) (by omega)).mp c_12
    refine lv_iconst (v := nI 0) hx hb dd_F_holds_27 (by decide) ?_
    refine ct_zret (u := ()) hx hb hr hlocks (by decide) hK hP hD hS rfl ?_ dd_F_holds_28
    exact bI_f (by omega)
  have c_12 : ¬ (a < ld) := fun z => c_12 ((nI_ltI (by omega) (by omega)).mpr z)
  refine lv_iload_n hx hb dd_F_holds_15 rfl (lv_at hl 2 rfl) ?_
  refine lv_aload_n hx hb dd_F_holds_16 rfl (lv_at hl 0 rfl) ?_
  refine ct_behind_i (wc := [(q, .inr (1, [.int (nI ld), .int (nI wd)]))]) (wr := []) (av := [.ref q]) (va_runV (As := []) (rest := [.int (nI b)]) ⟨hx, hb, hml, hown, hw⟩ (cc_F_below l D cJ cB q ld wd _ h1) (cwV 0 hw (tb_V wi_345 wi_346 wi_347 wi_32 wi_348) rfl rfl rfl (by decide +kernel) ⟨Nat.le_of_ble_eq_true rfl, Nat.le_of_ble_eq_true rfl⟩) ⟨ct_blind, ct_recv hK hP (q0 := 0) (ci := 1) rfl rfl, ct_pc hZ hK hP hD hS hA [0] rfl (by decide)⟩ rfl rfl hl.1 rfl (lv_room (Nat.le_of_ble_eq_true rfl)) dd_F_holds_17 ⟨Nat.le_of_ble_eq_true rfl, Nat.le_of_ble_eq_true rfl⟩) hK hP hD hS hA [0] [] rfl rfl (by decide) (by decide) (fun r_17 u_17 H locs hw_17 hP hD hS => ?_)
  subst hw_17
  have hP : va_P D classes [(q, .inr (1, [.int (nI ld), .int (nI wd)]))] H := hP
  have hD : va_D A [(q, .inr (1, [.int (nI ld), .int (nI wd)]))] := hD
  refine lv_icmp_lt (tgt := 27) hx hb dd_F_holds_20 (by decide) (fun c_20 => ?_) (fun c_20 => ?_)
  · skip
    have c_20 : b < (64 - ld - wd) := (nI_ltI (by omega) (by omega)).mp c_20
    refine lv_iconst (v := nI 0) hx hb dd_F_holds_27 (by decide) ?_
    refine ct_zret (u := ()) hx hb hr hlocks (by decide) hK hP hD hS rfl ?_ dd_F_holds_28
    exact bI_f (by omega)
  have c_20 : ¬ (b < (64 - ld - wd)) := fun z => c_20 ((nI_ltI (by omega) (by omega)).mpr z)
  refine lv_iconst (v := nI 1) hx hb dd_F_holds_23 (by decide) ?_
  refine lv_goto (tgt := 28) hx hb dd_F_holds_24 (by decide) ?_
  refine ct_zret (u := ()) hx hb hr hlocks (by decide) hK hP hD hS rfl ?_ dd_F_holds_28
  exact bI_t (by omega)

set_option maxHeartbeats 4000000 in
set_option maxRecDepth 100000 in
theorem cc_F_become (l : Launch) (D : va_G) (cJ cB : ClassId) (q : Nat) (ld wd : Nat) (a b : Nat) (sz : Nat) : ct_v l my_F_become (Cond.code my_F_become mb_F_become 3 none :: TB) ({ frames := 0, cells := 0, slots := 0, locals := 0 } : Room) D classes cJ cB [.ref q, .int (nI a), .int (nI b)] [(q, .inr (1, [.int (nI ld), .int (nI wd)]))] sz (fun (u : Unit) => True) (fun u => [(q, .inr (1, [.int (nI a), .int (nI b)]))]) 0 0 := by
  refine ct_ofW (cc := mb_F_become) (maxL := 3) (ret := none) (by decide) rfl (Nat.le_of_ble_eq_true rfl) ?_
  intro p e s m below meth c hx hb hr hml hts hown hlocks hin hsz hK hP hD hA hS hZ ls hl
  have hw : ∀ w ∈ TB, w.before _ s = true := fun w h => hts w (List.mem_cons_of_mem _ h)
  have hown : s.vm.findClass cn_F = some m.cls := hown
  have hin : meth.name = "become" := hin
  generalize hAe : va_A [(q, .inr (1, [.int (nI ld), .int (nI wd)]))] sz = A at hD hA hS hZ ⊢
  clear hAe
  have hl : lv_has ls 3 [(0, .ref q), (1, .int (nI a)), (2, .int (nI b))] := hl
  have hP : va_P D classes [(q, .inr (1, [.int (nI ld), .int (nI wd)]))] s.heap := hP
  refine lv_aload_n hx hb dd_F_become_0 rfl (lv_at hl 0 rfl) ?_
  refine lv_iload_n hx hb dd_F_become_1 rfl (lv_at hl 1 rfl) ?_
  refine va_put (D := D) (ci := 1) (v := .int (nI a)) (ty := .int) (C := cn_F) (T := cf_F) (N := 2) hx hb hw in_F ty_F to_F nn_F hown hK hP hD hS 0 rfl rfl 0 (by decide) (hw _ wi_239) (fun _ h9 => h9) rfl (by decide +kernel) (rfl) (rfl) (Nat.le_of_ble_eq_true rfl) dd_F_become_2 (fun H locs hP hD hS => ?_)
  have hP : va_P D classes [(q, .inr (1, [.int (nI a), .int (nI wd)]))] H := hP
  have hD : va_D A [(q, .inr (1, [.int (nI a), .int (nI wd)]))] := hD
  refine lv_aload_n hx hb dd_F_become_5 rfl (lv_at hl 0 rfl) ?_
  refine lv_iload_n hx hb dd_F_become_6 rfl (lv_at hl 2 rfl) ?_
  refine va_put (D := D) (ci := 1) (v := .int (nI b)) (ty := .int) (C := cn_F) (T := cf_F) (N := 2) hx hb hw in_F ty_F to_F nn_F hown hK hP hD hS 0 rfl rfl 1 (by decide) (hw _ wi_240) (fun _ h9 => h9) rfl (by decide +kernel) (rfl) (rfl) (Nat.le_of_ble_eq_true rfl) dd_F_become_7 (fun H locs hP hD hS => ?_)
  have hP : va_P D classes [(q, .inr (1, [.int (nI a), .int (nI b)]))] H := hP
  have hD : va_D A [(q, .inr (1, [.int (nI a), .int (nI b)]))] := hD
  refine ct_vret (u := ()) hx hb hr hlocks hK hP hD hS rfl ?_ dd_F_become_10
  trivial
end
section
set_option maxHeartbeats 4000000 in
set_option maxRecDepth 100000 in
theorem cc_P_init (l : Launch) (D : va_G) (cJ cB : ClassId) (q : Nat) (sz : Nat) : ct_v l my_P_init (Cond.code my_P_init mb_P_init 1 none :: TB) ({ frames := 1, cells := 2, slots := 6000, locals := 12 } : Room) D classes cJ cB [.ref q] [(q, .inr (2, [.null, .null, .int 0]))] sz (fun (u : Nat × Nat) => True) (fun u => [(q, .inr (2, [.ref u.1, .ref u.2, .int (nI 0)])), (u.1, .inl (cJ, 3000, .inr (.inl (fun _ => 0)))), (u.2, .inl (cJ, 3000, .inr (.inl (fun _ => 0))))]) 2 6000 := by
  refine ct_ofW (cc := mb_P_init) (maxL := 1) (ret := none) (by decide) rfl (Nat.le_of_ble_eq_true rfl) ?_
  intro p e s m below meth c hx hb hr hml hts hown hlocks hin hsz hK hP hD hA hS hZ ls hl
  have hw : ∀ w ∈ TB, w.before _ s = true := fun w h => hts w (List.mem_cons_of_mem _ h)
  have hown : s.vm.findClass cn_P = some m.cls := hown
  have hin : meth.name = "<init>" := hin
  generalize hAe : va_A [(q, .inr (2, [.null, .null, .int 0]))] sz = A at hD hA hS hZ ⊢
  clear hAe
  have hl : lv_has ls 1 [(0, .ref q)] := hl
  have hP : va_P D classes [(q, .inr (2, [.null, .null, .int 0]))] s.heap := hP
  refine lv_aload_n hx hb dd_P_init_0 rfl (lv_at hl 0 rfl) ?_
  refine W.objInit hx hb hown (hw _ wi_51) (hw _ wi_44) (hw _ wi_obj) rfl (by rw [hml]; exact hl.1) rfl dd_P_init_1 (Nat.le_of_ble_eq_true rfl) (Nat.le_of_ble_eq_true rfl) ?_
  refine W.eq (g2 := F0 m 4 ls []) rfl ?_
  refine lv_aload_n hx hb dd_P_init_4 rfl (lv_at hl 0 rfl) ?_
  refine lv_sipush (v := nI 3000) hx hb dd_P_init_5 (by decide) ?_
  refine ct_newa (atype := .long) (ty := .long) (N' := 3000) (a0 := (3000, .inr (.inl (fun _ => 0)))) hx hb (hw _ wi_62) rfl hK hP hD hS hA (ct_J hK) (fun cA => vp_cell_l cA _ _) (nI_pos (by decide)) (nI_clamp (by decide)) (by decide) (Nat.le_of_ble_eq_true rfl) (Nat.le_of_ble_eq_true rfl) dd_P_init_8 (fun qt H hP hD hS => ?_)
  have hP : va_P D classes [(q, .inr (2, [.null, .null, .int 0])), (qt, .inl (cJ, 3000, .inr (.inl (fun _ => 0))))] H := hP
  have hD : va_D A [(q, .inr (2, [.null, .null, .int 0])), (qt, .inl (cJ, 3000, .inr (.inl (fun _ => 0))))] := hD
  refine va_putF (D := D) (ci := 2) (v := .ref qt) (ty := .array .long) (C := cn_P) (T := cf_P) (N := 3) hx hb hw in_P ty_P to_P nn_P hown hK hP hD hS 0 rfl rfl 0 (by decide) (hw _ wi_52) (fun _ h9 => h9) rfl hin rfl (by decide +kernel) (rfl) (rfl) (Nat.le_of_ble_eq_true rfl) dd_P_init_10 (fun H locs hP hD hS => ?_)
  have hP : va_P D classes [(q, .inr (2, [.ref qt, .null, .int 0])), (qt, .inl (cJ, 3000, .inr (.inl (fun _ => 0))))] H := hP
  have hD : va_D A [(q, .inr (2, [.ref qt, .null, .int 0])), (qt, .inl (cJ, 3000, .inr (.inl (fun _ => 0))))] := hD
  refine lv_aload_n hx hb dd_P_init_13 rfl (lv_at hl 0 rfl) ?_
  refine lv_sipush (v := nI 3000) hx hb dd_P_init_14 (by decide) ?_
  refine ct_newa (atype := .long) (ty := .long) (N' := 3000) (a0 := (3000, .inr (.inl (fun _ => 0)))) hx hb (hw _ wi_62) rfl hK hP hD hS hA (ct_J hK) (fun cA => vp_cell_l cA _ _) (nI_pos (by decide)) (nI_clamp (by decide)) (by decide) (Nat.le_of_ble_eq_true rfl) (Nat.le_of_ble_eq_true rfl) dd_P_init_17 (fun qv H hP hD hS => ?_)
  have hP : va_P D classes [(q, .inr (2, [.ref qt, .null, .int 0])), (qt, .inl (cJ, 3000, .inr (.inl (fun _ => 0)))), (qv, .inl (cJ, 3000, .inr (.inl (fun _ => 0))))] H := hP
  have hD : va_D A [(q, .inr (2, [.ref qt, .null, .int 0])), (qt, .inl (cJ, 3000, .inr (.inl (fun _ => 0)))), (qv, .inl (cJ, 3000, .inr (.inl (fun _ => 0))))] := hD
  refine va_putF (D := D) (ci := 2) (v := .ref qv) (ty := .array .long) (C := cn_P) (T := cf_P) (N := 3) hx hb hw in_P ty_P to_P nn_P hown hK hP hD hS 0 rfl rfl 1 (by decide) (hw _ wi_53) (fun _ h9 => h9) rfl hin rfl (by decide +kernel) (rfl) (rfl) (Nat.le_of_ble_eq_true rfl) dd_P_init_19 (fun H locs hP hD hS => ?_)
  have hP : va_P D classes [(q, .inr (2, [.ref qt, .ref qv, .int 0])), (qt, .inl (cJ, 3000, .inr (.inl (fun _ => 0)))), (qv, .inl (cJ, 3000, .inr (.inl (fun _ => 0))))] H := hP
  have hD : va_D A [(q, .inr (2, [.ref qt, .ref qv, .int 0])), (qt, .inl (cJ, 3000, .inr (.inl (fun _ => 0)))), (qv, .inl (cJ, 3000, .inr (.inl (fun _ => 0))))] := hD
  refine lv_aload_n hx hb dd_P_init_22 rfl (lv_at hl 0 rfl) ?_
  refine lv_iconst (v := nI 0) hx hb dd_P_init_23 (by decide) ?_
  refine va_put (D := D) (ci := 2) (v := .int (nI 0)) (ty := .int) (C := cn_P) (T := cf_P) (N := 3) hx hb hw in_P ty_P to_P nn_P hown hK hP hD hS 0 rfl rfl 2 (by decide) (hw _ wi_54) (fun _ h9 => h9) rfl (by decide +kernel) (rfl) (rfl) (Nat.le_of_ble_eq_true rfl) dd_P_init_24 (fun H locs hP hD hS => ?_)
  have hP : va_P D classes [(q, .inr (2, [.ref qt, .ref qv, .int (nI 0)])), (qt, .inl (cJ, 3000, .inr (.inl (fun _ => 0)))), (qv, .inl (cJ, 3000, .inr (.inl (fun _ => 0))))] H := hP
  have hD : va_D A [(q, .inr (2, [.ref qt, .ref qv, .int (nI 0)])), (qt, .inl (cJ, 3000, .inr (.inl (fun _ => 0)))), (qv, .inl (cJ, 3000, .inr (.inl (fun _ => 0))))] := hD
  refine ct_vret (u := (qt, qv)) hx hb hr hlocks hK hP hD hS rfl ?_ dd_P_init_27
  trivial

set_option maxHeartbeats 4000000 in
set_option maxRecDepth 100000 in
theorem cc_P_size (l : Launch) (D : va_G) (cJ cB : ClassId) (q qt qv : Nat) (n : Nat) (f g : Nat → Int64) (sz : Nat) (h1 : n ≤ 3000) : ct_i l my_P_size (Cond.code my_P_size mb_P_size 1 (some .int) :: TB) ({ frames := 0, cells := 0, slots := 0, locals := 0 } : Room) D classes cJ cB [.ref q] [(q, .inr (2, [.ref qt, .ref qv, .int (nI n)])), (qt, .inl (cJ, 3000, .inr (.inl f))), (qv, .inl (cJ, 3000, .inr (.inl g)))] sz (fun (r : Int32) (u : Unit) => r = nI n) (fun u => [(q, .inr (2, [.ref qt, .ref qv, .int (nI n)])), (qt, .inl (cJ, 3000, .inr (.inl f))), (qv, .inl (cJ, 3000, .inr (.inl g)))]) 0 0 := by
  refine ct_ofW (cc := mb_P_size) (maxL := 1) (ret := some .int) (by decide) rfl (Nat.le_of_ble_eq_true rfl) ?_
  intro p e s m below meth c hx hb hr hml hts hown hlocks hin hsz hK hP hD hA hS hZ ls hl
  have hw : ∀ w ∈ TB, w.before _ s = true := fun w h => hts w (List.mem_cons_of_mem _ h)
  have hown : s.vm.findClass cn_P = some m.cls := hown
  have hin : meth.name = "size" := hin
  generalize hAe : va_A [(q, .inr (2, [.ref qt, .ref qv, .int (nI n)])), (qt, .inl (cJ, 3000, .inr (.inl f))), (qv, .inl (cJ, 3000, .inr (.inl g)))] sz = A at hD hA hS hZ ⊢
  clear hAe
  have hl : lv_has ls 1 [(0, .ref q)] := hl
  have hP : va_P D classes [(q, .inr (2, [.ref qt, .ref qv, .int (nI n)])), (qt, .inl (cJ, 3000, .inr (.inl f))), (qv, .inl (cJ, 3000, .inr (.inl g)))] s.heap := hP
  refine lv_aload_n hx hb dd_P_size_0 rfl (lv_at hl 0 rfl) ?_
  refine va_get (D := D) (ci := 2) (C := cn_P) (T := cf_P) (N := 3) hx hb hw in_P hown hK hP 0 rfl rfl 2 (by decide) (hw _ wi_54) (fun _ h9 => h9) rfl dd_P_size_1 ?_
  refine ct_iret (u := ()) hx hb hr hlocks hK hP hD hS rfl ?_ dd_P_size_4
  rfl

set_option maxHeartbeats 4000000 in
set_option maxRecDepth 100000 in
theorem cc_P_latestTime (l : Launch) (D : va_G) (cJ cB : ClassId) (q qt qv : Nat) (n : Nat) (f g : Nat → Int64) (sz : Nat) (h1 : n ≤ 3000) : ct_l l my_P_latestTime (Cond.code my_P_latestTime mb_P_latestTime 1 (some .long) :: TB) ({ frames := 0, cells := 0, slots := 0, locals := 0 } : Room) D classes cJ cB [.ref q] [(q, .inr (2, [.ref qt, .ref qv, .int (nI n)])), (qt, .inl (cJ, 3000, .inr (.inl f))), (qv, .inl (cJ, 3000, .inr (.inl g)))] sz (fun (r : Int64) (u : Unit) => r = if n = 0 then -1 else f (n - 1)) (fun u => [(q, .inr (2, [.ref qt, .ref qv, .int (nI n)])), (qt, .inl (cJ, 3000, .inr (.inl f))), (qv, .inl (cJ, 3000, .inr (.inl g)))]) 0 0 := by
  refine ct_ofW (cc := mb_P_latestTime) (maxL := 1) (ret := some .long) (by decide) rfl (Nat.le_of_ble_eq_true rfl) ?_
  intro p e s m below meth c hx hb hr hml hts hown hlocks hin hsz hK hP hD hA hS hZ ls hl
  have hw : ∀ w ∈ TB, w.before _ s = true := fun w h => hts w (List.mem_cons_of_mem _ h)
  have hown : s.vm.findClass cn_P = some m.cls := hown
  have hin : meth.name = "latestTime" := hin
  generalize hAe : va_A [(q, .inr (2, [.ref qt, .ref qv, .int (nI n)])), (qt, .inl (cJ, 3000, .inr (.inl f))), (qv, .inl (cJ, 3000, .inr (.inl g)))] sz = A at hD hA hS hZ ⊢
  clear hAe
  have hl : lv_has ls 1 [(0, .ref q)] := hl
  have hP : va_P D classes [(q, .inr (2, [.ref qt, .ref qv, .int (nI n)])), (qt, .inl (cJ, 3000, .inr (.inl f))), (qv, .inl (cJ, 3000, .inr (.inl g)))] s.heap := hP
  refine lv_aload_n hx hb dd_P_latestTime_0 rfl (lv_at hl 0 rfl) ?_
  refine va_get (D := D) (ci := 2) (C := cn_P) (T := cf_P) (N := 3) hx hb hw in_P hown hK hP 0 rfl rfl 2 (by decide) (hw _ wi_54) (fun _ h9 => h9) rfl dd_P_latestTime_1 ?_
  refine lv_if_ne (tgt := 13) hx hb dd_P_latestTime_4 (by decide) (fun c_4 => ?_) (fun c_4 => ?_)
  · skip
    have c_4 : ¬ (n = 0) := fun z => c_4 ((ct_zeq (by omega)).mpr z)
    refine lv_aload_n hx hb dd_P_latestTime_13 rfl (lv_at hl 0 rfl) ?_
    refine va_get (D := D) (ci := 2) (C := cn_P) (T := cf_P) (N := 3) hx hb hw in_P hown hK hP 0 rfl rfl 0 (by decide) (hw _ wi_52) (fun _ h9 => h9) rfl dd_P_latestTime_14 ?_
    refine lv_aload_n hx hb dd_P_latestTime_17 rfl (lv_at hl 0 rfl) ?_
    refine va_get (D := D) (ci := 2) (C := cn_P) (T := cf_P) (N := 3) hx hb hw in_P hown hK hP 0 rfl rfl 2 (by decide) (hw _ wi_54) (fun _ h9 => h9) rfl dd_P_latestTime_18 ?_
    refine lv_iconst (v := nI 1) hx hb dd_P_latestTime_21 (by decide) ?_
    refine lv_isub hx hb dd_P_latestTime_22 ?_
    refine ct_topi (y := nI (n - 1)) (pk_sub (by omega)) ?_
    refine va_lald hx hb hK hP 1 0 rfl rfl (vp_in_nI (by omega) (by omega)) dd_P_latestTime_23 ?_
    refine ct_topl (y := f (n - 1)) (by rw [nI_clamp (by omega)]) ?_
    refine ct_lret (u := ()) hx hb hr hlocks hK hP hD hS rfl ?_ dd_P_latestTime_24
    exact (if_neg c_4).symm
  have c_4 : n = 0 := (ct_zeq (by omega)).mp c_4
  refine lv_ldc2 (v := (-1)) hx hb hown (hw _ wi_178) dd_P_latestTime_7 ?_
  refine lv_goto (tgt := 24) hx hb dd_P_latestTime_10 (by decide) ?_
  refine ct_lret (u := ()) hx hb hr hlocks hK hP hD hS rfl ?_ dd_P_latestTime_24
  exact (if_pos c_4).symm

set_option maxHeartbeats 4000000 in
set_option maxRecDepth 100000 in
theorem cc_P_timeAt (l : Launch) (D : va_G) (cJ cB : ClassId) (q qt qv : Nat) (n : Nat) (f g : Nat → Int64) (k : Nat) (sz : Nat) (h1 : n ≤ 3000) (h2 : k < n) : ct_l l my_P_timeAt (Cond.code my_P_timeAt mb_P_timeAt 2 (some .long) :: TB) ({ frames := 0, cells := 0, slots := 0, locals := 0 } : Room) D classes cJ cB [.ref q, .int (nI k)] [(q, .inr (2, [.ref qt, .ref qv, .int (nI n)])), (qt, .inl (cJ, 3000, .inr (.inl f))), (qv, .inl (cJ, 3000, .inr (.inl g)))] sz (fun (r : Int64) (u : Unit) => r = f k) (fun u => [(q, .inr (2, [.ref qt, .ref qv, .int (nI n)])), (qt, .inl (cJ, 3000, .inr (.inl f))), (qv, .inl (cJ, 3000, .inr (.inl g)))]) 0 0 := by
  refine ct_ofW (cc := mb_P_timeAt) (maxL := 2) (ret := some .long) (by decide) rfl (Nat.le_of_ble_eq_true rfl) ?_
  intro p e s m below meth c hx hb hr hml hts hown hlocks hin hsz hK hP hD hA hS hZ ls hl
  have hw : ∀ w ∈ TB, w.before _ s = true := fun w h => hts w (List.mem_cons_of_mem _ h)
  have hown : s.vm.findClass cn_P = some m.cls := hown
  have hin : meth.name = "timeAt" := hin
  generalize hAe : va_A [(q, .inr (2, [.ref qt, .ref qv, .int (nI n)])), (qt, .inl (cJ, 3000, .inr (.inl f))), (qv, .inl (cJ, 3000, .inr (.inl g)))] sz = A at hD hA hS hZ ⊢
  clear hAe
  have hl : lv_has ls 2 [(0, .ref q), (1, .int (nI k))] := hl
  have hP : va_P D classes [(q, .inr (2, [.ref qt, .ref qv, .int (nI n)])), (qt, .inl (cJ, 3000, .inr (.inl f))), (qv, .inl (cJ, 3000, .inr (.inl g)))] s.heap := hP
  refine lv_iload_n hx hb dd_P_timeAt_0 rfl (lv_at hl 1 rfl) ?_
  refine lv_if_lt (tgt := 12) hx hb dd_P_timeAt_1 (by decide) (fun c_1 => ?_) (fun c_1 => ?_)
  · skip
    have c_1 : k < 0 := (ct_zlt (by omega)).mp c_1
    exfalso
    omega
  have c_1 : ¬ (k < 0) := fun z => c_1 ((ct_zlt (by omega)).mpr z)
  refine lv_iload_n hx hb dd_P_timeAt_4 rfl (lv_at hl 1 rfl) ?_
  refine lv_aload_n hx hb dd_P_timeAt_5 rfl (lv_at hl 0 rfl) ?_
  refine va_get (D := D) (ci := 2) (C := cn_P) (T := cf_P) (N := 3) hx hb hw in_P hown hK hP 0 rfl rfl 2 (by decide) (hw _ wi_54) (fun _ h9 => h9) rfl dd_P_timeAt_6 ?_
  refine lv_icmp_lt (tgt := 22) hx hb dd_P_timeAt_9 (by decide) (fun c_9 => ?_) (fun c_9 => ?_)
  · skip
    have c_9 : k < n := (nI_ltI (by omega) (by omega)).mp c_9
    refine lv_aload_n hx hb dd_P_timeAt_22 rfl (lv_at hl 0 rfl) ?_
    refine va_get (D := D) (ci := 2) (C := cn_P) (T := cf_P) (N := 3) hx hb hw in_P hown hK hP 0 rfl rfl 0 (by decide) (hw _ wi_52) (fun _ h9 => h9) rfl dd_P_timeAt_23 ?_
    refine lv_iload_n hx hb dd_P_timeAt_26 rfl (lv_at hl 1 rfl) ?_
    refine va_lald hx hb hK hP 1 0 rfl rfl (vp_in_nI (by omega) (by omega)) dd_P_timeAt_27 ?_
    refine ct_topl (y := f k) (by rw [nI_clamp (by omega)]) ?_
    refine ct_lret (u := ()) hx hb hr hlocks hK hP hD hS rfl ?_ dd_P_timeAt_28
    rfl
  have c_9 : ¬ (k < n) := fun z => c_9 ((nI_ltI (by omega) (by omega)).mpr z)
  exfalso
  omega

set_option maxHeartbeats 4000000 in
set_option maxRecDepth 100000 in
theorem cx_P_timeAt (l : Launch) (hlt : l.stackTraces = false) (D : va_G) (cJ cB : ClassId) (q qt qv : Nat) (n : Nat) (f g : Nat → Int64) (k : Int32) (sz : Nat) (h1 : n ≤ 3000) : cx_l l my_P_timeAt (Cond.code my_P_timeAt mb_P_timeAt 2 (some .long) :: TB) ({ frames := 6, cells := 1, slots := 6, locals := 90 } : Room) D classes cJ cB [.ref q, .int k] [(q, .inr (2, [.ref qt, .ref qv, .int (nI n)])), (qt, .inl (cJ, 3000, .inr (.inl f))), (qv, .inl (cJ, 3000, .inr (.inl g)))] sz (fun (r : Int64) (u : Unit) => ∃ j : Nat, j < n ∧ k = nI j ∧ r = f j) (fun u => [(q, .inr (2, [.ref qt, .ref qv, .int (nI n)])), (qt, .inl (cJ, 3000, .inr (.inl f))), (qv, .inl (cJ, 3000, .inr (.inl g)))]) (fun E => E = ex_I ∧ ¬ cp_ix k n) 1 6 := by
  refine cx_ofW (cc := mb_P_timeAt) (maxL := 2) (ret := some .long) (by decide) rfl (Nat.le_of_ble_eq_true rfl) ?_
  intro p e s m below meth c hx hb hr hml hts hown hlocks hin hsz hK hP hD hA hS hZ hex ls hl
  have hw : ∀ w ∈ TB, w.before _ s = true := fun w h => hts w (List.mem_cons_of_mem _ h)
  have hown : s.vm.findClass cn_P = some m.cls := hown
  have hin : meth.name = "timeAt" := hin
  generalize hAe : va_A [(q, .inr (2, [.ref qt, .ref qv, .int (nI n)])), (qt, .inl (cJ, 3000, .inr (.inl f))), (qv, .inl (cJ, 3000, .inr (.inl g)))] sz = A at hD hA hS hZ ⊢
  clear hAe
  have hl : lv_has ls 2 [(0, .ref q), (1, .int k)] := hl
  have hP : va_P D classes [(q, .inr (2, [.ref qt, .ref qv, .int (nI n)])), (qt, .inl (cJ, 3000, .inr (.inl f))), (qv, .inl (cJ, 3000, .inr (.inl g)))] s.heap := hP
  refine lv_iload_n hx hb dd_P_timeAt_0 rfl (lv_at hl 1 rfl) ?_
  refine lv_if_lt (tgt := 12) hx hb dd_P_timeAt_1 (by decide) (fun c_1 => ?_) (fun c_1 => ?_)
  · skip
    refine cx_throw (own := cn_P) (cls := ex_I) (text := "no such point") (ik := 24) (is := 26) (ic := 28) hx hb hlt hw hZ hown (by decide +kernel) wi_271 wi_33 (by decide +kernel) ht_P_28_1 ht_P_28_2 ht_P_24_28_3 hK hP hD hS (hl.1.trans hml.symm) hex dd_P_timeAt_12 dd_P_timeAt_15 dd_P_timeAt_16 dd_P_timeAt_18 dd_P_timeAt_21 (Nat.le_of_ble_eq_true rfl) (Nat.le_of_ble_eq_true rfl) (Nat.le_of_ble_eq_true rfl) (Nat.le_of_ble_eq_true rfl) hlocks ?_ (Nat.le_of_ble_eq_true rfl) (Nat.le_of_ble_eq_true rfl)
    exact ⟨rfl, cp_ix_n (by omega) (Or.inl c_1)⟩
  refine lv_iload_n hx hb dd_P_timeAt_4 rfl (lv_at hl 1 rfl) ?_
  refine lv_aload_n hx hb dd_P_timeAt_5 rfl (lv_at hl 0 rfl) ?_
  refine va_get (D := D) (ci := 2) (C := cn_P) (T := cf_P) (N := 3) hx hb hw in_P hown hK hP 0 rfl rfl 2 (by decide) (hw _ wi_54) (fun _ h9 => h9) rfl dd_P_timeAt_6 ?_
  refine lv_icmp_lt (tgt := 22) hx hb dd_P_timeAt_9 (by decide) (fun c_9 => ?_) (fun c_9 => ?_)
  · skip
    obtain ⟨j, hj, hkj⟩ := cp_ix_of (by omega) c_1 c_9
    subst hkj
    refine lv_aload_n hx hb dd_P_timeAt_22 rfl (lv_at hl 0 rfl) ?_
    refine va_get (D := D) (ci := 2) (C := cn_P) (T := cf_P) (N := 3) hx hb hw in_P hown hK hP 0 rfl rfl 0 (by decide) (hw _ wi_52) (fun _ h9 => h9) rfl dd_P_timeAt_23 ?_
    refine lv_iload_n hx hb dd_P_timeAt_26 rfl (lv_at hl 1 rfl) ?_
    refine va_lald hx hb hK hP 1 0 rfl rfl (vp_in_nI (by omega) (by omega)) dd_P_timeAt_27 ?_
    refine ct_topl (y := f j) (by rw [nI_clamp (by omega)]) ?_
    refine vx_ret ?_
    refine W.widen (k := 1) (n := 6) (Nat.le_of_ble_eq_true rfl) (Nat.le_of_ble_eq_true rfl) ?_
    refine ct_lret (u := ()) hx hb hr hlocks hK hP hD hS rfl ?_ dd_P_timeAt_28
    exact ⟨j, hj, rfl, rfl⟩
  refine cx_throw (own := cn_P) (cls := ex_I) (text := "no such point") (ik := 24) (is := 26) (ic := 28) hx hb hlt hw hZ hown (by decide +kernel) wi_271 wi_33 (by decide +kernel) ht_P_28_1 ht_P_28_2 ht_P_24_28_3 hK hP hD hS (hl.1.trans hml.symm) hex dd_P_timeAt_12 dd_P_timeAt_15 dd_P_timeAt_16 dd_P_timeAt_18 dd_P_timeAt_21 (Nat.le_of_ble_eq_true rfl) (Nat.le_of_ble_eq_true rfl) (Nat.le_of_ble_eq_true rfl) (Nat.le_of_ble_eq_true rfl) hlocks ?_ (Nat.le_of_ble_eq_true rfl) (Nat.le_of_ble_eq_true rfl)
  exact ⟨rfl, cp_ix_n (by omega) (Or.inr c_9)⟩

set_option maxHeartbeats 4000000 in
set_option maxRecDepth 100000 in
theorem cc_P_valueAt (l : Launch) (D : va_G) (cJ cB : ClassId) (q qt qv : Nat) (n : Nat) (f g : Nat → Int64) (k : Nat) (sz : Nat) (h1 : n ≤ 3000) (h2 : k < n) : ct_l l my_P_valueAt (Cond.code my_P_valueAt mb_P_valueAt 2 (some .long) :: TB) ({ frames := 0, cells := 0, slots := 0, locals := 0 } : Room) D classes cJ cB [.ref q, .int (nI k)] [(q, .inr (2, [.ref qt, .ref qv, .int (nI n)])), (qt, .inl (cJ, 3000, .inr (.inl f))), (qv, .inl (cJ, 3000, .inr (.inl g)))] sz (fun (r : Int64) (u : Unit) => r = g k) (fun u => [(q, .inr (2, [.ref qt, .ref qv, .int (nI n)])), (qt, .inl (cJ, 3000, .inr (.inl f))), (qv, .inl (cJ, 3000, .inr (.inl g)))]) 0 0 := by
  refine ct_ofW (cc := mb_P_valueAt) (maxL := 2) (ret := some .long) (by decide) rfl (Nat.le_of_ble_eq_true rfl) ?_
  intro p e s m below meth c hx hb hr hml hts hown hlocks hin hsz hK hP hD hA hS hZ ls hl
  have hw : ∀ w ∈ TB, w.before _ s = true := fun w h => hts w (List.mem_cons_of_mem _ h)
  have hown : s.vm.findClass cn_P = some m.cls := hown
  have hin : meth.name = "valueAt" := hin
  generalize hAe : va_A [(q, .inr (2, [.ref qt, .ref qv, .int (nI n)])), (qt, .inl (cJ, 3000, .inr (.inl f))), (qv, .inl (cJ, 3000, .inr (.inl g)))] sz = A at hD hA hS hZ ⊢
  clear hAe
  have hl : lv_has ls 2 [(0, .ref q), (1, .int (nI k))] := hl
  have hP : va_P D classes [(q, .inr (2, [.ref qt, .ref qv, .int (nI n)])), (qt, .inl (cJ, 3000, .inr (.inl f))), (qv, .inl (cJ, 3000, .inr (.inl g)))] s.heap := hP
  refine lv_iload_n hx hb dd_P_valueAt_0 rfl (lv_at hl 1 rfl) ?_
  refine lv_if_lt (tgt := 12) hx hb dd_P_valueAt_1 (by decide) (fun c_1 => ?_) (fun c_1 => ?_)
  · skip
    have c_1 : k < 0 := (ct_zlt (by omega)).mp c_1
    exfalso
    omega
  have c_1 : ¬ (k < 0) := fun z => c_1 ((ct_zlt (by omega)).mpr z)
  refine lv_iload_n hx hb dd_P_valueAt_4 rfl (lv_at hl 1 rfl) ?_
  refine lv_aload_n hx hb dd_P_valueAt_5 rfl (lv_at hl 0 rfl) ?_
  refine va_get (D := D) (ci := 2) (C := cn_P) (T := cf_P) (N := 3) hx hb hw in_P hown hK hP 0 rfl rfl 2 (by decide) (hw _ wi_54) (fun _ h9 => h9) rfl dd_P_valueAt_6 ?_
  refine lv_icmp_lt (tgt := 22) hx hb dd_P_valueAt_9 (by decide) (fun c_9 => ?_) (fun c_9 => ?_)
  · skip
    have c_9 : k < n := (nI_ltI (by omega) (by omega)).mp c_9
    refine lv_aload_n hx hb dd_P_valueAt_22 rfl (lv_at hl 0 rfl) ?_
    refine va_get (D := D) (ci := 2) (C := cn_P) (T := cf_P) (N := 3) hx hb hw in_P hown hK hP 0 rfl rfl 1 (by decide) (hw _ wi_53) (fun _ h9 => h9) rfl dd_P_valueAt_23 ?_
    refine lv_iload_n hx hb dd_P_valueAt_26 rfl (lv_at hl 1 rfl) ?_
    refine va_lald hx hb hK hP 2 0 rfl rfl (vp_in_nI (by omega) (by omega)) dd_P_valueAt_27 ?_
    refine ct_topl (y := g k) (by rw [nI_clamp (by omega)]) ?_
    refine ct_lret (u := ()) hx hb hr hlocks hK hP hD hS rfl ?_ dd_P_valueAt_28
    rfl
  have c_9 : ¬ (k < n) := fun z => c_9 ((nI_ltI (by omega) (by omega)).mpr z)
  exfalso
  omega

set_option maxHeartbeats 4000000 in
set_option maxRecDepth 100000 in
theorem cx_P_valueAt (l : Launch) (hlt : l.stackTraces = false) (D : va_G) (cJ cB : ClassId) (q qt qv : Nat) (n : Nat) (f g : Nat → Int64) (k : Int32) (sz : Nat) (h1 : n ≤ 3000) : cx_l l my_P_valueAt (Cond.code my_P_valueAt mb_P_valueAt 2 (some .long) :: TB) ({ frames := 6, cells := 1, slots := 6, locals := 90 } : Room) D classes cJ cB [.ref q, .int k] [(q, .inr (2, [.ref qt, .ref qv, .int (nI n)])), (qt, .inl (cJ, 3000, .inr (.inl f))), (qv, .inl (cJ, 3000, .inr (.inl g)))] sz (fun (r : Int64) (u : Unit) => ∃ j : Nat, j < n ∧ k = nI j ∧ r = g j) (fun u => [(q, .inr (2, [.ref qt, .ref qv, .int (nI n)])), (qt, .inl (cJ, 3000, .inr (.inl f))), (qv, .inl (cJ, 3000, .inr (.inl g)))]) (fun E => E = ex_I ∧ ¬ cp_ix k n) 1 6 := by
  refine cx_ofW (cc := mb_P_valueAt) (maxL := 2) (ret := some .long) (by decide) rfl (Nat.le_of_ble_eq_true rfl) ?_
  intro p e s m below meth c hx hb hr hml hts hown hlocks hin hsz hK hP hD hA hS hZ hex ls hl
  have hw : ∀ w ∈ TB, w.before _ s = true := fun w h => hts w (List.mem_cons_of_mem _ h)
  have hown : s.vm.findClass cn_P = some m.cls := hown
  have hin : meth.name = "valueAt" := hin
  generalize hAe : va_A [(q, .inr (2, [.ref qt, .ref qv, .int (nI n)])), (qt, .inl (cJ, 3000, .inr (.inl f))), (qv, .inl (cJ, 3000, .inr (.inl g)))] sz = A at hD hA hS hZ ⊢
  clear hAe
  have hl : lv_has ls 2 [(0, .ref q), (1, .int k)] := hl
  have hP : va_P D classes [(q, .inr (2, [.ref qt, .ref qv, .int (nI n)])), (qt, .inl (cJ, 3000, .inr (.inl f))), (qv, .inl (cJ, 3000, .inr (.inl g)))] s.heap := hP
  refine lv_iload_n hx hb dd_P_valueAt_0 rfl (lv_at hl 1 rfl) ?_
  refine lv_if_lt (tgt := 12) hx hb dd_P_valueAt_1 (by decide) (fun c_1 => ?_) (fun c_1 => ?_)
  · skip
    refine cx_throw (own := cn_P) (cls := ex_I) (text := "no such point") (ik := 24) (is := 26) (ic := 28) hx hb hlt hw hZ hown (by decide +kernel) wi_271 wi_33 (by decide +kernel) ht_P_28_1 ht_P_28_2 ht_P_24_28_3 hK hP hD hS (hl.1.trans hml.symm) hex dd_P_valueAt_12 dd_P_valueAt_15 dd_P_valueAt_16 dd_P_valueAt_18 dd_P_valueAt_21 (Nat.le_of_ble_eq_true rfl) (Nat.le_of_ble_eq_true rfl) (Nat.le_of_ble_eq_true rfl) (Nat.le_of_ble_eq_true rfl) hlocks ?_ (Nat.le_of_ble_eq_true rfl) (Nat.le_of_ble_eq_true rfl)
    exact ⟨rfl, cp_ix_n (by omega) (Or.inl c_1)⟩
  refine lv_iload_n hx hb dd_P_valueAt_4 rfl (lv_at hl 1 rfl) ?_
  refine lv_aload_n hx hb dd_P_valueAt_5 rfl (lv_at hl 0 rfl) ?_
  refine va_get (D := D) (ci := 2) (C := cn_P) (T := cf_P) (N := 3) hx hb hw in_P hown hK hP 0 rfl rfl 2 (by decide) (hw _ wi_54) (fun _ h9 => h9) rfl dd_P_valueAt_6 ?_
  refine lv_icmp_lt (tgt := 22) hx hb dd_P_valueAt_9 (by decide) (fun c_9 => ?_) (fun c_9 => ?_)
  · skip
    obtain ⟨j, hj, hkj⟩ := cp_ix_of (by omega) c_1 c_9
    subst hkj
    refine lv_aload_n hx hb dd_P_valueAt_22 rfl (lv_at hl 0 rfl) ?_
    refine va_get (D := D) (ci := 2) (C := cn_P) (T := cf_P) (N := 3) hx hb hw in_P hown hK hP 0 rfl rfl 1 (by decide) (hw _ wi_53) (fun _ h9 => h9) rfl dd_P_valueAt_23 ?_
    refine lv_iload_n hx hb dd_P_valueAt_26 rfl (lv_at hl 1 rfl) ?_
    refine va_lald hx hb hK hP 2 0 rfl rfl (vp_in_nI (by omega) (by omega)) dd_P_valueAt_27 ?_
    refine ct_topl (y := g j) (by rw [nI_clamp (by omega)]) ?_
    refine vx_ret ?_
    refine W.widen (k := 1) (n := 6) (Nat.le_of_ble_eq_true rfl) (Nat.le_of_ble_eq_true rfl) ?_
    refine ct_lret (u := ()) hx hb hr hlocks hK hP hD hS rfl ?_ dd_P_valueAt_28
    exact ⟨j, hj, rfl, rfl⟩
  refine cx_throw (own := cn_P) (cls := ex_I) (text := "no such point") (ik := 24) (is := 26) (ic := 28) hx hb hlt hw hZ hown (by decide +kernel) wi_271 wi_33 (by decide +kernel) ht_P_28_1 ht_P_28_2 ht_P_24_28_3 hK hP hD hS (hl.1.trans hml.symm) hex dd_P_valueAt_12 dd_P_valueAt_15 dd_P_valueAt_16 dd_P_valueAt_18 dd_P_valueAt_21 (Nat.le_of_ble_eq_true rfl) (Nat.le_of_ble_eq_true rfl) (Nat.le_of_ble_eq_true rfl) (Nat.le_of_ble_eq_true rfl) hlocks ?_ (Nat.le_of_ble_eq_true rfl) (Nat.le_of_ble_eq_true rfl)
  exact ⟨rfl, cp_ix_n (by omega) (Or.inr c_9)⟩

set_option maxHeartbeats 4000000 in
set_option maxRecDepth 100000 in
theorem cc_P_append (l : Launch) (D : va_G) (cJ cB : ClassId) (q qt qv : Nat) (n : Nat) (f g : Nat → Int64) (t v : Int64) (sz : Nat) (h1 : n ≤ 3000) : ct_i l my_P_append (Cond.code my_P_append mb_P_append 5 (some .boolean) :: TB) ({ frames := 0, cells := 0, slots := 0, locals := 0 } : Room) D classes cJ cB [.ref q, .long t, .long v] [(q, .inr (2, [.ref qt, .ref qv, .int (nI n)])), (qt, .inl (cJ, 3000, .inr (.inl f))), (qv, .inl (cJ, 3000, .inr (.inl g)))] sz (fun (r : Int32) (u : Nat × (Nat → Int64) × (Nat → Int64)) => r = bI (n < 3000) ∧ u = if n < 3000 then (n + 1, vp_updL f n t, vp_updL g n v) else (n, f, g)) (fun u => [(q, .inr (2, [.ref qt, .ref qv, .int (nI u.1)])), (qt, .inl (cJ, 3000, .inr (.inl u.2.1))), (qv, .inl (cJ, 3000, .inr (.inl u.2.2)))]) 0 0 := by
  refine ct_ofW (cc := mb_P_append) (maxL := 5) (ret := some .boolean) (by decide) rfl (Nat.le_of_ble_eq_true rfl) ?_
  intro p e s m below meth c hx hb hr hml hts hown hlocks hin hsz hK hP hD hA hS hZ ls hl
  have hw : ∀ w ∈ TB, w.before _ s = true := fun w h => hts w (List.mem_cons_of_mem _ h)
  have hown : s.vm.findClass cn_P = some m.cls := hown
  have hin : meth.name = "append" := hin
  generalize hAe : va_A [(q, .inr (2, [.ref qt, .ref qv, .int (nI n)])), (qt, .inl (cJ, 3000, .inr (.inl f))), (qv, .inl (cJ, 3000, .inr (.inl g)))] sz = A at hD hA hS hZ ⊢
  clear hAe
  have hl : lv_has ls 5 [(0, .ref q), (1, .long t), (3, .long v)] := hl
  have hP : va_P D classes [(q, .inr (2, [.ref qt, .ref qv, .int (nI n)])), (qt, .inl (cJ, 3000, .inr (.inl f))), (qv, .inl (cJ, 3000, .inr (.inl g)))] s.heap := hP
  refine lv_aload_n hx hb dd_P_append_0 rfl (lv_at hl 0 rfl) ?_
  refine va_get (D := D) (ci := 2) (C := cn_P) (T := cf_P) (N := 3) hx hb hw in_P hown hK hP 0 rfl rfl 2 (by decide) (hw _ wi_54) (fun _ h9 => h9) rfl dd_P_append_1 ?_
  refine lv_sipush (v := nI 3000) hx hb dd_P_append_4 (by decide) ?_
  refine lv_icmp_lt (tgt := 12) hx hb dd_P_append_7 (by decide) (fun c_7 => ?_) (fun c_7 => ?_)
  · skip
    have c_7 : n < 3000 := (nI_ltI (by omega) (by omega)).mp c_7
    refine lv_aload_n hx hb dd_P_append_12 rfl (lv_at hl 0 rfl) ?_
    refine va_get (D := D) (ci := 2) (C := cn_P) (T := cf_P) (N := 3) hx hb hw in_P hown hK hP 0 rfl rfl 0 (by decide) (hw _ wi_52) (fun _ h9 => h9) rfl dd_P_append_13 ?_
    refine lv_aload_n hx hb dd_P_append_16 rfl (lv_at hl 0 rfl) ?_
    refine va_get (D := D) (ci := 2) (C := cn_P) (T := cf_P) (N := 3) hx hb hw in_P hown hK hP 0 rfl rfl 2 (by decide) (hw _ wi_54) (fun _ h9 => h9) rfl dd_P_append_17 ?_
    refine lv_lload_n hx hb dd_P_append_20 rfl (lv_at hl 1 rfl) ?_
    refine va_last hx hb hK hP hD hS 1 0 rfl rfl (vp_in_nI (by omega) (by omega)) dd_P_append_21 (fun H locs hP hD hS => ?_)
    rw [show (nI n).toNatClampNeg = n from nI_clamp (by omega)] at hP hD
    have hP : va_P D classes [(q, .inr (2, [.ref qt, .ref qv, .int (nI n)])), (qt, .inl (cJ, 3000, .inr (.inl (vp_updL f n t)))), (qv, .inl (cJ, 3000, .inr (.inl g)))] H := hP
    have hD : va_D A [(q, .inr (2, [.ref qt, .ref qv, .int (nI n)])), (qt, .inl (cJ, 3000, .inr (.inl (vp_updL f n t)))), (qv, .inl (cJ, 3000, .inr (.inl g)))] := hD
    refine lv_aload_n hx hb dd_P_append_22 rfl (lv_at hl 0 rfl) ?_
    refine va_get (D := D) (ci := 2) (C := cn_P) (T := cf_P) (N := 3) hx hb hw in_P hown hK hP 0 rfl rfl 1 (by decide) (hw _ wi_53) (fun _ h9 => h9) rfl dd_P_append_23 ?_
    refine lv_aload_n hx hb dd_P_append_26 rfl (lv_at hl 0 rfl) ?_
    refine va_get (D := D) (ci := 2) (C := cn_P) (T := cf_P) (N := 3) hx hb hw in_P hown hK hP 0 rfl rfl 2 (by decide) (hw _ wi_54) (fun _ h9 => h9) rfl dd_P_append_27 ?_
    refine lv_lload_n hx hb dd_P_append_30 rfl (lv_at hl 2 rfl) ?_
    refine va_last hx hb hK hP hD hS 2 0 rfl rfl (vp_in_nI (by omega) (by omega)) dd_P_append_31 (fun H locs hP hD hS => ?_)
    rw [show (nI n).toNatClampNeg = n from nI_clamp (by omega)] at hP hD
    have hP : va_P D classes [(q, .inr (2, [.ref qt, .ref qv, .int (nI n)])), (qt, .inl (cJ, 3000, .inr (.inl (vp_updL f n t)))), (qv, .inl (cJ, 3000, .inr (.inl (vp_updL g n v))))] H := hP
    have hD : va_D A [(q, .inr (2, [.ref qt, .ref qv, .int (nI n)])), (qt, .inl (cJ, 3000, .inr (.inl (vp_updL f n t)))), (qv, .inl (cJ, 3000, .inr (.inl (vp_updL g n v))))] := hD
    refine lv_aload_n hx hb dd_P_append_32 rfl (lv_at hl 0 rfl) ?_
    refine lv_dup hx hb dd_P_append_33 rfl ?_
    refine va_get (D := D) (ci := 2) (C := cn_P) (T := cf_P) (N := 3) hx hb hw in_P hown hK hP 0 rfl rfl 2 (by decide) (hw _ wi_54) (fun _ h9 => h9) rfl dd_P_append_34 ?_
    refine lv_iconst (v := nI 1) hx hb dd_P_append_37 (by decide) ?_
    refine lv_iadd hx hb dd_P_append_38 ?_
    refine ct_topi (y := nI (n + 1)) (nI_add _ _) ?_
    refine va_put (D := D) (ci := 2) (v := .int (nI (n + 1))) (ty := .int) (C := cn_P) (T := cf_P) (N := 3) hx hb hw in_P ty_P to_P nn_P hown hK hP hD hS 0 rfl rfl 2 (by decide) (hw _ wi_54) (fun _ h9 => h9) rfl (by decide +kernel) (rfl) (rfl) (Nat.le_of_ble_eq_true rfl) dd_P_append_39 (fun H locs hP hD hS => ?_)
    have hP : va_P D classes [(q, .inr (2, [.ref qt, .ref qv, .int (nI (n + 1))])), (qt, .inl (cJ, 3000, .inr (.inl (vp_updL f n t)))), (qv, .inl (cJ, 3000, .inr (.inl (vp_updL g n v))))] H := hP
    have hD : va_D A [(q, .inr (2, [.ref qt, .ref qv, .int (nI (n + 1))])), (qt, .inl (cJ, 3000, .inr (.inl (vp_updL f n t)))), (qv, .inl (cJ, 3000, .inr (.inl (vp_updL g n v))))] := hD
    refine lv_iconst (v := nI 1) hx hb dd_P_append_42 (by decide) ?_
    refine ct_zret (u := (n + 1, vp_updL f n t, vp_updL g n v)) hx hb hr hlocks (by decide) hK hP hD hS rfl ?_ dd_P_append_43
    exact ⟨bI_t c_7, (if_pos c_7).symm⟩
  have c_7 : ¬ (n < 3000) := fun z => c_7 ((nI_ltI (by omega) (by omega)).mpr z)
  refine lv_iconst (v := nI 0) hx hb dd_P_append_10 (by decide) ?_
  refine ct_zret (u := (n, f, g)) hx hb hr hlocks (by decide) hK hP hD hS rfl ?_ dd_P_append_11
  exact ⟨bI_f c_7, (if_neg c_7).symm⟩

set_option maxHeartbeats 4000000 in
set_option maxRecDepth 100000 in
theorem cc_P_shorten (l : Launch) (D : va_G) (cJ cB : ClassId) (q qt qv : Nat) (n : Nat) (f g : Nat → Int64) (k : Nat) (sz : Nat) : ct_v l my_P_shorten (Cond.code my_P_shorten mb_P_shorten 2 none :: TB) ({ frames := 0, cells := 0, slots := 0, locals := 0 } : Room) D classes cJ cB [.ref q, .int (nI k)] [(q, .inr (2, [.ref qt, .ref qv, .int (nI n)])), (qt, .inl (cJ, 3000, .inr (.inl f))), (qv, .inl (cJ, 3000, .inr (.inl g)))] sz (fun (u : Unit) => True) (fun u => [(q, .inr (2, [.ref qt, .ref qv, .int (nI k)])), (qt, .inl (cJ, 3000, .inr (.inl f))), (qv, .inl (cJ, 3000, .inr (.inl g)))]) 0 0 := by
  refine ct_ofW (cc := mb_P_shorten) (maxL := 2) (ret := none) (by decide) rfl (Nat.le_of_ble_eq_true rfl) ?_
  intro p e s m below meth c hx hb hr hml hts hown hlocks hin hsz hK hP hD hA hS hZ ls hl
  have hw : ∀ w ∈ TB, w.before _ s = true := fun w h => hts w (List.mem_cons_of_mem _ h)
  have hown : s.vm.findClass cn_P = some m.cls := hown
  have hin : meth.name = "shorten" := hin
  generalize hAe : va_A [(q, .inr (2, [.ref qt, .ref qv, .int (nI n)])), (qt, .inl (cJ, 3000, .inr (.inl f))), (qv, .inl (cJ, 3000, .inr (.inl g)))] sz = A at hD hA hS hZ ⊢
  clear hAe
  have hl : lv_has ls 2 [(0, .ref q), (1, .int (nI k))] := hl
  have hP : va_P D classes [(q, .inr (2, [.ref qt, .ref qv, .int (nI n)])), (qt, .inl (cJ, 3000, .inr (.inl f))), (qv, .inl (cJ, 3000, .inr (.inl g)))] s.heap := hP
  refine lv_aload_n hx hb dd_P_shorten_0 rfl (lv_at hl 0 rfl) ?_
  refine lv_iload_n hx hb dd_P_shorten_1 rfl (lv_at hl 1 rfl) ?_
  refine va_put (D := D) (ci := 2) (v := .int (nI k)) (ty := .int) (C := cn_P) (T := cf_P) (N := 3) hx hb hw in_P ty_P to_P nn_P hown hK hP hD hS 0 rfl rfl 2 (by decide) (hw _ wi_54) (fun _ h9 => h9) rfl (by decide +kernel) (rfl) (rfl) (Nat.le_of_ble_eq_true rfl) dd_P_shorten_2 (fun H locs hP hD hS => ?_)
  have hP : va_P D classes [(q, .inr (2, [.ref qt, .ref qv, .int (nI k)])), (qt, .inl (cJ, 3000, .inr (.inl f))), (qv, .inl (cJ, 3000, .inr (.inl g)))] H := hP
  have hD : va_D A [(q, .inr (2, [.ref qt, .ref qv, .int (nI k)])), (qt, .inl (cJ, 3000, .inr (.inl f))), (qv, .inl (cJ, 3000, .inr (.inl g)))] := hD
  refine ct_vret (u := ()) hx hb hr hlocks hK hP hD hS rfl ?_ dd_P_shorten_5
  trivial
end
section
set_option maxHeartbeats 4000000 in
set_option maxRecDepth 100000 in
theorem cc_B_init (l : Launch) (D : va_G) (cJ cB : ClassId) (q : Nat) (sz : Nat) : ct_v l my_B_init (Cond.code my_B_init mb_B_init 1 none :: TB) ({ frames := 1, cells := 1, slots := 6250, locals := 12 } : Room) D classes cJ cB [.ref q] [(q, .inr (0, [.null, .int 0]))] sz (fun (u : Nat) => True) (fun u => [(q, .inr (0, [.ref u, .int (nI 0)])), (u, .inl (cJ, 6250, .inr (.inl (fun _ => 0))))]) 1 6250 := by
  refine ct_ofW (cc := mb_B_init) (maxL := 1) (ret := none) (by decide) rfl (Nat.le_of_ble_eq_true rfl) ?_
  intro p e s m below meth c hx hb hr hml hts hown hlocks hin hsz hK hP hD hA hS hZ ls hl
  have hw : ∀ w ∈ TB, w.before _ s = true := fun w h => hts w (List.mem_cons_of_mem _ h)
  have hown : s.vm.findClass cn_B = some m.cls := hown
  have hin : meth.name = "<init>" := hin
  generalize hAe : va_A [(q, .inr (0, [.null, .int 0]))] sz = A at hD hA hS hZ ⊢
  clear hAe
  have hl : lv_has ls 1 [(0, .ref q)] := hl
  have hP : va_P D classes [(q, .inr (0, [.null, .int 0]))] s.heap := hP
  refine lv_aload_n hx hb dd_B_init_0 rfl (lv_at hl 0 rfl) ?_
  refine W.objInit hx hb hown (hw _ wi_68) (hw _ wi_44) (hw _ wi_obj) rfl (by rw [hml]; exact hl.1) rfl dd_B_init_1 (Nat.le_of_ble_eq_true rfl) (Nat.le_of_ble_eq_true rfl) ?_
  refine W.eq (g2 := F0 m 4 ls []) rfl ?_
  refine lv_aload_n hx hb dd_B_init_4 rfl (lv_at hl 0 rfl) ?_
  refine lv_sipush (v := nI 6250) hx hb dd_B_init_5 (by decide) ?_
  refine ct_newa (atype := .long) (ty := .long) (N' := 6250) (a0 := (6250, .inr (.inl (fun _ => 0)))) hx hb (hw _ wi_62) rfl hK hP hD hS hA (ct_J hK) (fun cA => vp_cell_l cA _ _) (nI_pos (by decide)) (nI_clamp (by decide)) (by decide) (Nat.le_of_ble_eq_true rfl) (Nat.le_of_ble_eq_true rfl) dd_B_init_8 (fun qw H hP hD hS => ?_)
  have hP : va_P D classes [(q, .inr (0, [.null, .int 0])), (qw, .inl (cJ, 6250, .inr (.inl (fun _ => 0))))] H := hP
  have hD : va_D A [(q, .inr (0, [.null, .int 0])), (qw, .inl (cJ, 6250, .inr (.inl (fun _ => 0))))] := hD
  refine va_putF (D := D) (ci := 0) (v := .ref qw) (ty := .array .long) (C := cn_B) (T := cf_B) (N := 2) hx hb hw in_B ty_B to_B nn_B hown hK hP hD hS 0 rfl rfl 0 (by decide) (hw _ wi_69) (fun _ h9 => h9) rfl hin rfl (by decide +kernel) (rfl) (rfl) (Nat.le_of_ble_eq_true rfl) dd_B_init_10 (fun H locs hP hD hS => ?_)
  have hP : va_P D classes [(q, .inr (0, [.ref qw, .int 0])), (qw, .inl (cJ, 6250, .inr (.inl (fun _ => 0))))] H := hP
  have hD : va_D A [(q, .inr (0, [.ref qw, .int 0])), (qw, .inl (cJ, 6250, .inr (.inl (fun _ => 0))))] := hD
  refine lv_aload_n hx hb dd_B_init_13 rfl (lv_at hl 0 rfl) ?_
  refine lv_iconst (v := nI 0) hx hb dd_B_init_14 (by decide) ?_
  refine va_put (D := D) (ci := 0) (v := .int (nI 0)) (ty := .int) (C := cn_B) (T := cf_B) (N := 2) hx hb hw in_B ty_B to_B nn_B hown hK hP hD hS 0 rfl rfl 1 (by decide) (hw _ wi_70) (fun _ h9 => h9) rfl (by decide +kernel) (rfl) (rfl) (Nat.le_of_ble_eq_true rfl) dd_B_init_15 (fun H locs hP hD hS => ?_)
  have hP : va_P D classes [(q, .inr (0, [.ref qw, .int (nI 0)])), (qw, .inl (cJ, 6250, .inr (.inl (fun _ => 0))))] H := hP
  have hD : va_D A [(q, .inr (0, [.ref qw, .int (nI 0)])), (qw, .inl (cJ, 6250, .inr (.inl (fun _ => 0))))] := hD
  refine ct_vret (u := qw) hx hb hr hlocks hK hP hD hS rfl ?_ dd_B_init_18
  trivial

set_option maxHeartbeats 4000000 in
set_option maxRecDepth 100000 in
theorem cc_B_size (l : Launch) (D : va_G) (cJ cB : ClassId) (q qw n : Nat) (w : Nat → Int64) (sz : Nat) : ct_i l my_B_size (Cond.code my_B_size mb_B_size 1 (some .int) :: TB) ({ frames := 0, cells := 0, slots := 0, locals := 0 } : Room) D classes cJ cB [.ref q] [(q, .inr (0, [.ref qw, .int (nI n)])), (qw, .inl (cJ, 6250, .inr (.inl w)))] sz (fun (r : Int32) (u : Unit) => r = nI n) (fun u => [(q, .inr (0, [.ref qw, .int (nI n)])), (qw, .inl (cJ, 6250, .inr (.inl w)))]) 0 0 := by
  refine ct_ofW (cc := mb_B_size) (maxL := 1) (ret := some .int) (by decide) rfl (Nat.le_of_ble_eq_true rfl) ?_
  intro p e s m below meth c hx hb hr hml hts hown hlocks hin hsz hK hP hD hA hS hZ ls hl
  have hw : ∀ w ∈ TB, w.before _ s = true := fun w h => hts w (List.mem_cons_of_mem _ h)
  have hown : s.vm.findClass cn_B = some m.cls := hown
  have hin : meth.name = "size" := hin
  generalize hAe : va_A [(q, .inr (0, [.ref qw, .int (nI n)])), (qw, .inl (cJ, 6250, .inr (.inl w)))] sz = A at hD hA hS hZ ⊢
  clear hAe
  have hl : lv_has ls 1 [(0, .ref q)] := hl
  have hP : va_P D classes [(q, .inr (0, [.ref qw, .int (nI n)])), (qw, .inl (cJ, 6250, .inr (.inl w)))] s.heap := hP
  refine lv_aload_n hx hb dd_B_size_0 rfl (lv_at hl 0 rfl) ?_
  refine va_get (D := D) (ci := 0) (C := cn_B) (T := cf_B) (N := 2) hx hb hw in_B hown hK hP 0 rfl rfl 1 (by decide) (hw _ wi_70) (fun _ h9 => h9) rfl dd_B_size_1 ?_
  refine ct_iret (u := ()) hx hb hr hlocks hK hP hD hS rfl ?_ dd_B_size_4
  rfl

set_option maxHeartbeats 4000000 in
set_option maxRecDepth 100000 in
theorem cc_B_has (l : Launch) (D : va_G) (cJ cB : ClassId) (q qw n : Nat) (w : Nat → Int64) (p0 k : Nat) (sz : Nat) (h1 : n ≤ 400000) (h2 : p0 ≤ 400000) (h3 : k ≤ 64) : ct_i l my_B_has (Cond.code my_B_has mb_B_has 3 (some .boolean) :: TB) ({ frames := 0, cells := 0, slots := 0, locals := 0 } : Room) D classes cJ cB [.ref q, .int (nI p0), .int (nI k)] [(q, .inr (0, [.ref qw, .int (nI n)])), (qw, .inl (cJ, 6250, .inr (.inl w)))] sz (fun (r : Int32) (u : Unit) => r = bI (p0 + k ≤ n)) (fun u => [(q, .inr (0, [.ref qw, .int (nI n)])), (qw, .inl (cJ, 6250, .inr (.inl w)))]) 0 0 := by
  refine ct_ofW (cc := mb_B_has) (maxL := 3) (ret := some .boolean) (by decide) rfl (Nat.le_of_ble_eq_true rfl) ?_
  intro p e s m below meth c hx hb hr hml hts hown hlocks hin hsz hK hP hD hA hS hZ ls hl
  have hw : ∀ w ∈ TB, w.before _ s = true := fun w h => hts w (List.mem_cons_of_mem _ h)
  have hown : s.vm.findClass cn_B = some m.cls := hown
  have hin : meth.name = "has" := hin
  generalize hAe : va_A [(q, .inr (0, [.ref qw, .int (nI n)])), (qw, .inl (cJ, 6250, .inr (.inl w)))] sz = A at hD hA hS hZ ⊢
  clear hAe
  have hl : lv_has ls 3 [(0, .ref q), (1, .int (nI p0)), (2, .int (nI k))] := hl
  have hP : va_P D classes [(q, .inr (0, [.ref qw, .int (nI n)])), (qw, .inl (cJ, 6250, .inr (.inl w)))] s.heap := hP
  refine lv_iload_n hx hb dd_B_has_0 rfl (lv_at hl 1 rfl) ?_
  refine lv_if_lt (tgt := 26) hx hb dd_B_has_1 (by decide) (fun c_1 => ?_) (fun c_1 => ?_)
  · skip
    have c_1 : p0 < 0 := (ct_zlt (by omega)).mp c_1
    refine lv_iconst (v := nI 0) hx hb dd_B_has_26 (by decide) ?_
    refine ct_zret (u := ()) hx hb hr hlocks (by decide) hK hP hD hS rfl ?_ dd_B_has_27
    exact bI_f (by omega)
  have c_1 : ¬ (p0 < 0) := fun z => c_1 ((ct_zlt (by omega)).mpr z)
  refine lv_iload_n hx hb dd_B_has_4 rfl (lv_at hl 1 rfl) ?_
  refine lv_aload_n hx hb dd_B_has_5 rfl (lv_at hl 0 rfl) ?_
  refine va_get (D := D) (ci := 0) (C := cn_B) (T := cf_B) (N := 2) hx hb hw in_B hown hK hP 0 rfl rfl 1 (by decide) (hw _ wi_70) (fun _ h9 => h9) rfl dd_B_has_6 ?_
  refine lv_icmp_gt (tgt := 26) hx hb dd_B_has_9 (by decide) (fun c_9 => ?_) (fun c_9 => ?_)
  · skip
    have c_9 : n < p0 := (nI_ltI (by omega) (by omega)).mp c_9
    refine lv_iconst (v := nI 0) hx hb dd_B_has_26 (by decide) ?_
    refine ct_zret (u := ()) hx hb hr hlocks (by decide) hK hP hD hS rfl ?_ dd_B_has_27
    exact bI_f (by omega)
  have c_9 : ¬ (n < p0) := fun z => c_9 ((nI_ltI (by omega) (by omega)).mpr z)
  refine lv_iload_n hx hb dd_B_has_12 rfl (lv_at hl 2 rfl) ?_
  refine lv_aload_n hx hb dd_B_has_13 rfl (lv_at hl 0 rfl) ?_
  refine va_get (D := D) (ci := 0) (C := cn_B) (T := cf_B) (N := 2) hx hb hw in_B hown hK hP 0 rfl rfl 1 (by decide) (hw _ wi_70) (fun _ h9 => h9) rfl dd_B_has_14 ?_
  refine lv_iload_n hx hb dd_B_has_17 rfl (lv_at hl 1 rfl) ?_
  refine lv_isub hx hb dd_B_has_18 ?_
  refine ct_topi (y := nI (n - p0)) (pk_sub (by omega)) ?_
  refine lv_icmp_gt (tgt := 26) hx hb dd_B_has_19 (by decide) (fun c_19 => ?_) (fun c_19 => ?_)
  · skip
    have c_19 : (n - p0) < k := (nI_ltI (by omega) (by omega)).mp c_19
    refine lv_iconst (v := nI 0) hx hb dd_B_has_26 (by decide) ?_
    refine ct_zret (u := ()) hx hb hr hlocks (by decide) hK hP hD hS rfl ?_ dd_B_has_27
    exact bI_f (by omega)
  have c_19 : ¬ ((n - p0) < k) := fun z => c_19 ((nI_ltI (by omega) (by omega)).mpr z)
  refine lv_iconst (v := nI 1) hx hb dd_B_has_22 (by decide) ?_
  refine lv_goto (tgt := 27) hx hb dd_B_has_23 (by decide) ?_
  refine ct_zret (u := ()) hx hb hr hlocks (by decide) hK hP hD hS rfl ?_ dd_B_has_27
  exact bI_t (by omega)

set_option maxHeartbeats 4000000 in
set_option maxRecDepth 100000 in
theorem cc_B_numberAt (l : Launch) (D : va_G) (cJ cB : ClassId) (q qw : Nat) (w : Nat → Int64) (L : List Bool) (p0 k : Nat) (sz : Nat) (hL : L.length ≤ 400000) (hR : cp_Rw w L) (h1 : 0 < k) (h2 : k ≤ 64) (h3 : p0 + k ≤ L.length) : ct_l l my_B_numberAt (Cond.code my_B_numberAt mb_B_numberAt 7 (some .long) :: TB) ({ frames := 0, cells := 0, slots := 0, locals := 0 } : Room) D classes cJ cB [.ref q, .int (nI p0), .int (nI k)] [(q, .inr (0, [.ref qw, .int (nI L.length)])), (qw, .inl (cJ, 6250, .inr (.inl w)))] sz (fun (r : Int64) (u : Unit) => r = lN (cp_n L p0 k)) (fun u => [(q, .inr (0, [.ref qw, .int (nI L.length)])), (qw, .inl (cJ, 6250, .inr (.inl w)))]) 0 0 := by
  refine ct_ofW (cc := mb_B_numberAt) (maxL := 7) (ret := some .long) (by decide) rfl (Nat.le_of_ble_eq_true rfl) ?_
  intro p e s m below meth c hx hb hr hml hts hown hlocks hin hsz hK hP hD hA hS hZ ls hl
  have hw : ∀ w ∈ TB, w.before _ s = true := fun w h => hts w (List.mem_cons_of_mem _ h)
  have hown : s.vm.findClass cn_B = some m.cls := hown
  have hin : meth.name = "numberAt" := hin
  generalize hAe : va_A [(q, .inr (0, [.ref qw, .int (nI L.length)])), (qw, .inl (cJ, 6250, .inr (.inl w)))] sz = A at hD hA hS hZ ⊢
  clear hAe
  have hl : lv_has ls 7 [(0, .ref q), (1, .int (nI p0)), (2, .int (nI k))] := hl
  have hP : va_P D classes [(q, .inr (0, [.ref qw, .int (nI L.length)])), (qw, .inl (cJ, 6250, .inr (.inl w)))] s.heap := hP
  refine lv_iload_n hx hb dd_B_numberAt_0 rfl (lv_at hl 1 rfl) ?_
  refine lv_bipush (v := nI 64) hx hb dd_B_numberAt_1 (by decide) ?_
  refine lv_idiv hx hb dd_B_numberAt_3 (by decide) ?_
  refine ct_topi (y := nI (p0 / 64)) (pk_div (by omega) (by decide) (by decide)) ?_
  refine lv_istore_n (lv' := [(3, .int (nI (p0 / 64))), (0, .ref q), (1, .int (nI p0)), (2, .int (nI k))]) hx hb dd_B_numberAt_4 rfl hl (by decide) rfl (fun ls hl => ?_)
  refine lv_iload_n hx hb dd_B_numberAt_5 rfl (lv_at hl 2 rfl) ?_
  refine lv_bipush (v := nI 64) hx hb dd_B_numberAt_6 (by decide) ?_
  refine lv_irem hx hb dd_B_numberAt_8 (by decide) ?_
  refine ct_topi (y := nI (p0 % 64)) (pk_rem (by omega) (by decide) (by decide)) ?_
  refine lv_istore (lv' := [(4, .int (nI (p0 % 64))), (3, .int (nI (p0 / 64))), (0, .ref q), (1, .int (nI p0)), (2, .int (nI k))]) hx hb dd_B_numberAt_9 hl (by decide) rfl (fun ls hl => ?_)
  refine lv_aload_n hx hb dd_B_numberAt_11 rfl (lv_at hl 2 rfl) ?_
  refine va_get (D := D) (ci := 0) (C := cn_B) (T := cf_B) (N := 2) hx hb hw in_B hown hK hP 0 rfl rfl 0 (by decide) (hw _ wi_69) (fun _ h9 => h9) rfl dd_B_numberAt_12 ?_
  refine lv_iload_n hx hb dd_B_numberAt_15 rfl (lv_at hl 1 rfl) ?_
  refine va_lald hx hb hK hP 1 0 rfl rfl (vp_in_nI (by omega) (by omega)) dd_B_numberAt_16 ?_
  refine ct_topl (y := w (p0 / 64)) (by rw [nI_clamp (by omega)]) ?_
  refine lv_iload hx hb dd_B_numberAt_17 (lv_at hl 0 rfl) ?_
  refine lv_lshl (v := (w (p0 / 64)) <<< ((nI (p0 % 64)).toInt64 &&& 63)) hx hb dd_B_numberAt_19 rfl ?_
  refine lv_lstore (lv' := [(5, .long ((w (p0 / 64)) <<< ((nI (p0 % 64)).toInt64 &&& 63))), (4, .int (nI (p0 % 64))), (3, .int (nI (p0 / 64))), (0, .ref q), (1, .int (nI p0)), (2, .int (nI k))]) hx hb dd_B_numberAt_20 hl (by decide) rfl (fun ls hl => ?_)
  refine lv_iload hx hb dd_B_numberAt_22 (lv_at hl 1 rfl) ?_
  refine lv_iload_n hx hb dd_B_numberAt_24 rfl (lv_at hl 5 rfl) ?_
  refine lv_iadd hx hb dd_B_numberAt_25 ?_
  refine ct_topi (y := nI (p0 % 64 + k)) (nI_add _ _) ?_
  refine lv_bipush (v := nI 64) hx hb dd_B_numberAt_26 (by decide) ?_
  refine lv_icmp_le (tgt := 50) hx hb dd_B_numberAt_28 (by decide) (fun c_28 => ?_) (fun c_28 => ?_)
  · skip
    have c_28 : (p0 % 64 + k) ≤ 64 := (nI_leI (by omega) (by omega)).mp c_28
    refine lv_lload hx hb dd_B_numberAt_50 (lv_at hl 0 rfl) ?_
    refine lv_bipush (v := nI 64) hx hb dd_B_numberAt_52 (by decide) ?_
    refine lv_iload_n hx hb dd_B_numberAt_54 rfl (lv_at hl 5 rfl) ?_
    refine lv_isub hx hb dd_B_numberAt_55 ?_
    refine ct_topi (y := nI (64 - k)) (pk_sub (by omega)) ?_
    refine lv_lushr (v := (((w (p0 / 64)) <<< ((nI (p0 % 64)).toInt64 &&& 63)).toUInt64 >>> ((nI (64 - k)).toInt64.toUInt64 &&& Int64.toUInt64 63)).toInt64) hx hb dd_B_numberAt_56 rfl ?_
    refine ct_lret (u := ()) hx hb hr hlocks hK hP hD hS rfl ?_ dd_B_numberAt_57
    exact cp_num1 hR h1 h2 h3 (by omega)
  have c_28 : ¬ ((p0 % 64 + k) ≤ 64) := fun z => c_28 ((nI_leI (by omega) (by omega)).mpr z)
  refine lv_lload hx hb dd_B_numberAt_31 (lv_at hl 0 rfl) ?_
  refine lv_aload_n hx hb dd_B_numberAt_33 rfl (lv_at hl 3 rfl) ?_
  refine va_get (D := D) (ci := 0) (C := cn_B) (T := cf_B) (N := 2) hx hb hw in_B hown hK hP 0 rfl rfl 0 (by decide) (hw _ wi_69) (fun _ h9 => h9) rfl dd_B_numberAt_34 ?_
  refine lv_iload_n hx hb dd_B_numberAt_37 rfl (lv_at hl 2 rfl) ?_
  refine lv_iconst (v := nI 1) hx hb dd_B_numberAt_38 (by decide) ?_
  refine lv_iadd hx hb dd_B_numberAt_39 ?_
  refine ct_topi (y := nI (p0 / 64 + 1)) (nI_add _ _) ?_
  refine va_lald hx hb hK hP 1 0 rfl rfl (vp_in_nI (by omega) (by omega)) dd_B_numberAt_40 ?_
  refine ct_topl (y := w (p0 / 64 + 1)) (by rw [nI_clamp (by omega)]) ?_
  refine lv_bipush (v := nI 64) hx hb dd_B_numberAt_41 (by decide) ?_
  refine lv_iload hx hb dd_B_numberAt_43 (lv_at hl 1 rfl) ?_
  refine lv_isub hx hb dd_B_numberAt_45 ?_
  refine ct_topi (y := nI (64 - (p0 % 64))) (pk_sub (by omega)) ?_
  refine lv_lushr (v := ((w (p0 / 64 + 1)).toUInt64 >>> ((nI (64 - (p0 % 64))).toInt64.toUInt64 &&& Int64.toUInt64 63)).toInt64) hx hb dd_B_numberAt_46 rfl ?_
  refine lv_lor hx hb dd_B_numberAt_47 ?_
  refine lv_lstore (lv' := [(5, .long (((w (p0 / 64)) <<< ((nI (p0 % 64)).toInt64 &&& 63)) ||| (((w (p0 / 64 + 1)).toUInt64 >>> ((nI (64 - (p0 % 64))).toInt64.toUInt64 &&& Int64.toUInt64 63)).toInt64))), (4, .int (nI (p0 % 64))), (3, .int (nI (p0 / 64))), (0, .ref q), (1, .int (nI p0)), (2, .int (nI k))]) hx hb dd_B_numberAt_48 hl (by decide) rfl (fun ls hl => ?_)
  refine lv_lload hx hb dd_B_numberAt_50 (lv_at hl 0 rfl) ?_
  refine lv_bipush (v := nI 64) hx hb dd_B_numberAt_52 (by decide) ?_
  refine lv_iload_n hx hb dd_B_numberAt_54 rfl (lv_at hl 5 rfl) ?_
  refine lv_isub hx hb dd_B_numberAt_55 ?_
  refine ct_topi (y := nI (64 - k)) (pk_sub (by omega)) ?_
  refine lv_lushr (v := ((((w (p0 / 64)) <<< ((nI (p0 % 64)).toInt64 &&& 63)) ||| (((w (p0 / 64 + 1)).toUInt64 >>> ((nI (64 - (p0 % 64))).toInt64.toUInt64 &&& Int64.toUInt64 63)).toInt64)).toUInt64 >>> ((nI (64 - k)).toInt64.toUInt64 &&& Int64.toUInt64 63)).toInt64) hx hb dd_B_numberAt_56 rfl ?_
  refine ct_lret (u := ()) hx hb hr hlocks hK hP hD hS rfl ?_ dd_B_numberAt_57
  exact cp_num2 hR h1 h2 h3 (by omega)

set_option maxHeartbeats 4000000 in
set_option maxRecDepth 100000 in
theorem cc_B_append (l : Launch) (D : va_G) (cJ cB : ClassId) (q qw : Nat) (w : Nat → Int64) (L : List Bool) (v : Int64) (k : Nat) (sz : Nat) (hL : L.length ≤ 400000) (hR : cp_Rw w L) (hk : k ≤ 64) (hf : cp_fit v k) : ct_i l my_B_append (Cond.code my_B_append mb_B_append 10 (some .boolean) :: TB) ({ frames := 0, cells := 0, slots := 0, locals := 0 } : Room) D classes cJ cB [.ref q, .long v, .int (nI k)] [(q, .inr (0, [.ref qw, .int (nI L.length)])), (qw, .inl (cJ, 6250, .inr (.inl w)))] sz (fun (r : Int32) (u : Nat × (Nat → Int64)) => r = bI (L.length + k ≤ 400000) ∧ if L.length + k ≤ 400000 then u.1 = L.length + k ∧ cp_Rw u.2 (L ++ cp_bl v k) else u = (L.length, w)) (fun u => [(q, .inr (0, [.ref qw, .int (nI u.1)])), (qw, .inl (cJ, 6250, .inr (.inl u.2)))]) 0 0 := by
  refine ct_ofW (cc := mb_B_append) (maxL := 10) (ret := some .boolean) (by decide) rfl (Nat.le_of_ble_eq_true rfl) ?_
  intro p e s m below meth c hx hb hr hml hts hown hlocks hin hsz hK hP hD hA hS hZ ls hl
  have hw : ∀ w ∈ TB, w.before _ s = true := fun w h => hts w (List.mem_cons_of_mem _ h)
  have hown : s.vm.findClass cn_B = some m.cls := hown
  have hin : meth.name = "append" := hin
  generalize hAe : va_A [(q, .inr (0, [.ref qw, .int (nI L.length)])), (qw, .inl (cJ, 6250, .inr (.inl w)))] sz = A at hD hA hS hZ ⊢
  clear hAe
  have hl : lv_has ls 10 [(0, .ref q), (1, .long v), (3, .int (nI k))] := hl
  have hP : va_P D classes [(q, .inr (0, [.ref qw, .int (nI L.length)])), (qw, .inl (cJ, 6250, .inr (.inl w)))] s.heap := hP
  refine lv_iload_n hx hb dd_B_append_0 rfl (lv_at hl 2 rfl) ?_
  refine lv_ldc (v := 400000) hx hb hown (hw _ wi_299) dd_B_append_1 ?_
  refine ct_topi (y := nI 400000) (by decide) ?_
  refine lv_aload_n hx hb dd_B_append_3 rfl (lv_at hl 0 rfl) ?_
  refine va_get (D := D) (ci := 0) (C := cn_B) (T := cf_B) (N := 2) hx hb hw in_B hown hK hP 0 rfl rfl 1 (by decide) (hw _ wi_70) (fun _ h9 => h9) rfl dd_B_append_4 ?_
  refine lv_isub hx hb dd_B_append_7 ?_
  refine ct_topi (y := nI (400000 - L.length)) (pk_sub (by omega)) ?_
  refine lv_icmp_le (tgt := 13) hx hb dd_B_append_8 (by decide) (fun c_8 => ?_) (fun c_8 => ?_)
  · skip
    have c_8 : k ≤ (400000 - L.length) := (nI_leI (by omega) (by omega)).mp c_8
    refine lv_iload_n hx hb dd_B_append_13 rfl (lv_at hl 2 rfl) ?_
    refine lv_if_ne (tgt := 19) hx hb dd_B_append_14 (by decide) (fun c_14 => ?_) (fun c_14 => ?_)
    · skip
      have c_14 : ¬ (k = 0) := fun z => c_14 ((ct_zeq (by omega)).mpr z)
      refine lv_aload_n hx hb dd_B_append_19 rfl (lv_at hl 0 rfl) ?_
      refine va_get (D := D) (ci := 0) (C := cn_B) (T := cf_B) (N := 2) hx hb hw in_B hown hK hP 0 rfl rfl 1 (by decide) (hw _ wi_70) (fun _ h9 => h9) rfl dd_B_append_20 ?_
      refine lv_bipush (v := nI 64) hx hb dd_B_append_23 (by decide) ?_
      refine lv_idiv hx hb dd_B_append_25 (by decide) ?_
      refine ct_topi (y := nI (L.length / 64)) (pk_div (by omega) (by decide) (by decide)) ?_
      refine lv_istore (lv' := [(4, .int (nI (L.length / 64))), (0, .ref q), (1, .long v), (3, .int (nI k))]) hx hb dd_B_append_26 hl (by decide) rfl (fun ls hl => ?_)
      refine lv_aload_n hx hb dd_B_append_28 rfl (lv_at hl 1 rfl) ?_
      refine va_get (D := D) (ci := 0) (C := cn_B) (T := cf_B) (N := 2) hx hb hw in_B hown hK hP 0 rfl rfl 1 (by decide) (hw _ wi_70) (fun _ h9 => h9) rfl dd_B_append_29 ?_
      refine lv_bipush (v := nI 64) hx hb dd_B_append_32 (by decide) ?_
      refine lv_irem hx hb dd_B_append_34 (by decide) ?_
      refine ct_topi (y := nI (L.length % 64)) (pk_rem (by omega) (by decide) (by decide)) ?_
      refine lv_istore (lv' := [(5, .int (nI (L.length % 64))), (4, .int (nI (L.length / 64))), (0, .ref q), (1, .long v), (3, .int (nI k))]) hx hb dd_B_append_35 hl (by decide) rfl (fun ls hl => ?_)
      refine lv_bipush (v := nI 64) hx hb dd_B_append_37 (by decide) ?_
      refine lv_iload hx hb dd_B_append_39 (lv_at hl 0 rfl) ?_
      refine lv_isub hx hb dd_B_append_41 ?_
      refine ct_topi (y := nI (64 - (L.length % 64))) (pk_sub (by omega)) ?_
      refine lv_istore (lv' := [(6, .int (nI (64 - (L.length % 64)))), (5, .int (nI (L.length % 64))), (4, .int (nI (L.length / 64))), (0, .ref q), (1, .long v), (3, .int (nI k))]) hx hb dd_B_append_42 hl (by decide) rfl (fun ls hl => ?_)
      refine lv_iload hx hb dd_B_append_44 (lv_at hl 1 rfl) ?_
      refine lv_if_ne (tgt := 53) hx hb dd_B_append_46 (by decide) (fun c_46 => ?_) (fun c_46 => ?_)
      · skip
        have c_46 : ¬ ((L.length % 64) = 0) := fun z => c_46 ((ct_zeq (by omega)).mpr z)
        refine lv_aload_n hx hb dd_B_append_53 rfl (lv_at hl 3 rfl) ?_
        refine va_get (D := D) (ci := 0) (C := cn_B) (T := cf_B) (N := 2) hx hb hw in_B hown hK hP 0 rfl rfl 0 (by decide) (hw _ wi_69) (fun _ h9 => h9) rfl dd_B_append_54 ?_
        refine lv_iload hx hb dd_B_append_57 (lv_at hl 2 rfl) ?_
        refine va_lald hx hb hK hP 1 0 rfl rfl (vp_in_nI (by omega) (by omega)) dd_B_append_59 ?_
        refine ct_topl (y := w (L.length / 64)) (by rw [nI_clamp (by omega)]) ?_
        refine lv_iload hx hb dd_B_append_60 (lv_at hl 0 rfl) ?_
        refine lv_lushr (v := ((w (L.length / 64)).toUInt64 >>> ((nI (64 - (L.length % 64))).toInt64.toUInt64 &&& Int64.toUInt64 63)).toInt64) hx hb dd_B_append_62 rfl ?_
        refine lv_iload hx hb dd_B_append_63 (lv_at hl 0 rfl) ?_
        refine lv_lshl (v := (((w (L.length / 64)).toUInt64 >>> ((nI (64 - (L.length % 64))).toInt64.toUInt64 &&& Int64.toUInt64 63)).toInt64) <<< ((nI (64 - (L.length % 64))).toInt64 &&& 63)) hx hb dd_B_append_65 rfl ?_
        refine ct_topl (y := cp_hd w L.length) ((if_neg c_46).symm) ?_
        refine lv_lstore (lv' := [(7, .long (cp_hd w L.length)), (6, .int (nI (64 - (L.length % 64)))), (5, .int (nI (L.length % 64))), (4, .int (nI (L.length / 64))), (0, .ref q), (1, .long v), (3, .int (nI k))]) hx hb dd_B_append_66 hl (by decide) rfl (fun ls hl => ?_)
        refine lv_iload_n hx hb dd_B_append_68 rfl (lv_at hl 6 rfl) ?_
        refine lv_iload hx hb dd_B_append_69 (lv_at hl 1 rfl) ?_
        refine lv_icmp_gt (tgt := 93) hx hb dd_B_append_71 (by decide) (fun c_71 => ?_) (fun c_71 => ?_)
        · skip
          have c_71 : (64 - (L.length % 64)) < k := (nI_ltI (by omega) (by omega)).mp c_71
          refine lv_iload_n hx hb dd_B_append_93 rfl (lv_at hl 6 rfl) ?_
          refine lv_iload hx hb dd_B_append_94 (lv_at hl 1 rfl) ?_
          refine lv_isub hx hb dd_B_append_96 ?_
          refine ct_topi (y := nI (k - (64 - (L.length % 64)))) (pk_sub (by omega)) ?_
          refine lv_istore (lv' := [(9, .int (nI (k - (64 - (L.length % 64))))), (7, .long (cp_hd w L.length)), (6, .int (nI (64 - (L.length % 64)))), (5, .int (nI (L.length % 64))), (4, .int (nI (L.length / 64))), (0, .ref q), (1, .long v), (3, .int (nI k))]) hx hb dd_B_append_97 hl (by decide) rfl (fun ls hl => ?_)
          refine lv_aload_n hx hb dd_B_append_99 rfl (lv_at hl 5 rfl) ?_
          refine va_get (D := D) (ci := 0) (C := cn_B) (T := cf_B) (N := 2) hx hb hw in_B hown hK hP 0 rfl rfl 0 (by decide) (hw _ wi_69) (fun _ h9 => h9) rfl dd_B_append_100 ?_
          refine lv_iload hx hb dd_B_append_103 (lv_at hl 4 rfl) ?_
          refine lv_lload hx hb dd_B_append_105 (lv_at hl 1 rfl) ?_
          refine lv_lload_n hx hb dd_B_append_107 rfl (lv_at hl 6 rfl) ?_
          refine lv_iload hx hb dd_B_append_108 (lv_at hl 0 rfl) ?_
          refine lv_lushr (v := (v.toUInt64 >>> ((nI (k - (64 - (L.length % 64)))).toInt64.toUInt64 &&& Int64.toUInt64 63)).toInt64) hx hb dd_B_append_110 rfl ?_
          refine lv_lor hx hb dd_B_append_111 ?_
          refine va_last hx hb hK hP hD hS 1 0 rfl rfl (vp_in_nI (by omega) (by omega)) dd_B_append_112 (fun H locs hP hD hS => ?_)
          rw [show (nI (L.length / 64)).toNatClampNeg = L.length / 64 from nI_clamp (by omega)] at hP hD
          have hP : va_P D classes [(q, .inr (0, [.ref qw, .int (nI L.length)])), (qw, .inl (cJ, 6250, .inr (.inl (vp_updL w (L.length / 64) ((cp_hd w L.length) ||| ((v.toUInt64 >>> ((nI (k - (64 - (L.length % 64)))).toInt64.toUInt64 &&& Int64.toUInt64 63)).toInt64))))))] H := hP
          have hD : va_D A [(q, .inr (0, [.ref qw, .int (nI L.length)])), (qw, .inl (cJ, 6250, .inr (.inl (vp_updL w (L.length / 64) ((cp_hd w L.length) ||| ((v.toUInt64 >>> ((nI (k - (64 - (L.length % 64)))).toInt64.toUInt64 &&& Int64.toUInt64 63)).toInt64))))))] := hD
          refine lv_aload_n hx hb dd_B_append_113 rfl (lv_at hl 5 rfl) ?_
          refine va_get (D := D) (ci := 0) (C := cn_B) (T := cf_B) (N := 2) hx hb hw in_B hown hK hP 0 rfl rfl 0 (by decide) (hw _ wi_69) (fun _ h9 => h9) rfl dd_B_append_114 ?_
          refine lv_iload hx hb dd_B_append_117 (lv_at hl 4 rfl) ?_
          refine lv_iconst (v := nI 1) hx hb dd_B_append_119 (by decide) ?_
          refine lv_iadd hx hb dd_B_append_120 ?_
          refine ct_topi (y := nI (L.length / 64 + 1)) (nI_add _ _) ?_
          refine lv_lload_n hx hb dd_B_append_121 rfl (lv_at hl 6 rfl) ?_
          refine lv_bipush (v := nI 64) hx hb dd_B_append_122 (by decide) ?_
          refine lv_iload hx hb dd_B_append_124 (lv_at hl 0 rfl) ?_
          refine lv_isub hx hb dd_B_append_126 ?_
          refine ct_topi (y := nI (64 - (k - (64 - (L.length % 64))))) (pk_sub (by omega)) ?_
          refine lv_lshl (v := v <<< ((nI (64 - (k - (64 - (L.length % 64))))).toInt64 &&& 63)) hx hb dd_B_append_127 rfl ?_
          refine va_last hx hb hK hP hD hS 1 0 rfl rfl (vp_in_nI (by omega) (by omega)) dd_B_append_128 (fun H locs hP hD hS => ?_)
          rw [show (nI (L.length / 64 + 1)).toNatClampNeg = L.length / 64 + 1 from nI_clamp (by omega)] at hP hD
          have hP : va_P D classes [(q, .inr (0, [.ref qw, .int (nI L.length)])), (qw, .inl (cJ, 6250, .inr (.inl (vp_updL (vp_updL w (L.length / 64) ((cp_hd w L.length) ||| ((v.toUInt64 >>> ((nI (k - (64 - (L.length % 64)))).toInt64.toUInt64 &&& Int64.toUInt64 63)).toInt64))) (L.length / 64 + 1) (v <<< ((nI (64 - (k - (64 - (L.length % 64))))).toInt64 &&& 63))))))] H := hP
          have hD : va_D A [(q, .inr (0, [.ref qw, .int (nI L.length)])), (qw, .inl (cJ, 6250, .inr (.inl (vp_updL (vp_updL w (L.length / 64) ((cp_hd w L.length) ||| ((v.toUInt64 >>> ((nI (k - (64 - (L.length % 64)))).toInt64.toUInt64 &&& Int64.toUInt64 63)).toInt64))) (L.length / 64 + 1) (v <<< ((nI (64 - (k - (64 - (L.length % 64))))).toInt64 &&& 63))))))] := hD
          refine lv_aload_n hx hb dd_B_append_129 rfl (lv_at hl 5 rfl) ?_
          refine lv_dup hx hb dd_B_append_130 rfl ?_
          refine va_get (D := D) (ci := 0) (C := cn_B) (T := cf_B) (N := 2) hx hb hw in_B hown hK hP 0 rfl rfl 1 (by decide) (hw _ wi_70) (fun _ h9 => h9) rfl dd_B_append_131 ?_
          refine lv_iload_n hx hb dd_B_append_134 rfl (lv_at hl 7 rfl) ?_
          refine lv_iadd hx hb dd_B_append_135 ?_
          refine ct_topi (y := nI (L.length + k)) (nI_add _ _) ?_
          refine va_put (D := D) (ci := 0) (v := .int (nI (L.length + k))) (ty := .int) (C := cn_B) (T := cf_B) (N := 2) hx hb hw in_B ty_B to_B nn_B hown hK hP hD hS 0 rfl rfl 1 (by decide) (hw _ wi_70) (fun _ h9 => h9) rfl (by decide +kernel) (rfl) (rfl) (Nat.le_of_ble_eq_true rfl) dd_B_append_136 (fun H locs hP hD hS => ?_)
          have hP : va_P D classes [(q, .inr (0, [.ref qw, .int (nI (L.length + k))])), (qw, .inl (cJ, 6250, .inr (.inl (vp_updL (vp_updL w (L.length / 64) ((cp_hd w L.length) ||| ((v.toUInt64 >>> ((nI (k - (64 - (L.length % 64)))).toInt64.toUInt64 &&& Int64.toUInt64 63)).toInt64))) (L.length / 64 + 1) (v <<< ((nI (64 - (k - (64 - (L.length % 64))))).toInt64 &&& 63))))))] H := hP
          have hD : va_D A [(q, .inr (0, [.ref qw, .int (nI (L.length + k))])), (qw, .inl (cJ, 6250, .inr (.inl (vp_updL (vp_updL w (L.length / 64) ((cp_hd w L.length) ||| ((v.toUInt64 >>> ((nI (k - (64 - (L.length % 64)))).toInt64.toUInt64 &&& Int64.toUInt64 63)).toInt64))) (L.length / 64 + 1) (v <<< ((nI (64 - (k - (64 - (L.length % 64))))).toInt64 &&& 63))))))] := hD
          refine lv_iconst (v := nI 1) hx hb dd_B_append_139 (by decide) ?_
          refine ct_zret (u := (L.length + k, vp_updL (vp_updL w (L.length / 64) ((cp_hd w L.length) ||| ((v.toUInt64 >>> ((nI (k - (64 - (L.length % 64)))).toInt64.toUInt64 &&& Int64.toUInt64 63)).toInt64))) (L.length / 64 + 1) (v <<< ((nI (64 - (k - (64 - (L.length % 64))))).toInt64 &&& 63)))) hx hb hr hlocks (by decide) hK hP hD hS rfl ?_ dd_B_append_140
          refine ⟨bI_t (by omega), ?_⟩
          rw [if_pos (by omega)]
          exact ⟨rfl, cp_app2 hR (by omega) hf (by omega)⟩
        have c_71 : ¬ ((64 - (L.length % 64)) < k) := fun z => c_71 ((nI_ltI (by omega) (by omega)).mpr z)
        refine lv_aload_n hx hb dd_B_append_74 rfl (lv_at hl 4 rfl) ?_
        refine va_get (D := D) (ci := 0) (C := cn_B) (T := cf_B) (N := 2) hx hb hw in_B hown hK hP 0 rfl rfl 0 (by decide) (hw _ wi_69) (fun _ h9 => h9) rfl dd_B_append_75 ?_
        refine lv_iload hx hb dd_B_append_78 (lv_at hl 3 rfl) ?_
        refine lv_lload hx hb dd_B_append_80 (lv_at hl 0 rfl) ?_
        refine lv_lload_n hx hb dd_B_append_82 rfl (lv_at hl 5 rfl) ?_
        refine lv_iload hx hb dd_B_append_83 (lv_at hl 1 rfl) ?_
        refine lv_iload_n hx hb dd_B_append_85 rfl (lv_at hl 6 rfl) ?_
        refine lv_isub hx hb dd_B_append_86 ?_
        refine ct_topi (y := nI (64 - (L.length % 64) - k)) (pk_sub (by omega)) ?_
        refine lv_lshl (v := v <<< ((nI (64 - (L.length % 64) - k)).toInt64 &&& 63)) hx hb dd_B_append_87 rfl ?_
        refine lv_lor hx hb dd_B_append_88 ?_
        refine va_last hx hb hK hP hD hS 1 0 rfl rfl (vp_in_nI (by omega) (by omega)) dd_B_append_89 (fun H locs hP hD hS => ?_)
        rw [show (nI (L.length / 64)).toNatClampNeg = L.length / 64 from nI_clamp (by omega)] at hP hD
        have hP : va_P D classes [(q, .inr (0, [.ref qw, .int (nI L.length)])), (qw, .inl (cJ, 6250, .inr (.inl (vp_updL w (L.length / 64) ((cp_hd w L.length) ||| (v <<< ((nI (64 - (L.length % 64) - k)).toInt64 &&& 63)))))))] H := hP
        have hD : va_D A [(q, .inr (0, [.ref qw, .int (nI L.length)])), (qw, .inl (cJ, 6250, .inr (.inl (vp_updL w (L.length / 64) ((cp_hd w L.length) ||| (v <<< ((nI (64 - (L.length % 64) - k)).toInt64 &&& 63)))))))] := hD
        refine lv_goto (tgt := 129) hx hb dd_B_append_90 (by decide) ?_
        refine lv_aload_n hx hb dd_B_append_129 rfl (lv_at hl 4 rfl) ?_
        refine lv_dup hx hb dd_B_append_130 rfl ?_
        refine va_get (D := D) (ci := 0) (C := cn_B) (T := cf_B) (N := 2) hx hb hw in_B hown hK hP 0 rfl rfl 1 (by decide) (hw _ wi_70) (fun _ h9 => h9) rfl dd_B_append_131 ?_
        refine lv_iload_n hx hb dd_B_append_134 rfl (lv_at hl 6 rfl) ?_
        refine lv_iadd hx hb dd_B_append_135 ?_
        refine ct_topi (y := nI (L.length + k)) (nI_add _ _) ?_
        refine va_put (D := D) (ci := 0) (v := .int (nI (L.length + k))) (ty := .int) (C := cn_B) (T := cf_B) (N := 2) hx hb hw in_B ty_B to_B nn_B hown hK hP hD hS 0 rfl rfl 1 (by decide) (hw _ wi_70) (fun _ h9 => h9) rfl (by decide +kernel) (rfl) (rfl) (Nat.le_of_ble_eq_true rfl) dd_B_append_136 (fun H locs hP hD hS => ?_)
        have hP : va_P D classes [(q, .inr (0, [.ref qw, .int (nI (L.length + k))])), (qw, .inl (cJ, 6250, .inr (.inl (vp_updL w (L.length / 64) ((cp_hd w L.length) ||| (v <<< ((nI (64 - (L.length % 64) - k)).toInt64 &&& 63)))))))] H := hP
        have hD : va_D A [(q, .inr (0, [.ref qw, .int (nI (L.length + k))])), (qw, .inl (cJ, 6250, .inr (.inl (vp_updL w (L.length / 64) ((cp_hd w L.length) ||| (v <<< ((nI (64 - (L.length % 64) - k)).toInt64 &&& 63)))))))] := hD
        refine lv_iconst (v := nI 1) hx hb dd_B_append_139 (by decide) ?_
        refine ct_zret (u := (L.length + k, vp_updL w (L.length / 64) ((cp_hd w L.length) ||| (v <<< ((nI (64 - (L.length % 64) - k)).toInt64 &&& 63))))) hx hb hr hlocks (by decide) hK hP hD hS rfl ?_ dd_B_append_140
        refine ⟨bI_t (by omega), ?_⟩
        rw [if_pos (by omega)]
        exact ⟨rfl, cp_app1 hR (by omega) hf (by omega)⟩
      have c_46 : (L.length % 64) = 0 := (ct_zeq (by omega)).mp c_46
      refine lv_lconst (v := 0) hx hb dd_B_append_49 (by decide) ?_
      refine ct_topl (y := cp_hd w L.length) ((if_pos c_46).symm) ?_
      refine lv_goto (tgt := 66) hx hb dd_B_append_50 (by decide) ?_
      refine lv_lstore (lv' := [(7, .long (cp_hd w L.length)), (6, .int (nI (64 - (L.length % 64)))), (5, .int (nI (L.length % 64))), (4, .int (nI (L.length / 64))), (0, .ref q), (1, .long v), (3, .int (nI k))]) hx hb dd_B_append_66 hl (by decide) rfl (fun ls hl => ?_)
      refine lv_iload_n hx hb dd_B_append_68 rfl (lv_at hl 6 rfl) ?_
      refine lv_iload hx hb dd_B_append_69 (lv_at hl 1 rfl) ?_
      refine lv_icmp_gt (tgt := 93) hx hb dd_B_append_71 (by decide) (fun c_71 => ?_) (fun c_71 => ?_)
      · skip
        have c_71 : (64 - (L.length % 64)) < k := (nI_ltI (by omega) (by omega)).mp c_71
        refine lv_iload_n hx hb dd_B_append_93 rfl (lv_at hl 6 rfl) ?_
        refine lv_iload hx hb dd_B_append_94 (lv_at hl 1 rfl) ?_
        refine lv_isub hx hb dd_B_append_96 ?_
        refine ct_topi (y := nI (k - (64 - (L.length % 64)))) (pk_sub (by omega)) ?_
        refine lv_istore (lv' := [(9, .int (nI (k - (64 - (L.length % 64))))), (7, .long (cp_hd w L.length)), (6, .int (nI (64 - (L.length % 64)))), (5, .int (nI (L.length % 64))), (4, .int (nI (L.length / 64))), (0, .ref q), (1, .long v), (3, .int (nI k))]) hx hb dd_B_append_97 hl (by decide) rfl (fun ls hl => ?_)
        refine lv_aload_n hx hb dd_B_append_99 rfl (lv_at hl 5 rfl) ?_
        refine va_get (D := D) (ci := 0) (C := cn_B) (T := cf_B) (N := 2) hx hb hw in_B hown hK hP 0 rfl rfl 0 (by decide) (hw _ wi_69) (fun _ h9 => h9) rfl dd_B_append_100 ?_
        refine lv_iload hx hb dd_B_append_103 (lv_at hl 4 rfl) ?_
        refine lv_lload hx hb dd_B_append_105 (lv_at hl 1 rfl) ?_
        refine lv_lload_n hx hb dd_B_append_107 rfl (lv_at hl 6 rfl) ?_
        refine lv_iload hx hb dd_B_append_108 (lv_at hl 0 rfl) ?_
        refine lv_lushr (v := (v.toUInt64 >>> ((nI (k - (64 - (L.length % 64)))).toInt64.toUInt64 &&& Int64.toUInt64 63)).toInt64) hx hb dd_B_append_110 rfl ?_
        refine lv_lor hx hb dd_B_append_111 ?_
        refine va_last hx hb hK hP hD hS 1 0 rfl rfl (vp_in_nI (by omega) (by omega)) dd_B_append_112 (fun H locs hP hD hS => ?_)
        rw [show (nI (L.length / 64)).toNatClampNeg = L.length / 64 from nI_clamp (by omega)] at hP hD
        have hP : va_P D classes [(q, .inr (0, [.ref qw, .int (nI L.length)])), (qw, .inl (cJ, 6250, .inr (.inl (vp_updL w (L.length / 64) ((cp_hd w L.length) ||| ((v.toUInt64 >>> ((nI (k - (64 - (L.length % 64)))).toInt64.toUInt64 &&& Int64.toUInt64 63)).toInt64))))))] H := hP
        have hD : va_D A [(q, .inr (0, [.ref qw, .int (nI L.length)])), (qw, .inl (cJ, 6250, .inr (.inl (vp_updL w (L.length / 64) ((cp_hd w L.length) ||| ((v.toUInt64 >>> ((nI (k - (64 - (L.length % 64)))).toInt64.toUInt64 &&& Int64.toUInt64 63)).toInt64))))))] := hD
        refine lv_aload_n hx hb dd_B_append_113 rfl (lv_at hl 5 rfl) ?_
        refine va_get (D := D) (ci := 0) (C := cn_B) (T := cf_B) (N := 2) hx hb hw in_B hown hK hP 0 rfl rfl 0 (by decide) (hw _ wi_69) (fun _ h9 => h9) rfl dd_B_append_114 ?_
        refine lv_iload hx hb dd_B_append_117 (lv_at hl 4 rfl) ?_
        refine lv_iconst (v := nI 1) hx hb dd_B_append_119 (by decide) ?_
        refine lv_iadd hx hb dd_B_append_120 ?_
        refine ct_topi (y := nI (L.length / 64 + 1)) (nI_add _ _) ?_
        refine lv_lload_n hx hb dd_B_append_121 rfl (lv_at hl 6 rfl) ?_
        refine lv_bipush (v := nI 64) hx hb dd_B_append_122 (by decide) ?_
        refine lv_iload hx hb dd_B_append_124 (lv_at hl 0 rfl) ?_
        refine lv_isub hx hb dd_B_append_126 ?_
        refine ct_topi (y := nI (64 - (k - (64 - (L.length % 64))))) (pk_sub (by omega)) ?_
        refine lv_lshl (v := v <<< ((nI (64 - (k - (64 - (L.length % 64))))).toInt64 &&& 63)) hx hb dd_B_append_127 rfl ?_
        refine va_last hx hb hK hP hD hS 1 0 rfl rfl (vp_in_nI (by omega) (by omega)) dd_B_append_128 (fun H locs hP hD hS => ?_)
        rw [show (nI (L.length / 64 + 1)).toNatClampNeg = L.length / 64 + 1 from nI_clamp (by omega)] at hP hD
        have hP : va_P D classes [(q, .inr (0, [.ref qw, .int (nI L.length)])), (qw, .inl (cJ, 6250, .inr (.inl (vp_updL (vp_updL w (L.length / 64) ((cp_hd w L.length) ||| ((v.toUInt64 >>> ((nI (k - (64 - (L.length % 64)))).toInt64.toUInt64 &&& Int64.toUInt64 63)).toInt64))) (L.length / 64 + 1) (v <<< ((nI (64 - (k - (64 - (L.length % 64))))).toInt64 &&& 63))))))] H := hP
        have hD : va_D A [(q, .inr (0, [.ref qw, .int (nI L.length)])), (qw, .inl (cJ, 6250, .inr (.inl (vp_updL (vp_updL w (L.length / 64) ((cp_hd w L.length) ||| ((v.toUInt64 >>> ((nI (k - (64 - (L.length % 64)))).toInt64.toUInt64 &&& Int64.toUInt64 63)).toInt64))) (L.length / 64 + 1) (v <<< ((nI (64 - (k - (64 - (L.length % 64))))).toInt64 &&& 63))))))] := hD
        refine lv_aload_n hx hb dd_B_append_129 rfl (lv_at hl 5 rfl) ?_
        refine lv_dup hx hb dd_B_append_130 rfl ?_
        refine va_get (D := D) (ci := 0) (C := cn_B) (T := cf_B) (N := 2) hx hb hw in_B hown hK hP 0 rfl rfl 1 (by decide) (hw _ wi_70) (fun _ h9 => h9) rfl dd_B_append_131 ?_
        refine lv_iload_n hx hb dd_B_append_134 rfl (lv_at hl 7 rfl) ?_
        refine lv_iadd hx hb dd_B_append_135 ?_
        refine ct_topi (y := nI (L.length + k)) (nI_add _ _) ?_
        refine va_put (D := D) (ci := 0) (v := .int (nI (L.length + k))) (ty := .int) (C := cn_B) (T := cf_B) (N := 2) hx hb hw in_B ty_B to_B nn_B hown hK hP hD hS 0 rfl rfl 1 (by decide) (hw _ wi_70) (fun _ h9 => h9) rfl (by decide +kernel) (rfl) (rfl) (Nat.le_of_ble_eq_true rfl) dd_B_append_136 (fun H locs hP hD hS => ?_)
        have hP : va_P D classes [(q, .inr (0, [.ref qw, .int (nI (L.length + k))])), (qw, .inl (cJ, 6250, .inr (.inl (vp_updL (vp_updL w (L.length / 64) ((cp_hd w L.length) ||| ((v.toUInt64 >>> ((nI (k - (64 - (L.length % 64)))).toInt64.toUInt64 &&& Int64.toUInt64 63)).toInt64))) (L.length / 64 + 1) (v <<< ((nI (64 - (k - (64 - (L.length % 64))))).toInt64 &&& 63))))))] H := hP
        have hD : va_D A [(q, .inr (0, [.ref qw, .int (nI (L.length + k))])), (qw, .inl (cJ, 6250, .inr (.inl (vp_updL (vp_updL w (L.length / 64) ((cp_hd w L.length) ||| ((v.toUInt64 >>> ((nI (k - (64 - (L.length % 64)))).toInt64.toUInt64 &&& Int64.toUInt64 63)).toInt64))) (L.length / 64 + 1) (v <<< ((nI (64 - (k - (64 - (L.length % 64))))).toInt64 &&& 63))))))] := hD
        refine lv_iconst (v := nI 1) hx hb dd_B_append_139 (by decide) ?_
        refine ct_zret (u := (L.length + k, vp_updL (vp_updL w (L.length / 64) ((cp_hd w L.length) ||| ((v.toUInt64 >>> ((nI (k - (64 - (L.length % 64)))).toInt64.toUInt64 &&& Int64.toUInt64 63)).toInt64))) (L.length / 64 + 1) (v <<< ((nI (64 - (k - (64 - (L.length % 64))))).toInt64 &&& 63)))) hx hb hr hlocks (by decide) hK hP hD hS rfl ?_ dd_B_append_140
        refine ⟨bI_t (by omega), ?_⟩
        rw [if_pos (by omega)]
        exact ⟨rfl, cp_app2 hR (by omega) hf (by omega)⟩
      have c_71 : ¬ ((64 - (L.length % 64)) < k) := fun z => c_71 ((nI_ltI (by omega) (by omega)).mpr z)
      refine lv_aload_n hx hb dd_B_append_74 rfl (lv_at hl 4 rfl) ?_
      refine va_get (D := D) (ci := 0) (C := cn_B) (T := cf_B) (N := 2) hx hb hw in_B hown hK hP 0 rfl rfl 0 (by decide) (hw _ wi_69) (fun _ h9 => h9) rfl dd_B_append_75 ?_
      refine lv_iload hx hb dd_B_append_78 (lv_at hl 3 rfl) ?_
      refine lv_lload hx hb dd_B_append_80 (lv_at hl 0 rfl) ?_
      refine lv_lload_n hx hb dd_B_append_82 rfl (lv_at hl 5 rfl) ?_
      refine lv_iload hx hb dd_B_append_83 (lv_at hl 1 rfl) ?_
      refine lv_iload_n hx hb dd_B_append_85 rfl (lv_at hl 6 rfl) ?_
      refine lv_isub hx hb dd_B_append_86 ?_
      refine ct_topi (y := nI (64 - (L.length % 64) - k)) (pk_sub (by omega)) ?_
      refine lv_lshl (v := v <<< ((nI (64 - (L.length % 64) - k)).toInt64 &&& 63)) hx hb dd_B_append_87 rfl ?_
      refine lv_lor hx hb dd_B_append_88 ?_
      refine va_last hx hb hK hP hD hS 1 0 rfl rfl (vp_in_nI (by omega) (by omega)) dd_B_append_89 (fun H locs hP hD hS => ?_)
      rw [show (nI (L.length / 64)).toNatClampNeg = L.length / 64 from nI_clamp (by omega)] at hP hD
      have hP : va_P D classes [(q, .inr (0, [.ref qw, .int (nI L.length)])), (qw, .inl (cJ, 6250, .inr (.inl (vp_updL w (L.length / 64) ((cp_hd w L.length) ||| (v <<< ((nI (64 - (L.length % 64) - k)).toInt64 &&& 63)))))))] H := hP
      have hD : va_D A [(q, .inr (0, [.ref qw, .int (nI L.length)])), (qw, .inl (cJ, 6250, .inr (.inl (vp_updL w (L.length / 64) ((cp_hd w L.length) ||| (v <<< ((nI (64 - (L.length % 64) - k)).toInt64 &&& 63)))))))] := hD
      refine lv_goto (tgt := 129) hx hb dd_B_append_90 (by decide) ?_
      refine lv_aload_n hx hb dd_B_append_129 rfl (lv_at hl 4 rfl) ?_
      refine lv_dup hx hb dd_B_append_130 rfl ?_
      refine va_get (D := D) (ci := 0) (C := cn_B) (T := cf_B) (N := 2) hx hb hw in_B hown hK hP 0 rfl rfl 1 (by decide) (hw _ wi_70) (fun _ h9 => h9) rfl dd_B_append_131 ?_
      refine lv_iload_n hx hb dd_B_append_134 rfl (lv_at hl 6 rfl) ?_
      refine lv_iadd hx hb dd_B_append_135 ?_
      refine ct_topi (y := nI (L.length + k)) (nI_add _ _) ?_
      refine va_put (D := D) (ci := 0) (v := .int (nI (L.length + k))) (ty := .int) (C := cn_B) (T := cf_B) (N := 2) hx hb hw in_B ty_B to_B nn_B hown hK hP hD hS 0 rfl rfl 1 (by decide) (hw _ wi_70) (fun _ h9 => h9) rfl (by decide +kernel) (rfl) (rfl) (Nat.le_of_ble_eq_true rfl) dd_B_append_136 (fun H locs hP hD hS => ?_)
      have hP : va_P D classes [(q, .inr (0, [.ref qw, .int (nI (L.length + k))])), (qw, .inl (cJ, 6250, .inr (.inl (vp_updL w (L.length / 64) ((cp_hd w L.length) ||| (v <<< ((nI (64 - (L.length % 64) - k)).toInt64 &&& 63)))))))] H := hP
      have hD : va_D A [(q, .inr (0, [.ref qw, .int (nI (L.length + k))])), (qw, .inl (cJ, 6250, .inr (.inl (vp_updL w (L.length / 64) ((cp_hd w L.length) ||| (v <<< ((nI (64 - (L.length % 64) - k)).toInt64 &&& 63)))))))] := hD
      refine lv_iconst (v := nI 1) hx hb dd_B_append_139 (by decide) ?_
      refine ct_zret (u := (L.length + k, vp_updL w (L.length / 64) ((cp_hd w L.length) ||| (v <<< ((nI (64 - (L.length % 64) - k)).toInt64 &&& 63))))) hx hb hr hlocks (by decide) hK hP hD hS rfl ?_ dd_B_append_140
      refine ⟨bI_t (by omega), ?_⟩
      rw [if_pos (by omega)]
      exact ⟨rfl, cp_app1 hR (by omega) hf (by omega)⟩
    have c_14 : k = 0 := (ct_zeq (by omega)).mp c_14
    refine lv_iconst (v := nI 1) hx hb dd_B_append_17 (by decide) ?_
    refine ct_zret (u := (L.length, w)) hx hb hr hlocks (by decide) hK hP hD hS rfl ?_ dd_B_append_18
    refine ⟨bI_t (by omega), ?_⟩
    rw [if_pos (by omega)]
    subst c_14
    exact ⟨rfl, by rw [cp_bl, List.append_nil]; exact hR⟩
  have c_8 : ¬ (k ≤ (400000 - L.length)) := fun z => c_8 ((nI_leI (by omega) (by omega)).mpr z)
  refine lv_iconst (v := nI 0) hx hb dd_B_append_11 (by decide) ?_
  refine ct_zret (u := (L.length, w)) hx hb hr hlocks (by decide) hK hP hD hS rfl ?_ dd_B_append_12
  exact ⟨bI_f (by omega), by rw [if_neg (by omega)]⟩

set_option maxHeartbeats 4000000 in
set_option maxRecDepth 100000 in
theorem cc_B_shorten (l : Launch) (D : va_G) (cJ cB : ClassId) (q qw n : Nat) (w : Nat → Int64) (k : Nat) (sz : Nat) : ct_v l my_B_shorten (Cond.code my_B_shorten mb_B_shorten 2 none :: TB) ({ frames := 0, cells := 0, slots := 0, locals := 0 } : Room) D classes cJ cB [.ref q, .int (nI k)] [(q, .inr (0, [.ref qw, .int (nI n)])), (qw, .inl (cJ, 6250, .inr (.inl w)))] sz (fun (u : Unit) => True) (fun u => [(q, .inr (0, [.ref qw, .int (nI k)])), (qw, .inl (cJ, 6250, .inr (.inl w)))]) 0 0 := by
  refine ct_ofW (cc := mb_B_shorten) (maxL := 2) (ret := none) (by decide) rfl (Nat.le_of_ble_eq_true rfl) ?_
  intro p e s m below meth c hx hb hr hml hts hown hlocks hin hsz hK hP hD hA hS hZ ls hl
  have hw : ∀ w ∈ TB, w.before _ s = true := fun w h => hts w (List.mem_cons_of_mem _ h)
  have hown : s.vm.findClass cn_B = some m.cls := hown
  have hin : meth.name = "shorten" := hin
  generalize hAe : va_A [(q, .inr (0, [.ref qw, .int (nI n)])), (qw, .inl (cJ, 6250, .inr (.inl w)))] sz = A at hD hA hS hZ ⊢
  clear hAe
  have hl : lv_has ls 2 [(0, .ref q), (1, .int (nI k))] := hl
  have hP : va_P D classes [(q, .inr (0, [.ref qw, .int (nI n)])), (qw, .inl (cJ, 6250, .inr (.inl w)))] s.heap := hP
  refine lv_aload_n hx hb dd_B_shorten_0 rfl (lv_at hl 0 rfl) ?_
  refine lv_iload_n hx hb dd_B_shorten_1 rfl (lv_at hl 1 rfl) ?_
  refine va_put (D := D) (ci := 0) (v := .int (nI k)) (ty := .int) (C := cn_B) (T := cf_B) (N := 2) hx hb hw in_B ty_B to_B nn_B hown hK hP hD hS 0 rfl rfl 1 (by decide) (hw _ wi_70) (fun _ h9 => h9) rfl (by decide +kernel) (rfl) (rfl) (Nat.le_of_ble_eq_true rfl) dd_B_shorten_2 (fun H locs hP hD hS => ?_)
  have hP : va_P D classes [(q, .inr (0, [.ref qw, .int (nI k)])), (qw, .inl (cJ, 6250, .inr (.inl w)))] H := hP
  have hD : va_D A [(q, .inr (0, [.ref qw, .int (nI k)])), (qw, .inl (cJ, 6250, .inr (.inl w)))] := hD
  refine ct_vret (u := ()) hx hb hr hlocks hK hP hD hS rfl ?_ dd_B_shorten_5
  trivial

set_option maxHeartbeats 4000000 in
set_option maxRecDepth 100000 in
theorem cx_B_isOne (l : Launch) (hlt : l.stackTraces = false) (D : va_G) (cJ cB : ClassId) (q qw : Nat) (w : Nat → Int64) (L : List Bool) (k : Int32) (sz : Nat) (hL : L.length ≤ 400000) (hR : cp_Rw w L) : cx_i l my_B_isOne (Cond.code my_B_isOne mb_B_isOne 2 (some .boolean) :: TB) ({ frames := 6, cells := 1, slots := 6, locals := 90 } : Room) D classes cJ cB [.ref q, .int k] [(q, .inr (0, [.ref qw, .int (nI L.length)])), (qw, .inl (cJ, 6250, .inr (.inl w)))] sz (fun (r : Int32) (u : Unit) => ∃ j : Nat, j < L.length ∧ k = nI j ∧ r = bI (cp_g L j = true)) (fun u => [(q, .inr (0, [.ref qw, .int (nI L.length)])), (qw, .inl (cJ, 6250, .inr (.inl w)))]) (fun E => E = ex_I ∧ ¬ cp_ix k L.length) 1 6 := by
  refine cx_ofW (cc := mb_B_isOne) (maxL := 2) (ret := some .boolean) (by decide) rfl (Nat.le_of_ble_eq_true rfl) ?_
  intro p e s m below meth c hx hb hr hml hts hown hlocks hin hsz hK hP hD hA hS hZ hex ls hl
  have hw : ∀ w ∈ TB, w.before _ s = true := fun w h => hts w (List.mem_cons_of_mem _ h)
  have hown : s.vm.findClass cn_B = some m.cls := hown
  have hin : meth.name = "isOne" := hin
  generalize hAe : va_A [(q, .inr (0, [.ref qw, .int (nI L.length)])), (qw, .inl (cJ, 6250, .inr (.inl w)))] sz = A at hD hA hS hZ ⊢
  clear hAe
  have hl : lv_has ls 2 [(0, .ref q), (1, .int k)] := hl
  have hP : va_P D classes [(q, .inr (0, [.ref qw, .int (nI L.length)])), (qw, .inl (cJ, 6250, .inr (.inl w)))] s.heap := hP
  refine lv_iload_n hx hb dd_B_isOne_0 rfl (lv_at hl 1 rfl) ?_
  refine lv_if_lt (tgt := 12) hx hb dd_B_isOne_1 (by decide) (fun c_1 => ?_) (fun c_1 => ?_)
  · skip
    refine cx_throw (own := cn_B) (cls := ex_I) (text := "no such bit") (ik := 19) (is := 21) (ic := 23) hx hb hlt hw hZ hown (by decide +kernel) wi_497 wi_33 (by decide +kernel) ht_B_23_1 ht_B_23_2 ht_B_19_23_3 hK hP hD hS (hl.1.trans hml.symm) hex dd_B_isOne_12 dd_B_isOne_15 dd_B_isOne_16 dd_B_isOne_18 dd_B_isOne_21 (Nat.le_of_ble_eq_true rfl) (Nat.le_of_ble_eq_true rfl) (Nat.le_of_ble_eq_true rfl) (Nat.le_of_ble_eq_true rfl) hlocks ?_ (Nat.le_of_ble_eq_true rfl) (Nat.le_of_ble_eq_true rfl)
    exact ⟨rfl, cp_ix_n (by omega) (Or.inl c_1)⟩
  refine lv_iload_n hx hb dd_B_isOne_4 rfl (lv_at hl 1 rfl) ?_
  refine lv_aload_n hx hb dd_B_isOne_5 rfl (lv_at hl 0 rfl) ?_
  refine va_get (D := D) (ci := 0) (C := cn_B) (T := cf_B) (N := 2) hx hb hw in_B hown hK hP 0 rfl rfl 1 (by decide) (hw _ wi_70) (fun _ h9 => h9) rfl dd_B_isOne_6 ?_
  refine lv_icmp_lt (tgt := 22) hx hb dd_B_isOne_9 (by decide) (fun c_9 => ?_) (fun c_9 => ?_)
  · skip
    obtain ⟨j, hj, hkj⟩ := cp_ix_of (by omega) c_1 c_9
    subst hkj
    refine lv_aload_n hx hb dd_B_isOne_22 rfl (lv_at hl 0 rfl) ?_
    refine lv_iload_n hx hb dd_B_isOne_23 rfl (lv_at hl 1 rfl) ?_
    refine lv_iconst (v := nI 1) hx hb dd_B_isOne_24 (by decide) ?_
    refine ct_behind_l (wc := [(q, .inr (0, [.ref qw, .int (nI L.length)])), (qw, .inl (cJ, 6250, .inr (.inl w)))]) (wr := []) (av := [.ref q, .int (nI j), .int (nI 1)]) (va_runV (As := [.int (nI j), .int (nI 1)]) (rest := []) ⟨hx, hb, hml, hown, hw⟩ (cc_B_numberAt l D cJ cB q qw w L j 1 _ hL hR (by omega) (by omega) (by omega)) (cwV 2 hw (tb_V wi_500 wi_424 wi_425 wi_24 wi_426) rfl rfl rfl (by decide +kernel) ⟨Nat.le_of_ble_eq_true rfl, Nat.le_of_ble_eq_true rfl⟩) ⟨ct_blind, ct_recv hK hP (q0 := 0) (ci := 0) rfl rfl, ct_pc hZ hK hP hD hS hA [0, 1] rfl (by decide)⟩ rfl rfl hl.1 rfl (lv_room (Nat.le_of_ble_eq_true rfl)) dd_B_isOne_25 ⟨Nat.le_of_ble_eq_true rfl, Nat.le_of_ble_eq_true rfl⟩) hK hP hD hS hA [0, 1] [] rfl rfl (by decide) (by decide) (fun r_25 u_25 H locs hw_25 hP hD hS => ?_)
    subst hw_25
    have hP : va_P D classes [(q, .inr (0, [.ref qw, .int (nI L.length)])), (qw, .inl (cJ, 6250, .inr (.inl w)))] H := hP
    have hD : va_D A [(q, .inr (0, [.ref qw, .int (nI L.length)])), (qw, .inl (cJ, 6250, .inr (.inl w)))] := hD
    refine lv_lconst (v := 1) hx hb dd_B_isOne_28 (by decide) ?_
    refine W.lcmp hx hb dd_B_isOne_29 ?_
    refine lv_if_ne (tgt := 37) hx hb dd_B_isOne_30 (by decide) (fun c_30 => ?_) (fun c_30 => ?_)
    · skip
      have c_30 : ¬ ((lN (cp_n L j 1)) = 1) := fun z => c_30 ((lg_cmp_eq _ _).mpr z)
      refine lv_iconst (v := nI 0) hx hb dd_B_isOne_37 (by decide) ?_
      refine vx_ret ?_
      refine W.widen (k := 1) (n := 6) (Nat.le_of_ble_eq_true rfl) (Nat.le_of_ble_eq_true rfl) ?_
      refine ct_zret (u := ()) hx hb hr hlocks (by decide) hK hP hD hS rfl ?_ dd_B_isOne_38
      exact ⟨j, hj, rfl, bI_f (fun z => c_30 ((cp_n1 L j).mpr z))⟩
    have c_30 : (lN (cp_n L j 1)) = 1 := (lg_cmp_eq _ _).mp c_30
    refine lv_iconst (v := nI 1) hx hb dd_B_isOne_33 (by decide) ?_
    refine lv_goto (tgt := 38) hx hb dd_B_isOne_34 (by decide) ?_
    refine vx_ret ?_
    refine W.widen (k := 1) (n := 6) (Nat.le_of_ble_eq_true rfl) (Nat.le_of_ble_eq_true rfl) ?_
    refine ct_zret (u := ()) hx hb hr hlocks (by decide) hK hP hD hS rfl ?_ dd_B_isOne_38
    exact ⟨j, hj, rfl, bI_t ((cp_n1 L j).mp c_30)⟩
  refine cx_throw (own := cn_B) (cls := ex_I) (text := "no such bit") (ik := 19) (is := 21) (ic := 23) hx hb hlt hw hZ hown (by decide +kernel) wi_497 wi_33 (by decide +kernel) ht_B_23_1 ht_B_23_2 ht_B_19_23_3 hK hP hD hS (hl.1.trans hml.symm) hex dd_B_isOne_12 dd_B_isOne_15 dd_B_isOne_16 dd_B_isOne_18 dd_B_isOne_21 (Nat.le_of_ble_eq_true rfl) (Nat.le_of_ble_eq_true rfl) (Nat.le_of_ble_eq_true rfl) (Nat.le_of_ble_eq_true rfl) hlocks ?_ (Nat.le_of_ble_eq_true rfl) (Nat.le_of_ble_eq_true rfl)
  exact ⟨rfl, cp_ix_n (by omega) (Or.inr c_9)⟩

set_option maxHeartbeats 4000000 in
set_option maxRecDepth 100000 in
theorem cx_B_invert (l : Launch) (hlt : l.stackTraces = false) (D : va_G) (cJ cB : ClassId) (q qw : Nat) (w : Nat → Int64) (L : List Bool) (k : Int32) (sz : Nat) (hL : L.length ≤ 400000) (hR : cp_Rw w L) : cx_v l my_B_invert (Cond.code my_B_invert mb_B_invert 2 none :: TB) ({ frames := 6, cells := 1, slots := 6, locals := 90 } : Room) D classes cJ cB [.ref q, .int k] [(q, .inr (0, [.ref qw, .int (nI L.length)])), (qw, .inl (cJ, 6250, .inr (.inl w)))] sz (fun (u : Nat → Int64) => ∃ j : Nat, j < L.length ∧ k = nI j ∧ cp_Rw u (L.set j (!cp_g L j))) (fun u => [(q, .inr (0, [.ref qw, .int (nI L.length)])), (qw, .inl (cJ, 6250, .inr (.inl u)))]) (fun E => E = ex_I ∧ ¬ cp_ix k L.length) 1 6 := by
  refine cx_ofW (cc := mb_B_invert) (maxL := 2) (ret := none) (by decide) rfl (Nat.le_of_ble_eq_true rfl) ?_
  intro p e s m below meth c hx hb hr hml hts hown hlocks hin hsz hK hP hD hA hS hZ hex ls hl
  have hw : ∀ w ∈ TB, w.before _ s = true := fun w h => hts w (List.mem_cons_of_mem _ h)
  have hown : s.vm.findClass cn_B = some m.cls := hown
  have hin : meth.name = "invert" := hin
  generalize hAe : va_A [(q, .inr (0, [.ref qw, .int (nI L.length)])), (qw, .inl (cJ, 6250, .inr (.inl w)))] sz = A at hD hA hS hZ ⊢
  clear hAe
  have hl : lv_has ls 2 [(0, .ref q), (1, .int k)] := hl
  have hP : va_P D classes [(q, .inr (0, [.ref qw, .int (nI L.length)])), (qw, .inl (cJ, 6250, .inr (.inl w)))] s.heap := hP
  refine lv_iload_n hx hb dd_B_invert_0 rfl (lv_at hl 1 rfl) ?_
  refine lv_if_lt (tgt := 12) hx hb dd_B_invert_1 (by decide) (fun c_1 => ?_) (fun c_1 => ?_)
  · skip
    refine cx_throw (own := cn_B) (cls := ex_I) (text := "no such bit") (ik := 19) (is := 21) (ic := 23) hx hb hlt hw hZ hown (by decide +kernel) wi_497 wi_33 (by decide +kernel) ht_B_23_1 ht_B_23_2 ht_B_19_23_3 hK hP hD hS (hl.1.trans hml.symm) hex dd_B_invert_12 dd_B_invert_15 dd_B_invert_16 dd_B_invert_18 dd_B_invert_21 (Nat.le_of_ble_eq_true rfl) (Nat.le_of_ble_eq_true rfl) (Nat.le_of_ble_eq_true rfl) (Nat.le_of_ble_eq_true rfl) hlocks ?_ (Nat.le_of_ble_eq_true rfl) (Nat.le_of_ble_eq_true rfl)
    exact ⟨rfl, cp_ix_n (by omega) (Or.inl c_1)⟩
  refine lv_iload_n hx hb dd_B_invert_4 rfl (lv_at hl 1 rfl) ?_
  refine lv_aload_n hx hb dd_B_invert_5 rfl (lv_at hl 0 rfl) ?_
  refine va_get (D := D) (ci := 0) (C := cn_B) (T := cf_B) (N := 2) hx hb hw in_B hown hK hP 0 rfl rfl 1 (by decide) (hw _ wi_70) (fun _ h9 => h9) rfl dd_B_invert_6 ?_
  refine lv_icmp_lt (tgt := 22) hx hb dd_B_invert_9 (by decide) (fun c_9 => ?_) (fun c_9 => ?_)
  · skip
    obtain ⟨j, hj, hkj⟩ := cp_ix_of (by omega) c_1 c_9
    subst hkj
    refine lv_aload_n hx hb dd_B_invert_22 rfl (lv_at hl 0 rfl) ?_
    refine va_get (D := D) (ci := 0) (C := cn_B) (T := cf_B) (N := 2) hx hb hw in_B hown hK hP 0 rfl rfl 0 (by decide) (hw _ wi_69) (fun _ h9 => h9) rfl dd_B_invert_23 ?_
    refine lv_iload_n hx hb dd_B_invert_26 rfl (lv_at hl 1 rfl) ?_
    refine lv_bipush (v := nI 64) hx hb dd_B_invert_27 (by decide) ?_
    refine lv_idiv hx hb dd_B_invert_29 (by decide) ?_
    refine ct_topi (y := nI (j / 64)) (pk_div (by omega) (by decide) (by decide)) ?_
    refine lv_dup2_11 hx hb dd_B_invert_30 rfl rfl ?_
    refine va_lald hx hb hK hP 1 0 rfl rfl (vp_in_nI (by omega) (by omega)) dd_B_invert_31 ?_
    refine ct_topl (y := w (j / 64)) (by rw [nI_clamp (by omega)]) ?_
    refine lv_lconst (v := 1) hx hb dd_B_invert_32 (by decide) ?_
    refine lv_bipush (v := nI 63) hx hb dd_B_invert_33 (by decide) ?_
    refine lv_iload_n hx hb dd_B_invert_35 rfl (lv_at hl 1 rfl) ?_
    refine lv_bipush (v := nI 64) hx hb dd_B_invert_36 (by decide) ?_
    refine lv_irem hx hb dd_B_invert_38 (by decide) ?_
    refine ct_topi (y := nI (j % 64)) (pk_rem (by omega) (by decide) (by decide)) ?_
    refine lv_isub hx hb dd_B_invert_39 ?_
    refine ct_topi (y := nI (63 - (j % 64))) (pk_sub (by omega)) ?_
    refine lv_lshl (v := 1 <<< ((nI (63 - (j % 64))).toInt64 &&& 63)) hx hb dd_B_invert_40 rfl ?_
    refine lv_lxor hx hb dd_B_invert_41 ?_
    refine va_last hx hb hK hP hD hS 1 0 rfl rfl (vp_in_nI (by omega) (by omega)) dd_B_invert_42 (fun H locs hP hD hS => ?_)
    rw [show (nI (j / 64)).toNatClampNeg = j / 64 from nI_clamp (by omega)] at hP hD
    have hP : va_P D classes [(q, .inr (0, [.ref qw, .int (nI L.length)])), (qw, .inl (cJ, 6250, .inr (.inl (vp_updL w (j / 64) ((w (j / 64)) ^^^ (1 <<< ((nI (63 - (j % 64))).toInt64 &&& 63)))))))] H := hP
    have hD : va_D A [(q, .inr (0, [.ref qw, .int (nI L.length)])), (qw, .inl (cJ, 6250, .inr (.inl (vp_updL w (j / 64) ((w (j / 64)) ^^^ (1 <<< ((nI (63 - (j % 64))).toInt64 &&& 63)))))))] := hD
    refine vx_ret ?_
    refine W.widen (k := 1) (n := 6) (Nat.le_of_ble_eq_true rfl) (Nat.le_of_ble_eq_true rfl) ?_
    refine ct_vret (u := vp_updL w (j / 64) ((w (j / 64)) ^^^ (1 <<< ((nI (63 - (j % 64))).toInt64 &&& 63)))) hx hb hr hlocks hK hP hD hS rfl ?_ dd_B_invert_43
    exact ⟨j, hj, rfl, cp_inv hR hj⟩
  refine cx_throw (own := cn_B) (cls := ex_I) (text := "no such bit") (ik := 19) (is := 21) (ic := 23) hx hb hlt hw hZ hown (by decide +kernel) wi_497 wi_33 (by decide +kernel) ht_B_23_1 ht_B_23_2 ht_B_19_23_3 hK hP hD hS (hl.1.trans hml.symm) hex dd_B_invert_12 dd_B_invert_15 dd_B_invert_16 dd_B_invert_18 dd_B_invert_21 (Nat.le_of_ble_eq_true rfl) (Nat.le_of_ble_eq_true rfl) (Nat.le_of_ble_eq_true rfl) (Nat.le_of_ble_eq_true rfl) hlocks ?_ (Nat.le_of_ble_eq_true rfl) (Nat.le_of_ble_eq_true rfl)
  exact ⟨rfl, cp_ix_n (by omega) (Or.inr c_9)⟩
end
section
/-! the JDK's counts of zeros -/
theorem wb_shr {n k : Nat} (hn : n < 2 ^ 64) (hk : k < 64) : ((lN n).toUInt64 >>> ((nI k).toInt64.toUInt64 &&& Int64.toUInt64 63)).toInt64 = lN (n / 2 ^ k) := by
  apply cp_ext
  intro j hj
  rw [cp_ushr _ hk, cp_N, cp_N, decide_eq_true hj, Bool.true_and, Nat.testBit_div_two_pow]
  rw [Nat.add_comm k j]
  by_cases c : j + k < 64
  · rw [decide_eq_true c, Bool.true_and]
  · rw [decide_eq_false c, Bool.false_and, Nat.testBit_lt_two_pow (Nat.lt_of_lt_of_le hn (Nat.pow_le_pow_right (by decide) (by omega)))]
theorem cz_eq0 {n : Nat} (h : n < 2 ^ 32) : nI n = 0 ↔ n = 0 := by
  constructor
  · intro e
    have := congrArg (fun z : Int32 => z.toBitVec.toNat) e
    rw [pk_tn h] at this
    exact this
  · intro e; subst e; exact nI_0
theorem cz_gt {n : Nat} (h : n < 2 ^ 32) (h0 : n ≠ 0) : 0 < nI n ↔ n < 2147483648 := by
  rw [Int32.lt_iff_toInt_lt, Int32.toInt_zero]
  show 0 < (nI n).toBitVec.toInt ↔ _
  rw [BitVec.toInt_eq_toNat_cond, pk_tn h]
  split <;> omega
theorem cz_pw {a m : Nat} {k : Nat} (h1 : 2 ^ m ≤ a) (h2 : a < 2 ^ k) : m < k := by
  rcases Nat.lt_or_ge m k with c | c
  · exact c
  · have := Nat.pow_le_pow_right (show 0 < 2 by decide) c
    omega
theorem cz_end {a i s m n : Nat} (hi : i = a / 2 ^ s) (h1 : 2 ^ m ≤ a) (h2 : a < 2 ^ (m + 1)) (h3 : 1 ≤ i) (h4 : i < 4) (hn : n + s = 31) : nI (n - i / 2) = nI (31 - m) := by
  have hp := Nat.two_pow_pos s
  have e1 := Nat.div_mul_le_self a (2 ^ s)
  have e2 := Nat.lt_div_mul_add (a := a) hp
  rw [← hi] at e1 e2
  have q1 : 2 ^ (s + 1) = 2 * 2 ^ s := by rw [Nat.pow_succ]; omega
  have q2 : 2 ^ (s + 2) = 4 * 2 ^ s := by rw [Nat.pow_succ, q1]; omega
  have hm : m = s + i / 2 := by
    have : i = 1 ∨ i = 2 ∨ i = 3 := by omega
    rcases this with z | z | z <;> subst z
    · have a1 : m < s + 1 := cz_pw h1 (by rw [q1]; omega)
      have a2 : s < m + 1 := cz_pw (a := a) (by omega) h2
      omega
    · have a1 : m < s + 2 := cz_pw h1 (by rw [q2]; omega)
      have a2 : s + 1 < m + 1 := cz_pw (a := a) (by rw [q1]; omega) h2
      omega
    · have a1 : m < s + 2 := cz_pw h1 (by rw [q2]; omega)
      have a2 : s + 1 < m + 1 := cz_pw (a := a) (by rw [q1]; omega) h2
      omega
  congr 1
  omega
theorem cz_div {a m : Nat} (hm : 32 ≤ m) (h1 : 2 ^ m ≤ a) (h2 : a < 2 ^ (m + 1)) : 2 ^ (m - 32) ≤ a / 4294967296 ∧ a / 4294967296 < 2 ^ (m - 32 + 1) := by
  have e1 : 2 ^ m = 2 ^ (m - 32) * 4294967296 := by rw [show (4294967296 : Nat) = 2 ^ 32 by decide, ← Nat.pow_add]; congr 1; omega
  have e2 : 2 ^ (m + 1) = 2 ^ (m - 32 + 1) * 4294967296 := by rw [show (4294967296 : Nat) = 2 ^ 32 by decide, ← Nat.pow_add]; congr 1; omega
  exact ⟨(Nat.le_div_iff_mul_le (by decide)).mpr (by omega), (Nat.div_lt_iff_lt_mul (by decide)).mpr (by omega)⟩
theorem cz_ge {a m : Nat} (h2 : a < 2 ^ (m + 1)) (h : ¬ a / 4294967296 = 0) : 32 ≤ m := by
  rcases Nat.lt_or_ge m 32 with c | c
  · have : 2 ^ (m + 1) ≤ 2 ^ 32 := Nat.pow_le_pow_right (by decide) (by omega)
    omega
  · exact c
theorem cz_p {k : Nat} (h : k ≤ 31) : 2 ^ k ≤ 2147483648 := by
  have := Nat.pow_le_pow_right (show 0 < 2 by decide) h
  exact this
theorem cz_c : ∀ k, k < 32 → (65536 < 2 ^ k - 1 ↔ 16 < k) ∧ (256 < 2 ^ k - 1 ↔ 8 < k) ∧ (16 < 2 ^ k - 1 ↔ 4 < k) ∧ (4 < 2 ^ k - 1 ↔ 2 < k) ∧ (0 < 2 ^ k - 1 ↔ 0 < k) := by decide
theorem cz_s : ∀ k, k < 32 → (16 < k → (2 ^ k - 1) / 65536 = 2 ^ (k - 16) - 1) ∧ (8 < k → (2 ^ k - 1) / 256 = 2 ^ (k - 8) - 1) ∧ (4 < k → (2 ^ k - 1) / 16 = 2 ^ (k - 4) - 1) ∧ (2 < k → (2 ^ k - 1) / 4 = 2 ^ (k - 2) - 1) := by decide
theorem cz_tend {te n t : Nat} (h : te = 1 ∨ te = 2) (hn : n + te = t + 1) : nI (n + (2 ^ te - 1) / 2) = nI t := by
  rcases h with z | z <;> subst z <;> congr 1 <;> omega
theorem cz_low {a t b : Nat} (ht : t < 32) (h : a = 2 ^ (t + 1) * b + 2 ^ t) : (nI a ^^^ (-1)) &&& nI (a - 1) = nI (2 ^ t - 1) := by
  have hp := Nat.two_pow_pos t
  have hq : 2 ^ t < 2 ^ (t + 1) := Nat.pow_lt_pow_right (by decide) (by omega)
  apply Int32.toBitVec_inj.mp
  apply BitVec.eq_of_getLsbD_eq
  intro j hj
  rw [Int32.toBitVec_and, Int32.toBitVec_xor, BitVec.getLsbD_and, BitVec.getLsbD_xor]
  show ((cz_b (nI a) j ^^ ((-1 : Int32).toBitVec).getLsbD j) && cz_b (nI (a - 1)) j) = cz_b (nI (2 ^ t - 1)) j
  rw [show (-1 : Int32).toBitVec = BitVec.allOnes 32 by decide, BitVec.getLsbD_allOnes, cz_N, cz_N, cz_N, decide_eq_true hj, Bool.true_and, Bool.true_and, Bool.true_and, show a - 1 = 2 ^ (t + 1) * b + (2 ^ t - 1) by omega, Nat.testBit_two_pow_mul_add _ (show 2 ^ t - 1 < 2 ^ (t + 1) by omega), h, Nat.testBit_two_pow_mul_add _ hq, Nat.testBit_two_pow, Nat.testBit_two_pow_sub_one]
  by_cases c : j < t + 1
  · rw [if_pos c, if_pos c]
    by_cases d : t = j
    · rw [decide_eq_true d, decide_eq_false (by omega)]; rfl
    · rw [decide_eq_false d, decide_eq_true (by omega)]; rfl
  · rw [if_neg c, if_neg c, decide_eq_false (by omega)]
    cases b.testBit (j - (t + 1)) <;> rfl
theorem cz_lo0 {a t b : Nat} (ht : t < 64) (h : a = 2 ^ (t + 1) * b + 2 ^ t) : nI a = 0 ↔ 32 ≤ t := by
  have hp := Nat.two_pow_pos t
  have hq : 2 ^ t < 2 ^ (t + 1) := Nat.pow_lt_pow_right (by decide) (by omega)
  constructor
  · intro z
    rcases Nat.lt_or_ge t 32 with c | c
    · have e : cz_b (nI a) t = true := by
        rw [cz_N, decide_eq_true c, Bool.true_and, h, Nat.testBit_two_pow_mul_add _ hq, if_pos (by omega), Nat.testBit_two_pow, decide_eq_true rfl]
      rw [z] at e
      unfold cz_b at e
      rw [show (0 : Int32).toBitVec = 0#32 by decide, BitVec.getLsbD_zero] at e
      cases e
    · exact c
  · intro c
    apply Int32.toBitVec_inj.mp
    apply BitVec.eq_of_getLsbD_eq
    intro j hj
    show cz_b (nI a) j = (0#32).getLsbD j
    rw [BitVec.getLsbD_zero, cz_N, h, Nat.testBit_two_pow_mul_add _ hq, if_pos (by omega), Nat.testBit_two_pow, decide_eq_false (show ¬ t = j by omega), Bool.and_false]
theorem cz_hi {a t b : Nat} (ht : 32 ≤ t) (h : a = 2 ^ (t + 1) * b + 2 ^ t) : a / 4294967296 = 2 ^ (t - 32 + 1) * b + 2 ^ (t - 32) := by
  have e1 : 2 ^ t = 2 ^ (t - 32) * 4294967296 := by rw [show (4294967296 : Nat) = 2 ^ 32 by decide, ← Nat.pow_add]; congr 1; omega
  have e2 : 2 ^ (t + 1) = 2 ^ (t - 32 + 1) * 4294967296 := by rw [show (4294967296 : Nat) = 2 ^ 32 by decide, ← Nat.pow_add]; congr 1; omega
  rw [h, e1, e2, Nat.mul_right_comm, ← Nat.add_mul, Nat.mul_div_cancel _ (by decide)]

set_option maxHeartbeats 4000000 in
set_option maxRecDepth 100000 in
theorem cc_I_numberOfLeadingZeros (l : Launch) (D : va_G) (cJ cB : ClassId) (a mm : Nat) (sz : Nat) (ha : a < 4294967296) (h1 : 2 ^ mm ≤ a) (h2 : a < 2 ^ (mm + 1)) : ct_i l my_I_numberOfLeadingZeros (Cond.code my_I_numberOfLeadingZeros mb_I_numberOfLeadingZeros 2 (some .int) :: TB) ({ frames := 0, cells := 0, slots := 0, locals := 0 } : Room) D classes cJ cB [.int (nI a)] [] sz (fun (r : Int32) (u : Unit) => r = nI (31 - mm)) (fun u => ([] : va_W)) 0 0 := by
  refine ct_ofW (cc := mb_I_numberOfLeadingZeros) (maxL := 2) (ret := some .int) (by decide) rfl (Nat.le_of_ble_eq_true rfl) ?_
  intro p e s m below meth c hx hb hr hml hts hown hlocks hin hsz hK hP hD hA hS hZ ls hl
  have hw : ∀ w ∈ TB, w.before _ s = true := fun w h => hts w (List.mem_cons_of_mem _ h)
  have hown : s.vm.findClass cn_I = some m.cls := hown
  have hin : meth.name = "numberOfLeadingZeros" := hin
  generalize hAe : va_A [] sz = A at hD hA hS hZ ⊢
  clear hAe
  have ha0 : a ≠ 0 := by have := Nat.two_pow_pos mm; omega
  have hl : lv_has ls 2 [(0, .int (nI a))] := hl
  have hP : va_P D classes [] s.heap := hP
  refine lv_iload_n hx hb dd_I_numberOfLeadingZeros_0 rfl (lv_at hl 0 rfl) ?_
  refine lv_if_gt (tgt := 15) hx hb dd_I_numberOfLeadingZeros_1 (by decide) (fun c_1 => ?_) (fun c_1 => ?_)
  · skip
    have c_1 : a < 2147483648 := (cz_gt (n := a) ha ha0).mp c_1
    refine lv_bipush (v := nI 31) hx hb dd_I_numberOfLeadingZeros_15 (by decide) ?_
    refine lv_istore_n (lv' := [(1, .int (nI 31)), (0, .int (nI a))]) hx hb dd_I_numberOfLeadingZeros_17 rfl hl (by decide) rfl (fun ls hl => ?_)
    refine lv_iload_n hx hb dd_I_numberOfLeadingZeros_18 rfl (lv_at hl 1 rfl) ?_
    refine lv_ldcw (v := 65536) hx hb hown (hw _ wi_327) dd_I_numberOfLeadingZeros_19 ?_
    refine ct_topi (y := nI 65536) (by decide) ?_
    refine lv_icmp_lt (tgt := 33) hx hb dd_I_numberOfLeadingZeros_22 (by decide) (fun c_22 => ?_) (fun c_22 => ?_)
    · skip
      have c_22 : a < 65536 := (nI_ltI (by omega) (by omega)).mp c_22
      refine lv_iload_n hx hb dd_I_numberOfLeadingZeros_33 rfl (lv_at hl 1 rfl) ?_
      refine lv_sipush (v := nI 256) hx hb dd_I_numberOfLeadingZeros_34 (by decide) ?_
      refine lv_icmp_lt (tgt := 48) hx hb dd_I_numberOfLeadingZeros_37 (by decide) (fun c_37 => ?_) (fun c_37 => ?_)
      · skip
        have c_37 : a < 256 := (nI_ltI (by omega) (by omega)).mp c_37
        refine lv_iload_n hx hb dd_I_numberOfLeadingZeros_48 rfl (lv_at hl 1 rfl) ?_
        refine lv_bipush (v := nI 16) hx hb dd_I_numberOfLeadingZeros_49 (by decide) ?_
        refine lv_icmp_lt (tgt := 61) hx hb dd_I_numberOfLeadingZeros_51 (by decide) (fun c_51 => ?_) (fun c_51 => ?_)
        · skip
          have c_51 : a < 16 := (nI_ltI (by omega) (by omega)).mp c_51
          refine lv_iload_n hx hb dd_I_numberOfLeadingZeros_61 rfl (lv_at hl 1 rfl) ?_
          refine lv_iconst (v := nI 4) hx hb dd_I_numberOfLeadingZeros_62 (by decide) ?_
          refine lv_icmp_lt (tgt := 73) hx hb dd_I_numberOfLeadingZeros_63 (by decide) (fun c_63 => ?_) (fun c_63 => ?_)
          · skip
            have c_63 : a < 4 := (nI_ltI (by omega) (by omega)).mp c_63
            refine lv_iload_n hx hb dd_I_numberOfLeadingZeros_73 rfl (lv_at hl 0 rfl) ?_
            refine lv_iload_n hx hb dd_I_numberOfLeadingZeros_74 rfl (lv_at hl 1 rfl) ?_
            refine lv_iconst (v := nI 1) hx hb dd_I_numberOfLeadingZeros_75 (by decide) ?_
            refine lv_iushr (v := ((nI a).toUInt32 >>> ((nI 1).toUInt32 &&& Int32.toUInt32 31)).toInt32) hx hb dd_I_numberOfLeadingZeros_76 rfl ?_
            refine ct_topi (y := nI (a / 2)) (pk_ushrN (by omega) (nI 1) 1 (by decide)) ?_
            refine lv_isub hx hb dd_I_numberOfLeadingZeros_77 ?_
            refine ct_topi (y := nI (31 - (a / 2))) (pk_sub (by omega)) ?_
            refine ct_iret (u := ()) hx hb hr hlocks hK hP hD hS rfl ?_ dd_I_numberOfLeadingZeros_78
            exact cz_end (a := a) (s := 0) (by omega) h1 h2 (by omega) (by omega) (by decide)
          have c_63 : ¬ (a < 4) := fun z => c_63 ((nI_ltI (by omega) (by omega)).mpr z)
          refine lv_iinc (v := nI 29) (lv' := [(1, .int (nI 29)), (0, .int (nI a))]) hx hb dd_I_numberOfLeadingZeros_66 hl (k := 0) rfl (by decide) (by decide) rfl (fun ls hl => ?_)
          refine lv_iload_n hx hb dd_I_numberOfLeadingZeros_69 rfl (lv_at hl 1 rfl) ?_
          refine lv_iconst (v := nI 2) hx hb dd_I_numberOfLeadingZeros_70 (by decide) ?_
          refine lv_iushr (v := ((nI a).toUInt32 >>> ((nI 2).toUInt32 &&& Int32.toUInt32 31)).toInt32) hx hb dd_I_numberOfLeadingZeros_71 rfl ?_
          refine ct_topi (y := nI (a / 4)) (pk_ushrN (by omega) (nI 2) 2 (by decide)) ?_
          refine lv_istore_n (lv' := [(0, .int (nI (a / 4))), (1, .int (nI 29))]) hx hb dd_I_numberOfLeadingZeros_72 rfl hl (by decide) rfl (fun ls hl => ?_)
          refine lv_iload_n hx hb dd_I_numberOfLeadingZeros_73 rfl (lv_at hl 1 rfl) ?_
          refine lv_iload_n hx hb dd_I_numberOfLeadingZeros_74 rfl (lv_at hl 0 rfl) ?_
          refine lv_iconst (v := nI 1) hx hb dd_I_numberOfLeadingZeros_75 (by decide) ?_
          refine lv_iushr (v := ((nI (a / 4)).toUInt32 >>> ((nI 1).toUInt32 &&& Int32.toUInt32 31)).toInt32) hx hb dd_I_numberOfLeadingZeros_76 rfl ?_
          refine ct_topi (y := nI (a / 4 / 2)) (pk_ushrN (by omega) (nI 1) 1 (by decide)) ?_
          refine lv_isub hx hb dd_I_numberOfLeadingZeros_77 ?_
          refine ct_topi (y := nI (29 - (a / 4 / 2))) (pk_sub (by omega)) ?_
          refine ct_iret (u := ()) hx hb hr hlocks hK hP hD hS rfl ?_ dd_I_numberOfLeadingZeros_78
          exact cz_end (a := a) (s := 2) (by omega) h1 h2 (by omega) (by omega) (by decide)
        have c_51 : ¬ (a < 16) := fun z => c_51 ((nI_ltI (by omega) (by omega)).mpr z)
        refine lv_iinc (v := nI 27) (lv' := [(1, .int (nI 27)), (0, .int (nI a))]) hx hb dd_I_numberOfLeadingZeros_54 hl (k := 0) rfl (by decide) (by decide) rfl (fun ls hl => ?_)
        refine lv_iload_n hx hb dd_I_numberOfLeadingZeros_57 rfl (lv_at hl 1 rfl) ?_
        refine lv_iconst (v := nI 4) hx hb dd_I_numberOfLeadingZeros_58 (by decide) ?_
        refine lv_iushr (v := ((nI a).toUInt32 >>> ((nI 4).toUInt32 &&& Int32.toUInt32 31)).toInt32) hx hb dd_I_numberOfLeadingZeros_59 rfl ?_
        refine ct_topi (y := nI (a / 16)) (pk_ushrN (by omega) (nI 4) 4 (by decide)) ?_
        refine lv_istore_n (lv' := [(0, .int (nI (a / 16))), (1, .int (nI 27))]) hx hb dd_I_numberOfLeadingZeros_60 rfl hl (by decide) rfl (fun ls hl => ?_)
        refine lv_iload_n hx hb dd_I_numberOfLeadingZeros_61 rfl (lv_at hl 0 rfl) ?_
        refine lv_iconst (v := nI 4) hx hb dd_I_numberOfLeadingZeros_62 (by decide) ?_
        refine lv_icmp_lt (tgt := 73) hx hb dd_I_numberOfLeadingZeros_63 (by decide) (fun c_63 => ?_) (fun c_63 => ?_)
        · skip
          have c_63 : (a / 16) < 4 := (nI_ltI (by omega) (by omega)).mp c_63
          refine lv_iload_n hx hb dd_I_numberOfLeadingZeros_73 rfl (lv_at hl 1 rfl) ?_
          refine lv_iload_n hx hb dd_I_numberOfLeadingZeros_74 rfl (lv_at hl 0 rfl) ?_
          refine lv_iconst (v := nI 1) hx hb dd_I_numberOfLeadingZeros_75 (by decide) ?_
          refine lv_iushr (v := ((nI (a / 16)).toUInt32 >>> ((nI 1).toUInt32 &&& Int32.toUInt32 31)).toInt32) hx hb dd_I_numberOfLeadingZeros_76 rfl ?_
          refine ct_topi (y := nI (a / 16 / 2)) (pk_ushrN (by omega) (nI 1) 1 (by decide)) ?_
          refine lv_isub hx hb dd_I_numberOfLeadingZeros_77 ?_
          refine ct_topi (y := nI (27 - (a / 16 / 2))) (pk_sub (by omega)) ?_
          refine ct_iret (u := ()) hx hb hr hlocks hK hP hD hS rfl ?_ dd_I_numberOfLeadingZeros_78
          exact cz_end (a := a) (s := 4) (by omega) h1 h2 (by omega) (by omega) (by decide)
        have c_63 : ¬ ((a / 16) < 4) := fun z => c_63 ((nI_ltI (by omega) (by omega)).mpr z)
        refine lv_iinc (v := nI 25) (lv' := [(1, .int (nI 25)), (0, .int (nI (a / 16)))]) hx hb dd_I_numberOfLeadingZeros_66 hl (k := 1) rfl (by decide) (by decide) rfl (fun ls hl => ?_)
        refine lv_iload_n hx hb dd_I_numberOfLeadingZeros_69 rfl (lv_at hl 1 rfl) ?_
        refine lv_iconst (v := nI 2) hx hb dd_I_numberOfLeadingZeros_70 (by decide) ?_
        refine lv_iushr (v := ((nI (a / 16)).toUInt32 >>> ((nI 2).toUInt32 &&& Int32.toUInt32 31)).toInt32) hx hb dd_I_numberOfLeadingZeros_71 rfl ?_
        refine ct_topi (y := nI (a / 16 / 4)) (pk_ushrN (by omega) (nI 2) 2 (by decide)) ?_
        refine lv_istore_n (lv' := [(0, .int (nI (a / 16 / 4))), (1, .int (nI 25))]) hx hb dd_I_numberOfLeadingZeros_72 rfl hl (by decide) rfl (fun ls hl => ?_)
        refine lv_iload_n hx hb dd_I_numberOfLeadingZeros_73 rfl (lv_at hl 1 rfl) ?_
        refine lv_iload_n hx hb dd_I_numberOfLeadingZeros_74 rfl (lv_at hl 0 rfl) ?_
        refine lv_iconst (v := nI 1) hx hb dd_I_numberOfLeadingZeros_75 (by decide) ?_
        refine lv_iushr (v := ((nI (a / 16 / 4)).toUInt32 >>> ((nI 1).toUInt32 &&& Int32.toUInt32 31)).toInt32) hx hb dd_I_numberOfLeadingZeros_76 rfl ?_
        refine ct_topi (y := nI (a / 16 / 4 / 2)) (pk_ushrN (by omega) (nI 1) 1 (by decide)) ?_
        refine lv_isub hx hb dd_I_numberOfLeadingZeros_77 ?_
        refine ct_topi (y := nI (25 - (a / 16 / 4 / 2))) (pk_sub (by omega)) ?_
        refine ct_iret (u := ()) hx hb hr hlocks hK hP hD hS rfl ?_ dd_I_numberOfLeadingZeros_78
        exact cz_end (a := a) (s := 6) (by omega) h1 h2 (by omega) (by omega) (by decide)
      have c_37 : ¬ (a < 256) := fun z => c_37 ((nI_ltI (by omega) (by omega)).mpr z)
      refine lv_iinc (v := nI 23) (lv' := [(1, .int (nI 23)), (0, .int (nI a))]) hx hb dd_I_numberOfLeadingZeros_40 hl (k := 0) rfl (by decide) (by decide) rfl (fun ls hl => ?_)
      refine lv_iload_n hx hb dd_I_numberOfLeadingZeros_43 rfl (lv_at hl 1 rfl) ?_
      refine lv_bipush (v := nI 8) hx hb dd_I_numberOfLeadingZeros_44 (by decide) ?_
      refine lv_iushr (v := ((nI a).toUInt32 >>> ((nI 8).toUInt32 &&& Int32.toUInt32 31)).toInt32) hx hb dd_I_numberOfLeadingZeros_46 rfl ?_
      refine ct_topi (y := nI (a / 256)) (pk_ushrN (by omega) (nI 8) 8 (by decide)) ?_
      refine lv_istore_n (lv' := [(0, .int (nI (a / 256))), (1, .int (nI 23))]) hx hb dd_I_numberOfLeadingZeros_47 rfl hl (by decide) rfl (fun ls hl => ?_)
      refine lv_iload_n hx hb dd_I_numberOfLeadingZeros_48 rfl (lv_at hl 0 rfl) ?_
      refine lv_bipush (v := nI 16) hx hb dd_I_numberOfLeadingZeros_49 (by decide) ?_
      refine lv_icmp_lt (tgt := 61) hx hb dd_I_numberOfLeadingZeros_51 (by decide) (fun c_51 => ?_) (fun c_51 => ?_)
      · skip
        have c_51 : (a / 256) < 16 := (nI_ltI (by omega) (by omega)).mp c_51
        refine lv_iload_n hx hb dd_I_numberOfLeadingZeros_61 rfl (lv_at hl 0 rfl) ?_
        refine lv_iconst (v := nI 4) hx hb dd_I_numberOfLeadingZeros_62 (by decide) ?_
        refine lv_icmp_lt (tgt := 73) hx hb dd_I_numberOfLeadingZeros_63 (by decide) (fun c_63 => ?_) (fun c_63 => ?_)
        · skip
          have c_63 : (a / 256) < 4 := (nI_ltI (by omega) (by omega)).mp c_63
          refine lv_iload_n hx hb dd_I_numberOfLeadingZeros_73 rfl (lv_at hl 1 rfl) ?_
          refine lv_iload_n hx hb dd_I_numberOfLeadingZeros_74 rfl (lv_at hl 0 rfl) ?_
          refine lv_iconst (v := nI 1) hx hb dd_I_numberOfLeadingZeros_75 (by decide) ?_
          refine lv_iushr (v := ((nI (a / 256)).toUInt32 >>> ((nI 1).toUInt32 &&& Int32.toUInt32 31)).toInt32) hx hb dd_I_numberOfLeadingZeros_76 rfl ?_
          refine ct_topi (y := nI (a / 256 / 2)) (pk_ushrN (by omega) (nI 1) 1 (by decide)) ?_
          refine lv_isub hx hb dd_I_numberOfLeadingZeros_77 ?_
          refine ct_topi (y := nI (23 - (a / 256 / 2))) (pk_sub (by omega)) ?_
          refine ct_iret (u := ()) hx hb hr hlocks hK hP hD hS rfl ?_ dd_I_numberOfLeadingZeros_78
          exact cz_end (a := a) (s := 8) (by omega) h1 h2 (by omega) (by omega) (by decide)
        have c_63 : ¬ ((a / 256) < 4) := fun z => c_63 ((nI_ltI (by omega) (by omega)).mpr z)
        refine lv_iinc (v := nI 21) (lv' := [(1, .int (nI 21)), (0, .int (nI (a / 256)))]) hx hb dd_I_numberOfLeadingZeros_66 hl (k := 1) rfl (by decide) (by decide) rfl (fun ls hl => ?_)
        refine lv_iload_n hx hb dd_I_numberOfLeadingZeros_69 rfl (lv_at hl 1 rfl) ?_
        refine lv_iconst (v := nI 2) hx hb dd_I_numberOfLeadingZeros_70 (by decide) ?_
        refine lv_iushr (v := ((nI (a / 256)).toUInt32 >>> ((nI 2).toUInt32 &&& Int32.toUInt32 31)).toInt32) hx hb dd_I_numberOfLeadingZeros_71 rfl ?_
        refine ct_topi (y := nI (a / 256 / 4)) (pk_ushrN (by omega) (nI 2) 2 (by decide)) ?_
        refine lv_istore_n (lv' := [(0, .int (nI (a / 256 / 4))), (1, .int (nI 21))]) hx hb dd_I_numberOfLeadingZeros_72 rfl hl (by decide) rfl (fun ls hl => ?_)
        refine lv_iload_n hx hb dd_I_numberOfLeadingZeros_73 rfl (lv_at hl 1 rfl) ?_
        refine lv_iload_n hx hb dd_I_numberOfLeadingZeros_74 rfl (lv_at hl 0 rfl) ?_
        refine lv_iconst (v := nI 1) hx hb dd_I_numberOfLeadingZeros_75 (by decide) ?_
        refine lv_iushr (v := ((nI (a / 256 / 4)).toUInt32 >>> ((nI 1).toUInt32 &&& Int32.toUInt32 31)).toInt32) hx hb dd_I_numberOfLeadingZeros_76 rfl ?_
        refine ct_topi (y := nI (a / 256 / 4 / 2)) (pk_ushrN (by omega) (nI 1) 1 (by decide)) ?_
        refine lv_isub hx hb dd_I_numberOfLeadingZeros_77 ?_
        refine ct_topi (y := nI (21 - (a / 256 / 4 / 2))) (pk_sub (by omega)) ?_
        refine ct_iret (u := ()) hx hb hr hlocks hK hP hD hS rfl ?_ dd_I_numberOfLeadingZeros_78
        exact cz_end (a := a) (s := 10) (by omega) h1 h2 (by omega) (by omega) (by decide)
      have c_51 : ¬ ((a / 256) < 16) := fun z => c_51 ((nI_ltI (by omega) (by omega)).mpr z)
      refine lv_iinc (v := nI 19) (lv' := [(1, .int (nI 19)), (0, .int (nI (a / 256)))]) hx hb dd_I_numberOfLeadingZeros_54 hl (k := 1) rfl (by decide) (by decide) rfl (fun ls hl => ?_)
      refine lv_iload_n hx hb dd_I_numberOfLeadingZeros_57 rfl (lv_at hl 1 rfl) ?_
      refine lv_iconst (v := nI 4) hx hb dd_I_numberOfLeadingZeros_58 (by decide) ?_
      refine lv_iushr (v := ((nI (a / 256)).toUInt32 >>> ((nI 4).toUInt32 &&& Int32.toUInt32 31)).toInt32) hx hb dd_I_numberOfLeadingZeros_59 rfl ?_
      refine ct_topi (y := nI (a / 256 / 16)) (pk_ushrN (by omega) (nI 4) 4 (by decide)) ?_
      refine lv_istore_n (lv' := [(0, .int (nI (a / 256 / 16))), (1, .int (nI 19))]) hx hb dd_I_numberOfLeadingZeros_60 rfl hl (by decide) rfl (fun ls hl => ?_)
      refine lv_iload_n hx hb dd_I_numberOfLeadingZeros_61 rfl (lv_at hl 0 rfl) ?_
      refine lv_iconst (v := nI 4) hx hb dd_I_numberOfLeadingZeros_62 (by decide) ?_
      refine lv_icmp_lt (tgt := 73) hx hb dd_I_numberOfLeadingZeros_63 (by decide) (fun c_63 => ?_) (fun c_63 => ?_)
      · skip
        have c_63 : (a / 256 / 16) < 4 := (nI_ltI (by omega) (by omega)).mp c_63
        refine lv_iload_n hx hb dd_I_numberOfLeadingZeros_73 rfl (lv_at hl 1 rfl) ?_
        refine lv_iload_n hx hb dd_I_numberOfLeadingZeros_74 rfl (lv_at hl 0 rfl) ?_
        refine lv_iconst (v := nI 1) hx hb dd_I_numberOfLeadingZeros_75 (by decide) ?_
        refine lv_iushr (v := ((nI (a / 256 / 16)).toUInt32 >>> ((nI 1).toUInt32 &&& Int32.toUInt32 31)).toInt32) hx hb dd_I_numberOfLeadingZeros_76 rfl ?_
        refine ct_topi (y := nI (a / 256 / 16 / 2)) (pk_ushrN (by omega) (nI 1) 1 (by decide)) ?_
        refine lv_isub hx hb dd_I_numberOfLeadingZeros_77 ?_
        refine ct_topi (y := nI (19 - (a / 256 / 16 / 2))) (pk_sub (by omega)) ?_
        refine ct_iret (u := ()) hx hb hr hlocks hK hP hD hS rfl ?_ dd_I_numberOfLeadingZeros_78
        exact cz_end (a := a) (s := 12) (by omega) h1 h2 (by omega) (by omega) (by decide)
      have c_63 : ¬ ((a / 256 / 16) < 4) := fun z => c_63 ((nI_ltI (by omega) (by omega)).mpr z)
      refine lv_iinc (v := nI 17) (lv' := [(1, .int (nI 17)), (0, .int (nI (a / 256 / 16)))]) hx hb dd_I_numberOfLeadingZeros_66 hl (k := 1) rfl (by decide) (by decide) rfl (fun ls hl => ?_)
      refine lv_iload_n hx hb dd_I_numberOfLeadingZeros_69 rfl (lv_at hl 1 rfl) ?_
      refine lv_iconst (v := nI 2) hx hb dd_I_numberOfLeadingZeros_70 (by decide) ?_
      refine lv_iushr (v := ((nI (a / 256 / 16)).toUInt32 >>> ((nI 2).toUInt32 &&& Int32.toUInt32 31)).toInt32) hx hb dd_I_numberOfLeadingZeros_71 rfl ?_
      refine ct_topi (y := nI (a / 256 / 16 / 4)) (pk_ushrN (by omega) (nI 2) 2 (by decide)) ?_
      refine lv_istore_n (lv' := [(0, .int (nI (a / 256 / 16 / 4))), (1, .int (nI 17))]) hx hb dd_I_numberOfLeadingZeros_72 rfl hl (by decide) rfl (fun ls hl => ?_)
      refine lv_iload_n hx hb dd_I_numberOfLeadingZeros_73 rfl (lv_at hl 1 rfl) ?_
      refine lv_iload_n hx hb dd_I_numberOfLeadingZeros_74 rfl (lv_at hl 0 rfl) ?_
      refine lv_iconst (v := nI 1) hx hb dd_I_numberOfLeadingZeros_75 (by decide) ?_
      refine lv_iushr (v := ((nI (a / 256 / 16 / 4)).toUInt32 >>> ((nI 1).toUInt32 &&& Int32.toUInt32 31)).toInt32) hx hb dd_I_numberOfLeadingZeros_76 rfl ?_
      refine ct_topi (y := nI (a / 256 / 16 / 4 / 2)) (pk_ushrN (by omega) (nI 1) 1 (by decide)) ?_
      refine lv_isub hx hb dd_I_numberOfLeadingZeros_77 ?_
      refine ct_topi (y := nI (17 - (a / 256 / 16 / 4 / 2))) (pk_sub (by omega)) ?_
      refine ct_iret (u := ()) hx hb hr hlocks hK hP hD hS rfl ?_ dd_I_numberOfLeadingZeros_78
      exact cz_end (a := a) (s := 14) (by omega) h1 h2 (by omega) (by omega) (by decide)
    have c_22 : ¬ (a < 65536) := fun z => c_22 ((nI_ltI (by omega) (by omega)).mpr z)
    refine lv_iinc (v := nI 15) (lv' := [(1, .int (nI 15)), (0, .int (nI a))]) hx hb dd_I_numberOfLeadingZeros_25 hl (k := 0) rfl (by decide) (by decide) rfl (fun ls hl => ?_)
    refine lv_iload_n hx hb dd_I_numberOfLeadingZeros_28 rfl (lv_at hl 1 rfl) ?_
    refine lv_bipush (v := nI 16) hx hb dd_I_numberOfLeadingZeros_29 (by decide) ?_
    refine lv_iushr (v := ((nI a).toUInt32 >>> ((nI 16).toUInt32 &&& Int32.toUInt32 31)).toInt32) hx hb dd_I_numberOfLeadingZeros_31 rfl ?_
    refine ct_topi (y := nI (a / 65536)) (pk_ushrN (by omega) (nI 16) 16 (by decide)) ?_
    refine lv_istore_n (lv' := [(0, .int (nI (a / 65536))), (1, .int (nI 15))]) hx hb dd_I_numberOfLeadingZeros_32 rfl hl (by decide) rfl (fun ls hl => ?_)
    refine lv_iload_n hx hb dd_I_numberOfLeadingZeros_33 rfl (lv_at hl 0 rfl) ?_
    refine lv_sipush (v := nI 256) hx hb dd_I_numberOfLeadingZeros_34 (by decide) ?_
    refine lv_icmp_lt (tgt := 48) hx hb dd_I_numberOfLeadingZeros_37 (by decide) (fun c_37 => ?_) (fun c_37 => ?_)
    · skip
      have c_37 : (a / 65536) < 256 := (nI_ltI (by omega) (by omega)).mp c_37
      refine lv_iload_n hx hb dd_I_numberOfLeadingZeros_48 rfl (lv_at hl 0 rfl) ?_
      refine lv_bipush (v := nI 16) hx hb dd_I_numberOfLeadingZeros_49 (by decide) ?_
      refine lv_icmp_lt (tgt := 61) hx hb dd_I_numberOfLeadingZeros_51 (by decide) (fun c_51 => ?_) (fun c_51 => ?_)
      · skip
        have c_51 : (a / 65536) < 16 := (nI_ltI (by omega) (by omega)).mp c_51
        refine lv_iload_n hx hb dd_I_numberOfLeadingZeros_61 rfl (lv_at hl 0 rfl) ?_
        refine lv_iconst (v := nI 4) hx hb dd_I_numberOfLeadingZeros_62 (by decide) ?_
        refine lv_icmp_lt (tgt := 73) hx hb dd_I_numberOfLeadingZeros_63 (by decide) (fun c_63 => ?_) (fun c_63 => ?_)
        · skip
          have c_63 : (a / 65536) < 4 := (nI_ltI (by omega) (by omega)).mp c_63
          refine lv_iload_n hx hb dd_I_numberOfLeadingZeros_73 rfl (lv_at hl 1 rfl) ?_
          refine lv_iload_n hx hb dd_I_numberOfLeadingZeros_74 rfl (lv_at hl 0 rfl) ?_
          refine lv_iconst (v := nI 1) hx hb dd_I_numberOfLeadingZeros_75 (by decide) ?_
          refine lv_iushr (v := ((nI (a / 65536)).toUInt32 >>> ((nI 1).toUInt32 &&& Int32.toUInt32 31)).toInt32) hx hb dd_I_numberOfLeadingZeros_76 rfl ?_
          refine ct_topi (y := nI (a / 65536 / 2)) (pk_ushrN (by omega) (nI 1) 1 (by decide)) ?_
          refine lv_isub hx hb dd_I_numberOfLeadingZeros_77 ?_
          refine ct_topi (y := nI (15 - (a / 65536 / 2))) (pk_sub (by omega)) ?_
          refine ct_iret (u := ()) hx hb hr hlocks hK hP hD hS rfl ?_ dd_I_numberOfLeadingZeros_78
          exact cz_end (a := a) (s := 16) (by omega) h1 h2 (by omega) (by omega) (by decide)
        have c_63 : ¬ ((a / 65536) < 4) := fun z => c_63 ((nI_ltI (by omega) (by omega)).mpr z)
        refine lv_iinc (v := nI 13) (lv' := [(1, .int (nI 13)), (0, .int (nI (a / 65536)))]) hx hb dd_I_numberOfLeadingZeros_66 hl (k := 1) rfl (by decide) (by decide) rfl (fun ls hl => ?_)
        refine lv_iload_n hx hb dd_I_numberOfLeadingZeros_69 rfl (lv_at hl 1 rfl) ?_
        refine lv_iconst (v := nI 2) hx hb dd_I_numberOfLeadingZeros_70 (by decide) ?_
        refine lv_iushr (v := ((nI (a / 65536)).toUInt32 >>> ((nI 2).toUInt32 &&& Int32.toUInt32 31)).toInt32) hx hb dd_I_numberOfLeadingZeros_71 rfl ?_
        refine ct_topi (y := nI (a / 65536 / 4)) (pk_ushrN (by omega) (nI 2) 2 (by decide)) ?_
        refine lv_istore_n (lv' := [(0, .int (nI (a / 65536 / 4))), (1, .int (nI 13))]) hx hb dd_I_numberOfLeadingZeros_72 rfl hl (by decide) rfl (fun ls hl => ?_)
        refine lv_iload_n hx hb dd_I_numberOfLeadingZeros_73 rfl (lv_at hl 1 rfl) ?_
        refine lv_iload_n hx hb dd_I_numberOfLeadingZeros_74 rfl (lv_at hl 0 rfl) ?_
        refine lv_iconst (v := nI 1) hx hb dd_I_numberOfLeadingZeros_75 (by decide) ?_
        refine lv_iushr (v := ((nI (a / 65536 / 4)).toUInt32 >>> ((nI 1).toUInt32 &&& Int32.toUInt32 31)).toInt32) hx hb dd_I_numberOfLeadingZeros_76 rfl ?_
        refine ct_topi (y := nI (a / 65536 / 4 / 2)) (pk_ushrN (by omega) (nI 1) 1 (by decide)) ?_
        refine lv_isub hx hb dd_I_numberOfLeadingZeros_77 ?_
        refine ct_topi (y := nI (13 - (a / 65536 / 4 / 2))) (pk_sub (by omega)) ?_
        refine ct_iret (u := ()) hx hb hr hlocks hK hP hD hS rfl ?_ dd_I_numberOfLeadingZeros_78
        exact cz_end (a := a) (s := 18) (by omega) h1 h2 (by omega) (by omega) (by decide)
      have c_51 : ¬ ((a / 65536) < 16) := fun z => c_51 ((nI_ltI (by omega) (by omega)).mpr z)
      refine lv_iinc (v := nI 11) (lv' := [(1, .int (nI 11)), (0, .int (nI (a / 65536)))]) hx hb dd_I_numberOfLeadingZeros_54 hl (k := 1) rfl (by decide) (by decide) rfl (fun ls hl => ?_)
      refine lv_iload_n hx hb dd_I_numberOfLeadingZeros_57 rfl (lv_at hl 1 rfl) ?_
      refine lv_iconst (v := nI 4) hx hb dd_I_numberOfLeadingZeros_58 (by decide) ?_
      refine lv_iushr (v := ((nI (a / 65536)).toUInt32 >>> ((nI 4).toUInt32 &&& Int32.toUInt32 31)).toInt32) hx hb dd_I_numberOfLeadingZeros_59 rfl ?_
      refine ct_topi (y := nI (a / 65536 / 16)) (pk_ushrN (by omega) (nI 4) 4 (by decide)) ?_
      refine lv_istore_n (lv' := [(0, .int (nI (a / 65536 / 16))), (1, .int (nI 11))]) hx hb dd_I_numberOfLeadingZeros_60 rfl hl (by decide) rfl (fun ls hl => ?_)
      refine lv_iload_n hx hb dd_I_numberOfLeadingZeros_61 rfl (lv_at hl 0 rfl) ?_
      refine lv_iconst (v := nI 4) hx hb dd_I_numberOfLeadingZeros_62 (by decide) ?_
      refine lv_icmp_lt (tgt := 73) hx hb dd_I_numberOfLeadingZeros_63 (by decide) (fun c_63 => ?_) (fun c_63 => ?_)
      · skip
        have c_63 : (a / 65536 / 16) < 4 := (nI_ltI (by omega) (by omega)).mp c_63
        refine lv_iload_n hx hb dd_I_numberOfLeadingZeros_73 rfl (lv_at hl 1 rfl) ?_
        refine lv_iload_n hx hb dd_I_numberOfLeadingZeros_74 rfl (lv_at hl 0 rfl) ?_
        refine lv_iconst (v := nI 1) hx hb dd_I_numberOfLeadingZeros_75 (by decide) ?_
        refine lv_iushr (v := ((nI (a / 65536 / 16)).toUInt32 >>> ((nI 1).toUInt32 &&& Int32.toUInt32 31)).toInt32) hx hb dd_I_numberOfLeadingZeros_76 rfl ?_
        refine ct_topi (y := nI (a / 65536 / 16 / 2)) (pk_ushrN (by omega) (nI 1) 1 (by decide)) ?_
        refine lv_isub hx hb dd_I_numberOfLeadingZeros_77 ?_
        refine ct_topi (y := nI (11 - (a / 65536 / 16 / 2))) (pk_sub (by omega)) ?_
        refine ct_iret (u := ()) hx hb hr hlocks hK hP hD hS rfl ?_ dd_I_numberOfLeadingZeros_78
        exact cz_end (a := a) (s := 20) (by omega) h1 h2 (by omega) (by omega) (by decide)
      have c_63 : ¬ ((a / 65536 / 16) < 4) := fun z => c_63 ((nI_ltI (by omega) (by omega)).mpr z)
      refine lv_iinc (v := nI 9) (lv' := [(1, .int (nI 9)), (0, .int (nI (a / 65536 / 16)))]) hx hb dd_I_numberOfLeadingZeros_66 hl (k := 1) rfl (by decide) (by decide) rfl (fun ls hl => ?_)
      refine lv_iload_n hx hb dd_I_numberOfLeadingZeros_69 rfl (lv_at hl 1 rfl) ?_
      refine lv_iconst (v := nI 2) hx hb dd_I_numberOfLeadingZeros_70 (by decide) ?_
      refine lv_iushr (v := ((nI (a / 65536 / 16)).toUInt32 >>> ((nI 2).toUInt32 &&& Int32.toUInt32 31)).toInt32) hx hb dd_I_numberOfLeadingZeros_71 rfl ?_
      refine ct_topi (y := nI (a / 65536 / 16 / 4)) (pk_ushrN (by omega) (nI 2) 2 (by decide)) ?_
      refine lv_istore_n (lv' := [(0, .int (nI (a / 65536 / 16 / 4))), (1, .int (nI 9))]) hx hb dd_I_numberOfLeadingZeros_72 rfl hl (by decide) rfl (fun ls hl => ?_)
      refine lv_iload_n hx hb dd_I_numberOfLeadingZeros_73 rfl (lv_at hl 1 rfl) ?_
      refine lv_iload_n hx hb dd_I_numberOfLeadingZeros_74 rfl (lv_at hl 0 rfl) ?_
      refine lv_iconst (v := nI 1) hx hb dd_I_numberOfLeadingZeros_75 (by decide) ?_
      refine lv_iushr (v := ((nI (a / 65536 / 16 / 4)).toUInt32 >>> ((nI 1).toUInt32 &&& Int32.toUInt32 31)).toInt32) hx hb dd_I_numberOfLeadingZeros_76 rfl ?_
      refine ct_topi (y := nI (a / 65536 / 16 / 4 / 2)) (pk_ushrN (by omega) (nI 1) 1 (by decide)) ?_
      refine lv_isub hx hb dd_I_numberOfLeadingZeros_77 ?_
      refine ct_topi (y := nI (9 - (a / 65536 / 16 / 4 / 2))) (pk_sub (by omega)) ?_
      refine ct_iret (u := ()) hx hb hr hlocks hK hP hD hS rfl ?_ dd_I_numberOfLeadingZeros_78
      exact cz_end (a := a) (s := 22) (by omega) h1 h2 (by omega) (by omega) (by decide)
    have c_37 : ¬ ((a / 65536) < 256) := fun z => c_37 ((nI_ltI (by omega) (by omega)).mpr z)
    refine lv_iinc (v := nI 7) (lv' := [(1, .int (nI 7)), (0, .int (nI (a / 65536)))]) hx hb dd_I_numberOfLeadingZeros_40 hl (k := 1) rfl (by decide) (by decide) rfl (fun ls hl => ?_)
    refine lv_iload_n hx hb dd_I_numberOfLeadingZeros_43 rfl (lv_at hl 1 rfl) ?_
    refine lv_bipush (v := nI 8) hx hb dd_I_numberOfLeadingZeros_44 (by decide) ?_
    refine lv_iushr (v := ((nI (a / 65536)).toUInt32 >>> ((nI 8).toUInt32 &&& Int32.toUInt32 31)).toInt32) hx hb dd_I_numberOfLeadingZeros_46 rfl ?_
    refine ct_topi (y := nI (a / 65536 / 256)) (pk_ushrN (by omega) (nI 8) 8 (by decide)) ?_
    refine lv_istore_n (lv' := [(0, .int (nI (a / 65536 / 256))), (1, .int (nI 7))]) hx hb dd_I_numberOfLeadingZeros_47 rfl hl (by decide) rfl (fun ls hl => ?_)
    refine lv_iload_n hx hb dd_I_numberOfLeadingZeros_48 rfl (lv_at hl 0 rfl) ?_
    refine lv_bipush (v := nI 16) hx hb dd_I_numberOfLeadingZeros_49 (by decide) ?_
    refine lv_icmp_lt (tgt := 61) hx hb dd_I_numberOfLeadingZeros_51 (by decide) (fun c_51 => ?_) (fun c_51 => ?_)
    · skip
      have c_51 : (a / 65536 / 256) < 16 := (nI_ltI (by omega) (by omega)).mp c_51
      refine lv_iload_n hx hb dd_I_numberOfLeadingZeros_61 rfl (lv_at hl 0 rfl) ?_
      refine lv_iconst (v := nI 4) hx hb dd_I_numberOfLeadingZeros_62 (by decide) ?_
      refine lv_icmp_lt (tgt := 73) hx hb dd_I_numberOfLeadingZeros_63 (by decide) (fun c_63 => ?_) (fun c_63 => ?_)
      · skip
        have c_63 : (a / 65536 / 256) < 4 := (nI_ltI (by omega) (by omega)).mp c_63
        refine lv_iload_n hx hb dd_I_numberOfLeadingZeros_73 rfl (lv_at hl 1 rfl) ?_
        refine lv_iload_n hx hb dd_I_numberOfLeadingZeros_74 rfl (lv_at hl 0 rfl) ?_
        refine lv_iconst (v := nI 1) hx hb dd_I_numberOfLeadingZeros_75 (by decide) ?_
        refine lv_iushr (v := ((nI (a / 65536 / 256)).toUInt32 >>> ((nI 1).toUInt32 &&& Int32.toUInt32 31)).toInt32) hx hb dd_I_numberOfLeadingZeros_76 rfl ?_
        refine ct_topi (y := nI (a / 65536 / 256 / 2)) (pk_ushrN (by omega) (nI 1) 1 (by decide)) ?_
        refine lv_isub hx hb dd_I_numberOfLeadingZeros_77 ?_
        refine ct_topi (y := nI (7 - (a / 65536 / 256 / 2))) (pk_sub (by omega)) ?_
        refine ct_iret (u := ()) hx hb hr hlocks hK hP hD hS rfl ?_ dd_I_numberOfLeadingZeros_78
        exact cz_end (a := a) (s := 24) (by omega) h1 h2 (by omega) (by omega) (by decide)
      have c_63 : ¬ ((a / 65536 / 256) < 4) := fun z => c_63 ((nI_ltI (by omega) (by omega)).mpr z)
      refine lv_iinc (v := nI 5) (lv' := [(1, .int (nI 5)), (0, .int (nI (a / 65536 / 256)))]) hx hb dd_I_numberOfLeadingZeros_66 hl (k := 1) rfl (by decide) (by decide) rfl (fun ls hl => ?_)
      refine lv_iload_n hx hb dd_I_numberOfLeadingZeros_69 rfl (lv_at hl 1 rfl) ?_
      refine lv_iconst (v := nI 2) hx hb dd_I_numberOfLeadingZeros_70 (by decide) ?_
      refine lv_iushr (v := ((nI (a / 65536 / 256)).toUInt32 >>> ((nI 2).toUInt32 &&& Int32.toUInt32 31)).toInt32) hx hb dd_I_numberOfLeadingZeros_71 rfl ?_
      refine ct_topi (y := nI (a / 65536 / 256 / 4)) (pk_ushrN (by omega) (nI 2) 2 (by decide)) ?_
      refine lv_istore_n (lv' := [(0, .int (nI (a / 65536 / 256 / 4))), (1, .int (nI 5))]) hx hb dd_I_numberOfLeadingZeros_72 rfl hl (by decide) rfl (fun ls hl => ?_)
      refine lv_iload_n hx hb dd_I_numberOfLeadingZeros_73 rfl (lv_at hl 1 rfl) ?_
      refine lv_iload_n hx hb dd_I_numberOfLeadingZeros_74 rfl (lv_at hl 0 rfl) ?_
      refine lv_iconst (v := nI 1) hx hb dd_I_numberOfLeadingZeros_75 (by decide) ?_
      refine lv_iushr (v := ((nI (a / 65536 / 256 / 4)).toUInt32 >>> ((nI 1).toUInt32 &&& Int32.toUInt32 31)).toInt32) hx hb dd_I_numberOfLeadingZeros_76 rfl ?_
      refine ct_topi (y := nI (a / 65536 / 256 / 4 / 2)) (pk_ushrN (by omega) (nI 1) 1 (by decide)) ?_
      refine lv_isub hx hb dd_I_numberOfLeadingZeros_77 ?_
      refine ct_topi (y := nI (5 - (a / 65536 / 256 / 4 / 2))) (pk_sub (by omega)) ?_
      refine ct_iret (u := ()) hx hb hr hlocks hK hP hD hS rfl ?_ dd_I_numberOfLeadingZeros_78
      exact cz_end (a := a) (s := 26) (by omega) h1 h2 (by omega) (by omega) (by decide)
    have c_51 : ¬ ((a / 65536 / 256) < 16) := fun z => c_51 ((nI_ltI (by omega) (by omega)).mpr z)
    refine lv_iinc (v := nI 3) (lv' := [(1, .int (nI 3)), (0, .int (nI (a / 65536 / 256)))]) hx hb dd_I_numberOfLeadingZeros_54 hl (k := 1) rfl (by decide) (by decide) rfl (fun ls hl => ?_)
    refine lv_iload_n hx hb dd_I_numberOfLeadingZeros_57 rfl (lv_at hl 1 rfl) ?_
    refine lv_iconst (v := nI 4) hx hb dd_I_numberOfLeadingZeros_58 (by decide) ?_
    refine lv_iushr (v := ((nI (a / 65536 / 256)).toUInt32 >>> ((nI 4).toUInt32 &&& Int32.toUInt32 31)).toInt32) hx hb dd_I_numberOfLeadingZeros_59 rfl ?_
    refine ct_topi (y := nI (a / 65536 / 256 / 16)) (pk_ushrN (by omega) (nI 4) 4 (by decide)) ?_
    refine lv_istore_n (lv' := [(0, .int (nI (a / 65536 / 256 / 16))), (1, .int (nI 3))]) hx hb dd_I_numberOfLeadingZeros_60 rfl hl (by decide) rfl (fun ls hl => ?_)
    refine lv_iload_n hx hb dd_I_numberOfLeadingZeros_61 rfl (lv_at hl 0 rfl) ?_
    refine lv_iconst (v := nI 4) hx hb dd_I_numberOfLeadingZeros_62 (by decide) ?_
    refine lv_icmp_lt (tgt := 73) hx hb dd_I_numberOfLeadingZeros_63 (by decide) (fun c_63 => ?_) (fun c_63 => ?_)
    · skip
      have c_63 : (a / 65536 / 256 / 16) < 4 := (nI_ltI (by omega) (by omega)).mp c_63
      refine lv_iload_n hx hb dd_I_numberOfLeadingZeros_73 rfl (lv_at hl 1 rfl) ?_
      refine lv_iload_n hx hb dd_I_numberOfLeadingZeros_74 rfl (lv_at hl 0 rfl) ?_
      refine lv_iconst (v := nI 1) hx hb dd_I_numberOfLeadingZeros_75 (by decide) ?_
      refine lv_iushr (v := ((nI (a / 65536 / 256 / 16)).toUInt32 >>> ((nI 1).toUInt32 &&& Int32.toUInt32 31)).toInt32) hx hb dd_I_numberOfLeadingZeros_76 rfl ?_
      refine ct_topi (y := nI (a / 65536 / 256 / 16 / 2)) (pk_ushrN (by omega) (nI 1) 1 (by decide)) ?_
      refine lv_isub hx hb dd_I_numberOfLeadingZeros_77 ?_
      refine ct_topi (y := nI (3 - (a / 65536 / 256 / 16 / 2))) (pk_sub (by omega)) ?_
      refine ct_iret (u := ()) hx hb hr hlocks hK hP hD hS rfl ?_ dd_I_numberOfLeadingZeros_78
      exact cz_end (a := a) (s := 28) (by omega) h1 h2 (by omega) (by omega) (by decide)
    have c_63 : ¬ ((a / 65536 / 256 / 16) < 4) := fun z => c_63 ((nI_ltI (by omega) (by omega)).mpr z)
    refine lv_iinc (v := nI 1) (lv' := [(1, .int (nI 1)), (0, .int (nI (a / 65536 / 256 / 16)))]) hx hb dd_I_numberOfLeadingZeros_66 hl (k := 1) rfl (by decide) (by decide) rfl (fun ls hl => ?_)
    refine lv_iload_n hx hb dd_I_numberOfLeadingZeros_69 rfl (lv_at hl 1 rfl) ?_
    refine lv_iconst (v := nI 2) hx hb dd_I_numberOfLeadingZeros_70 (by decide) ?_
    refine lv_iushr (v := ((nI (a / 65536 / 256 / 16)).toUInt32 >>> ((nI 2).toUInt32 &&& Int32.toUInt32 31)).toInt32) hx hb dd_I_numberOfLeadingZeros_71 rfl ?_
    refine ct_topi (y := nI (a / 65536 / 256 / 16 / 4)) (pk_ushrN (by omega) (nI 2) 2 (by decide)) ?_
    refine lv_istore_n (lv' := [(0, .int (nI (a / 65536 / 256 / 16 / 4))), (1, .int (nI 1))]) hx hb dd_I_numberOfLeadingZeros_72 rfl hl (by decide) rfl (fun ls hl => ?_)
    refine lv_iload_n hx hb dd_I_numberOfLeadingZeros_73 rfl (lv_at hl 1 rfl) ?_
    refine lv_iload_n hx hb dd_I_numberOfLeadingZeros_74 rfl (lv_at hl 0 rfl) ?_
    refine lv_iconst (v := nI 1) hx hb dd_I_numberOfLeadingZeros_75 (by decide) ?_
    refine lv_iushr (v := ((nI (a / 65536 / 256 / 16 / 4)).toUInt32 >>> ((nI 1).toUInt32 &&& Int32.toUInt32 31)).toInt32) hx hb dd_I_numberOfLeadingZeros_76 rfl ?_
    refine ct_topi (y := nI (a / 65536 / 256 / 16 / 4 / 2)) (pk_ushrN (by omega) (nI 1) 1 (by decide)) ?_
    refine lv_isub hx hb dd_I_numberOfLeadingZeros_77 ?_
    refine ct_topi (y := nI (1 - (a / 65536 / 256 / 16 / 4 / 2))) (pk_sub (by omega)) ?_
    refine ct_iret (u := ()) hx hb hr hlocks hK hP hD hS rfl ?_ dd_I_numberOfLeadingZeros_78
    exact cz_end (a := a) (s := 30) (by omega) h1 h2 (by omega) (by omega) (by decide)
  have c_1 : ¬ (a < 2147483648) := fun z => c_1 ((cz_gt (n := a) ha ha0).mpr z)
  refine lv_iload_n hx hb dd_I_numberOfLeadingZeros_4 rfl (lv_at hl 0 rfl) ?_
  refine lv_if_ne (tgt := 13) hx hb dd_I_numberOfLeadingZeros_5 (by decide) (fun c_5 => ?_) (fun c_5 => ?_)
  · skip
    have c_5 : ¬ (a = 0) := fun z => c_5 ((cz_eq0 (n := a) ha).mpr z)
    refine lv_iconst (v := nI 0) hx hb dd_I_numberOfLeadingZeros_13 (by decide) ?_
    refine ct_iret (u := ()) hx hb hr hlocks hK hP hD hS rfl ?_ dd_I_numberOfLeadingZeros_14
    have hm := cz_pw h1 (show a < 2 ^ 32 from ha)
    have hm2 := cz_pw (m := 31) (a := a) (by omega) h2
    have : mm = 31 := by omega
    subst this
    rfl
  have c_5 : a = 0 := (cz_eq0 (n := a) ha).mp c_5
  exfalso
  omega

set_option maxHeartbeats 4000000 in
set_option maxRecDepth 100000 in
theorem cc_J_numberOfLeadingZeros (l : Launch) (D : va_G) (cJ cB : ClassId) (a mm : Nat) (sz : Nat) (ha : a < 18446744073709551616) (h1 : 2 ^ mm ≤ a) (h2 : a < 2 ^ (mm + 1)) : ct_i l my_J_numberOfLeadingZeros (Cond.code my_J_numberOfLeadingZeros mb_J_numberOfLeadingZeros 3 (some .int) :: TB) ({ frames := 1, cells := 0, slots := 0, locals := 21 } : Room) D classes cJ cB [.long (lN a)] [] sz (fun (r : Int32) (u : Unit) => r = nI (63 - mm)) (fun u => ([] : va_W)) 0 0 := by
  refine ct_ofW (cc := mb_J_numberOfLeadingZeros) (maxL := 3) (ret := some .int) (by decide) rfl (Nat.le_of_ble_eq_true rfl) ?_
  intro p e s m below meth c hx hb hr hml hts hown hlocks hin hsz hK hP hD hA hS hZ ls hl
  have hw : ∀ w ∈ TB, w.before _ s = true := fun w h => hts w (List.mem_cons_of_mem _ h)
  have hown : s.vm.findClass cn_J = some m.cls := hown
  have hin : meth.name = "numberOfLeadingZeros" := hin
  generalize hAe : va_A [] sz = A at hD hA hS hZ ⊢
  clear hAe
  have hl : lv_has ls 3 [(0, .long (lN a))] := hl
  have hP : va_P D classes [] s.heap := hP
  refine lv_lload_n hx hb dd_J_numberOfLeadingZeros_0 rfl (lv_at hl 0 rfl) ?_
  refine lv_bipush (v := nI 32) hx hb dd_J_numberOfLeadingZeros_1 (by decide) ?_
  refine lv_lushr (v := ((lN a).toUInt64 >>> ((nI 32).toInt64.toUInt64 &&& Int64.toUInt64 63)).toInt64) hx hb dd_J_numberOfLeadingZeros_3 rfl ?_
  refine ct_topl (y := lN (a / 4294967296)) (wb_shr (k := 32) ha (by decide)) ?_
  refine lv_l2i (v := (lN (a / 4294967296)).toInt32) hx hb dd_J_numberOfLeadingZeros_4 rfl ?_
  refine ct_topi (y := nI (a / 4294967296)) (lN_i _) ?_
  refine lv_istore_n (lv' := [(2, .int (nI (a / 4294967296))), (0, .long (lN a))]) hx hb dd_J_numberOfLeadingZeros_5 rfl hl (by decide) rfl (fun ls hl => ?_)
  refine lv_iload_n hx hb dd_J_numberOfLeadingZeros_6 rfl (lv_at hl 0 rfl) ?_
  refine lv_if_ne (tgt := 21) hx hb dd_J_numberOfLeadingZeros_7 (by decide) (fun c_7 => ?_) (fun c_7 => ?_)
  · skip
    have c_7 : ¬ (a / 4294967296 = 0) := fun z => c_7 ((cz_eq0 (n := a / 4294967296) (by omega)).mpr z)
    refine lv_iload_n hx hb dd_J_numberOfLeadingZeros_21 rfl (lv_at hl 0 rfl) ?_
    have hm := cz_ge h2 c_7
    have hd := cz_div hm h1 h2
    have hm2 : mm < 64 := cz_pw h1 (show a < 2 ^ 64 from ha)
    refine ct_behind_i (wc := []) (wr := []) (av := [.int (nI (a / 4294967296))]) (va_runS (As := [.int (nI (a / 4294967296))]) (rest := []) ⟨hx, hb, hml, hown, hw⟩ (cc_I_numberOfLeadingZeros l D cJ cB (a / 4294967296) (mm - 32) _ (by omega) hd.1 hd.2) (va_cwS 1 hw (tb_S wi_324 wi_325 wi_35 wi_326) rfl rfl rfl (by decide +kernel) ⟨Nat.le_of_ble_eq_true rfl, Nat.le_of_ble_eq_true rfl⟩) ⟨ct_blind, ct_pc hZ hK hP hD hS hA [] rfl (by decide)⟩ rfl rfl hl.1 rfl (lv_room (Nat.le_of_ble_eq_true rfl)) dd_J_numberOfLeadingZeros_22 ⟨Nat.le_of_ble_eq_true rfl, Nat.le_of_ble_eq_true rfl⟩) hK hP hD hS hA [] [] rfl rfl (by decide) (by decide) (fun r_22 u_22 H locs hw_22 hP hD hS => ?_)
    subst hw_22
    have hP : va_P D classes [] H := hP
    have hD : va_D A [] := hD
    refine ct_iret (u := ()) hx hb hr hlocks hK hP hD hS rfl ?_ dd_J_numberOfLeadingZeros_25
    exact congrArg nI (by omega)
  have c_7 : a / 4294967296 = 0 := (cz_eq0 (n := a / 4294967296) (by omega)).mp c_7
  refine lv_bipush (v := nI 32) hx hb dd_J_numberOfLeadingZeros_10 (by decide) ?_
  refine lv_lload_n hx hb dd_J_numberOfLeadingZeros_12 rfl (lv_at hl 1 rfl) ?_
  refine lv_l2i (v := (lN a).toInt32) hx hb dd_J_numberOfLeadingZeros_13 rfl ?_
  refine ct_topi (y := nI a) (lN_i _) ?_
  have hm : mm < 32 := cz_pw h1 (show a < 2 ^ 32 by omega)
  refine ct_behind_i (wc := []) (wr := []) (av := [.int (nI a)]) (va_runS (As := [.int (nI a)]) (rest := [.int (nI 32)]) ⟨hx, hb, hml, hown, hw⟩ (cc_I_numberOfLeadingZeros l D cJ cB a mm _ (by omega) h1 h2) (va_cwS 1 hw (tb_S wi_324 wi_325 wi_35 wi_326) rfl rfl rfl (by decide +kernel) ⟨Nat.le_of_ble_eq_true rfl, Nat.le_of_ble_eq_true rfl⟩) ⟨ct_blind, ct_pc hZ hK hP hD hS hA [] rfl (by decide)⟩ rfl rfl hl.1 rfl (lv_room (Nat.le_of_ble_eq_true rfl)) dd_J_numberOfLeadingZeros_14 ⟨Nat.le_of_ble_eq_true rfl, Nat.le_of_ble_eq_true rfl⟩) hK hP hD hS hA [] [] rfl rfl (by decide) (by decide) (fun r_14 u_14 H locs hw_14 hP hD hS => ?_)
  subst hw_14
  have hP : va_P D classes [] H := hP
  have hD : va_D A [] := hD
  refine lv_iadd hx hb dd_J_numberOfLeadingZeros_17 ?_
  refine ct_topi (y := nI (32 + (31 - mm))) (nI_add _ _) ?_
  refine lv_goto (tgt := 25) hx hb dd_J_numberOfLeadingZeros_18 (by decide) ?_
  refine ct_iret (u := ()) hx hb hr hlocks hK hP hD hS rfl ?_ dd_J_numberOfLeadingZeros_25
  exact congrArg nI (by omega)

set_option maxHeartbeats 4000000 in
set_option maxRecDepth 100000 in
theorem cc_I_numberOfTrailingZeros (l : Launch) (D : va_G) (cJ cB : ClassId) (a t b : Nat) (sz : Nat) (ht : t < 32) (h : a = 2 ^ (t + 1) * b + 2 ^ t) : ct_i l my_I_numberOfTrailingZeros (Cond.code my_I_numberOfTrailingZeros mb_I_numberOfTrailingZeros 2 (some .int) :: TB) ({ frames := 0, cells := 0, slots := 0, locals := 0 } : Room) D classes cJ cB [.int (nI a)] [] sz (fun (r : Int32) (u : Unit) => r = nI t) (fun u => ([] : va_W)) 0 0 := by
  refine ct_ofW (cc := mb_I_numberOfTrailingZeros) (maxL := 2) (ret := some .int) (by decide) rfl (Nat.le_of_ble_eq_true rfl) ?_
  intro p e s m below meth c hx hb hr hml hts hown hlocks hin hsz hK hP hD hA hS hZ ls hl
  have hw : ∀ w ∈ TB, w.before _ s = true := fun w h => hts w (List.mem_cons_of_mem _ h)
  have hown : s.vm.findClass cn_I = some m.cls := hown
  have hin : meth.name = "numberOfTrailingZeros" := hin
  generalize hAe : va_A [] sz = A at hD hA hS hZ ⊢
  clear hAe
  have hp0 : 2 ^ t ≤ 2147483648 := cz_p (by omega)
  have ha1 : 1 ≤ a := by have := Nat.two_pow_pos t; omega
  have hl : lv_has ls 2 [(0, .int (nI a))] := hl
  have hP : va_P D classes [] s.heap := hP
  refine lv_iload_n hx hb dd_I_numberOfTrailingZeros_0 rfl (lv_at hl 0 rfl) ?_
  refine lv_iconst (v := (-1)) hx hb dd_I_numberOfTrailingZeros_1 (by decide) ?_
  refine lv_ixor hx hb dd_I_numberOfTrailingZeros_2 ?_
  refine lv_iload_n hx hb dd_I_numberOfTrailingZeros_3 rfl (lv_at hl 0 rfl) ?_
  refine lv_iconst (v := nI 1) hx hb dd_I_numberOfTrailingZeros_4 (by decide) ?_
  refine lv_isub hx hb dd_I_numberOfTrailingZeros_5 ?_
  refine ct_topi (y := nI (a - 1)) (pk_sub (by exact ha1)) ?_
  refine lv_iand hx hb dd_I_numberOfTrailingZeros_6 ?_
  refine ct_topi (y := nI (2 ^ t - 1)) (cz_low ht h) ?_
  refine lv_istore_n (lv' := [(0, .int (nI (2 ^ t - 1)))]) hx hb dd_I_numberOfTrailingZeros_7 rfl hl (by decide) rfl (fun ls hl => ?_)
  refine lv_iload_n hx hb dd_I_numberOfTrailingZeros_8 rfl (lv_at hl 0 rfl) ?_
  refine lv_if_gt (tgt := 17) hx hb dd_I_numberOfTrailingZeros_9 (by decide) (fun c_9 => ?_) (fun c_9 => ?_)
  · skip
    have c_9 : 0 < (2 ^ t - 1) := (ct_zgt (by omega)).mp c_9
    have t0 : 0 < t := (cz_c t (by omega)).2.2.2.2.mp (by omega)
    refine lv_iconst (v := nI 1) hx hb dd_I_numberOfTrailingZeros_17 (by decide) ?_
    refine lv_istore_n (lv' := [(1, .int (nI 1)), (0, .int (nI (2 ^ t - 1)))]) hx hb dd_I_numberOfTrailingZeros_18 rfl hl (by decide) rfl (fun ls hl => ?_)
    refine lv_iload_n hx hb dd_I_numberOfTrailingZeros_19 rfl (lv_at hl 1 rfl) ?_
    refine lv_ldcw (v := 65536) hx hb hown (hw _ wi_327) dd_I_numberOfTrailingZeros_20 ?_
    refine ct_topi (y := nI 65536) (by decide) ?_
    refine lv_icmp_le (tgt := 34) hx hb dd_I_numberOfTrailingZeros_23 (by decide) (fun c_23 => ?_) (fun c_23 => ?_)
    · skip
      have c_23 : (2 ^ t - 1) ≤ 65536 := (nI_leI (by omega) (by omega)).mp c_23
      have n_16 : ¬ 16 < t := fun z => absurd ((cz_c t (by omega)).1.mpr z) (by omega)
      refine lv_iload_n hx hb dd_I_numberOfTrailingZeros_34 rfl (lv_at hl 1 rfl) ?_
      refine lv_sipush (v := nI 256) hx hb dd_I_numberOfTrailingZeros_35 (by decide) ?_
      refine lv_icmp_le (tgt := 49) hx hb dd_I_numberOfTrailingZeros_38 (by decide) (fun c_38 => ?_) (fun c_38 => ?_)
      · skip
        have c_38 : (2 ^ t - 1) ≤ 256 := (nI_leI (by omega) (by omega)).mp c_38
        have n_8 : ¬ 8 < t := fun z => absurd ((cz_c t (by omega)).2.1.mpr z) (by omega)
        refine lv_iload_n hx hb dd_I_numberOfTrailingZeros_49 rfl (lv_at hl 1 rfl) ?_
        refine lv_bipush (v := nI 16) hx hb dd_I_numberOfTrailingZeros_50 (by decide) ?_
        refine lv_icmp_le (tgt := 62) hx hb dd_I_numberOfTrailingZeros_52 (by decide) (fun c_52 => ?_) (fun c_52 => ?_)
        · skip
          have c_52 : (2 ^ t - 1) ≤ 16 := (nI_leI (by omega) (by omega)).mp c_52
          have n_4 : ¬ 4 < t := fun z => absurd ((cz_c t (by omega)).2.2.1.mpr z) (by omega)
          refine lv_iload_n hx hb dd_I_numberOfTrailingZeros_62 rfl (lv_at hl 1 rfl) ?_
          refine lv_iconst (v := nI 4) hx hb dd_I_numberOfTrailingZeros_63 (by decide) ?_
          refine lv_icmp_le (tgt := 74) hx hb dd_I_numberOfTrailingZeros_64 (by decide) (fun c_64 => ?_) (fun c_64 => ?_)
          · skip
            have c_64 : (2 ^ t - 1) ≤ 4 := (nI_leI (by omega) (by omega)).mp c_64
            have n_2 : ¬ 2 < t := fun z => absurd ((cz_c t (by omega)).2.2.2.1.mpr z) (by omega)
            refine lv_iload_n hx hb dd_I_numberOfTrailingZeros_74 rfl (lv_at hl 0 rfl) ?_
            refine lv_iload_n hx hb dd_I_numberOfTrailingZeros_75 rfl (lv_at hl 1 rfl) ?_
            refine lv_iconst (v := nI 1) hx hb dd_I_numberOfTrailingZeros_76 (by decide) ?_
            refine lv_iushr (v := ((nI (2 ^ t - 1)).toUInt32 >>> ((nI 1).toUInt32 &&& Int32.toUInt32 31)).toInt32) hx hb dd_I_numberOfTrailingZeros_77 rfl ?_
            refine ct_topi (y := nI ((2 ^ t - 1) / 2)) (pk_ushrN (by omega) (nI 1) 1 (by decide)) ?_
            refine lv_iadd hx hb dd_I_numberOfTrailingZeros_78 ?_
            refine ct_topi (y := nI (1 + ((2 ^ t - 1) / 2))) (nI_add _ _) ?_
            refine ct_iret (u := ()) hx hb hr hlocks hK hP hD hS rfl ?_ dd_I_numberOfTrailingZeros_79
            exact cz_tend (by omega) (by omega)
          have c_64 : ¬ ((2 ^ t - 1) ≤ 4) := fun z => c_64 ((nI_leI (by omega) (by omega)).mpr z)
          have g_2 : 2 < t := (cz_c t (by omega)).2.2.2.1.mp (by omega)
          have hp_2 : 2 ^ (t - 2) ≤ 2147483648 := cz_p (by omega)
          refine lv_iinc (v := nI 3) (lv' := [(1, .int (nI 3)), (0, .int (nI (2 ^ t - 1)))]) hx hb dd_I_numberOfTrailingZeros_67 hl (k := 0) rfl (nI_add 1 2) (by decide) rfl (fun ls hl => ?_)
          refine lv_iload_n hx hb dd_I_numberOfTrailingZeros_70 rfl (lv_at hl 1 rfl) ?_
          refine lv_iconst (v := nI 2) hx hb dd_I_numberOfTrailingZeros_71 (by decide) ?_
          refine lv_iushr (v := ((nI (2 ^ t - 1)).toUInt32 >>> ((nI 2).toUInt32 &&& Int32.toUInt32 31)).toInt32) hx hb dd_I_numberOfTrailingZeros_72 rfl ?_
          refine ct_topi (y := nI (2 ^ (t - 2) - 1)) ((pk_ushrN (by omega) (nI 2) 2 (by decide)).trans (congrArg nI ((cz_s t (by omega)).2.2.2 g_2))) ?_
          refine lv_istore_n (lv' := [(0, .int (nI (2 ^ (t - 2) - 1))), (1, .int (nI 3))]) hx hb dd_I_numberOfTrailingZeros_73 rfl hl (by decide) rfl (fun ls hl => ?_)
          refine lv_iload_n hx hb dd_I_numberOfTrailingZeros_74 rfl (lv_at hl 1 rfl) ?_
          refine lv_iload_n hx hb dd_I_numberOfTrailingZeros_75 rfl (lv_at hl 0 rfl) ?_
          refine lv_iconst (v := nI 1) hx hb dd_I_numberOfTrailingZeros_76 (by decide) ?_
          refine lv_iushr (v := ((nI (2 ^ (t - 2) - 1)).toUInt32 >>> ((nI 1).toUInt32 &&& Int32.toUInt32 31)).toInt32) hx hb dd_I_numberOfTrailingZeros_77 rfl ?_
          refine ct_topi (y := nI ((2 ^ (t - 2) - 1) / 2)) (pk_ushrN (by omega) (nI 1) 1 (by decide)) ?_
          refine lv_iadd hx hb dd_I_numberOfTrailingZeros_78 ?_
          refine ct_topi (y := nI (3 + ((2 ^ (t - 2) - 1) / 2))) (nI_add _ _) ?_
          refine ct_iret (u := ()) hx hb hr hlocks hK hP hD hS rfl ?_ dd_I_numberOfTrailingZeros_79
          exact cz_tend (by omega) (by omega)
        have c_52 : ¬ ((2 ^ t - 1) ≤ 16) := fun z => c_52 ((nI_leI (by omega) (by omega)).mpr z)
        have g_4 : 4 < t := (cz_c t (by omega)).2.2.1.mp (by omega)
        have hp_4 : 2 ^ (t - 4) ≤ 2147483648 := cz_p (by omega)
        refine lv_iinc (v := nI 5) (lv' := [(1, .int (nI 5)), (0, .int (nI (2 ^ t - 1)))]) hx hb dd_I_numberOfTrailingZeros_55 hl (k := 0) rfl (nI_add 1 4) (by decide) rfl (fun ls hl => ?_)
        refine lv_iload_n hx hb dd_I_numberOfTrailingZeros_58 rfl (lv_at hl 1 rfl) ?_
        refine lv_iconst (v := nI 4) hx hb dd_I_numberOfTrailingZeros_59 (by decide) ?_
        refine lv_iushr (v := ((nI (2 ^ t - 1)).toUInt32 >>> ((nI 4).toUInt32 &&& Int32.toUInt32 31)).toInt32) hx hb dd_I_numberOfTrailingZeros_60 rfl ?_
        refine ct_topi (y := nI (2 ^ (t - 4) - 1)) ((pk_ushrN (by omega) (nI 4) 4 (by decide)).trans (congrArg nI ((cz_s t (by omega)).2.2.1 g_4))) ?_
        refine lv_istore_n (lv' := [(0, .int (nI (2 ^ (t - 4) - 1))), (1, .int (nI 5))]) hx hb dd_I_numberOfTrailingZeros_61 rfl hl (by decide) rfl (fun ls hl => ?_)
        refine lv_iload_n hx hb dd_I_numberOfTrailingZeros_62 rfl (lv_at hl 0 rfl) ?_
        refine lv_iconst (v := nI 4) hx hb dd_I_numberOfTrailingZeros_63 (by decide) ?_
        refine lv_icmp_le (tgt := 74) hx hb dd_I_numberOfTrailingZeros_64 (by decide) (fun c_64 => ?_) (fun c_64 => ?_)
        · skip
          have c_64 : (2 ^ (t - 4) - 1) ≤ 4 := (nI_leI (by omega) (by omega)).mp c_64
          have n_2 : ¬ 2 < t - 4 := fun z => absurd ((cz_c (t - 4) (by omega)).2.2.2.1.mpr z) (by omega)
          refine lv_iload_n hx hb dd_I_numberOfTrailingZeros_74 rfl (lv_at hl 1 rfl) ?_
          refine lv_iload_n hx hb dd_I_numberOfTrailingZeros_75 rfl (lv_at hl 0 rfl) ?_
          refine lv_iconst (v := nI 1) hx hb dd_I_numberOfTrailingZeros_76 (by decide) ?_
          refine lv_iushr (v := ((nI (2 ^ (t - 4) - 1)).toUInt32 >>> ((nI 1).toUInt32 &&& Int32.toUInt32 31)).toInt32) hx hb dd_I_numberOfTrailingZeros_77 rfl ?_
          refine ct_topi (y := nI ((2 ^ (t - 4) - 1) / 2)) (pk_ushrN (by omega) (nI 1) 1 (by decide)) ?_
          refine lv_iadd hx hb dd_I_numberOfTrailingZeros_78 ?_
          refine ct_topi (y := nI (5 + ((2 ^ (t - 4) - 1) / 2))) (nI_add _ _) ?_
          refine ct_iret (u := ()) hx hb hr hlocks hK hP hD hS rfl ?_ dd_I_numberOfTrailingZeros_79
          exact cz_tend (by omega) (by omega)
        have c_64 : ¬ ((2 ^ (t - 4) - 1) ≤ 4) := fun z => c_64 ((nI_leI (by omega) (by omega)).mpr z)
        have g_2 : 2 < t - 4 := (cz_c (t - 4) (by omega)).2.2.2.1.mp (by omega)
        have hp_2 : 2 ^ (t - 4 - 2) ≤ 2147483648 := cz_p (by omega)
        refine lv_iinc (v := nI 7) (lv' := [(1, .int (nI 7)), (0, .int (nI (2 ^ (t - 4) - 1)))]) hx hb dd_I_numberOfTrailingZeros_67 hl (k := 1) rfl (nI_add 5 2) (by decide) rfl (fun ls hl => ?_)
        refine lv_iload_n hx hb dd_I_numberOfTrailingZeros_70 rfl (lv_at hl 1 rfl) ?_
        refine lv_iconst (v := nI 2) hx hb dd_I_numberOfTrailingZeros_71 (by decide) ?_
        refine lv_iushr (v := ((nI (2 ^ (t - 4) - 1)).toUInt32 >>> ((nI 2).toUInt32 &&& Int32.toUInt32 31)).toInt32) hx hb dd_I_numberOfTrailingZeros_72 rfl ?_
        refine ct_topi (y := nI (2 ^ (t - 4 - 2) - 1)) ((pk_ushrN (by omega) (nI 2) 2 (by decide)).trans (congrArg nI ((cz_s (t - 4) (by omega)).2.2.2 g_2))) ?_
        refine lv_istore_n (lv' := [(0, .int (nI (2 ^ (t - 4 - 2) - 1))), (1, .int (nI 7))]) hx hb dd_I_numberOfTrailingZeros_73 rfl hl (by decide) rfl (fun ls hl => ?_)
        refine lv_iload_n hx hb dd_I_numberOfTrailingZeros_74 rfl (lv_at hl 1 rfl) ?_
        refine lv_iload_n hx hb dd_I_numberOfTrailingZeros_75 rfl (lv_at hl 0 rfl) ?_
        refine lv_iconst (v := nI 1) hx hb dd_I_numberOfTrailingZeros_76 (by decide) ?_
        refine lv_iushr (v := ((nI (2 ^ (t - 4 - 2) - 1)).toUInt32 >>> ((nI 1).toUInt32 &&& Int32.toUInt32 31)).toInt32) hx hb dd_I_numberOfTrailingZeros_77 rfl ?_
        refine ct_topi (y := nI ((2 ^ (t - 4 - 2) - 1) / 2)) (pk_ushrN (by omega) (nI 1) 1 (by decide)) ?_
        refine lv_iadd hx hb dd_I_numberOfTrailingZeros_78 ?_
        refine ct_topi (y := nI (7 + ((2 ^ (t - 4 - 2) - 1) / 2))) (nI_add _ _) ?_
        refine ct_iret (u := ()) hx hb hr hlocks hK hP hD hS rfl ?_ dd_I_numberOfTrailingZeros_79
        exact cz_tend (by omega) (by omega)
      have c_38 : ¬ ((2 ^ t - 1) ≤ 256) := fun z => c_38 ((nI_leI (by omega) (by omega)).mpr z)
      have g_8 : 8 < t := (cz_c t (by omega)).2.1.mp (by omega)
      have hp_8 : 2 ^ (t - 8) ≤ 2147483648 := cz_p (by omega)
      refine lv_iinc (v := nI 9) (lv' := [(1, .int (nI 9)), (0, .int (nI (2 ^ t - 1)))]) hx hb dd_I_numberOfTrailingZeros_41 hl (k := 0) rfl (nI_add 1 8) (by decide) rfl (fun ls hl => ?_)
      refine lv_iload_n hx hb dd_I_numberOfTrailingZeros_44 rfl (lv_at hl 1 rfl) ?_
      refine lv_bipush (v := nI 8) hx hb dd_I_numberOfTrailingZeros_45 (by decide) ?_
      refine lv_iushr (v := ((nI (2 ^ t - 1)).toUInt32 >>> ((nI 8).toUInt32 &&& Int32.toUInt32 31)).toInt32) hx hb dd_I_numberOfTrailingZeros_47 rfl ?_
      refine ct_topi (y := nI (2 ^ (t - 8) - 1)) ((pk_ushrN (by omega) (nI 8) 8 (by decide)).trans (congrArg nI ((cz_s t (by omega)).2.1 g_8))) ?_
      refine lv_istore_n (lv' := [(0, .int (nI (2 ^ (t - 8) - 1))), (1, .int (nI 9))]) hx hb dd_I_numberOfTrailingZeros_48 rfl hl (by decide) rfl (fun ls hl => ?_)
      refine lv_iload_n hx hb dd_I_numberOfTrailingZeros_49 rfl (lv_at hl 0 rfl) ?_
      refine lv_bipush (v := nI 16) hx hb dd_I_numberOfTrailingZeros_50 (by decide) ?_
      refine lv_icmp_le (tgt := 62) hx hb dd_I_numberOfTrailingZeros_52 (by decide) (fun c_52 => ?_) (fun c_52 => ?_)
      · skip
        have c_52 : (2 ^ (t - 8) - 1) ≤ 16 := (nI_leI (by omega) (by omega)).mp c_52
        have n_4 : ¬ 4 < t - 8 := fun z => absurd ((cz_c (t - 8) (by omega)).2.2.1.mpr z) (by omega)
        refine lv_iload_n hx hb dd_I_numberOfTrailingZeros_62 rfl (lv_at hl 0 rfl) ?_
        refine lv_iconst (v := nI 4) hx hb dd_I_numberOfTrailingZeros_63 (by decide) ?_
        refine lv_icmp_le (tgt := 74) hx hb dd_I_numberOfTrailingZeros_64 (by decide) (fun c_64 => ?_) (fun c_64 => ?_)
        · skip
          have c_64 : (2 ^ (t - 8) - 1) ≤ 4 := (nI_leI (by omega) (by omega)).mp c_64
          have n_2 : ¬ 2 < t - 8 := fun z => absurd ((cz_c (t - 8) (by omega)).2.2.2.1.mpr z) (by omega)
          refine lv_iload_n hx hb dd_I_numberOfTrailingZeros_74 rfl (lv_at hl 1 rfl) ?_
          refine lv_iload_n hx hb dd_I_numberOfTrailingZeros_75 rfl (lv_at hl 0 rfl) ?_
          refine lv_iconst (v := nI 1) hx hb dd_I_numberOfTrailingZeros_76 (by decide) ?_
          refine lv_iushr (v := ((nI (2 ^ (t - 8) - 1)).toUInt32 >>> ((nI 1).toUInt32 &&& Int32.toUInt32 31)).toInt32) hx hb dd_I_numberOfTrailingZeros_77 rfl ?_
          refine ct_topi (y := nI ((2 ^ (t - 8) - 1) / 2)) (pk_ushrN (by omega) (nI 1) 1 (by decide)) ?_
          refine lv_iadd hx hb dd_I_numberOfTrailingZeros_78 ?_
          refine ct_topi (y := nI (9 + ((2 ^ (t - 8) - 1) / 2))) (nI_add _ _) ?_
          refine ct_iret (u := ()) hx hb hr hlocks hK hP hD hS rfl ?_ dd_I_numberOfTrailingZeros_79
          exact cz_tend (by omega) (by omega)
        have c_64 : ¬ ((2 ^ (t - 8) - 1) ≤ 4) := fun z => c_64 ((nI_leI (by omega) (by omega)).mpr z)
        have g_2 : 2 < t - 8 := (cz_c (t - 8) (by omega)).2.2.2.1.mp (by omega)
        have hp_2 : 2 ^ (t - 8 - 2) ≤ 2147483648 := cz_p (by omega)
        refine lv_iinc (v := nI 11) (lv' := [(1, .int (nI 11)), (0, .int (nI (2 ^ (t - 8) - 1)))]) hx hb dd_I_numberOfTrailingZeros_67 hl (k := 1) rfl (nI_add 9 2) (by decide) rfl (fun ls hl => ?_)
        refine lv_iload_n hx hb dd_I_numberOfTrailingZeros_70 rfl (lv_at hl 1 rfl) ?_
        refine lv_iconst (v := nI 2) hx hb dd_I_numberOfTrailingZeros_71 (by decide) ?_
        refine lv_iushr (v := ((nI (2 ^ (t - 8) - 1)).toUInt32 >>> ((nI 2).toUInt32 &&& Int32.toUInt32 31)).toInt32) hx hb dd_I_numberOfTrailingZeros_72 rfl ?_
        refine ct_topi (y := nI (2 ^ (t - 8 - 2) - 1)) ((pk_ushrN (by omega) (nI 2) 2 (by decide)).trans (congrArg nI ((cz_s (t - 8) (by omega)).2.2.2 g_2))) ?_
        refine lv_istore_n (lv' := [(0, .int (nI (2 ^ (t - 8 - 2) - 1))), (1, .int (nI 11))]) hx hb dd_I_numberOfTrailingZeros_73 rfl hl (by decide) rfl (fun ls hl => ?_)
        refine lv_iload_n hx hb dd_I_numberOfTrailingZeros_74 rfl (lv_at hl 1 rfl) ?_
        refine lv_iload_n hx hb dd_I_numberOfTrailingZeros_75 rfl (lv_at hl 0 rfl) ?_
        refine lv_iconst (v := nI 1) hx hb dd_I_numberOfTrailingZeros_76 (by decide) ?_
        refine lv_iushr (v := ((nI (2 ^ (t - 8 - 2) - 1)).toUInt32 >>> ((nI 1).toUInt32 &&& Int32.toUInt32 31)).toInt32) hx hb dd_I_numberOfTrailingZeros_77 rfl ?_
        refine ct_topi (y := nI ((2 ^ (t - 8 - 2) - 1) / 2)) (pk_ushrN (by omega) (nI 1) 1 (by decide)) ?_
        refine lv_iadd hx hb dd_I_numberOfTrailingZeros_78 ?_
        refine ct_topi (y := nI (11 + ((2 ^ (t - 8 - 2) - 1) / 2))) (nI_add _ _) ?_
        refine ct_iret (u := ()) hx hb hr hlocks hK hP hD hS rfl ?_ dd_I_numberOfTrailingZeros_79
        exact cz_tend (by omega) (by omega)
      have c_52 : ¬ ((2 ^ (t - 8) - 1) ≤ 16) := fun z => c_52 ((nI_leI (by omega) (by omega)).mpr z)
      have g_4 : 4 < t - 8 := (cz_c (t - 8) (by omega)).2.2.1.mp (by omega)
      have hp_4 : 2 ^ (t - 8 - 4) ≤ 2147483648 := cz_p (by omega)
      refine lv_iinc (v := nI 13) (lv' := [(1, .int (nI 13)), (0, .int (nI (2 ^ (t - 8) - 1)))]) hx hb dd_I_numberOfTrailingZeros_55 hl (k := 1) rfl (nI_add 9 4) (by decide) rfl (fun ls hl => ?_)
      refine lv_iload_n hx hb dd_I_numberOfTrailingZeros_58 rfl (lv_at hl 1 rfl) ?_
      refine lv_iconst (v := nI 4) hx hb dd_I_numberOfTrailingZeros_59 (by decide) ?_
      refine lv_iushr (v := ((nI (2 ^ (t - 8) - 1)).toUInt32 >>> ((nI 4).toUInt32 &&& Int32.toUInt32 31)).toInt32) hx hb dd_I_numberOfTrailingZeros_60 rfl ?_
      refine ct_topi (y := nI (2 ^ (t - 8 - 4) - 1)) ((pk_ushrN (by omega) (nI 4) 4 (by decide)).trans (congrArg nI ((cz_s (t - 8) (by omega)).2.2.1 g_4))) ?_
      refine lv_istore_n (lv' := [(0, .int (nI (2 ^ (t - 8 - 4) - 1))), (1, .int (nI 13))]) hx hb dd_I_numberOfTrailingZeros_61 rfl hl (by decide) rfl (fun ls hl => ?_)
      refine lv_iload_n hx hb dd_I_numberOfTrailingZeros_62 rfl (lv_at hl 0 rfl) ?_
      refine lv_iconst (v := nI 4) hx hb dd_I_numberOfTrailingZeros_63 (by decide) ?_
      refine lv_icmp_le (tgt := 74) hx hb dd_I_numberOfTrailingZeros_64 (by decide) (fun c_64 => ?_) (fun c_64 => ?_)
      · skip
        have c_64 : (2 ^ (t - 8 - 4) - 1) ≤ 4 := (nI_leI (by omega) (by omega)).mp c_64
        have n_2 : ¬ 2 < t - 8 - 4 := fun z => absurd ((cz_c (t - 8 - 4) (by omega)).2.2.2.1.mpr z) (by omega)
        refine lv_iload_n hx hb dd_I_numberOfTrailingZeros_74 rfl (lv_at hl 1 rfl) ?_
        refine lv_iload_n hx hb dd_I_numberOfTrailingZeros_75 rfl (lv_at hl 0 rfl) ?_
        refine lv_iconst (v := nI 1) hx hb dd_I_numberOfTrailingZeros_76 (by decide) ?_
        refine lv_iushr (v := ((nI (2 ^ (t - 8 - 4) - 1)).toUInt32 >>> ((nI 1).toUInt32 &&& Int32.toUInt32 31)).toInt32) hx hb dd_I_numberOfTrailingZeros_77 rfl ?_
        refine ct_topi (y := nI ((2 ^ (t - 8 - 4) - 1) / 2)) (pk_ushrN (by omega) (nI 1) 1 (by decide)) ?_
        refine lv_iadd hx hb dd_I_numberOfTrailingZeros_78 ?_
        refine ct_topi (y := nI (13 + ((2 ^ (t - 8 - 4) - 1) / 2))) (nI_add _ _) ?_
        refine ct_iret (u := ()) hx hb hr hlocks hK hP hD hS rfl ?_ dd_I_numberOfTrailingZeros_79
        exact cz_tend (by omega) (by omega)
      have c_64 : ¬ ((2 ^ (t - 8 - 4) - 1) ≤ 4) := fun z => c_64 ((nI_leI (by omega) (by omega)).mpr z)
      have g_2 : 2 < t - 8 - 4 := (cz_c (t - 8 - 4) (by omega)).2.2.2.1.mp (by omega)
      have hp_2 : 2 ^ (t - 8 - 4 - 2) ≤ 2147483648 := cz_p (by omega)
      refine lv_iinc (v := nI 15) (lv' := [(1, .int (nI 15)), (0, .int (nI (2 ^ (t - 8 - 4) - 1)))]) hx hb dd_I_numberOfTrailingZeros_67 hl (k := 1) rfl (nI_add 13 2) (by decide) rfl (fun ls hl => ?_)
      refine lv_iload_n hx hb dd_I_numberOfTrailingZeros_70 rfl (lv_at hl 1 rfl) ?_
      refine lv_iconst (v := nI 2) hx hb dd_I_numberOfTrailingZeros_71 (by decide) ?_
      refine lv_iushr (v := ((nI (2 ^ (t - 8 - 4) - 1)).toUInt32 >>> ((nI 2).toUInt32 &&& Int32.toUInt32 31)).toInt32) hx hb dd_I_numberOfTrailingZeros_72 rfl ?_
      refine ct_topi (y := nI (2 ^ (t - 8 - 4 - 2) - 1)) ((pk_ushrN (by omega) (nI 2) 2 (by decide)).trans (congrArg nI ((cz_s (t - 8 - 4) (by omega)).2.2.2 g_2))) ?_
      refine lv_istore_n (lv' := [(0, .int (nI (2 ^ (t - 8 - 4 - 2) - 1))), (1, .int (nI 15))]) hx hb dd_I_numberOfTrailingZeros_73 rfl hl (by decide) rfl (fun ls hl => ?_)
      refine lv_iload_n hx hb dd_I_numberOfTrailingZeros_74 rfl (lv_at hl 1 rfl) ?_
      refine lv_iload_n hx hb dd_I_numberOfTrailingZeros_75 rfl (lv_at hl 0 rfl) ?_
      refine lv_iconst (v := nI 1) hx hb dd_I_numberOfTrailingZeros_76 (by decide) ?_
      refine lv_iushr (v := ((nI (2 ^ (t - 8 - 4 - 2) - 1)).toUInt32 >>> ((nI 1).toUInt32 &&& Int32.toUInt32 31)).toInt32) hx hb dd_I_numberOfTrailingZeros_77 rfl ?_
      refine ct_topi (y := nI ((2 ^ (t - 8 - 4 - 2) - 1) / 2)) (pk_ushrN (by omega) (nI 1) 1 (by decide)) ?_
      refine lv_iadd hx hb dd_I_numberOfTrailingZeros_78 ?_
      refine ct_topi (y := nI (15 + ((2 ^ (t - 8 - 4 - 2) - 1) / 2))) (nI_add _ _) ?_
      refine ct_iret (u := ()) hx hb hr hlocks hK hP hD hS rfl ?_ dd_I_numberOfTrailingZeros_79
      exact cz_tend (by omega) (by omega)
    have c_23 : ¬ ((2 ^ t - 1) ≤ 65536) := fun z => c_23 ((nI_leI (by omega) (by omega)).mpr z)
    have g_16 : 16 < t := (cz_c t (by omega)).1.mp (by omega)
    have hp_16 : 2 ^ (t - 16) ≤ 2147483648 := cz_p (by omega)
    refine lv_iinc (v := nI 17) (lv' := [(1, .int (nI 17)), (0, .int (nI (2 ^ t - 1)))]) hx hb dd_I_numberOfTrailingZeros_26 hl (k := 0) rfl (nI_add 1 16) (by decide) rfl (fun ls hl => ?_)
    refine lv_iload_n hx hb dd_I_numberOfTrailingZeros_29 rfl (lv_at hl 1 rfl) ?_
    refine lv_bipush (v := nI 16) hx hb dd_I_numberOfTrailingZeros_30 (by decide) ?_
    refine lv_iushr (v := ((nI (2 ^ t - 1)).toUInt32 >>> ((nI 16).toUInt32 &&& Int32.toUInt32 31)).toInt32) hx hb dd_I_numberOfTrailingZeros_32 rfl ?_
    refine ct_topi (y := nI (2 ^ (t - 16) - 1)) ((pk_ushrN (by omega) (nI 16) 16 (by decide)).trans (congrArg nI ((cz_s t (by omega)).1 g_16))) ?_
    refine lv_istore_n (lv' := [(0, .int (nI (2 ^ (t - 16) - 1))), (1, .int (nI 17))]) hx hb dd_I_numberOfTrailingZeros_33 rfl hl (by decide) rfl (fun ls hl => ?_)
    refine lv_iload_n hx hb dd_I_numberOfTrailingZeros_34 rfl (lv_at hl 0 rfl) ?_
    refine lv_sipush (v := nI 256) hx hb dd_I_numberOfTrailingZeros_35 (by decide) ?_
    refine lv_icmp_le (tgt := 49) hx hb dd_I_numberOfTrailingZeros_38 (by decide) (fun c_38 => ?_) (fun c_38 => ?_)
    · skip
      have c_38 : (2 ^ (t - 16) - 1) ≤ 256 := (nI_leI (by omega) (by omega)).mp c_38
      have n_8 : ¬ 8 < t - 16 := fun z => absurd ((cz_c (t - 16) (by omega)).2.1.mpr z) (by omega)
      refine lv_iload_n hx hb dd_I_numberOfTrailingZeros_49 rfl (lv_at hl 0 rfl) ?_
      refine lv_bipush (v := nI 16) hx hb dd_I_numberOfTrailingZeros_50 (by decide) ?_
      refine lv_icmp_le (tgt := 62) hx hb dd_I_numberOfTrailingZeros_52 (by decide) (fun c_52 => ?_) (fun c_52 => ?_)
      · skip
        have c_52 : (2 ^ (t - 16) - 1) ≤ 16 := (nI_leI (by omega) (by omega)).mp c_52
        have n_4 : ¬ 4 < t - 16 := fun z => absurd ((cz_c (t - 16) (by omega)).2.2.1.mpr z) (by omega)
        refine lv_iload_n hx hb dd_I_numberOfTrailingZeros_62 rfl (lv_at hl 0 rfl) ?_
        refine lv_iconst (v := nI 4) hx hb dd_I_numberOfTrailingZeros_63 (by decide) ?_
        refine lv_icmp_le (tgt := 74) hx hb dd_I_numberOfTrailingZeros_64 (by decide) (fun c_64 => ?_) (fun c_64 => ?_)
        · skip
          have c_64 : (2 ^ (t - 16) - 1) ≤ 4 := (nI_leI (by omega) (by omega)).mp c_64
          have n_2 : ¬ 2 < t - 16 := fun z => absurd ((cz_c (t - 16) (by omega)).2.2.2.1.mpr z) (by omega)
          refine lv_iload_n hx hb dd_I_numberOfTrailingZeros_74 rfl (lv_at hl 1 rfl) ?_
          refine lv_iload_n hx hb dd_I_numberOfTrailingZeros_75 rfl (lv_at hl 0 rfl) ?_
          refine lv_iconst (v := nI 1) hx hb dd_I_numberOfTrailingZeros_76 (by decide) ?_
          refine lv_iushr (v := ((nI (2 ^ (t - 16) - 1)).toUInt32 >>> ((nI 1).toUInt32 &&& Int32.toUInt32 31)).toInt32) hx hb dd_I_numberOfTrailingZeros_77 rfl ?_
          refine ct_topi (y := nI ((2 ^ (t - 16) - 1) / 2)) (pk_ushrN (by omega) (nI 1) 1 (by decide)) ?_
          refine lv_iadd hx hb dd_I_numberOfTrailingZeros_78 ?_
          refine ct_topi (y := nI (17 + ((2 ^ (t - 16) - 1) / 2))) (nI_add _ _) ?_
          refine ct_iret (u := ()) hx hb hr hlocks hK hP hD hS rfl ?_ dd_I_numberOfTrailingZeros_79
          exact cz_tend (by omega) (by omega)
        have c_64 : ¬ ((2 ^ (t - 16) - 1) ≤ 4) := fun z => c_64 ((nI_leI (by omega) (by omega)).mpr z)
        have g_2 : 2 < t - 16 := (cz_c (t - 16) (by omega)).2.2.2.1.mp (by omega)
        have hp_2 : 2 ^ (t - 16 - 2) ≤ 2147483648 := cz_p (by omega)
        refine lv_iinc (v := nI 19) (lv' := [(1, .int (nI 19)), (0, .int (nI (2 ^ (t - 16) - 1)))]) hx hb dd_I_numberOfTrailingZeros_67 hl (k := 1) rfl (nI_add 17 2) (by decide) rfl (fun ls hl => ?_)
        refine lv_iload_n hx hb dd_I_numberOfTrailingZeros_70 rfl (lv_at hl 1 rfl) ?_
        refine lv_iconst (v := nI 2) hx hb dd_I_numberOfTrailingZeros_71 (by decide) ?_
        refine lv_iushr (v := ((nI (2 ^ (t - 16) - 1)).toUInt32 >>> ((nI 2).toUInt32 &&& Int32.toUInt32 31)).toInt32) hx hb dd_I_numberOfTrailingZeros_72 rfl ?_
        refine ct_topi (y := nI (2 ^ (t - 16 - 2) - 1)) ((pk_ushrN (by omega) (nI 2) 2 (by decide)).trans (congrArg nI ((cz_s (t - 16) (by omega)).2.2.2 g_2))) ?_
        refine lv_istore_n (lv' := [(0, .int (nI (2 ^ (t - 16 - 2) - 1))), (1, .int (nI 19))]) hx hb dd_I_numberOfTrailingZeros_73 rfl hl (by decide) rfl (fun ls hl => ?_)
        refine lv_iload_n hx hb dd_I_numberOfTrailingZeros_74 rfl (lv_at hl 1 rfl) ?_
        refine lv_iload_n hx hb dd_I_numberOfTrailingZeros_75 rfl (lv_at hl 0 rfl) ?_
        refine lv_iconst (v := nI 1) hx hb dd_I_numberOfTrailingZeros_76 (by decide) ?_
        refine lv_iushr (v := ((nI (2 ^ (t - 16 - 2) - 1)).toUInt32 >>> ((nI 1).toUInt32 &&& Int32.toUInt32 31)).toInt32) hx hb dd_I_numberOfTrailingZeros_77 rfl ?_
        refine ct_topi (y := nI ((2 ^ (t - 16 - 2) - 1) / 2)) (pk_ushrN (by omega) (nI 1) 1 (by decide)) ?_
        refine lv_iadd hx hb dd_I_numberOfTrailingZeros_78 ?_
        refine ct_topi (y := nI (19 + ((2 ^ (t - 16 - 2) - 1) / 2))) (nI_add _ _) ?_
        refine ct_iret (u := ()) hx hb hr hlocks hK hP hD hS rfl ?_ dd_I_numberOfTrailingZeros_79
        exact cz_tend (by omega) (by omega)
      have c_52 : ¬ ((2 ^ (t - 16) - 1) ≤ 16) := fun z => c_52 ((nI_leI (by omega) (by omega)).mpr z)
      have g_4 : 4 < t - 16 := (cz_c (t - 16) (by omega)).2.2.1.mp (by omega)
      have hp_4 : 2 ^ (t - 16 - 4) ≤ 2147483648 := cz_p (by omega)
      refine lv_iinc (v := nI 21) (lv' := [(1, .int (nI 21)), (0, .int (nI (2 ^ (t - 16) - 1)))]) hx hb dd_I_numberOfTrailingZeros_55 hl (k := 1) rfl (nI_add 17 4) (by decide) rfl (fun ls hl => ?_)
      refine lv_iload_n hx hb dd_I_numberOfTrailingZeros_58 rfl (lv_at hl 1 rfl) ?_
      refine lv_iconst (v := nI 4) hx hb dd_I_numberOfTrailingZeros_59 (by decide) ?_
      refine lv_iushr (v := ((nI (2 ^ (t - 16) - 1)).toUInt32 >>> ((nI 4).toUInt32 &&& Int32.toUInt32 31)).toInt32) hx hb dd_I_numberOfTrailingZeros_60 rfl ?_
      refine ct_topi (y := nI (2 ^ (t - 16 - 4) - 1)) ((pk_ushrN (by omega) (nI 4) 4 (by decide)).trans (congrArg nI ((cz_s (t - 16) (by omega)).2.2.1 g_4))) ?_
      refine lv_istore_n (lv' := [(0, .int (nI (2 ^ (t - 16 - 4) - 1))), (1, .int (nI 21))]) hx hb dd_I_numberOfTrailingZeros_61 rfl hl (by decide) rfl (fun ls hl => ?_)
      refine lv_iload_n hx hb dd_I_numberOfTrailingZeros_62 rfl (lv_at hl 0 rfl) ?_
      refine lv_iconst (v := nI 4) hx hb dd_I_numberOfTrailingZeros_63 (by decide) ?_
      refine lv_icmp_le (tgt := 74) hx hb dd_I_numberOfTrailingZeros_64 (by decide) (fun c_64 => ?_) (fun c_64 => ?_)
      · skip
        have c_64 : (2 ^ (t - 16 - 4) - 1) ≤ 4 := (nI_leI (by omega) (by omega)).mp c_64
        have n_2 : ¬ 2 < t - 16 - 4 := fun z => absurd ((cz_c (t - 16 - 4) (by omega)).2.2.2.1.mpr z) (by omega)
        refine lv_iload_n hx hb dd_I_numberOfTrailingZeros_74 rfl (lv_at hl 1 rfl) ?_
        refine lv_iload_n hx hb dd_I_numberOfTrailingZeros_75 rfl (lv_at hl 0 rfl) ?_
        refine lv_iconst (v := nI 1) hx hb dd_I_numberOfTrailingZeros_76 (by decide) ?_
        refine lv_iushr (v := ((nI (2 ^ (t - 16 - 4) - 1)).toUInt32 >>> ((nI 1).toUInt32 &&& Int32.toUInt32 31)).toInt32) hx hb dd_I_numberOfTrailingZeros_77 rfl ?_
        refine ct_topi (y := nI ((2 ^ (t - 16 - 4) - 1) / 2)) (pk_ushrN (by omega) (nI 1) 1 (by decide)) ?_
        refine lv_iadd hx hb dd_I_numberOfTrailingZeros_78 ?_
        refine ct_topi (y := nI (21 + ((2 ^ (t - 16 - 4) - 1) / 2))) (nI_add _ _) ?_
        refine ct_iret (u := ()) hx hb hr hlocks hK hP hD hS rfl ?_ dd_I_numberOfTrailingZeros_79
        exact cz_tend (by omega) (by omega)
      have c_64 : ¬ ((2 ^ (t - 16 - 4) - 1) ≤ 4) := fun z => c_64 ((nI_leI (by omega) (by omega)).mpr z)
      have g_2 : 2 < t - 16 - 4 := (cz_c (t - 16 - 4) (by omega)).2.2.2.1.mp (by omega)
      have hp_2 : 2 ^ (t - 16 - 4 - 2) ≤ 2147483648 := cz_p (by omega)
      refine lv_iinc (v := nI 23) (lv' := [(1, .int (nI 23)), (0, .int (nI (2 ^ (t - 16 - 4) - 1)))]) hx hb dd_I_numberOfTrailingZeros_67 hl (k := 1) rfl (nI_add 21 2) (by decide) rfl (fun ls hl => ?_)
      refine lv_iload_n hx hb dd_I_numberOfTrailingZeros_70 rfl (lv_at hl 1 rfl) ?_
      refine lv_iconst (v := nI 2) hx hb dd_I_numberOfTrailingZeros_71 (by decide) ?_
      refine lv_iushr (v := ((nI (2 ^ (t - 16 - 4) - 1)).toUInt32 >>> ((nI 2).toUInt32 &&& Int32.toUInt32 31)).toInt32) hx hb dd_I_numberOfTrailingZeros_72 rfl ?_
      refine ct_topi (y := nI (2 ^ (t - 16 - 4 - 2) - 1)) ((pk_ushrN (by omega) (nI 2) 2 (by decide)).trans (congrArg nI ((cz_s (t - 16 - 4) (by omega)).2.2.2 g_2))) ?_
      refine lv_istore_n (lv' := [(0, .int (nI (2 ^ (t - 16 - 4 - 2) - 1))), (1, .int (nI 23))]) hx hb dd_I_numberOfTrailingZeros_73 rfl hl (by decide) rfl (fun ls hl => ?_)
      refine lv_iload_n hx hb dd_I_numberOfTrailingZeros_74 rfl (lv_at hl 1 rfl) ?_
      refine lv_iload_n hx hb dd_I_numberOfTrailingZeros_75 rfl (lv_at hl 0 rfl) ?_
      refine lv_iconst (v := nI 1) hx hb dd_I_numberOfTrailingZeros_76 (by decide) ?_
      refine lv_iushr (v := ((nI (2 ^ (t - 16 - 4 - 2) - 1)).toUInt32 >>> ((nI 1).toUInt32 &&& Int32.toUInt32 31)).toInt32) hx hb dd_I_numberOfTrailingZeros_77 rfl ?_
      refine ct_topi (y := nI ((2 ^ (t - 16 - 4 - 2) - 1) / 2)) (pk_ushrN (by omega) (nI 1) 1 (by decide)) ?_
      refine lv_iadd hx hb dd_I_numberOfTrailingZeros_78 ?_
      refine ct_topi (y := nI (23 + ((2 ^ (t - 16 - 4 - 2) - 1) / 2))) (nI_add _ _) ?_
      refine ct_iret (u := ()) hx hb hr hlocks hK hP hD hS rfl ?_ dd_I_numberOfTrailingZeros_79
      exact cz_tend (by omega) (by omega)
    have c_38 : ¬ ((2 ^ (t - 16) - 1) ≤ 256) := fun z => c_38 ((nI_leI (by omega) (by omega)).mpr z)
    have g_8 : 8 < t - 16 := (cz_c (t - 16) (by omega)).2.1.mp (by omega)
    have hp_8 : 2 ^ (t - 16 - 8) ≤ 2147483648 := cz_p (by omega)
    refine lv_iinc (v := nI 25) (lv' := [(1, .int (nI 25)), (0, .int (nI (2 ^ (t - 16) - 1)))]) hx hb dd_I_numberOfTrailingZeros_41 hl (k := 1) rfl (nI_add 17 8) (by decide) rfl (fun ls hl => ?_)
    refine lv_iload_n hx hb dd_I_numberOfTrailingZeros_44 rfl (lv_at hl 1 rfl) ?_
    refine lv_bipush (v := nI 8) hx hb dd_I_numberOfTrailingZeros_45 (by decide) ?_
    refine lv_iushr (v := ((nI (2 ^ (t - 16) - 1)).toUInt32 >>> ((nI 8).toUInt32 &&& Int32.toUInt32 31)).toInt32) hx hb dd_I_numberOfTrailingZeros_47 rfl ?_
    refine ct_topi (y := nI (2 ^ (t - 16 - 8) - 1)) ((pk_ushrN (by omega) (nI 8) 8 (by decide)).trans (congrArg nI ((cz_s (t - 16) (by omega)).2.1 g_8))) ?_
    refine lv_istore_n (lv' := [(0, .int (nI (2 ^ (t - 16 - 8) - 1))), (1, .int (nI 25))]) hx hb dd_I_numberOfTrailingZeros_48 rfl hl (by decide) rfl (fun ls hl => ?_)
    refine lv_iload_n hx hb dd_I_numberOfTrailingZeros_49 rfl (lv_at hl 0 rfl) ?_
    refine lv_bipush (v := nI 16) hx hb dd_I_numberOfTrailingZeros_50 (by decide) ?_
    refine lv_icmp_le (tgt := 62) hx hb dd_I_numberOfTrailingZeros_52 (by decide) (fun c_52 => ?_) (fun c_52 => ?_)
    · skip
      have c_52 : (2 ^ (t - 16 - 8) - 1) ≤ 16 := (nI_leI (by omega) (by omega)).mp c_52
      have n_4 : ¬ 4 < t - 16 - 8 := fun z => absurd ((cz_c (t - 16 - 8) (by omega)).2.2.1.mpr z) (by omega)
      refine lv_iload_n hx hb dd_I_numberOfTrailingZeros_62 rfl (lv_at hl 0 rfl) ?_
      refine lv_iconst (v := nI 4) hx hb dd_I_numberOfTrailingZeros_63 (by decide) ?_
      refine lv_icmp_le (tgt := 74) hx hb dd_I_numberOfTrailingZeros_64 (by decide) (fun c_64 => ?_) (fun c_64 => ?_)
      · skip
        have c_64 : (2 ^ (t - 16 - 8) - 1) ≤ 4 := (nI_leI (by omega) (by omega)).mp c_64
        have n_2 : ¬ 2 < t - 16 - 8 := fun z => absurd ((cz_c (t - 16 - 8) (by omega)).2.2.2.1.mpr z) (by omega)
        refine lv_iload_n hx hb dd_I_numberOfTrailingZeros_74 rfl (lv_at hl 1 rfl) ?_
        refine lv_iload_n hx hb dd_I_numberOfTrailingZeros_75 rfl (lv_at hl 0 rfl) ?_
        refine lv_iconst (v := nI 1) hx hb dd_I_numberOfTrailingZeros_76 (by decide) ?_
        refine lv_iushr (v := ((nI (2 ^ (t - 16 - 8) - 1)).toUInt32 >>> ((nI 1).toUInt32 &&& Int32.toUInt32 31)).toInt32) hx hb dd_I_numberOfTrailingZeros_77 rfl ?_
        refine ct_topi (y := nI ((2 ^ (t - 16 - 8) - 1) / 2)) (pk_ushrN (by omega) (nI 1) 1 (by decide)) ?_
        refine lv_iadd hx hb dd_I_numberOfTrailingZeros_78 ?_
        refine ct_topi (y := nI (25 + ((2 ^ (t - 16 - 8) - 1) / 2))) (nI_add _ _) ?_
        refine ct_iret (u := ()) hx hb hr hlocks hK hP hD hS rfl ?_ dd_I_numberOfTrailingZeros_79
        exact cz_tend (by omega) (by omega)
      have c_64 : ¬ ((2 ^ (t - 16 - 8) - 1) ≤ 4) := fun z => c_64 ((nI_leI (by omega) (by omega)).mpr z)
      have g_2 : 2 < t - 16 - 8 := (cz_c (t - 16 - 8) (by omega)).2.2.2.1.mp (by omega)
      have hp_2 : 2 ^ (t - 16 - 8 - 2) ≤ 2147483648 := cz_p (by omega)
      refine lv_iinc (v := nI 27) (lv' := [(1, .int (nI 27)), (0, .int (nI (2 ^ (t - 16 - 8) - 1)))]) hx hb dd_I_numberOfTrailingZeros_67 hl (k := 1) rfl (nI_add 25 2) (by decide) rfl (fun ls hl => ?_)
      refine lv_iload_n hx hb dd_I_numberOfTrailingZeros_70 rfl (lv_at hl 1 rfl) ?_
      refine lv_iconst (v := nI 2) hx hb dd_I_numberOfTrailingZeros_71 (by decide) ?_
      refine lv_iushr (v := ((nI (2 ^ (t - 16 - 8) - 1)).toUInt32 >>> ((nI 2).toUInt32 &&& Int32.toUInt32 31)).toInt32) hx hb dd_I_numberOfTrailingZeros_72 rfl ?_
      refine ct_topi (y := nI (2 ^ (t - 16 - 8 - 2) - 1)) ((pk_ushrN (by omega) (nI 2) 2 (by decide)).trans (congrArg nI ((cz_s (t - 16 - 8) (by omega)).2.2.2 g_2))) ?_
      refine lv_istore_n (lv' := [(0, .int (nI (2 ^ (t - 16 - 8 - 2) - 1))), (1, .int (nI 27))]) hx hb dd_I_numberOfTrailingZeros_73 rfl hl (by decide) rfl (fun ls hl => ?_)
      refine lv_iload_n hx hb dd_I_numberOfTrailingZeros_74 rfl (lv_at hl 1 rfl) ?_
      refine lv_iload_n hx hb dd_I_numberOfTrailingZeros_75 rfl (lv_at hl 0 rfl) ?_
      refine lv_iconst (v := nI 1) hx hb dd_I_numberOfTrailingZeros_76 (by decide) ?_
      refine lv_iushr (v := ((nI (2 ^ (t - 16 - 8 - 2) - 1)).toUInt32 >>> ((nI 1).toUInt32 &&& Int32.toUInt32 31)).toInt32) hx hb dd_I_numberOfTrailingZeros_77 rfl ?_
      refine ct_topi (y := nI ((2 ^ (t - 16 - 8 - 2) - 1) / 2)) (pk_ushrN (by omega) (nI 1) 1 (by decide)) ?_
      refine lv_iadd hx hb dd_I_numberOfTrailingZeros_78 ?_
      refine ct_topi (y := nI (27 + ((2 ^ (t - 16 - 8 - 2) - 1) / 2))) (nI_add _ _) ?_
      refine ct_iret (u := ()) hx hb hr hlocks hK hP hD hS rfl ?_ dd_I_numberOfTrailingZeros_79
      exact cz_tend (by omega) (by omega)
    have c_52 : ¬ ((2 ^ (t - 16 - 8) - 1) ≤ 16) := fun z => c_52 ((nI_leI (by omega) (by omega)).mpr z)
    have g_4 : 4 < t - 16 - 8 := (cz_c (t - 16 - 8) (by omega)).2.2.1.mp (by omega)
    have hp_4 : 2 ^ (t - 16 - 8 - 4) ≤ 2147483648 := cz_p (by omega)
    refine lv_iinc (v := nI 29) (lv' := [(1, .int (nI 29)), (0, .int (nI (2 ^ (t - 16 - 8) - 1)))]) hx hb dd_I_numberOfTrailingZeros_55 hl (k := 1) rfl (nI_add 25 4) (by decide) rfl (fun ls hl => ?_)
    refine lv_iload_n hx hb dd_I_numberOfTrailingZeros_58 rfl (lv_at hl 1 rfl) ?_
    refine lv_iconst (v := nI 4) hx hb dd_I_numberOfTrailingZeros_59 (by decide) ?_
    refine lv_iushr (v := ((nI (2 ^ (t - 16 - 8) - 1)).toUInt32 >>> ((nI 4).toUInt32 &&& Int32.toUInt32 31)).toInt32) hx hb dd_I_numberOfTrailingZeros_60 rfl ?_
    refine ct_topi (y := nI (2 ^ (t - 16 - 8 - 4) - 1)) ((pk_ushrN (by omega) (nI 4) 4 (by decide)).trans (congrArg nI ((cz_s (t - 16 - 8) (by omega)).2.2.1 g_4))) ?_
    refine lv_istore_n (lv' := [(0, .int (nI (2 ^ (t - 16 - 8 - 4) - 1))), (1, .int (nI 29))]) hx hb dd_I_numberOfTrailingZeros_61 rfl hl (by decide) rfl (fun ls hl => ?_)
    refine lv_iload_n hx hb dd_I_numberOfTrailingZeros_62 rfl (lv_at hl 0 rfl) ?_
    refine lv_iconst (v := nI 4) hx hb dd_I_numberOfTrailingZeros_63 (by decide) ?_
    refine lv_icmp_le (tgt := 74) hx hb dd_I_numberOfTrailingZeros_64 (by decide) (fun c_64 => ?_) (fun c_64 => ?_)
    · skip
      have c_64 : (2 ^ (t - 16 - 8 - 4) - 1) ≤ 4 := (nI_leI (by omega) (by omega)).mp c_64
      have n_2 : ¬ 2 < t - 16 - 8 - 4 := fun z => absurd ((cz_c (t - 16 - 8 - 4) (by omega)).2.2.2.1.mpr z) (by omega)
      refine lv_iload_n hx hb dd_I_numberOfTrailingZeros_74 rfl (lv_at hl 1 rfl) ?_
      refine lv_iload_n hx hb dd_I_numberOfTrailingZeros_75 rfl (lv_at hl 0 rfl) ?_
      refine lv_iconst (v := nI 1) hx hb dd_I_numberOfTrailingZeros_76 (by decide) ?_
      refine lv_iushr (v := ((nI (2 ^ (t - 16 - 8 - 4) - 1)).toUInt32 >>> ((nI 1).toUInt32 &&& Int32.toUInt32 31)).toInt32) hx hb dd_I_numberOfTrailingZeros_77 rfl ?_
      refine ct_topi (y := nI ((2 ^ (t - 16 - 8 - 4) - 1) / 2)) (pk_ushrN (by omega) (nI 1) 1 (by decide)) ?_
      refine lv_iadd hx hb dd_I_numberOfTrailingZeros_78 ?_
      refine ct_topi (y := nI (29 + ((2 ^ (t - 16 - 8 - 4) - 1) / 2))) (nI_add _ _) ?_
      refine ct_iret (u := ()) hx hb hr hlocks hK hP hD hS rfl ?_ dd_I_numberOfTrailingZeros_79
      exact cz_tend (by omega) (by omega)
    have c_64 : ¬ ((2 ^ (t - 16 - 8 - 4) - 1) ≤ 4) := fun z => c_64 ((nI_leI (by omega) (by omega)).mpr z)
    have g_2 : 2 < t - 16 - 8 - 4 := (cz_c (t - 16 - 8 - 4) (by omega)).2.2.2.1.mp (by omega)
    have hp_2 : 2 ^ (t - 16 - 8 - 4 - 2) ≤ 2147483648 := cz_p (by omega)
    refine lv_iinc (v := nI 31) (lv' := [(1, .int (nI 31)), (0, .int (nI (2 ^ (t - 16 - 8 - 4) - 1)))]) hx hb dd_I_numberOfTrailingZeros_67 hl (k := 1) rfl (nI_add 29 2) (by decide) rfl (fun ls hl => ?_)
    refine lv_iload_n hx hb dd_I_numberOfTrailingZeros_70 rfl (lv_at hl 1 rfl) ?_
    refine lv_iconst (v := nI 2) hx hb dd_I_numberOfTrailingZeros_71 (by decide) ?_
    refine lv_iushr (v := ((nI (2 ^ (t - 16 - 8 - 4) - 1)).toUInt32 >>> ((nI 2).toUInt32 &&& Int32.toUInt32 31)).toInt32) hx hb dd_I_numberOfTrailingZeros_72 rfl ?_
    refine ct_topi (y := nI (2 ^ (t - 16 - 8 - 4 - 2) - 1)) ((pk_ushrN (by omega) (nI 2) 2 (by decide)).trans (congrArg nI ((cz_s (t - 16 - 8 - 4) (by omega)).2.2.2 g_2))) ?_
    refine lv_istore_n (lv' := [(0, .int (nI (2 ^ (t - 16 - 8 - 4 - 2) - 1))), (1, .int (nI 31))]) hx hb dd_I_numberOfTrailingZeros_73 rfl hl (by decide) rfl (fun ls hl => ?_)
    refine lv_iload_n hx hb dd_I_numberOfTrailingZeros_74 rfl (lv_at hl 1 rfl) ?_
    refine lv_iload_n hx hb dd_I_numberOfTrailingZeros_75 rfl (lv_at hl 0 rfl) ?_
    refine lv_iconst (v := nI 1) hx hb dd_I_numberOfTrailingZeros_76 (by decide) ?_
    refine lv_iushr (v := ((nI (2 ^ (t - 16 - 8 - 4 - 2) - 1)).toUInt32 >>> ((nI 1).toUInt32 &&& Int32.toUInt32 31)).toInt32) hx hb dd_I_numberOfTrailingZeros_77 rfl ?_
    refine ct_topi (y := nI ((2 ^ (t - 16 - 8 - 4 - 2) - 1) / 2)) (pk_ushrN (by omega) (nI 1) 1 (by decide)) ?_
    refine lv_iadd hx hb dd_I_numberOfTrailingZeros_78 ?_
    refine ct_topi (y := nI (31 + ((2 ^ (t - 16 - 8 - 4 - 2) - 1) / 2))) (nI_add _ _) ?_
    refine ct_iret (u := ()) hx hb hr hlocks hK hP hD hS rfl ?_ dd_I_numberOfTrailingZeros_79
    exact cz_tend (by omega) (by omega)
  have c_9 : ¬ (0 < (2 ^ t - 1)) := fun z => c_9 ((ct_zgt (by omega)).mpr z)
  refine lv_iload_n hx hb dd_I_numberOfTrailingZeros_12 rfl (lv_at hl 0 rfl) ?_
  refine lv_bipush (v := nI 32) hx hb dd_I_numberOfTrailingZeros_13 (by decide) ?_
  refine lv_iand hx hb dd_I_numberOfTrailingZeros_15 ?_
  refine ct_topi (y := nI 0) (by rw [show 2 ^ t - 1 = 0 by omega]; decide) ?_
  refine ct_iret (u := ()) hx hb hr hlocks hK hP hD hS rfl ?_ dd_I_numberOfTrailingZeros_16
  have : ¬ 0 < t := fun z => absurd ((cz_c t (by omega)).2.2.2.2.mpr z) (by omega)
  exact congrArg nI (by omega)

set_option maxHeartbeats 4000000 in
set_option maxRecDepth 100000 in
theorem cc_J_numberOfTrailingZeros (l : Launch) (D : va_G) (cJ cB : ClassId) (a t b : Nat) (sz : Nat) (ha : a < 18446744073709551616) (ht : t < 64) (h : a = 2 ^ (t + 1) * b + 2 ^ t) : ct_i l my_J_numberOfTrailingZeros (Cond.code my_J_numberOfTrailingZeros mb_J_numberOfTrailingZeros 3 (some .int) :: TB) ({ frames := 1, cells := 0, slots := 0, locals := 21 } : Room) D classes cJ cB [.long (lN a)] [] sz (fun (r : Int32) (u : Unit) => r = nI t) (fun u => ([] : va_W)) 0 0 := by
  refine ct_ofW (cc := mb_J_numberOfTrailingZeros) (maxL := 3) (ret := some .int) (by decide) rfl (Nat.le_of_ble_eq_true rfl) ?_
  intro p e s m below meth c hx hb hr hml hts hown hlocks hin hsz hK hP hD hA hS hZ ls hl
  have hw : ∀ w ∈ TB, w.before _ s = true := fun w h => hts w (List.mem_cons_of_mem _ h)
  have hown : s.vm.findClass cn_J = some m.cls := hown
  have hin : meth.name = "numberOfTrailingZeros" := hin
  generalize hAe : va_A [] sz = A at hD hA hS hZ ⊢
  clear hAe
  have hl : lv_has ls 3 [(0, .long (lN a))] := hl
  have hP : va_P D classes [] s.heap := hP
  refine lv_lload_n hx hb dd_J_numberOfTrailingZeros_0 rfl (lv_at hl 0 rfl) ?_
  refine lv_l2i (v := (lN a).toInt32) hx hb dd_J_numberOfTrailingZeros_1 rfl ?_
  refine ct_topi (y := nI a) (lN_i _) ?_
  refine lv_istore_n (lv' := [(2, .int (nI a)), (0, .long (lN a))]) hx hb dd_J_numberOfTrailingZeros_2 rfl hl (by decide) rfl (fun ls hl => ?_)
  refine lv_iload_n hx hb dd_J_numberOfTrailingZeros_3 rfl (lv_at hl 0 rfl) ?_
  refine lv_if_ne (tgt := 21) hx hb dd_J_numberOfTrailingZeros_4 (by decide) (fun c_4 => ?_) (fun c_4 => ?_)
  · skip
    have c_4 : ¬ (32 ≤ t) := fun z => c_4 ((cz_lo0 ht h).mpr z)
    refine lv_iload_n hx hb dd_J_numberOfTrailingZeros_21 rfl (lv_at hl 0 rfl) ?_
    refine ct_behind_i (wc := []) (wr := []) (av := [.int (nI a)]) (va_runS (As := [.int (nI a)]) (rest := []) ⟨hx, hb, hml, hown, hw⟩ (cc_I_numberOfTrailingZeros l D cJ cB a t b _ (by omega) h) (va_cwS 1 hw (tb_S wi_334 wi_335 wi_35 wi_336) rfl rfl rfl (by decide +kernel) ⟨Nat.le_of_ble_eq_true rfl, Nat.le_of_ble_eq_true rfl⟩) ⟨ct_blind, ct_pc hZ hK hP hD hS hA [] rfl (by decide)⟩ rfl rfl hl.1 rfl (lv_room (Nat.le_of_ble_eq_true rfl)) dd_J_numberOfTrailingZeros_22 ⟨Nat.le_of_ble_eq_true rfl, Nat.le_of_ble_eq_true rfl⟩) hK hP hD hS hA [] [] rfl rfl (by decide) (by decide) (fun r_22 u_22 H locs hw_22 hP hD hS => ?_)
    subst hw_22
    have hP : va_P D classes [] H := hP
    have hD : va_D A [] := hD
    refine ct_iret (u := ()) hx hb hr hlocks hK hP hD hS rfl ?_ dd_J_numberOfTrailingZeros_25
    rfl
  have c_4 : 32 ≤ t := (cz_lo0 ht h).mp c_4
  refine lv_bipush (v := nI 32) hx hb dd_J_numberOfTrailingZeros_7 (by decide) ?_
  refine lv_lload_n hx hb dd_J_numberOfTrailingZeros_9 rfl (lv_at hl 1 rfl) ?_
  refine lv_bipush (v := nI 32) hx hb dd_J_numberOfTrailingZeros_10 (by decide) ?_
  refine lv_lushr (v := ((lN a).toUInt64 >>> ((nI 32).toInt64.toUInt64 &&& Int64.toUInt64 63)).toInt64) hx hb dd_J_numberOfTrailingZeros_12 rfl ?_
  refine ct_topl (y := lN (a / 4294967296)) (wb_shr (k := 32) ha (by decide)) ?_
  refine lv_l2i (v := (lN (a / 4294967296)).toInt32) hx hb dd_J_numberOfTrailingZeros_13 rfl ?_
  refine ct_topi (y := nI (a / 4294967296)) (lN_i _) ?_
  refine ct_behind_i (wc := []) (wr := []) (av := [.int (nI (a / 4294967296))]) (va_runS (As := [.int (nI (a / 4294967296))]) (rest := [.int (nI 32)]) ⟨hx, hb, hml, hown, hw⟩ (cc_I_numberOfTrailingZeros l D cJ cB (a / 4294967296) (t - 32) b _ (by omega) (cz_hi c_4 h)) (va_cwS 1 hw (tb_S wi_334 wi_335 wi_35 wi_336) rfl rfl rfl (by decide +kernel) ⟨Nat.le_of_ble_eq_true rfl, Nat.le_of_ble_eq_true rfl⟩) ⟨ct_blind, ct_pc hZ hK hP hD hS hA [] rfl (by decide)⟩ rfl rfl hl.1 rfl (lv_room (Nat.le_of_ble_eq_true rfl)) dd_J_numberOfTrailingZeros_14 ⟨Nat.le_of_ble_eq_true rfl, Nat.le_of_ble_eq_true rfl⟩) hK hP hD hS hA [] [] rfl rfl (by decide) (by decide) (fun r_14 u_14 H locs hw_14 hP hD hS => ?_)
  subst hw_14
  have hP : va_P D classes [] H := hP
  have hD : va_D A [] := hD
  refine lv_iadd hx hb dd_J_numberOfTrailingZeros_17 ?_
  refine ct_topi (y := nI (32 + (t - 32))) (nI_add _ _) ?_
  refine lv_goto (tgt := 25) hx hb dd_J_numberOfTrailingZeros_18 (by decide) ?_
  refine ct_iret (u := ()) hx hb hr hlocks hK hP hD hS rfl ?_ dd_J_numberOfTrailingZeros_25
  exact congrArg nI (by omega)
end
section
/-! writing: helps -/
theorem cp_one (t : Nat) : cp_b 1 t = decide (t = 0) := by
  show cp_b (lN 1) t = _
  rw [cp_N]
  cases t with
  | zero => decide
  | succ t => rw [Nat.testBit_succ, show 1 / 2 = 0 by decide, Nat.zero_testBit, Bool.and_false, decide_eq_false (by omega)]
theorem cp_1shl {n : Nat} (hn : n < 64) : (1 : Int64) <<< ((nI n).toInt64 &&& 63) = lN (2 ^ n) := by
  apply cp_ext
  intro j hj
  rw [cp_shl _ hn hj, cp_one, cp_N, Nat.testBit_two_pow, decide_eq_true hj, Bool.true_and]
  by_cases c : n = j
  · rw [decide_eq_true c, decide_eq_true (by omega), decide_eq_true (by omega)]; rfl
  · rw [decide_eq_false c]
    by_cases d : n ≤ j
    · rw [decide_eq_false (show ¬ j - n = 0 by omega), Bool.and_false]
    · rw [decide_eq_false d, Bool.false_and]
theorem cp_ones {n : Nat} (hn : n < 64) : (1 : Int64) <<< ((nI n).toInt64 &&& 63) - 1 = lN (2 ^ n - 1) := by
  rw [cp_1shl hn, show (1 : Int64) = lN 1 by decide, lN_sub (Nat.two_pow_pos n)]
theorem cp_mask {t : Int64} {n : Nat} (hn : n < 64) (j : Nat) : cp_b (t &&& ((1 : Int64) <<< ((nI n).toInt64 &&& 63) - 1)) j = (decide (j < n) && cp_b t j) := by
  rw [cp_ones hn, cp_and, cp_N, Nat.testBit_two_pow_sub_one]
  by_cases c : j < n
  · rw [decide_eq_true c, decide_eq_true (show j < 64 by omega), Bool.and_true, Bool.true_and, Bool.and_true]
  · rw [decide_eq_false c, Bool.and_false, Bool.and_false, Bool.false_and]
theorem cp_mask_fit {t : Int64} {n : Nat} (hn : n < 64) : cp_fit (t &&& ((1 : Int64) <<< ((nI n).toInt64 &&& 63) - 1)) n := fun j hj => by rw [cp_mask hn, decide_eq_false (by omega), Bool.false_and]
theorem cp_mask_bl {t : Int64} {n : Nat} (hn : n < 64) : cp_bl (t &&& ((1 : Int64) <<< ((nI n).toInt64 &&& 63) - 1)) n = cp_bl t n := cp_bl_congr (fun j hj => by rw [cp_mask hn, decide_eq_true hj, Bool.true_and])
theorem kd_1s : ∀ k, k < 5 → (lN (2 ^ k - 1)) <<< ((nI 1).toInt64 &&& 63) = lN (2 ^ (k + 1) - 2) := by decide +kernel
theorem kd_kb : ∀ k, k < 4 → cp_bl (lN (2 ^ (k + 1) - 2)) (k + 1) = cp_kb k := by decide +kernel
theorem kd_4 : cp_bl (lN (2 ^ 4 - 1)) 4 = cp_kb 4 := by decide +kernel
theorem cp_tb_le (k : Nat) : cp_tb k ≤ 41 := by
  unfold cp_tb
  split
  · decide
  · split
    · decide
    · split
      · decide
      · split <;> decide
theorem cp_kb_len (k : Nat) : (cp_kb k).length ≤ 4 := by
  unfold cp_kb
  split
  · simp [cp_bl_len]
  · split
    · simp [cp_bl_len]
    · split
      · simp [cp_bl_len]
      · split <;> simp [cp_bl_len]
theorem kd_le {t a b : Int64} (h : a.toInt = b.toInt + 1) : ¬ a ≤ t ↔ t ≤ b := by
  rw [Int64.le_iff_toInt_le, Int64.le_iff_toInt_le, h]; omega
theorem kd_1 {t : Int64} (h0 : ¬ t = 0) (h1 : ¬ t < -64) (h2 : ¬ 64 ≤ t) : cp_kd t = 1 := by
  unfold cp_kd
  rw [if_neg h0, if_pos ⟨Int64.not_lt.mp h1, (kd_le (by decide)).mp h2⟩]
theorem kd_o {t a b c : Int64} (h : c.toInt = b.toInt + 1) (hk : t < a ∨ c ≤ t) : ¬ (a ≤ t ∧ t ≤ b) := by
  rintro ⟨h1, h2⟩
  rcases hk with z | z
  · exact absurd h1 (Int64.not_le.mpr z)
  · exact absurd z ((kd_le h).mpr h2)
theorem kd_2 {t : Int64} (h0 : ¬ t = 0) (k1 : t < -64 ∨ 64 ≤ t) (h1 : ¬ t < -512) (h2 : ¬ 512 ≤ t) : cp_kd t = 2 := by
  unfold cp_kd
  rw [if_neg h0, if_neg (kd_o (by decide) k1), if_pos ⟨Int64.not_lt.mp h1, (kd_le (by decide)).mp h2⟩]
theorem kd_3 {t : Int64} (h0 : ¬ t = 0) (k1 : t < -64 ∨ 64 ≤ t) (k2 : t < -512 ∨ 512 ≤ t) (h1 : ¬ t < -4096) (h2 : ¬ 4096 ≤ t) : cp_kd t = 3 := by
  unfold cp_kd
  rw [if_neg h0, if_neg (kd_o (by decide) k1), if_neg (kd_o (by decide) k2), if_pos ⟨Int64.not_lt.mp h1, (kd_le (by decide)).mp h2⟩]
theorem kd_5 {t : Int64} (h0 : ¬ t = 0) (k1 : t < -64 ∨ 64 ≤ t) (k2 : t < -512 ∨ 512 ≤ t) (k3 : t < -4096 ∨ 4096 ≤ t) : cp_kd t = 4 := by
  unfold cp_kd
  rw [if_neg h0, if_neg (kd_o (by decide) k1), if_neg (kd_o (by decide) k2), if_neg (kd_o (by decide) k3)]
theorem kd_0 {t : Int64} (h0 : t = 0) : cp_kd t = 0 := by unfold cp_kd; rw [if_pos h0]
/-- a long that isn't 0 by its highest and its lowest 1 -/
theorem cz_ex {x : Int64} (h : x ≠ 0) : ∃ a mm t b : Nat, x = lN a ∧ a < 18446744073709551616 ∧ 2 ^ mm ≤ a ∧ a < 2 ^ (mm + 1) ∧ cp_lz x = 63 - mm ∧ mm < 64 ∧ t < 64 ∧ a = 2 ^ (t + 1) * b + 2 ^ t ∧ cp_tz x = t := by
  obtain ⟨a, ha, hxa⟩ : ∃ n, n < 2 ^ 64 ∧ x = lN n := ⟨x.toBitVec.toNat, x.toBitVec.isLt, Int64.toBitVec_inj.mp (by rw [wb_tb]; simp)⟩
  have ha0 : a ≠ 0 := by
    intro z; subst z; exact h hxa
  have h1 := Nat.log2_self_le ha0
  have h2 : a < 2 ^ (a.log2 + 1) := Nat.lt_log2_self
  have hm : a.log2 < 64 := cz_pw h1 ha
  have ht := cp_tz_lt h
  have hlow := cp_tz_low h
  have hbel : ∀ j, j < cp_tz x → cp_b x j = false := fun j hj => cp_tz_below x hj
  generalize htt : cp_tz x = t at ht hlow hbel
  have hmod : a % 2 ^ t = 0 := by
    apply Nat.eq_of_testBit_eq
    intro j
    rw [Nat.testBit_mod_two_pow, Nat.zero_testBit]
    by_cases c : j < t
    · have e := hbel j c
      rw [hxa, cp_N, decide_eq_true (show j < 64 by omega), Bool.true_and] at e
      rw [e, Bool.and_false]
    · rw [decide_eq_false c, Bool.false_and]
  have hodd : a / 2 ^ t % 2 = 1 := by
    rw [hxa, cp_N, decide_eq_true ht, Bool.true_and, Nat.testBit_eq_decide_div_mod_eq, decide_eq_true_eq] at hlow
    exact hlow
  have e1 := Nat.div_add_mod a (2 ^ t)
  have e2 := Nat.div_add_mod (a / 2 ^ t) 2
  refine ⟨a, a.log2, t, a / 2 ^ t / 2, hxa, ha, h1, h2, cz_lz hxa ha h1 h2, hm, ht, ?_, rfl⟩
  have e3 : a = 2 ^ t * (a / 2 ^ t) := by omega
  have e4 : a / 2 ^ t = 2 * (a / 2 ^ t / 2) + 1 := by omega
  calc a = 2 ^ t * (a / 2 ^ t) := e3
    _ = 2 ^ t * (2 * (a / 2 ^ t / 2) + 1) := by rw [← e4]
    _ = 2 ^ (t + 1) * (a / 2 ^ t / 2) + 2 ^ t := by rw [Nat.mul_add, Nat.mul_one, Nat.pow_succ, Nat.mul_assoc]
theorem cp_sr_fit {x : Int64} {k n : Nat} (hk : k < 64) (h : 64 ≤ n + k + cp_lz x) : cp_fit (cp_sr x k) n := fun j hj => by
  unfold cp_sr
  rw [cp_ushr x hk]
  exact cp_lz_above x (by omega)
theorem ct_loop {p : Program} {l : Launch} {e : Env} {R : Room} {s : State} {m : MethodId} {args : Array Value} {below : List Frame} {meth : Method} {c : Code} {cells slots : Nat} {Q : State → Prop} {pc : Nat} {stk : List Value} {σ : Type} (I : σ → Heap → List Loc → Array Slot → Prop) (μ : σ → Nat)
    (hs : ∀ (a : σ) (H : Heap) (locs : List Loc) (ls : Array Slot), I a H locs ls → (∀ (b : σ) (H' : Heap) (locs' : List Loc) (ls' : Array Slot), μ b < μ a → I b H' locs' ls' → W p l e R s m args below meth c H' locs' cells slots Q (F0 m pc ls' stk)) → W p l e R s m args below meth c H locs cells slots Q (F0 m pc ls stk)) :
    ∀ (a : σ) {H : Heap} {locs : List Loc} {ls : Array Slot}, I a H locs ls → W p l e R s m args below meth c H locs cells slots Q (F0 m pc ls stk) := by
  have key : ∀ (n : Nat) (a : σ), μ a < n → ∀ (H : Heap) (locs : List Loc) (ls : Array Slot), I a H locs ls → W p l e R s m args below meth c H locs cells slots Q (F0 m pc ls stk) := by
    intro n
    induction n with
    | zero => intro a h; exact absurd h (Nat.not_lt_zero _)
    | succ n ih => intro a h H locs ls hI; exact hs a H locs ls hI (fun b H' locs' ls' hb hI' => ih b (by omega) H' locs' ls' hI')
  intro a H locs ls h
  exact key (μ a + 1) a (by omega) H locs ls h

set_option maxHeartbeats 4000000 in
set_option maxRecDepth 100000 in
theorem cs_B_append (l : Launch) (D : va_G) (cJ cB : ClassId) (q qw : Nat) (w : Nat → Int64) (L : List Bool) (v : Int64) (k : Nat) (sz : Nat) (hL : L.length + k ≤ 400000) (hR : cp_Rw w L) (hk : k ≤ 64) (hf : cp_fit v k) : ct_i l my_B_append (Cond.code my_B_append mb_B_append 10 (some .boolean) :: TB) ({ frames := 0, cells := 0, slots := 0, locals := 0 } : Room) D classes cJ cB [.ref q, .long v, .int (nI k)] [(q, .inr (0, [.ref qw, .int (nI L.length)])), (qw, .inl (cJ, 6250, .inr (.inl w)))] sz (fun (r : Int32) (u : Nat → Int64) => r = nI 1 ∧ cp_Rw u (L ++ cp_bl v k)) (fun u => [(q, .inr (0, [.ref qw, .int (nI ((L ++ cp_bl v k).length))])), (qw, .inl (cJ, 6250, .inr (.inl u)))]) 0 0 := by
  refine ct_ofW (cc := mb_B_append) (maxL := 10) (ret := some .boolean) (by decide) rfl (Nat.le_of_ble_eq_true rfl) ?_
  intro p e s m below meth c hx hb hr hml hts hown hlocks hin hsz hK hP hD hA hS hZ ls hl
  have hw : ∀ w ∈ TB, w.before _ s = true := fun w h => hts w (List.mem_cons_of_mem _ h)
  have hown : s.vm.findClass cn_B = some m.cls := hown
  have hin : meth.name = "append" := hin
  generalize hAe : va_A [(q, .inr (0, [.ref qw, .int (nI L.length)])), (qw, .inl (cJ, 6250, .inr (.inl w)))] sz = A at hD hA hS hZ ⊢
  clear hAe
  have hl : lv_has ls 10 [(0, .ref q), (1, .long v), (3, .int (nI k))] := hl
  have hP : va_P D classes [(q, .inr (0, [.ref qw, .int (nI L.length)])), (qw, .inl (cJ, 6250, .inr (.inl w)))] s.heap := hP
  refine lv_iload_n hx hb dd_B_append_0 rfl (lv_at hl 2 rfl) ?_
  refine lv_ldc (v := 400000) hx hb hown (hw _ wi_299) dd_B_append_1 ?_
  refine ct_topi (y := nI 400000) (by decide) ?_
  refine lv_aload_n hx hb dd_B_append_3 rfl (lv_at hl 0 rfl) ?_
  refine va_get (D := D) (ci := 0) (C := cn_B) (T := cf_B) (N := 2) hx hb hw in_B hown hK hP 0 rfl rfl 1 (by decide) (hw _ wi_70) (fun _ h9 => h9) rfl dd_B_append_4 ?_
  refine lv_isub hx hb dd_B_append_7 ?_
  refine ct_topi (y := nI (400000 - L.length)) (pk_sub (by omega)) ?_
  refine lv_icmp_le (tgt := 13) hx hb dd_B_append_8 (by decide) (fun c_8 => ?_) (fun c_8 => ?_)
  · skip
    have c_8 : k ≤ (400000 - L.length) := (nI_leI (by omega) (by omega)).mp c_8
    refine lv_iload_n hx hb dd_B_append_13 rfl (lv_at hl 2 rfl) ?_
    refine lv_if_ne (tgt := 19) hx hb dd_B_append_14 (by decide) (fun c_14 => ?_) (fun c_14 => ?_)
    · skip
      have c_14 : ¬ (k = 0) := fun z => c_14 ((ct_zeq (by omega)).mpr z)
      refine lv_aload_n hx hb dd_B_append_19 rfl (lv_at hl 0 rfl) ?_
      refine va_get (D := D) (ci := 0) (C := cn_B) (T := cf_B) (N := 2) hx hb hw in_B hown hK hP 0 rfl rfl 1 (by decide) (hw _ wi_70) (fun _ h9 => h9) rfl dd_B_append_20 ?_
      refine lv_bipush (v := nI 64) hx hb dd_B_append_23 (by decide) ?_
      refine lv_idiv hx hb dd_B_append_25 (by decide) ?_
      refine ct_topi (y := nI (L.length / 64)) (pk_div (by omega) (by decide) (by decide)) ?_
      refine lv_istore (lv' := [(4, .int (nI (L.length / 64))), (0, .ref q), (1, .long v), (3, .int (nI k))]) hx hb dd_B_append_26 hl (by decide) rfl (fun ls hl => ?_)
      refine lv_aload_n hx hb dd_B_append_28 rfl (lv_at hl 1 rfl) ?_
      refine va_get (D := D) (ci := 0) (C := cn_B) (T := cf_B) (N := 2) hx hb hw in_B hown hK hP 0 rfl rfl 1 (by decide) (hw _ wi_70) (fun _ h9 => h9) rfl dd_B_append_29 ?_
      refine lv_bipush (v := nI 64) hx hb dd_B_append_32 (by decide) ?_
      refine lv_irem hx hb dd_B_append_34 (by decide) ?_
      refine ct_topi (y := nI (L.length % 64)) (pk_rem (by omega) (by decide) (by decide)) ?_
      refine lv_istore (lv' := [(5, .int (nI (L.length % 64))), (4, .int (nI (L.length / 64))), (0, .ref q), (1, .long v), (3, .int (nI k))]) hx hb dd_B_append_35 hl (by decide) rfl (fun ls hl => ?_)
      refine lv_bipush (v := nI 64) hx hb dd_B_append_37 (by decide) ?_
      refine lv_iload hx hb dd_B_append_39 (lv_at hl 0 rfl) ?_
      refine lv_isub hx hb dd_B_append_41 ?_
      refine ct_topi (y := nI (64 - (L.length % 64))) (pk_sub (by omega)) ?_
      refine lv_istore (lv' := [(6, .int (nI (64 - (L.length % 64)))), (5, .int (nI (L.length % 64))), (4, .int (nI (L.length / 64))), (0, .ref q), (1, .long v), (3, .int (nI k))]) hx hb dd_B_append_42 hl (by decide) rfl (fun ls hl => ?_)
      refine lv_iload hx hb dd_B_append_44 (lv_at hl 1 rfl) ?_
      refine lv_if_ne (tgt := 53) hx hb dd_B_append_46 (by decide) (fun c_46 => ?_) (fun c_46 => ?_)
      · skip
        have c_46 : ¬ ((L.length % 64) = 0) := fun z => c_46 ((ct_zeq (by omega)).mpr z)
        refine lv_aload_n hx hb dd_B_append_53 rfl (lv_at hl 3 rfl) ?_
        refine va_get (D := D) (ci := 0) (C := cn_B) (T := cf_B) (N := 2) hx hb hw in_B hown hK hP 0 rfl rfl 0 (by decide) (hw _ wi_69) (fun _ h9 => h9) rfl dd_B_append_54 ?_
        refine lv_iload hx hb dd_B_append_57 (lv_at hl 2 rfl) ?_
        refine va_lald hx hb hK hP 1 0 rfl rfl (vp_in_nI (by omega) (by omega)) dd_B_append_59 ?_
        refine ct_topl (y := w (L.length / 64)) (by rw [nI_clamp (by omega)]) ?_
        refine lv_iload hx hb dd_B_append_60 (lv_at hl 0 rfl) ?_
        refine lv_lushr (v := ((w (L.length / 64)).toUInt64 >>> ((nI (64 - (L.length % 64))).toInt64.toUInt64 &&& Int64.toUInt64 63)).toInt64) hx hb dd_B_append_62 rfl ?_
        refine lv_iload hx hb dd_B_append_63 (lv_at hl 0 rfl) ?_
        refine lv_lshl (v := (((w (L.length / 64)).toUInt64 >>> ((nI (64 - (L.length % 64))).toInt64.toUInt64 &&& Int64.toUInt64 63)).toInt64) <<< ((nI (64 - (L.length % 64))).toInt64 &&& 63)) hx hb dd_B_append_65 rfl ?_
        refine ct_topl (y := cp_hd w L.length) ((if_neg c_46).symm) ?_
        refine lv_lstore (lv' := [(7, .long (cp_hd w L.length)), (6, .int (nI (64 - (L.length % 64)))), (5, .int (nI (L.length % 64))), (4, .int (nI (L.length / 64))), (0, .ref q), (1, .long v), (3, .int (nI k))]) hx hb dd_B_append_66 hl (by decide) rfl (fun ls hl => ?_)
        refine lv_iload_n hx hb dd_B_append_68 rfl (lv_at hl 6 rfl) ?_
        refine lv_iload hx hb dd_B_append_69 (lv_at hl 1 rfl) ?_
        refine lv_icmp_gt (tgt := 93) hx hb dd_B_append_71 (by decide) (fun c_71 => ?_) (fun c_71 => ?_)
        · skip
          have c_71 : (64 - (L.length % 64)) < k := (nI_ltI (by omega) (by omega)).mp c_71
          refine lv_iload_n hx hb dd_B_append_93 rfl (lv_at hl 6 rfl) ?_
          refine lv_iload hx hb dd_B_append_94 (lv_at hl 1 rfl) ?_
          refine lv_isub hx hb dd_B_append_96 ?_
          refine ct_topi (y := nI (k - (64 - (L.length % 64)))) (pk_sub (by omega)) ?_
          refine lv_istore (lv' := [(9, .int (nI (k - (64 - (L.length % 64))))), (7, .long (cp_hd w L.length)), (6, .int (nI (64 - (L.length % 64)))), (5, .int (nI (L.length % 64))), (4, .int (nI (L.length / 64))), (0, .ref q), (1, .long v), (3, .int (nI k))]) hx hb dd_B_append_97 hl (by decide) rfl (fun ls hl => ?_)
          refine lv_aload_n hx hb dd_B_append_99 rfl (lv_at hl 5 rfl) ?_
          refine va_get (D := D) (ci := 0) (C := cn_B) (T := cf_B) (N := 2) hx hb hw in_B hown hK hP 0 rfl rfl 0 (by decide) (hw _ wi_69) (fun _ h9 => h9) rfl dd_B_append_100 ?_
          refine lv_iload hx hb dd_B_append_103 (lv_at hl 4 rfl) ?_
          refine lv_lload hx hb dd_B_append_105 (lv_at hl 1 rfl) ?_
          refine lv_lload_n hx hb dd_B_append_107 rfl (lv_at hl 6 rfl) ?_
          refine lv_iload hx hb dd_B_append_108 (lv_at hl 0 rfl) ?_
          refine lv_lushr (v := (v.toUInt64 >>> ((nI (k - (64 - (L.length % 64)))).toInt64.toUInt64 &&& Int64.toUInt64 63)).toInt64) hx hb dd_B_append_110 rfl ?_
          refine lv_lor hx hb dd_B_append_111 ?_
          refine va_last hx hb hK hP hD hS 1 0 rfl rfl (vp_in_nI (by omega) (by omega)) dd_B_append_112 (fun H locs hP hD hS => ?_)
          rw [show (nI (L.length / 64)).toNatClampNeg = L.length / 64 from nI_clamp (by omega)] at hP hD
          have hP : va_P D classes [(q, .inr (0, [.ref qw, .int (nI L.length)])), (qw, .inl (cJ, 6250, .inr (.inl (vp_updL w (L.length / 64) ((cp_hd w L.length) ||| ((v.toUInt64 >>> ((nI (k - (64 - (L.length % 64)))).toInt64.toUInt64 &&& Int64.toUInt64 63)).toInt64))))))] H := hP
          have hD : va_D A [(q, .inr (0, [.ref qw, .int (nI L.length)])), (qw, .inl (cJ, 6250, .inr (.inl (vp_updL w (L.length / 64) ((cp_hd w L.length) ||| ((v.toUInt64 >>> ((nI (k - (64 - (L.length % 64)))).toInt64.toUInt64 &&& Int64.toUInt64 63)).toInt64))))))] := hD
          refine lv_aload_n hx hb dd_B_append_113 rfl (lv_at hl 5 rfl) ?_
          refine va_get (D := D) (ci := 0) (C := cn_B) (T := cf_B) (N := 2) hx hb hw in_B hown hK hP 0 rfl rfl 0 (by decide) (hw _ wi_69) (fun _ h9 => h9) rfl dd_B_append_114 ?_
          refine lv_iload hx hb dd_B_append_117 (lv_at hl 4 rfl) ?_
          refine lv_iconst (v := nI 1) hx hb dd_B_append_119 (by decide) ?_
          refine lv_iadd hx hb dd_B_append_120 ?_
          refine ct_topi (y := nI (L.length / 64 + 1)) (nI_add _ _) ?_
          refine lv_lload_n hx hb dd_B_append_121 rfl (lv_at hl 6 rfl) ?_
          refine lv_bipush (v := nI 64) hx hb dd_B_append_122 (by decide) ?_
          refine lv_iload hx hb dd_B_append_124 (lv_at hl 0 rfl) ?_
          refine lv_isub hx hb dd_B_append_126 ?_
          refine ct_topi (y := nI (64 - (k - (64 - (L.length % 64))))) (pk_sub (by omega)) ?_
          refine lv_lshl (v := v <<< ((nI (64 - (k - (64 - (L.length % 64))))).toInt64 &&& 63)) hx hb dd_B_append_127 rfl ?_
          refine va_last hx hb hK hP hD hS 1 0 rfl rfl (vp_in_nI (by omega) (by omega)) dd_B_append_128 (fun H locs hP hD hS => ?_)
          rw [show (nI (L.length / 64 + 1)).toNatClampNeg = L.length / 64 + 1 from nI_clamp (by omega)] at hP hD
          have hP : va_P D classes [(q, .inr (0, [.ref qw, .int (nI L.length)])), (qw, .inl (cJ, 6250, .inr (.inl (vp_updL (vp_updL w (L.length / 64) ((cp_hd w L.length) ||| ((v.toUInt64 >>> ((nI (k - (64 - (L.length % 64)))).toInt64.toUInt64 &&& Int64.toUInt64 63)).toInt64))) (L.length / 64 + 1) (v <<< ((nI (64 - (k - (64 - (L.length % 64))))).toInt64 &&& 63))))))] H := hP
          have hD : va_D A [(q, .inr (0, [.ref qw, .int (nI L.length)])), (qw, .inl (cJ, 6250, .inr (.inl (vp_updL (vp_updL w (L.length / 64) ((cp_hd w L.length) ||| ((v.toUInt64 >>> ((nI (k - (64 - (L.length % 64)))).toInt64.toUInt64 &&& Int64.toUInt64 63)).toInt64))) (L.length / 64 + 1) (v <<< ((nI (64 - (k - (64 - (L.length % 64))))).toInt64 &&& 63))))))] := hD
          refine lv_aload_n hx hb dd_B_append_129 rfl (lv_at hl 5 rfl) ?_
          refine lv_dup hx hb dd_B_append_130 rfl ?_
          refine va_get (D := D) (ci := 0) (C := cn_B) (T := cf_B) (N := 2) hx hb hw in_B hown hK hP 0 rfl rfl 1 (by decide) (hw _ wi_70) (fun _ h9 => h9) rfl dd_B_append_131 ?_
          refine lv_iload_n hx hb dd_B_append_134 rfl (lv_at hl 7 rfl) ?_
          refine lv_iadd hx hb dd_B_append_135 ?_
          refine ct_topi (y := nI (L.length + k)) (nI_add _ _) ?_
          refine va_put (D := D) (ci := 0) (v := .int (nI (L.length + k))) (ty := .int) (C := cn_B) (T := cf_B) (N := 2) hx hb hw in_B ty_B to_B nn_B hown hK hP hD hS 0 rfl rfl 1 (by decide) (hw _ wi_70) (fun _ h9 => h9) rfl (by decide +kernel) (rfl) (rfl) (Nat.le_of_ble_eq_true rfl) dd_B_append_136 (fun H locs hP hD hS => ?_)
          have hP : va_P D classes [(q, .inr (0, [.ref qw, .int (nI (L.length + k))])), (qw, .inl (cJ, 6250, .inr (.inl (vp_updL (vp_updL w (L.length / 64) ((cp_hd w L.length) ||| ((v.toUInt64 >>> ((nI (k - (64 - (L.length % 64)))).toInt64.toUInt64 &&& Int64.toUInt64 63)).toInt64))) (L.length / 64 + 1) (v <<< ((nI (64 - (k - (64 - (L.length % 64))))).toInt64 &&& 63))))))] H := hP
          have hD : va_D A [(q, .inr (0, [.ref qw, .int (nI (L.length + k))])), (qw, .inl (cJ, 6250, .inr (.inl (vp_updL (vp_updL w (L.length / 64) ((cp_hd w L.length) ||| ((v.toUInt64 >>> ((nI (k - (64 - (L.length % 64)))).toInt64.toUInt64 &&& Int64.toUInt64 63)).toInt64))) (L.length / 64 + 1) (v <<< ((nI (64 - (k - (64 - (L.length % 64))))).toInt64 &&& 63))))))] := hD
          refine lv_iconst (v := nI 1) hx hb dd_B_append_139 (by decide) ?_
          rw [show L.length + k = (L ++ cp_bl v k).length by rw [List.length_append, cp_bl_len]] at hP hD
          refine ct_zret (u := vp_updL (vp_updL w (L.length / 64) ((cp_hd w L.length) ||| ((v.toUInt64 >>> ((nI (k - (64 - (L.length % 64)))).toInt64.toUInt64 &&& Int64.toUInt64 63)).toInt64))) (L.length / 64 + 1) (v <<< ((nI (64 - (k - (64 - (L.length % 64))))).toInt64 &&& 63))) hx hb hr hlocks (by decide) hK hP hD hS rfl ?_ dd_B_append_140
          exact ⟨rfl, cp_app2 hR (by omega) hf (by omega)⟩
        have c_71 : ¬ ((64 - (L.length % 64)) < k) := fun z => c_71 ((nI_ltI (by omega) (by omega)).mpr z)
        refine lv_aload_n hx hb dd_B_append_74 rfl (lv_at hl 4 rfl) ?_
        refine va_get (D := D) (ci := 0) (C := cn_B) (T := cf_B) (N := 2) hx hb hw in_B hown hK hP 0 rfl rfl 0 (by decide) (hw _ wi_69) (fun _ h9 => h9) rfl dd_B_append_75 ?_
        refine lv_iload hx hb dd_B_append_78 (lv_at hl 3 rfl) ?_
        refine lv_lload hx hb dd_B_append_80 (lv_at hl 0 rfl) ?_
        refine lv_lload_n hx hb dd_B_append_82 rfl (lv_at hl 5 rfl) ?_
        refine lv_iload hx hb dd_B_append_83 (lv_at hl 1 rfl) ?_
        refine lv_iload_n hx hb dd_B_append_85 rfl (lv_at hl 6 rfl) ?_
        refine lv_isub hx hb dd_B_append_86 ?_
        refine ct_topi (y := nI (64 - (L.length % 64) - k)) (pk_sub (by omega)) ?_
        refine lv_lshl (v := v <<< ((nI (64 - (L.length % 64) - k)).toInt64 &&& 63)) hx hb dd_B_append_87 rfl ?_
        refine lv_lor hx hb dd_B_append_88 ?_
        refine va_last hx hb hK hP hD hS 1 0 rfl rfl (vp_in_nI (by omega) (by omega)) dd_B_append_89 (fun H locs hP hD hS => ?_)
        rw [show (nI (L.length / 64)).toNatClampNeg = L.length / 64 from nI_clamp (by omega)] at hP hD
        have hP : va_P D classes [(q, .inr (0, [.ref qw, .int (nI L.length)])), (qw, .inl (cJ, 6250, .inr (.inl (vp_updL w (L.length / 64) ((cp_hd w L.length) ||| (v <<< ((nI (64 - (L.length % 64) - k)).toInt64 &&& 63)))))))] H := hP
        have hD : va_D A [(q, .inr (0, [.ref qw, .int (nI L.length)])), (qw, .inl (cJ, 6250, .inr (.inl (vp_updL w (L.length / 64) ((cp_hd w L.length) ||| (v <<< ((nI (64 - (L.length % 64) - k)).toInt64 &&& 63)))))))] := hD
        refine lv_goto (tgt := 129) hx hb dd_B_append_90 (by decide) ?_
        refine lv_aload_n hx hb dd_B_append_129 rfl (lv_at hl 4 rfl) ?_
        refine lv_dup hx hb dd_B_append_130 rfl ?_
        refine va_get (D := D) (ci := 0) (C := cn_B) (T := cf_B) (N := 2) hx hb hw in_B hown hK hP 0 rfl rfl 1 (by decide) (hw _ wi_70) (fun _ h9 => h9) rfl dd_B_append_131 ?_
        refine lv_iload_n hx hb dd_B_append_134 rfl (lv_at hl 6 rfl) ?_
        refine lv_iadd hx hb dd_B_append_135 ?_
        refine ct_topi (y := nI (L.length + k)) (nI_add _ _) ?_
        refine va_put (D := D) (ci := 0) (v := .int (nI (L.length + k))) (ty := .int) (C := cn_B) (T := cf_B) (N := 2) hx hb hw in_B ty_B to_B nn_B hown hK hP hD hS 0 rfl rfl 1 (by decide) (hw _ wi_70) (fun _ h9 => h9) rfl (by decide +kernel) (rfl) (rfl) (Nat.le_of_ble_eq_true rfl) dd_B_append_136 (fun H locs hP hD hS => ?_)
        have hP : va_P D classes [(q, .inr (0, [.ref qw, .int (nI (L.length + k))])), (qw, .inl (cJ, 6250, .inr (.inl (vp_updL w (L.length / 64) ((cp_hd w L.length) ||| (v <<< ((nI (64 - (L.length % 64) - k)).toInt64 &&& 63)))))))] H := hP
        have hD : va_D A [(q, .inr (0, [.ref qw, .int (nI (L.length + k))])), (qw, .inl (cJ, 6250, .inr (.inl (vp_updL w (L.length / 64) ((cp_hd w L.length) ||| (v <<< ((nI (64 - (L.length % 64) - k)).toInt64 &&& 63)))))))] := hD
        refine lv_iconst (v := nI 1) hx hb dd_B_append_139 (by decide) ?_
        rw [show L.length + k = (L ++ cp_bl v k).length by rw [List.length_append, cp_bl_len]] at hP hD
        refine ct_zret (u := vp_updL w (L.length / 64) ((cp_hd w L.length) ||| (v <<< ((nI (64 - (L.length % 64) - k)).toInt64 &&& 63)))) hx hb hr hlocks (by decide) hK hP hD hS rfl ?_ dd_B_append_140
        exact ⟨rfl, cp_app1 hR (by omega) hf (by omega)⟩
      have c_46 : (L.length % 64) = 0 := (ct_zeq (by omega)).mp c_46
      refine lv_lconst (v := 0) hx hb dd_B_append_49 (by decide) ?_
      refine ct_topl (y := cp_hd w L.length) ((if_pos c_46).symm) ?_
      refine lv_goto (tgt := 66) hx hb dd_B_append_50 (by decide) ?_
      refine lv_lstore (lv' := [(7, .long (cp_hd w L.length)), (6, .int (nI (64 - (L.length % 64)))), (5, .int (nI (L.length % 64))), (4, .int (nI (L.length / 64))), (0, .ref q), (1, .long v), (3, .int (nI k))]) hx hb dd_B_append_66 hl (by decide) rfl (fun ls hl => ?_)
      refine lv_iload_n hx hb dd_B_append_68 rfl (lv_at hl 6 rfl) ?_
      refine lv_iload hx hb dd_B_append_69 (lv_at hl 1 rfl) ?_
      refine lv_icmp_gt (tgt := 93) hx hb dd_B_append_71 (by decide) (fun c_71 => ?_) (fun c_71 => ?_)
      · skip
        have c_71 : (64 - (L.length % 64)) < k := (nI_ltI (by omega) (by omega)).mp c_71
        refine lv_iload_n hx hb dd_B_append_93 rfl (lv_at hl 6 rfl) ?_
        refine lv_iload hx hb dd_B_append_94 (lv_at hl 1 rfl) ?_
        refine lv_isub hx hb dd_B_append_96 ?_
        refine ct_topi (y := nI (k - (64 - (L.length % 64)))) (pk_sub (by omega)) ?_
        refine lv_istore (lv' := [(9, .int (nI (k - (64 - (L.length % 64))))), (7, .long (cp_hd w L.length)), (6, .int (nI (64 - (L.length % 64)))), (5, .int (nI (L.length % 64))), (4, .int (nI (L.length / 64))), (0, .ref q), (1, .long v), (3, .int (nI k))]) hx hb dd_B_append_97 hl (by decide) rfl (fun ls hl => ?_)
        refine lv_aload_n hx hb dd_B_append_99 rfl (lv_at hl 5 rfl) ?_
        refine va_get (D := D) (ci := 0) (C := cn_B) (T := cf_B) (N := 2) hx hb hw in_B hown hK hP 0 rfl rfl 0 (by decide) (hw _ wi_69) (fun _ h9 => h9) rfl dd_B_append_100 ?_
        refine lv_iload hx hb dd_B_append_103 (lv_at hl 4 rfl) ?_
        refine lv_lload hx hb dd_B_append_105 (lv_at hl 1 rfl) ?_
        refine lv_lload_n hx hb dd_B_append_107 rfl (lv_at hl 6 rfl) ?_
        refine lv_iload hx hb dd_B_append_108 (lv_at hl 0 rfl) ?_
        refine lv_lushr (v := (v.toUInt64 >>> ((nI (k - (64 - (L.length % 64)))).toInt64.toUInt64 &&& Int64.toUInt64 63)).toInt64) hx hb dd_B_append_110 rfl ?_
        refine lv_lor hx hb dd_B_append_111 ?_
        refine va_last hx hb hK hP hD hS 1 0 rfl rfl (vp_in_nI (by omega) (by omega)) dd_B_append_112 (fun H locs hP hD hS => ?_)
        rw [show (nI (L.length / 64)).toNatClampNeg = L.length / 64 from nI_clamp (by omega)] at hP hD
        have hP : va_P D classes [(q, .inr (0, [.ref qw, .int (nI L.length)])), (qw, .inl (cJ, 6250, .inr (.inl (vp_updL w (L.length / 64) ((cp_hd w L.length) ||| ((v.toUInt64 >>> ((nI (k - (64 - (L.length % 64)))).toInt64.toUInt64 &&& Int64.toUInt64 63)).toInt64))))))] H := hP
        have hD : va_D A [(q, .inr (0, [.ref qw, .int (nI L.length)])), (qw, .inl (cJ, 6250, .inr (.inl (vp_updL w (L.length / 64) ((cp_hd w L.length) ||| ((v.toUInt64 >>> ((nI (k - (64 - (L.length % 64)))).toInt64.toUInt64 &&& Int64.toUInt64 63)).toInt64))))))] := hD
        refine lv_aload_n hx hb dd_B_append_113 rfl (lv_at hl 5 rfl) ?_
        refine va_get (D := D) (ci := 0) (C := cn_B) (T := cf_B) (N := 2) hx hb hw in_B hown hK hP 0 rfl rfl 0 (by decide) (hw _ wi_69) (fun _ h9 => h9) rfl dd_B_append_114 ?_
        refine lv_iload hx hb dd_B_append_117 (lv_at hl 4 rfl) ?_
        refine lv_iconst (v := nI 1) hx hb dd_B_append_119 (by decide) ?_
        refine lv_iadd hx hb dd_B_append_120 ?_
        refine ct_topi (y := nI (L.length / 64 + 1)) (nI_add _ _) ?_
        refine lv_lload_n hx hb dd_B_append_121 rfl (lv_at hl 6 rfl) ?_
        refine lv_bipush (v := nI 64) hx hb dd_B_append_122 (by decide) ?_
        refine lv_iload hx hb dd_B_append_124 (lv_at hl 0 rfl) ?_
        refine lv_isub hx hb dd_B_append_126 ?_
        refine ct_topi (y := nI (64 - (k - (64 - (L.length % 64))))) (pk_sub (by omega)) ?_
        refine lv_lshl (v := v <<< ((nI (64 - (k - (64 - (L.length % 64))))).toInt64 &&& 63)) hx hb dd_B_append_127 rfl ?_
        refine va_last hx hb hK hP hD hS 1 0 rfl rfl (vp_in_nI (by omega) (by omega)) dd_B_append_128 (fun H locs hP hD hS => ?_)
        rw [show (nI (L.length / 64 + 1)).toNatClampNeg = L.length / 64 + 1 from nI_clamp (by omega)] at hP hD
        have hP : va_P D classes [(q, .inr (0, [.ref qw, .int (nI L.length)])), (qw, .inl (cJ, 6250, .inr (.inl (vp_updL (vp_updL w (L.length / 64) ((cp_hd w L.length) ||| ((v.toUInt64 >>> ((nI (k - (64 - (L.length % 64)))).toInt64.toUInt64 &&& Int64.toUInt64 63)).toInt64))) (L.length / 64 + 1) (v <<< ((nI (64 - (k - (64 - (L.length % 64))))).toInt64 &&& 63))))))] H := hP
        have hD : va_D A [(q, .inr (0, [.ref qw, .int (nI L.length)])), (qw, .inl (cJ, 6250, .inr (.inl (vp_updL (vp_updL w (L.length / 64) ((cp_hd w L.length) ||| ((v.toUInt64 >>> ((nI (k - (64 - (L.length % 64)))).toInt64.toUInt64 &&& Int64.toUInt64 63)).toInt64))) (L.length / 64 + 1) (v <<< ((nI (64 - (k - (64 - (L.length % 64))))).toInt64 &&& 63))))))] := hD
        refine lv_aload_n hx hb dd_B_append_129 rfl (lv_at hl 5 rfl) ?_
        refine lv_dup hx hb dd_B_append_130 rfl ?_
        refine va_get (D := D) (ci := 0) (C := cn_B) (T := cf_B) (N := 2) hx hb hw in_B hown hK hP 0 rfl rfl 1 (by decide) (hw _ wi_70) (fun _ h9 => h9) rfl dd_B_append_131 ?_
        refine lv_iload_n hx hb dd_B_append_134 rfl (lv_at hl 7 rfl) ?_
        refine lv_iadd hx hb dd_B_append_135 ?_
        refine ct_topi (y := nI (L.length + k)) (nI_add _ _) ?_
        refine va_put (D := D) (ci := 0) (v := .int (nI (L.length + k))) (ty := .int) (C := cn_B) (T := cf_B) (N := 2) hx hb hw in_B ty_B to_B nn_B hown hK hP hD hS 0 rfl rfl 1 (by decide) (hw _ wi_70) (fun _ h9 => h9) rfl (by decide +kernel) (rfl) (rfl) (Nat.le_of_ble_eq_true rfl) dd_B_append_136 (fun H locs hP hD hS => ?_)
        have hP : va_P D classes [(q, .inr (0, [.ref qw, .int (nI (L.length + k))])), (qw, .inl (cJ, 6250, .inr (.inl (vp_updL (vp_updL w (L.length / 64) ((cp_hd w L.length) ||| ((v.toUInt64 >>> ((nI (k - (64 - (L.length % 64)))).toInt64.toUInt64 &&& Int64.toUInt64 63)).toInt64))) (L.length / 64 + 1) (v <<< ((nI (64 - (k - (64 - (L.length % 64))))).toInt64 &&& 63))))))] H := hP
        have hD : va_D A [(q, .inr (0, [.ref qw, .int (nI (L.length + k))])), (qw, .inl (cJ, 6250, .inr (.inl (vp_updL (vp_updL w (L.length / 64) ((cp_hd w L.length) ||| ((v.toUInt64 >>> ((nI (k - (64 - (L.length % 64)))).toInt64.toUInt64 &&& Int64.toUInt64 63)).toInt64))) (L.length / 64 + 1) (v <<< ((nI (64 - (k - (64 - (L.length % 64))))).toInt64 &&& 63))))))] := hD
        refine lv_iconst (v := nI 1) hx hb dd_B_append_139 (by decide) ?_
        rw [show L.length + k = (L ++ cp_bl v k).length by rw [List.length_append, cp_bl_len]] at hP hD
        refine ct_zret (u := vp_updL (vp_updL w (L.length / 64) ((cp_hd w L.length) ||| ((v.toUInt64 >>> ((nI (k - (64 - (L.length % 64)))).toInt64.toUInt64 &&& Int64.toUInt64 63)).toInt64))) (L.length / 64 + 1) (v <<< ((nI (64 - (k - (64 - (L.length % 64))))).toInt64 &&& 63))) hx hb hr hlocks (by decide) hK hP hD hS rfl ?_ dd_B_append_140
        exact ⟨rfl, cp_app2 hR (by omega) hf (by omega)⟩
      have c_71 : ¬ ((64 - (L.length % 64)) < k) := fun z => c_71 ((nI_ltI (by omega) (by omega)).mpr z)
      refine lv_aload_n hx hb dd_B_append_74 rfl (lv_at hl 4 rfl) ?_
      refine va_get (D := D) (ci := 0) (C := cn_B) (T := cf_B) (N := 2) hx hb hw in_B hown hK hP 0 rfl rfl 0 (by decide) (hw _ wi_69) (fun _ h9 => h9) rfl dd_B_append_75 ?_
      refine lv_iload hx hb dd_B_append_78 (lv_at hl 3 rfl) ?_
      refine lv_lload hx hb dd_B_append_80 (lv_at hl 0 rfl) ?_
      refine lv_lload_n hx hb dd_B_append_82 rfl (lv_at hl 5 rfl) ?_
      refine lv_iload hx hb dd_B_append_83 (lv_at hl 1 rfl) ?_
      refine lv_iload_n hx hb dd_B_append_85 rfl (lv_at hl 6 rfl) ?_
      refine lv_isub hx hb dd_B_append_86 ?_
      refine ct_topi (y := nI (64 - (L.length % 64) - k)) (pk_sub (by omega)) ?_
      refine lv_lshl (v := v <<< ((nI (64 - (L.length % 64) - k)).toInt64 &&& 63)) hx hb dd_B_append_87 rfl ?_
      refine lv_lor hx hb dd_B_append_88 ?_
      refine va_last hx hb hK hP hD hS 1 0 rfl rfl (vp_in_nI (by omega) (by omega)) dd_B_append_89 (fun H locs hP hD hS => ?_)
      rw [show (nI (L.length / 64)).toNatClampNeg = L.length / 64 from nI_clamp (by omega)] at hP hD
      have hP : va_P D classes [(q, .inr (0, [.ref qw, .int (nI L.length)])), (qw, .inl (cJ, 6250, .inr (.inl (vp_updL w (L.length / 64) ((cp_hd w L.length) ||| (v <<< ((nI (64 - (L.length % 64) - k)).toInt64 &&& 63)))))))] H := hP
      have hD : va_D A [(q, .inr (0, [.ref qw, .int (nI L.length)])), (qw, .inl (cJ, 6250, .inr (.inl (vp_updL w (L.length / 64) ((cp_hd w L.length) ||| (v <<< ((nI (64 - (L.length % 64) - k)).toInt64 &&& 63)))))))] := hD
      refine lv_goto (tgt := 129) hx hb dd_B_append_90 (by decide) ?_
      refine lv_aload_n hx hb dd_B_append_129 rfl (lv_at hl 4 rfl) ?_
      refine lv_dup hx hb dd_B_append_130 rfl ?_
      refine va_get (D := D) (ci := 0) (C := cn_B) (T := cf_B) (N := 2) hx hb hw in_B hown hK hP 0 rfl rfl 1 (by decide) (hw _ wi_70) (fun _ h9 => h9) rfl dd_B_append_131 ?_
      refine lv_iload_n hx hb dd_B_append_134 rfl (lv_at hl 6 rfl) ?_
      refine lv_iadd hx hb dd_B_append_135 ?_
      refine ct_topi (y := nI (L.length + k)) (nI_add _ _) ?_
      refine va_put (D := D) (ci := 0) (v := .int (nI (L.length + k))) (ty := .int) (C := cn_B) (T := cf_B) (N := 2) hx hb hw in_B ty_B to_B nn_B hown hK hP hD hS 0 rfl rfl 1 (by decide) (hw _ wi_70) (fun _ h9 => h9) rfl (by decide +kernel) (rfl) (rfl) (Nat.le_of_ble_eq_true rfl) dd_B_append_136 (fun H locs hP hD hS => ?_)
      have hP : va_P D classes [(q, .inr (0, [.ref qw, .int (nI (L.length + k))])), (qw, .inl (cJ, 6250, .inr (.inl (vp_updL w (L.length / 64) ((cp_hd w L.length) ||| (v <<< ((nI (64 - (L.length % 64) - k)).toInt64 &&& 63)))))))] H := hP
      have hD : va_D A [(q, .inr (0, [.ref qw, .int (nI (L.length + k))])), (qw, .inl (cJ, 6250, .inr (.inl (vp_updL w (L.length / 64) ((cp_hd w L.length) ||| (v <<< ((nI (64 - (L.length % 64) - k)).toInt64 &&& 63)))))))] := hD
      refine lv_iconst (v := nI 1) hx hb dd_B_append_139 (by decide) ?_
      rw [show L.length + k = (L ++ cp_bl v k).length by rw [List.length_append, cp_bl_len]] at hP hD
      refine ct_zret (u := vp_updL w (L.length / 64) ((cp_hd w L.length) ||| (v <<< ((nI (64 - (L.length % 64) - k)).toInt64 &&& 63)))) hx hb hr hlocks (by decide) hK hP hD hS rfl ?_ dd_B_append_140
      exact ⟨rfl, cp_app1 hR (by omega) hf (by omega)⟩
    have c_14 : k = 0 := (ct_zeq (by omega)).mp c_14
    refine lv_iconst (v := nI 1) hx hb dd_B_append_17 (by decide) ?_
    rw [show L.length = (L ++ cp_bl v k).length by rw [List.length_append, cp_bl_len]; omega] at hP hD
    refine ct_zret (u := w) hx hb hr hlocks (by decide) hK hP hD hS rfl ?_ dd_B_append_18
    refine ⟨rfl, ?_⟩
    subst c_14
    rw [cp_bl, List.append_nil]
    exact hR
  have c_8 : ¬ (k ≤ (400000 - L.length)) := fun z => c_8 ((nI_leI (by omega) (by omega)).mpr z)
  exfalso
  omega

set_option maxHeartbeats 4000000 in
set_option maxRecDepth 100000 in
theorem cc_W_init (l : Launch) (D : va_G) (cJ cB : ClassId) (q qb : Nat) (sz : Nat) : ct_v l my_W_init (Cond.code my_W_init mb_W_init 2 none :: TB) ({ frames := 2, cells := 1, slots := 2, locals := 32 } : Room) D classes cJ cB [.ref q, .ref qb] [(q, .inr (4, [.null, .null, .long 0, .long 0, .long 0]))] sz (fun (u : Nat) => True) (fun u => [(q, .inr (4, [.ref qb, .ref u, .long 0, .long 0, .long 0])), (u, .inr (1, [.int (nI 0), .int (nI 0)]))]) 1 2 := by
  refine ct_ofW (cc := mb_W_init) (maxL := 2) (ret := none) (by decide) rfl (Nat.le_of_ble_eq_true rfl) ?_
  intro p e s m below meth c hx hb hr hml hts hown hlocks hin hsz hK hP hD hA hS hZ ls hl
  have hw : ∀ w ∈ TB, w.before _ s = true := fun w h => hts w (List.mem_cons_of_mem _ h)
  have hown : s.vm.findClass cn_W = some m.cls := hown
  have hin : meth.name = "<init>" := hin
  generalize hAe : va_A [(q, .inr (4, [.null, .null, .long 0, .long 0, .long 0]))] sz = A at hD hA hS hZ ⊢
  clear hAe
  have hl : lv_has ls 2 [(0, .ref q), (1, .ref qb)] := hl
  have hP : va_P D classes [(q, .inr (4, [.null, .null, .long 0, .long 0, .long 0]))] s.heap := hP
  refine lv_aload_n hx hb dd_W_init_0 rfl (lv_at hl 0 rfl) ?_
  refine W.objInit hx hb hown (hw _ wi_232) (hw _ wi_44) (hw _ wi_obj) rfl (by rw [hml]; exact hl.1) rfl dd_W_init_1 (Nat.le_of_ble_eq_true rfl) (Nat.le_of_ble_eq_true rfl) ?_
  refine W.eq (g2 := F0 m 4 ls []) rfl ?_
  refine lv_aload_n hx hb dd_W_init_4 rfl (lv_at hl 0 rfl) ?_
  refine lv_aload_n hx hb dd_W_init_5 rfl (lv_at hl 1 rfl) ?_
  refine va_putF (D := D) (ci := 4) (v := .ref qb) (ty := .object "ChunkPacker$BitRow") (C := cn_W) (T := cf_W) (N := 5) hx hb hw in_W ty_W to_W nn_W hown hK hP hD hS 0 rfl rfl 0 (by decide) (hw _ wi_246) (fun _ h9 => h9) rfl hin rfl (by decide +kernel) (rfl) (rfl) (Nat.le_of_ble_eq_true rfl) dd_W_init_6 (fun H locs hP hD hS => ?_)
  have hP : va_P D classes [(q, .inr (4, [.ref qb, .null, .long 0, .long 0, .long 0]))] H := hP
  have hD : va_D A [(q, .inr (4, [.ref qb, .null, .long 0, .long 0, .long 0]))] := hD
  refine lv_aload_n hx hb dd_W_init_9 rfl (lv_at hl 0 rfl) ?_
  refine va_new (ci := 1) (fs := [.int 0, .int 0]) (C := cn_F) (T := cf_F) (N := 2) hx hb hw in_F ty_F to_F hown (hw _ wi_233) (hw _ wi_234) (hw _ wi_32) hK hP hD hS hA rfl (fun j hj => by rcases (show j = 0 ∨ j = 1 by omega) with rfl | rfl <;> rfl) (Nat.le_of_ble_eq_true rfl) (Nat.le_of_ble_eq_true rfl) dd_W_init_10 (fun qf H hP hD hS => ?_)
  have hP : va_P D classes [(q, .inr (4, [.ref qb, .null, .long 0, .long 0, .long 0])), (qf, .inr (1, [.int 0, .int 0]))] H := hP
  have hD : va_D A [(q, .inr (4, [.ref qb, .null, .long 0, .long 0, .long 0])), (qf, .inr (1, [.int 0, .int 0]))] := hD
  refine lv_dup hx hb dd_W_init_13 rfl ?_
  refine ct_behind_v (wc := [(qf, .inr (1, [.int 0, .int 0]))]) (wr := [(q, .inr (4, [.ref qb, .null, .long 0, .long 0, .long 0]))]) (av := [.ref qf]) (va_runI (As := []) (rest := [.ref qf, .ref q]) ⟨hx, hb, hml, hown, hw⟩ (cc_F_init l D cJ cB qf _) (cwI 0 hw (tb_I wi_237) rfl rfl rfl (hw _ wi_32) (hw _ wi_235) (hw _ wi_236) rfl (by decide +kernel) ⟨Nat.le_of_ble_eq_true rfl, Nat.le_of_ble_eq_true rfl⟩) ⟨ct_blind, ct_pc hZ hK hP hD hS hA [1] rfl (by decide)⟩ rfl rfl hl.1 rfl (lv_room (Nat.le_of_ble_eq_true rfl)) dd_W_init_14 ⟨Nat.le_of_ble_eq_true rfl, Nat.le_of_ble_eq_true rfl⟩) hK hP hD hS hA [1] [0] rfl rfl (by decide) (by decide) (fun u_14 H locs hw_14 hP hD hS => ?_)
  have hP : va_P D classes [(q, .inr (4, [.ref qb, .null, .long 0, .long 0, .long 0])), (qf, .inr (1, [.int (nI 0), .int (nI 0)]))] H := hP
  have hD : va_D A [(q, .inr (4, [.ref qb, .null, .long 0, .long 0, .long 0])), (qf, .inr (1, [.int (nI 0), .int (nI 0)]))] := hD
  refine va_putF (D := D) (ci := 4) (v := .ref qf) (ty := .object "ChunkPacker$Frame") (C := cn_W) (T := cf_W) (N := 5) hx hb hw in_W ty_W to_W nn_W hown hK hP hD hS 0 rfl rfl 1 (by decide) (hw _ wi_247) (fun _ h9 => h9) rfl hin rfl (by decide +kernel) (rfl) (rfl) (Nat.le_of_ble_eq_true rfl) dd_W_init_17 (fun H locs hP hD hS => ?_)
  have hP : va_P D classes [(q, .inr (4, [.ref qb, .ref qf, .long 0, .long 0, .long 0])), (qf, .inr (1, [.int (nI 0), .int (nI 0)]))] H := hP
  have hD : va_D A [(q, .inr (4, [.ref qb, .ref qf, .long 0, .long 0, .long 0])), (qf, .inr (1, [.int (nI 0), .int (nI 0)]))] := hD
  refine lv_aload_n hx hb dd_W_init_20 rfl (lv_at hl 0 rfl) ?_
  refine lv_lconst (v := 0) hx hb dd_W_init_21 (by decide) ?_
  refine va_put (D := D) (ci := 4) (v := .long 0) (ty := .long) (C := cn_W) (T := cf_W) (N := 5) hx hb hw in_W ty_W to_W nn_W hown hK hP hD hS 0 rfl rfl 2 (by decide) (hw _ wi_248) (fun _ h9 => h9) rfl (by decide +kernel) (rfl) (rfl) (Nat.le_of_ble_eq_true rfl) dd_W_init_22 (fun H locs hP hD hS => ?_)
  have hP : va_P D classes [(q, .inr (4, [.ref qb, .ref qf, .long 0, .long 0, .long 0])), (qf, .inr (1, [.int (nI 0), .int (nI 0)]))] H := hP
  have hD : va_D A [(q, .inr (4, [.ref qb, .ref qf, .long 0, .long 0, .long 0])), (qf, .inr (1, [.int (nI 0), .int (nI 0)]))] := hD
  refine lv_aload_n hx hb dd_W_init_25 rfl (lv_at hl 0 rfl) ?_
  refine lv_lconst (v := 0) hx hb dd_W_init_26 (by decide) ?_
  refine va_put (D := D) (ci := 4) (v := .long 0) (ty := .long) (C := cn_W) (T := cf_W) (N := 5) hx hb hw in_W ty_W to_W nn_W hown hK hP hD hS 0 rfl rfl 3 (by decide) (hw _ wi_249) (fun _ h9 => h9) rfl (by decide +kernel) (rfl) (rfl) (Nat.le_of_ble_eq_true rfl) dd_W_init_27 (fun H locs hP hD hS => ?_)
  have hP : va_P D classes [(q, .inr (4, [.ref qb, .ref qf, .long 0, .long 0, .long 0])), (qf, .inr (1, [.int (nI 0), .int (nI 0)]))] H := hP
  have hD : va_D A [(q, .inr (4, [.ref qb, .ref qf, .long 0, .long 0, .long 0])), (qf, .inr (1, [.int (nI 0), .int (nI 0)]))] := hD
  refine lv_aload_n hx hb dd_W_init_30 rfl (lv_at hl 0 rfl) ?_
  refine lv_lconst (v := 0) hx hb dd_W_init_31 (by decide) ?_
  refine va_put (D := D) (ci := 4) (v := .long 0) (ty := .long) (C := cn_W) (T := cf_W) (N := 5) hx hb hw in_W ty_W to_W nn_W hown hK hP hD hS 0 rfl rfl 4 (by decide) (hw _ wi_250) (fun _ h9 => h9) rfl (by decide +kernel) (rfl) (rfl) (Nat.le_of_ble_eq_true rfl) dd_W_init_32 (fun H locs hP hD hS => ?_)
  have hP : va_P D classes [(q, .inr (4, [.ref qb, .ref qf, .long 0, .long 0, .long 0])), (qf, .inr (1, [.int (nI 0), .int (nI 0)]))] H := hP
  have hD : va_D A [(q, .inr (4, [.ref qb, .ref qf, .long 0, .long 0, .long 0])), (qf, .inr (1, [.int (nI 0), .int (nI 0)]))] := hD
  refine ct_vret (u := qf) hx hb hr hlocks hK hP hD hS rfl ?_ dd_W_init_35
  trivial

set_option maxHeartbeats 4000000 in
set_option maxRecDepth 100000 in
theorem cc_W_writeFirst (l : Launch) (D : va_G) (cJ cB : ClassId) (q qb qw qf : Nat) (lt ls0 lv0 : Int64) (w : Nat → Int64) (L : List Bool) (t v : Int64) (sz : Nat) (hL : L.length + 104 ≤ 400000) (hR : cp_Rw w L) (hf : cp_fit t 40) : ct_i l my_W_writeFirst (Cond.code my_W_writeFirst mb_W_writeFirst 5 (some .boolean) :: TB) ({ frames := 1, cells := 0, slots := 0, locals := 29 } : Room) D classes cJ cB [.ref q, .long t, .long v] [(q, .inr (4, [.ref qb, .ref qf, .long lt, .long ls0, .long lv0])), (qb, .inr (0, [.ref qw, .int (nI L.length)])), (qw, .inl (cJ, 6250, .inr (.inl w)))] sz (fun (r : Int32) (u : Nat → Int64) => r = nI 1 ∧ cp_Rw u ((L ++ cp_bl t 40) ++ cp_bl v 64)) (fun u => [(q, .inr (4, [.ref qb, .ref qf, .long lt, .long ls0, .long lv0])), (qb, .inr (0, [.ref qw, .int (nI (((L ++ cp_bl t 40) ++ cp_bl v 64).length))])), (qw, .inl (cJ, 6250, .inr (.inl u)))]) 0 0 := by
  refine ct_ofW (cc := mb_W_writeFirst) (maxL := 5) (ret := some .boolean) (by decide) rfl (Nat.le_of_ble_eq_true rfl) ?_
  intro p e s m below meth c hx hb hr hml hts hown hlocks hin hsz hK hP hD hA hS hZ ls hl
  have hw : ∀ w ∈ TB, w.before _ s = true := fun w h => hts w (List.mem_cons_of_mem _ h)
  have hown : s.vm.findClass cn_W = some m.cls := hown
  have hin : meth.name = "writeFirst" := hin
  generalize hAe : va_A [(q, .inr (4, [.ref qb, .ref qf, .long lt, .long ls0, .long lv0])), (qb, .inr (0, [.ref qw, .int (nI L.length)])), (qw, .inl (cJ, 6250, .inr (.inl w)))] sz = A at hD hA hS hZ ⊢
  clear hAe
  have hl : lv_has ls 5 [(0, .ref q), (1, .long t), (3, .long v)] := hl
  have hP : va_P D classes [(q, .inr (4, [.ref qb, .ref qf, .long lt, .long ls0, .long lv0])), (qb, .inr (0, [.ref qw, .int (nI L.length)])), (qw, .inl (cJ, 6250, .inr (.inl w)))] s.heap := hP
  refine lv_aload_n hx hb dd_W_writeFirst_0 rfl (lv_at hl 0 rfl) ?_
  refine va_get (D := D) (ci := 4) (C := cn_W) (T := cf_W) (N := 5) hx hb hw in_W hown hK hP 0 rfl rfl 0 (by decide) (hw _ wi_246) (fun _ h9 => h9) rfl dd_W_writeFirst_1 ?_
  refine lv_lload_n hx hb dd_W_writeFirst_4 rfl (lv_at hl 1 rfl) ?_
  refine lv_bipush (v := nI 40) hx hb dd_W_writeFirst_5 (by decide) ?_
  refine ct_behind_i (wc := [(qb, .inr (0, [.ref qw, .int (nI L.length)])), (qw, .inl (cJ, 6250, .inr (.inl w)))]) (wr := [(q, .inr (4, [.ref qb, .ref qf, .long lt, .long ls0, .long lv0]))]) (av := [.ref qb, .long t, .int (nI 40)]) (va_runV (As := [.long t, .int (nI 40)]) (rest := []) ⟨hx, hb, hml, hown, hw⟩ (cs_B_append l D cJ cB qb qw w L t 40 _ (by omega) hR (by omega) (hf)) (cwV 2 hw (tb_V wi_295 wi_296 wi_297 wi_24 wi_298) rfl rfl rfl (by decide +kernel) ⟨Nat.le_of_ble_eq_true rfl, Nat.le_of_ble_eq_true rfl⟩) ⟨ct_blind, ct_recv hK hP (q0 := 1) (ci := 0) rfl rfl, ct_pc hZ hK hP hD hS hA [1, 2] rfl (by decide)⟩ rfl rfl hl.1 rfl (lv_room (Nat.le_of_ble_eq_true rfl)) dd_W_writeFirst_7 ⟨Nat.le_of_ble_eq_true rfl, Nat.le_of_ble_eq_true rfl⟩) hK hP hD hS hA [1, 2] [0] rfl rfl (by decide) (by decide) (fun r_7 u_7 H locs hw_7 hP hD hS => ?_)
  obtain ⟨hr_7, hR_w1⟩ := hw_7
  subst hr_7
  obtain ⟨w1, h9_7⟩ : ∃ z, z = u_7 := ⟨_, rfl⟩
  rw [← h9_7] at hP hD hR_w1
  clear h9_7
  have hP : va_P D classes [(q, .inr (4, [.ref qb, .ref qf, .long lt, .long ls0, .long lv0])), (qb, .inr (0, [.ref qw, .int (nI ((L ++ cp_bl t 40).length))])), (qw, .inl (cJ, 6250, .inr (.inl w1)))] H := hP
  have hD : va_D A [(q, .inr (4, [.ref qb, .ref qf, .long lt, .long ls0, .long lv0])), (qb, .inr (0, [.ref qw, .int (nI ((L ++ cp_bl t 40).length))])), (qw, .inl (cJ, 6250, .inr (.inl w1)))] := hD
  refine lv_if_eq (tgt := 30) hx hb dd_W_writeFirst_10 (by decide) (fun c_10 => ?_) (fun c_10 => ?_)
  · skip
    have c_10 : 1 = 0 := (ct_zeq (by omega)).mp c_10
    exfalso
    omega
  have c_10 : ¬ (1 = 0) := fun z => c_10 ((ct_zeq (by omega)).mpr z)
  refine lv_aload_n hx hb dd_W_writeFirst_13 rfl (lv_at hl 0 rfl) ?_
  refine va_get (D := D) (ci := 4) (C := cn_W) (T := cf_W) (N := 5) hx hb hw in_W hown hK hP 0 rfl rfl 0 (by decide) (hw _ wi_246) (fun _ h9 => h9) rfl dd_W_writeFirst_14 ?_
  refine lv_lload_n hx hb dd_W_writeFirst_17 rfl (lv_at hl 2 rfl) ?_
  refine lv_bipush (v := nI 64) hx hb dd_W_writeFirst_18 (by decide) ?_
  refine ct_behind_i (wc := [(qb, .inr (0, [.ref qw, .int (nI ((L ++ cp_bl t 40).length))])), (qw, .inl (cJ, 6250, .inr (.inl w1)))]) (wr := [(q, .inr (4, [.ref qb, .ref qf, .long lt, .long ls0, .long lv0]))]) (av := [.ref qb, .long v, .int (nI 64)]) (va_runV (As := [.long v, .int (nI 64)]) (rest := []) ⟨hx, hb, hml, hown, hw⟩ (cs_B_append l D cJ cB qb qw w1 (L ++ cp_bl t 40) v 64 _ (by simp only [List.length_append, cp_bl_len]; omega) hR_w1 (by omega) (cp_fit_64 v)) (cwV 2 hw (tb_V wi_295 wi_296 wi_297 wi_24 wi_298) rfl rfl rfl (by decide +kernel) ⟨Nat.le_of_ble_eq_true rfl, Nat.le_of_ble_eq_true rfl⟩) ⟨ct_blind, ct_recv hK hP (q0 := 1) (ci := 0) rfl rfl, ct_pc hZ hK hP hD hS hA [1, 2] rfl (by decide)⟩ rfl rfl hl.1 rfl (lv_room (Nat.le_of_ble_eq_true rfl)) dd_W_writeFirst_20 ⟨Nat.le_of_ble_eq_true rfl, Nat.le_of_ble_eq_true rfl⟩) hK hP hD hS hA [1, 2] [0] rfl rfl (by decide) (by decide) (fun r_20 u_20 H locs hw_20 hP hD hS => ?_)
  obtain ⟨hr_20, hR_w2⟩ := hw_20
  subst hr_20
  obtain ⟨w2, h9_20⟩ : ∃ z, z = u_20 := ⟨_, rfl⟩
  rw [← h9_20] at hP hD hR_w2
  clear h9_20
  have hP : va_P D classes [(q, .inr (4, [.ref qb, .ref qf, .long lt, .long ls0, .long lv0])), (qb, .inr (0, [.ref qw, .int (nI (((L ++ cp_bl t 40) ++ cp_bl v 64).length))])), (qw, .inl (cJ, 6250, .inr (.inl w2)))] H := hP
  have hD : va_D A [(q, .inr (4, [.ref qb, .ref qf, .long lt, .long ls0, .long lv0])), (qb, .inr (0, [.ref qw, .int (nI (((L ++ cp_bl t 40) ++ cp_bl v 64).length))])), (qw, .inl (cJ, 6250, .inr (.inl w2)))] := hD
  refine lv_if_eq (tgt := 30) hx hb dd_W_writeFirst_23 (by decide) (fun c_23 => ?_) (fun c_23 => ?_)
  · skip
    have c_23 : 1 = 0 := (ct_zeq (by omega)).mp c_23
    exfalso
    omega
  have c_23 : ¬ (1 = 0) := fun z => c_23 ((ct_zeq (by omega)).mpr z)
  refine lv_iconst (v := nI 1) hx hb dd_W_writeFirst_26 (by decide) ?_
  refine lv_goto (tgt := 31) hx hb dd_W_writeFirst_27 (by decide) ?_
  refine ct_zret (u := w2) hx hb hr hlocks (by decide) hK hP hD hS rfl ?_ dd_W_writeFirst_31
  exact ⟨rfl, hR_w2⟩

set_option maxHeartbeats 4000000 in
set_option maxRecDepth 100000 in
theorem cc_W_writeKind (l : Launch) (D : va_G) (cJ cB : ClassId) (q qb qw qf : Nat) (lt ls0 lv0 : Int64) (w : Nat → Int64) (L : List Bool) (k : Nat) (sz : Nat) (hL : L.length + 5 ≤ 400000) (hR : cp_Rw w L) (hk : k ≤ 4) : ct_i l my_W_writeKind (Cond.code my_W_writeKind mb_W_writeKind 4 (some .boolean) :: TB) ({ frames := 1, cells := 0, slots := 0, locals := 29 } : Room) D classes cJ cB [.ref q, .int (nI k)] [(q, .inr (4, [.ref qb, .ref qf, .long lt, .long ls0, .long lv0])), (qb, .inr (0, [.ref qw, .int (nI L.length)])), (qw, .inl (cJ, 6250, .inr (.inl w)))] sz (fun (r : Int32) (u : Nat → Int64) => r = nI 1 ∧ cp_Rw u (L ++ cp_kb k)) (fun u => [(q, .inr (4, [.ref qb, .ref qf, .long lt, .long ls0, .long lv0])), (qb, .inr (0, [.ref qw, .int (nI ((L ++ cp_kb k).length))])), (qw, .inl (cJ, 6250, .inr (.inl u)))]) 0 0 := by
  refine ct_ofW (cc := mb_W_writeKind) (maxL := 4) (ret := some .boolean) (by decide) rfl (Nat.le_of_ble_eq_true rfl) ?_
  intro p e s m below meth c hx hb hr hml hts hown hlocks hin hsz hK hP hD hA hS hZ ls hl
  have hw : ∀ w ∈ TB, w.before _ s = true := fun w h => hts w (List.mem_cons_of_mem _ h)
  have hown : s.vm.findClass cn_W = some m.cls := hown
  have hin : meth.name = "writeKind" := hin
  generalize hAe : va_A [(q, .inr (4, [.ref qb, .ref qf, .long lt, .long ls0, .long lv0])), (qb, .inr (0, [.ref qw, .int (nI L.length)])), (qw, .inl (cJ, 6250, .inr (.inl w)))] sz = A at hD hA hS hZ ⊢
  clear hAe
  have hl : lv_has ls 4 [(0, .ref q), (1, .int (nI k))] := hl
  have hP : va_P D classes [(q, .inr (4, [.ref qb, .ref qf, .long lt, .long ls0, .long lv0])), (qb, .inr (0, [.ref qw, .int (nI L.length)])), (qw, .inl (cJ, 6250, .inr (.inl w)))] s.heap := hP
  refine lv_lconst (v := 1) hx hb dd_W_writeKind_0 (by decide) ?_
  refine lv_iload_n hx hb dd_W_writeKind_1 rfl (lv_at hl 1 rfl) ?_
  refine lv_lshl (v := 1 <<< ((nI k).toInt64 &&& 63)) hx hb dd_W_writeKind_2 rfl ?_
  refine lv_lconst (v := 1) hx hb dd_W_writeKind_3 (by decide) ?_
  refine lv_lsub hx hb dd_W_writeKind_4 ?_
  refine ct_topl (y := lN (2 ^ k - 1)) (cp_ones (by omega)) ?_
  refine lv_lstore_n (lv' := [(2, .long (lN (2 ^ k - 1))), (0, .ref q), (1, .int (nI k))]) hx hb dd_W_writeKind_5 rfl hl (by decide) rfl (fun ls hl => ?_)
  refine lv_iload_n hx hb dd_W_writeKind_6 rfl (lv_at hl 2 rfl) ?_
  refine lv_iconst (v := nI 4) hx hb dd_W_writeKind_7 (by decide) ?_
  refine lv_icmp_ne (tgt := 23) hx hb dd_W_writeKind_8 (by decide) (fun c_8 => ?_) (fun c_8 => ?_)
  · skip
    have c_8 : ¬ (k = 4) := fun z => c_8 ((nI_eq (by omega) (by omega)).mpr z)
    refine lv_aload_n hx hb dd_W_writeKind_23 rfl (lv_at hl 1 rfl) ?_
    refine va_get (D := D) (ci := 4) (C := cn_W) (T := cf_W) (N := 5) hx hb hw in_W hown hK hP 0 rfl rfl 0 (by decide) (hw _ wi_246) (fun _ h9 => h9) rfl dd_W_writeKind_24 ?_
    refine lv_lload_n hx hb dd_W_writeKind_27 rfl (lv_at hl 0 rfl) ?_
    refine lv_iconst (v := nI 1) hx hb dd_W_writeKind_28 (by decide) ?_
    refine lv_lshl (v := (lN (2 ^ k - 1)) <<< ((nI 1).toInt64 &&& 63)) hx hb dd_W_writeKind_29 rfl ?_
    refine ct_topl (y := lN (2 ^ (k + 1) - 2)) (kd_1s k (by omega)) ?_
    refine lv_iload_n hx hb dd_W_writeKind_30 rfl (lv_at hl 2 rfl) ?_
    refine lv_iconst (v := nI 1) hx hb dd_W_writeKind_31 (by decide) ?_
    refine lv_iadd hx hb dd_W_writeKind_32 ?_
    refine ct_topi (y := nI (k + 1)) (nI_add _ _) ?_
    refine ct_behind_i (wc := [(qb, .inr (0, [.ref qw, .int (nI L.length)])), (qw, .inl (cJ, 6250, .inr (.inl w)))]) (wr := [(q, .inr (4, [.ref qb, .ref qf, .long lt, .long ls0, .long lv0]))]) (av := [.ref qb, .long (lN (2 ^ (k + 1) - 2)), .int (nI (k + 1))]) (va_runV (As := [.long (lN (2 ^ (k + 1) - 2)), .int (nI (k + 1))]) (rest := []) ⟨hx, hb, hml, hown, hw⟩ (cs_B_append l D cJ cB qb qw w L (lN (2 ^ (k + 1) - 2)) (k + 1) _ (by omega) hR (by omega) (cp_fit_N (by have := Nat.two_pow_pos (k + 1); omega))) (cwV 2 hw (tb_V wi_295 wi_296 wi_297 wi_24 wi_298) rfl rfl rfl (by decide +kernel) ⟨Nat.le_of_ble_eq_true rfl, Nat.le_of_ble_eq_true rfl⟩) ⟨ct_blind, ct_recv hK hP (q0 := 1) (ci := 0) rfl rfl, ct_pc hZ hK hP hD hS hA [1, 2] rfl (by decide)⟩ rfl rfl hl.1 rfl (lv_room (Nat.le_of_ble_eq_true rfl)) dd_W_writeKind_33 ⟨Nat.le_of_ble_eq_true rfl, Nat.le_of_ble_eq_true rfl⟩) hK hP hD hS hA [1, 2] [0] rfl rfl (by decide) (by decide) (fun r_33 u_33 H locs hw_33 hP hD hS => ?_)
    obtain ⟨hr_33, hR_w1⟩ := hw_33
    subst hr_33
    obtain ⟨w1, h9_33⟩ : ∃ z, z = u_33 := ⟨_, rfl⟩
    rw [← h9_33] at hP hD hR_w1
    clear h9_33
    have hP : va_P D classes [(q, .inr (4, [.ref qb, .ref qf, .long lt, .long ls0, .long lv0])), (qb, .inr (0, [.ref qw, .int (nI ((L ++ cp_bl (lN (2 ^ (k + 1) - 2)) (k + 1)).length))])), (qw, .inl (cJ, 6250, .inr (.inl w1)))] H := hP
    have hD : va_D A [(q, .inr (4, [.ref qb, .ref qf, .long lt, .long ls0, .long lv0])), (qb, .inr (0, [.ref qw, .int (nI ((L ++ cp_bl (lN (2 ^ (k + 1) - 2)) (k + 1)).length))])), (qw, .inl (cJ, 6250, .inr (.inl w1)))] := hD
    rw [show cp_bl (lN (2 ^ (k + 1) - 2)) (k + 1) = cp_kb k from kd_kb k (by omega)] at hP hD hR_w1
    refine ct_zret (u := w1) hx hb hr hlocks (by decide) hK hP hD hS rfl ?_ dd_W_writeKind_36
    exact ⟨rfl, hR_w1⟩
  have c_8 : k = 4 := (nI_eq (by omega) (by omega)).mp c_8
  refine lv_aload_n hx hb dd_W_writeKind_11 rfl (lv_at hl 1 rfl) ?_
  refine va_get (D := D) (ci := 4) (C := cn_W) (T := cf_W) (N := 5) hx hb hw in_W hown hK hP 0 rfl rfl 0 (by decide) (hw _ wi_246) (fun _ h9 => h9) rfl dd_W_writeKind_12 ?_
  refine lv_lload_n hx hb dd_W_writeKind_15 rfl (lv_at hl 0 rfl) ?_
  refine lv_iload_n hx hb dd_W_writeKind_16 rfl (lv_at hl 2 rfl) ?_
  refine ct_behind_i (wc := [(qb, .inr (0, [.ref qw, .int (nI L.length)])), (qw, .inl (cJ, 6250, .inr (.inl w)))]) (wr := [(q, .inr (4, [.ref qb, .ref qf, .long lt, .long ls0, .long lv0]))]) (av := [.ref qb, .long (lN (2 ^ k - 1)), .int (nI k)]) (va_runV (As := [.long (lN (2 ^ k - 1)), .int (nI k)]) (rest := []) ⟨hx, hb, hml, hown, hw⟩ (cs_B_append l D cJ cB qb qw w L (lN (2 ^ k - 1)) k _ (by omega) hR (by omega) (cp_fit_N (by have := Nat.two_pow_pos k; omega))) (cwV 2 hw (tb_V wi_295 wi_296 wi_297 wi_24 wi_298) rfl rfl rfl (by decide +kernel) ⟨Nat.le_of_ble_eq_true rfl, Nat.le_of_ble_eq_true rfl⟩) ⟨ct_blind, ct_recv hK hP (q0 := 1) (ci := 0) rfl rfl, ct_pc hZ hK hP hD hS hA [1, 2] rfl (by decide)⟩ rfl rfl hl.1 rfl (lv_room (Nat.le_of_ble_eq_true rfl)) dd_W_writeKind_17 ⟨Nat.le_of_ble_eq_true rfl, Nat.le_of_ble_eq_true rfl⟩) hK hP hD hS hA [1, 2] [0] rfl rfl (by decide) (by decide) (fun r_17 u_17 H locs hw_17 hP hD hS => ?_)
  obtain ⟨hr_17, hR_w1⟩ := hw_17
  subst hr_17
  obtain ⟨w1, h9_17⟩ : ∃ z, z = u_17 := ⟨_, rfl⟩
  rw [← h9_17] at hP hD hR_w1
  clear h9_17
  have hP : va_P D classes [(q, .inr (4, [.ref qb, .ref qf, .long lt, .long ls0, .long lv0])), (qb, .inr (0, [.ref qw, .int (nI ((L ++ cp_bl (lN (2 ^ k - 1)) k).length))])), (qw, .inl (cJ, 6250, .inr (.inl w1)))] H := hP
  have hD : va_D A [(q, .inr (4, [.ref qb, .ref qf, .long lt, .long ls0, .long lv0])), (qb, .inr (0, [.ref qw, .int (nI ((L ++ cp_bl (lN (2 ^ k - 1)) k).length))])), (qw, .inl (cJ, 6250, .inr (.inl w1)))] := hD
  refine lv_goto (tgt := 36) hx hb dd_W_writeKind_20 (by decide) ?_
  subst c_8
  rw [kd_4] at hP hD hR_w1
  refine ct_zret (u := w1) hx hb hr hlocks (by decide) hK hP hD hS rfl ?_ dd_W_writeKind_36
  exact ⟨rfl, hR_w1⟩

set_option maxHeartbeats 4000000 in
set_option maxRecDepth 100000 in
theorem cc_W_kindOf (l : Launch) (D : va_G) (cJ cB : ClassId) (t : Int64) (sz : Nat) : ct_i l my_W_kindOf (Cond.code my_W_kindOf mb_W_kindOf 5 (some .int) :: TB) ({ frames := 0, cells := 0, slots := 0, locals := 0 } : Room) D classes cJ cB [.long t] [] sz (fun (r : Int32) (u : Unit) => r = nI (cp_kd t)) (fun u => ([] : va_W)) 0 0 := by
  refine ct_ofW (cc := mb_W_kindOf) (maxL := 5) (ret := some .int) (by decide) rfl (Nat.le_of_ble_eq_true rfl) ?_
  intro p e s m below meth c hx hb hr hml hts hown hlocks hin hsz hK hP hD hA hS hZ ls hl
  have hw : ∀ w ∈ TB, w.before _ s = true := fun w h => hts w (List.mem_cons_of_mem _ h)
  have hown : s.vm.findClass cn_W = some m.cls := hown
  have hin : meth.name = "kindOf" := hin
  generalize hAe : va_A [] sz = A at hD hA hS hZ ⊢
  clear hAe
  have hl : lv_has ls 5 [(0, .long t)] := hl
  have hP : va_P D classes [] s.heap := hP
  refine lv_lload_n hx hb dd_W_kindOf_0 rfl (lv_at hl 0 rfl) ?_
  refine lv_lconst (v := 0) hx hb dd_W_kindOf_1 (by decide) ?_
  refine W.lcmp hx hb dd_W_kindOf_2 ?_
  refine lv_if_ne (tgt := 8) hx hb dd_W_kindOf_3 (by decide) (fun c_3 => ?_) (fun c_3 => ?_)
  · skip
    have c_3 : ¬ (t = 0) := fun z => c_3 ((lg_cmp_eq _ _).mpr z)
    refine lv_iconst (v := nI 1) hx hb dd_W_kindOf_8 (by decide) ?_
    refine lv_istore_n (lv' := [(2, .int (nI 1)), (0, .long t)]) hx hb dd_W_kindOf_9 rfl hl (by decide) rfl (fun ls hl => ?_)
    refine lv_iload_n hx hb dd_W_kindOf_10 rfl (lv_at hl 0 rfl) ?_
    refine lv_iconst (v := nI 4) hx hb dd_W_kindOf_11 (by decide) ?_
    refine lv_icmp_ge (tgt := 46) hx hb dd_W_kindOf_12 (by decide) (fun c_12 => ?_) (fun c_12 => ?_)
    · skip
      have c_12 : 4 ≤ 1 := (nI_leI (by omega) (by omega)).mp c_12
      exfalso
      omega
    have c_12 : ¬ (4 ≤ 1) := fun z => c_12 ((nI_leI (by omega) (by omega)).mpr z)
    refine lv_lconst (v := 1) hx hb dd_W_kindOf_15 (by decide) ?_
    obtain ⟨tq, hTz, hTt⟩ := id hZ.2.1
    refine va_getsN (C := cn_X) (v := .ref tq) hx hb hTz hS hown (va_Nw.use rfl (hZ.2.2.1 (.fieldLinkNest cn_W 69 cn_X "TURN_BITS" "[I" cn_X) (by decide +kernel))) (fun _ h9 => h9) dd_W_kindOf_16 ?_
    refine lv_iload_n hx hb dd_W_kindOf_19 rfl (lv_at hl 0 rfl) ?_
    refine va_ti (v := .int (nI (cp_tb 1))) hx hb hTt hS (vp_in_nI (by omega) (by decide)) (congrArg (fun z => Value.int (nI (cp_tb z))) (nI_clamp (by omega))) dd_W_kindOf_20 ?_
    refine ct_topi (y := nI 7) (by decide) ?_
    refine lv_iconst (v := nI 1) hx hb dd_W_kindOf_21 (by decide) ?_
    refine lv_isub hx hb dd_W_kindOf_22 ?_
    refine ct_topi (y := nI (7 - 1)) (pk_sub (by omega)) ?_
    refine lv_lshl (v := 1 <<< ((nI (7 - 1)).toInt64 &&& 63)) hx hb dd_W_kindOf_23 rfl ?_
    refine ct_topl (y := 64) (by decide) ?_
    refine lv_lstore_n (lv' := [(3, .long 64), (2, .int (nI 1)), (0, .long t)]) hx hb dd_W_kindOf_24 rfl hl (by decide) rfl (fun ls hl => ?_)
    refine lv_lload_n hx hb dd_W_kindOf_25 rfl (lv_at hl 2 rfl) ?_
    refine lv_lload_n hx hb dd_W_kindOf_26 rfl (lv_at hl 0 rfl) ?_
    refine lv_lneg hx hb dd_W_kindOf_27 ?_
    refine W.lcmp hx hb dd_W_kindOf_28 ?_
    refine lv_if_lt (tgt := 40) hx hb dd_W_kindOf_29 (by decide) (fun c_29 => ?_) (fun c_29 => ?_)
    · skip
      have c_29 : t < (-64) := (lg_cmp_lt _ _).mp c_29
      refine lv_iinc (v := nI 2) (lv' := [(2, .int (nI 2)), (3, .long 64), (0, .long t)]) hx hb dd_W_kindOf_40 hl (k := 1) rfl (nI_1 1) (by decide) rfl (fun ls hl => ?_)
      refine lv_goto (tgt := 10) hx hb dd_W_kindOf_43 (by decide) ?_
      refine lv_iload_n hx hb dd_W_kindOf_10 rfl (lv_at hl 0 rfl) ?_
      refine lv_iconst (v := nI 4) hx hb dd_W_kindOf_11 (by decide) ?_
      refine lv_icmp_ge (tgt := 46) hx hb dd_W_kindOf_12 (by decide) (fun c_12_1 => ?_) (fun c_12_1 => ?_)
      · skip
        have c_12_1 : 4 ≤ 2 := (nI_leI (by omega) (by omega)).mp c_12_1
        exfalso
        omega
      have c_12_1 : ¬ (4 ≤ 2) := fun z => c_12_1 ((nI_leI (by omega) (by omega)).mpr z)
      refine lv_lconst (v := 1) hx hb dd_W_kindOf_15 (by decide) ?_
      obtain ⟨tq, hTz, hTt⟩ := id hZ.2.1
      refine va_getsN (C := cn_X) (v := .ref tq) hx hb hTz hS hown (va_Nw.use rfl (hZ.2.2.1 (.fieldLinkNest cn_W 69 cn_X "TURN_BITS" "[I" cn_X) (by decide +kernel))) (fun _ h9 => h9) dd_W_kindOf_16 ?_
      refine lv_iload_n hx hb dd_W_kindOf_19 rfl (lv_at hl 0 rfl) ?_
      refine va_ti (v := .int (nI (cp_tb 2))) hx hb hTt hS (vp_in_nI (by omega) (by decide)) (congrArg (fun z => Value.int (nI (cp_tb z))) (nI_clamp (by omega))) dd_W_kindOf_20 ?_
      refine ct_topi (y := nI 10) (by decide) ?_
      refine lv_iconst (v := nI 1) hx hb dd_W_kindOf_21 (by decide) ?_
      refine lv_isub hx hb dd_W_kindOf_22 ?_
      refine ct_topi (y := nI (10 - 1)) (pk_sub (by omega)) ?_
      refine lv_lshl (v := 1 <<< ((nI (10 - 1)).toInt64 &&& 63)) hx hb dd_W_kindOf_23 rfl ?_
      refine ct_topl (y := 512) (by decide) ?_
      refine lv_lstore_n (lv' := [(3, .long 512), (2, .int (nI 2)), (0, .long t)]) hx hb dd_W_kindOf_24 rfl hl (by decide) rfl (fun ls hl => ?_)
      refine lv_lload_n hx hb dd_W_kindOf_25 rfl (lv_at hl 2 rfl) ?_
      refine lv_lload_n hx hb dd_W_kindOf_26 rfl (lv_at hl 0 rfl) ?_
      refine lv_lneg hx hb dd_W_kindOf_27 ?_
      refine W.lcmp hx hb dd_W_kindOf_28 ?_
      refine lv_if_lt (tgt := 40) hx hb dd_W_kindOf_29 (by decide) (fun c_29_1 => ?_) (fun c_29_1 => ?_)
      · skip
        have c_29_1 : t < (-512) := (lg_cmp_lt _ _).mp c_29_1
        refine lv_iinc (v := nI 3) (lv' := [(2, .int (nI 3)), (3, .long 512), (0, .long t)]) hx hb dd_W_kindOf_40 hl (k := 1) rfl (nI_1 2) (by decide) rfl (fun ls hl => ?_)
        refine lv_goto (tgt := 10) hx hb dd_W_kindOf_43 (by decide) ?_
        refine lv_iload_n hx hb dd_W_kindOf_10 rfl (lv_at hl 0 rfl) ?_
        refine lv_iconst (v := nI 4) hx hb dd_W_kindOf_11 (by decide) ?_
        refine lv_icmp_ge (tgt := 46) hx hb dd_W_kindOf_12 (by decide) (fun c_12_2 => ?_) (fun c_12_2 => ?_)
        · skip
          have c_12_2 : 4 ≤ 3 := (nI_leI (by omega) (by omega)).mp c_12_2
          exfalso
          omega
        have c_12_2 : ¬ (4 ≤ 3) := fun z => c_12_2 ((nI_leI (by omega) (by omega)).mpr z)
        refine lv_lconst (v := 1) hx hb dd_W_kindOf_15 (by decide) ?_
        obtain ⟨tq, hTz, hTt⟩ := id hZ.2.1
        refine va_getsN (C := cn_X) (v := .ref tq) hx hb hTz hS hown (va_Nw.use rfl (hZ.2.2.1 (.fieldLinkNest cn_W 69 cn_X "TURN_BITS" "[I" cn_X) (by decide +kernel))) (fun _ h9 => h9) dd_W_kindOf_16 ?_
        refine lv_iload_n hx hb dd_W_kindOf_19 rfl (lv_at hl 0 rfl) ?_
        refine va_ti (v := .int (nI (cp_tb 3))) hx hb hTt hS (vp_in_nI (by omega) (by decide)) (congrArg (fun z => Value.int (nI (cp_tb z))) (nI_clamp (by omega))) dd_W_kindOf_20 ?_
        refine ct_topi (y := nI 13) (by decide) ?_
        refine lv_iconst (v := nI 1) hx hb dd_W_kindOf_21 (by decide) ?_
        refine lv_isub hx hb dd_W_kindOf_22 ?_
        refine ct_topi (y := nI (13 - 1)) (pk_sub (by omega)) ?_
        refine lv_lshl (v := 1 <<< ((nI (13 - 1)).toInt64 &&& 63)) hx hb dd_W_kindOf_23 rfl ?_
        refine ct_topl (y := 4096) (by decide) ?_
        refine lv_lstore_n (lv' := [(3, .long 4096), (2, .int (nI 3)), (0, .long t)]) hx hb dd_W_kindOf_24 rfl hl (by decide) rfl (fun ls hl => ?_)
        refine lv_lload_n hx hb dd_W_kindOf_25 rfl (lv_at hl 2 rfl) ?_
        refine lv_lload_n hx hb dd_W_kindOf_26 rfl (lv_at hl 0 rfl) ?_
        refine lv_lneg hx hb dd_W_kindOf_27 ?_
        refine W.lcmp hx hb dd_W_kindOf_28 ?_
        refine lv_if_lt (tgt := 40) hx hb dd_W_kindOf_29 (by decide) (fun c_29_2 => ?_) (fun c_29_2 => ?_)
        · skip
          have c_29_2 : t < (-4096) := (lg_cmp_lt _ _).mp c_29_2
          refine lv_iinc (v := nI 4) (lv' := [(2, .int (nI 4)), (3, .long 4096), (0, .long t)]) hx hb dd_W_kindOf_40 hl (k := 1) rfl (nI_1 3) (by decide) rfl (fun ls hl => ?_)
          refine lv_goto (tgt := 10) hx hb dd_W_kindOf_43 (by decide) ?_
          refine lv_iload_n hx hb dd_W_kindOf_10 rfl (lv_at hl 0 rfl) ?_
          refine lv_iconst (v := nI 4) hx hb dd_W_kindOf_11 (by decide) ?_
          refine lv_icmp_ge (tgt := 46) hx hb dd_W_kindOf_12 (by decide) (fun c_12_3 => ?_) (fun c_12_3 => ?_)
          · skip
            have c_12_3 : 4 ≤ 4 := (nI_leI (by omega) (by omega)).mp c_12_3
            refine lv_iconst (v := nI 4) hx hb dd_W_kindOf_46 (by decide) ?_
            refine ct_iret (u := ()) hx hb hr hlocks hK hP hD hS rfl ?_ dd_W_kindOf_47
            exact congrArg nI (kd_5 c_3 (Or.inl c_29) (Or.inl c_29_1) (Or.inl c_29_2)).symm
          have c_12_3 : ¬ (4 ≤ 4) := fun z => c_12_3 ((nI_leI (by omega) (by omega)).mpr z)
          exfalso
          omega
        have c_29_2 : ¬ (t < (-4096)) := fun z => c_29_2 ((lg_cmp_lt _ _).mpr z)
        refine lv_lload_n hx hb dd_W_kindOf_32 rfl (lv_at hl 2 rfl) ?_
        refine lv_lload_n hx hb dd_W_kindOf_33 rfl (lv_at hl 0 rfl) ?_
        refine W.lcmp hx hb dd_W_kindOf_34 ?_
        refine lv_if_ge (tgt := 40) hx hb dd_W_kindOf_35 (by decide) (fun c_35 => ?_) (fun c_35 => ?_)
        · skip
          have c_35 : 4096 ≤ t := (lg_cmp_ge _ _).mp c_35
          refine lv_iinc (v := nI 4) (lv' := [(2, .int (nI 4)), (3, .long 4096), (0, .long t)]) hx hb dd_W_kindOf_40 hl (k := 1) rfl (nI_1 3) (by decide) rfl (fun ls hl => ?_)
          refine lv_goto (tgt := 10) hx hb dd_W_kindOf_43 (by decide) ?_
          refine lv_iload_n hx hb dd_W_kindOf_10 rfl (lv_at hl 0 rfl) ?_
          refine lv_iconst (v := nI 4) hx hb dd_W_kindOf_11 (by decide) ?_
          refine lv_icmp_ge (tgt := 46) hx hb dd_W_kindOf_12 (by decide) (fun c_12_3 => ?_) (fun c_12_3 => ?_)
          · skip
            have c_12_3 : 4 ≤ 4 := (nI_leI (by omega) (by omega)).mp c_12_3
            refine lv_iconst (v := nI 4) hx hb dd_W_kindOf_46 (by decide) ?_
            refine ct_iret (u := ()) hx hb hr hlocks hK hP hD hS rfl ?_ dd_W_kindOf_47
            exact congrArg nI (kd_5 c_3 (Or.inl c_29) (Or.inl c_29_1) (Or.inr c_35)).symm
          have c_12_3 : ¬ (4 ≤ 4) := fun z => c_12_3 ((nI_leI (by omega) (by omega)).mpr z)
          exfalso
          omega
        have c_35 : ¬ (4096 ≤ t) := fun z => c_35 ((lg_cmp_ge _ _).mpr z)
        refine lv_iload_n hx hb dd_W_kindOf_38 rfl (lv_at hl 1 rfl) ?_
        refine ct_iret (u := ()) hx hb hr hlocks hK hP hD hS rfl ?_ dd_W_kindOf_39
        exact congrArg nI (kd_3 c_3 (Or.inl c_29) (Or.inl c_29_1) c_29_2 c_35).symm
      have c_29_1 : ¬ (t < (-512)) := fun z => c_29_1 ((lg_cmp_lt _ _).mpr z)
      refine lv_lload_n hx hb dd_W_kindOf_32 rfl (lv_at hl 2 rfl) ?_
      refine lv_lload_n hx hb dd_W_kindOf_33 rfl (lv_at hl 0 rfl) ?_
      refine W.lcmp hx hb dd_W_kindOf_34 ?_
      refine lv_if_ge (tgt := 40) hx hb dd_W_kindOf_35 (by decide) (fun c_35 => ?_) (fun c_35 => ?_)
      · skip
        have c_35 : 512 ≤ t := (lg_cmp_ge _ _).mp c_35
        refine lv_iinc (v := nI 3) (lv' := [(2, .int (nI 3)), (3, .long 512), (0, .long t)]) hx hb dd_W_kindOf_40 hl (k := 1) rfl (nI_1 2) (by decide) rfl (fun ls hl => ?_)
        refine lv_goto (tgt := 10) hx hb dd_W_kindOf_43 (by decide) ?_
        refine lv_iload_n hx hb dd_W_kindOf_10 rfl (lv_at hl 0 rfl) ?_
        refine lv_iconst (v := nI 4) hx hb dd_W_kindOf_11 (by decide) ?_
        refine lv_icmp_ge (tgt := 46) hx hb dd_W_kindOf_12 (by decide) (fun c_12_2 => ?_) (fun c_12_2 => ?_)
        · skip
          have c_12_2 : 4 ≤ 3 := (nI_leI (by omega) (by omega)).mp c_12_2
          exfalso
          omega
        have c_12_2 : ¬ (4 ≤ 3) := fun z => c_12_2 ((nI_leI (by omega) (by omega)).mpr z)
        refine lv_lconst (v := 1) hx hb dd_W_kindOf_15 (by decide) ?_
        obtain ⟨tq, hTz, hTt⟩ := id hZ.2.1
        refine va_getsN (C := cn_X) (v := .ref tq) hx hb hTz hS hown (va_Nw.use rfl (hZ.2.2.1 (.fieldLinkNest cn_W 69 cn_X "TURN_BITS" "[I" cn_X) (by decide +kernel))) (fun _ h9 => h9) dd_W_kindOf_16 ?_
        refine lv_iload_n hx hb dd_W_kindOf_19 rfl (lv_at hl 0 rfl) ?_
        refine va_ti (v := .int (nI (cp_tb 3))) hx hb hTt hS (vp_in_nI (by omega) (by decide)) (congrArg (fun z => Value.int (nI (cp_tb z))) (nI_clamp (by omega))) dd_W_kindOf_20 ?_
        refine ct_topi (y := nI 13) (by decide) ?_
        refine lv_iconst (v := nI 1) hx hb dd_W_kindOf_21 (by decide) ?_
        refine lv_isub hx hb dd_W_kindOf_22 ?_
        refine ct_topi (y := nI (13 - 1)) (pk_sub (by omega)) ?_
        refine lv_lshl (v := 1 <<< ((nI (13 - 1)).toInt64 &&& 63)) hx hb dd_W_kindOf_23 rfl ?_
        refine ct_topl (y := 4096) (by decide) ?_
        refine lv_lstore_n (lv' := [(3, .long 4096), (2, .int (nI 3)), (0, .long t)]) hx hb dd_W_kindOf_24 rfl hl (by decide) rfl (fun ls hl => ?_)
        refine lv_lload_n hx hb dd_W_kindOf_25 rfl (lv_at hl 2 rfl) ?_
        refine lv_lload_n hx hb dd_W_kindOf_26 rfl (lv_at hl 0 rfl) ?_
        refine lv_lneg hx hb dd_W_kindOf_27 ?_
        refine W.lcmp hx hb dd_W_kindOf_28 ?_
        refine lv_if_lt (tgt := 40) hx hb dd_W_kindOf_29 (by decide) (fun c_29_2 => ?_) (fun c_29_2 => ?_)
        · skip
          have c_29_2 : t < (-4096) := (lg_cmp_lt _ _).mp c_29_2
          refine lv_iinc (v := nI 4) (lv' := [(2, .int (nI 4)), (3, .long 4096), (0, .long t)]) hx hb dd_W_kindOf_40 hl (k := 1) rfl (nI_1 3) (by decide) rfl (fun ls hl => ?_)
          refine lv_goto (tgt := 10) hx hb dd_W_kindOf_43 (by decide) ?_
          refine lv_iload_n hx hb dd_W_kindOf_10 rfl (lv_at hl 0 rfl) ?_
          refine lv_iconst (v := nI 4) hx hb dd_W_kindOf_11 (by decide) ?_
          refine lv_icmp_ge (tgt := 46) hx hb dd_W_kindOf_12 (by decide) (fun c_12_3 => ?_) (fun c_12_3 => ?_)
          · skip
            have c_12_3 : 4 ≤ 4 := (nI_leI (by omega) (by omega)).mp c_12_3
            refine lv_iconst (v := nI 4) hx hb dd_W_kindOf_46 (by decide) ?_
            refine ct_iret (u := ()) hx hb hr hlocks hK hP hD hS rfl ?_ dd_W_kindOf_47
            exact congrArg nI (kd_5 c_3 (Or.inl c_29) (Or.inr c_35) (Or.inl c_29_2)).symm
          have c_12_3 : ¬ (4 ≤ 4) := fun z => c_12_3 ((nI_leI (by omega) (by omega)).mpr z)
          exfalso
          omega
        have c_29_2 : ¬ (t < (-4096)) := fun z => c_29_2 ((lg_cmp_lt _ _).mpr z)
        refine lv_lload_n hx hb dd_W_kindOf_32 rfl (lv_at hl 2 rfl) ?_
        refine lv_lload_n hx hb dd_W_kindOf_33 rfl (lv_at hl 0 rfl) ?_
        refine W.lcmp hx hb dd_W_kindOf_34 ?_
        refine lv_if_ge (tgt := 40) hx hb dd_W_kindOf_35 (by decide) (fun c_35_1 => ?_) (fun c_35_1 => ?_)
        · skip
          have c_35_1 : 4096 ≤ t := (lg_cmp_ge _ _).mp c_35_1
          refine lv_iinc (v := nI 4) (lv' := [(2, .int (nI 4)), (3, .long 4096), (0, .long t)]) hx hb dd_W_kindOf_40 hl (k := 1) rfl (nI_1 3) (by decide) rfl (fun ls hl => ?_)
          refine lv_goto (tgt := 10) hx hb dd_W_kindOf_43 (by decide) ?_
          refine lv_iload_n hx hb dd_W_kindOf_10 rfl (lv_at hl 0 rfl) ?_
          refine lv_iconst (v := nI 4) hx hb dd_W_kindOf_11 (by decide) ?_
          refine lv_icmp_ge (tgt := 46) hx hb dd_W_kindOf_12 (by decide) (fun c_12_3 => ?_) (fun c_12_3 => ?_)
          · skip
            have c_12_3 : 4 ≤ 4 := (nI_leI (by omega) (by omega)).mp c_12_3
            refine lv_iconst (v := nI 4) hx hb dd_W_kindOf_46 (by decide) ?_
            refine ct_iret (u := ()) hx hb hr hlocks hK hP hD hS rfl ?_ dd_W_kindOf_47
            exact congrArg nI (kd_5 c_3 (Or.inl c_29) (Or.inr c_35) (Or.inr c_35_1)).symm
          have c_12_3 : ¬ (4 ≤ 4) := fun z => c_12_3 ((nI_leI (by omega) (by omega)).mpr z)
          exfalso
          omega
        have c_35_1 : ¬ (4096 ≤ t) := fun z => c_35_1 ((lg_cmp_ge _ _).mpr z)
        refine lv_iload_n hx hb dd_W_kindOf_38 rfl (lv_at hl 1 rfl) ?_
        refine ct_iret (u := ()) hx hb hr hlocks hK hP hD hS rfl ?_ dd_W_kindOf_39
        exact congrArg nI (kd_3 c_3 (Or.inl c_29) (Or.inr c_35) c_29_2 c_35_1).symm
      have c_35 : ¬ (512 ≤ t) := fun z => c_35 ((lg_cmp_ge _ _).mpr z)
      refine lv_iload_n hx hb dd_W_kindOf_38 rfl (lv_at hl 1 rfl) ?_
      refine ct_iret (u := ()) hx hb hr hlocks hK hP hD hS rfl ?_ dd_W_kindOf_39
      exact congrArg nI (kd_2 c_3 (Or.inl c_29) c_29_1 c_35).symm
    have c_29 : ¬ (t < (-64)) := fun z => c_29 ((lg_cmp_lt _ _).mpr z)
    refine lv_lload_n hx hb dd_W_kindOf_32 rfl (lv_at hl 2 rfl) ?_
    refine lv_lload_n hx hb dd_W_kindOf_33 rfl (lv_at hl 0 rfl) ?_
    refine W.lcmp hx hb dd_W_kindOf_34 ?_
    refine lv_if_ge (tgt := 40) hx hb dd_W_kindOf_35 (by decide) (fun c_35 => ?_) (fun c_35 => ?_)
    · skip
      have c_35 : 64 ≤ t := (lg_cmp_ge _ _).mp c_35
      refine lv_iinc (v := nI 2) (lv' := [(2, .int (nI 2)), (3, .long 64), (0, .long t)]) hx hb dd_W_kindOf_40 hl (k := 1) rfl (nI_1 1) (by decide) rfl (fun ls hl => ?_)
      refine lv_goto (tgt := 10) hx hb dd_W_kindOf_43 (by decide) ?_
      refine lv_iload_n hx hb dd_W_kindOf_10 rfl (lv_at hl 0 rfl) ?_
      refine lv_iconst (v := nI 4) hx hb dd_W_kindOf_11 (by decide) ?_
      refine lv_icmp_ge (tgt := 46) hx hb dd_W_kindOf_12 (by decide) (fun c_12_1 => ?_) (fun c_12_1 => ?_)
      · skip
        have c_12_1 : 4 ≤ 2 := (nI_leI (by omega) (by omega)).mp c_12_1
        exfalso
        omega
      have c_12_1 : ¬ (4 ≤ 2) := fun z => c_12_1 ((nI_leI (by omega) (by omega)).mpr z)
      refine lv_lconst (v := 1) hx hb dd_W_kindOf_15 (by decide) ?_
      obtain ⟨tq, hTz, hTt⟩ := id hZ.2.1
      refine va_getsN (C := cn_X) (v := .ref tq) hx hb hTz hS hown (va_Nw.use rfl (hZ.2.2.1 (.fieldLinkNest cn_W 69 cn_X "TURN_BITS" "[I" cn_X) (by decide +kernel))) (fun _ h9 => h9) dd_W_kindOf_16 ?_
      refine lv_iload_n hx hb dd_W_kindOf_19 rfl (lv_at hl 0 rfl) ?_
      refine va_ti (v := .int (nI (cp_tb 2))) hx hb hTt hS (vp_in_nI (by omega) (by decide)) (congrArg (fun z => Value.int (nI (cp_tb z))) (nI_clamp (by omega))) dd_W_kindOf_20 ?_
      refine ct_topi (y := nI 10) (by decide) ?_
      refine lv_iconst (v := nI 1) hx hb dd_W_kindOf_21 (by decide) ?_
      refine lv_isub hx hb dd_W_kindOf_22 ?_
      refine ct_topi (y := nI (10 - 1)) (pk_sub (by omega)) ?_
      refine lv_lshl (v := 1 <<< ((nI (10 - 1)).toInt64 &&& 63)) hx hb dd_W_kindOf_23 rfl ?_
      refine ct_topl (y := 512) (by decide) ?_
      refine lv_lstore_n (lv' := [(3, .long 512), (2, .int (nI 2)), (0, .long t)]) hx hb dd_W_kindOf_24 rfl hl (by decide) rfl (fun ls hl => ?_)
      refine lv_lload_n hx hb dd_W_kindOf_25 rfl (lv_at hl 2 rfl) ?_
      refine lv_lload_n hx hb dd_W_kindOf_26 rfl (lv_at hl 0 rfl) ?_
      refine lv_lneg hx hb dd_W_kindOf_27 ?_
      refine W.lcmp hx hb dd_W_kindOf_28 ?_
      refine lv_if_lt (tgt := 40) hx hb dd_W_kindOf_29 (by decide) (fun c_29_1 => ?_) (fun c_29_1 => ?_)
      · skip
        have c_29_1 : t < (-512) := (lg_cmp_lt _ _).mp c_29_1
        refine lv_iinc (v := nI 3) (lv' := [(2, .int (nI 3)), (3, .long 512), (0, .long t)]) hx hb dd_W_kindOf_40 hl (k := 1) rfl (nI_1 2) (by decide) rfl (fun ls hl => ?_)
        refine lv_goto (tgt := 10) hx hb dd_W_kindOf_43 (by decide) ?_
        refine lv_iload_n hx hb dd_W_kindOf_10 rfl (lv_at hl 0 rfl) ?_
        refine lv_iconst (v := nI 4) hx hb dd_W_kindOf_11 (by decide) ?_
        refine lv_icmp_ge (tgt := 46) hx hb dd_W_kindOf_12 (by decide) (fun c_12_2 => ?_) (fun c_12_2 => ?_)
        · skip
          have c_12_2 : 4 ≤ 3 := (nI_leI (by omega) (by omega)).mp c_12_2
          exfalso
          omega
        have c_12_2 : ¬ (4 ≤ 3) := fun z => c_12_2 ((nI_leI (by omega) (by omega)).mpr z)
        refine lv_lconst (v := 1) hx hb dd_W_kindOf_15 (by decide) ?_
        obtain ⟨tq, hTz, hTt⟩ := id hZ.2.1
        refine va_getsN (C := cn_X) (v := .ref tq) hx hb hTz hS hown (va_Nw.use rfl (hZ.2.2.1 (.fieldLinkNest cn_W 69 cn_X "TURN_BITS" "[I" cn_X) (by decide +kernel))) (fun _ h9 => h9) dd_W_kindOf_16 ?_
        refine lv_iload_n hx hb dd_W_kindOf_19 rfl (lv_at hl 0 rfl) ?_
        refine va_ti (v := .int (nI (cp_tb 3))) hx hb hTt hS (vp_in_nI (by omega) (by decide)) (congrArg (fun z => Value.int (nI (cp_tb z))) (nI_clamp (by omega))) dd_W_kindOf_20 ?_
        refine ct_topi (y := nI 13) (by decide) ?_
        refine lv_iconst (v := nI 1) hx hb dd_W_kindOf_21 (by decide) ?_
        refine lv_isub hx hb dd_W_kindOf_22 ?_
        refine ct_topi (y := nI (13 - 1)) (pk_sub (by omega)) ?_
        refine lv_lshl (v := 1 <<< ((nI (13 - 1)).toInt64 &&& 63)) hx hb dd_W_kindOf_23 rfl ?_
        refine ct_topl (y := 4096) (by decide) ?_
        refine lv_lstore_n (lv' := [(3, .long 4096), (2, .int (nI 3)), (0, .long t)]) hx hb dd_W_kindOf_24 rfl hl (by decide) rfl (fun ls hl => ?_)
        refine lv_lload_n hx hb dd_W_kindOf_25 rfl (lv_at hl 2 rfl) ?_
        refine lv_lload_n hx hb dd_W_kindOf_26 rfl (lv_at hl 0 rfl) ?_
        refine lv_lneg hx hb dd_W_kindOf_27 ?_
        refine W.lcmp hx hb dd_W_kindOf_28 ?_
        refine lv_if_lt (tgt := 40) hx hb dd_W_kindOf_29 (by decide) (fun c_29_2 => ?_) (fun c_29_2 => ?_)
        · skip
          have c_29_2 : t < (-4096) := (lg_cmp_lt _ _).mp c_29_2
          refine lv_iinc (v := nI 4) (lv' := [(2, .int (nI 4)), (3, .long 4096), (0, .long t)]) hx hb dd_W_kindOf_40 hl (k := 1) rfl (nI_1 3) (by decide) rfl (fun ls hl => ?_)
          refine lv_goto (tgt := 10) hx hb dd_W_kindOf_43 (by decide) ?_
          refine lv_iload_n hx hb dd_W_kindOf_10 rfl (lv_at hl 0 rfl) ?_
          refine lv_iconst (v := nI 4) hx hb dd_W_kindOf_11 (by decide) ?_
          refine lv_icmp_ge (tgt := 46) hx hb dd_W_kindOf_12 (by decide) (fun c_12_3 => ?_) (fun c_12_3 => ?_)
          · skip
            have c_12_3 : 4 ≤ 4 := (nI_leI (by omega) (by omega)).mp c_12_3
            refine lv_iconst (v := nI 4) hx hb dd_W_kindOf_46 (by decide) ?_
            refine ct_iret (u := ()) hx hb hr hlocks hK hP hD hS rfl ?_ dd_W_kindOf_47
            exact congrArg nI (kd_5 c_3 (Or.inr c_35) (Or.inl c_29_1) (Or.inl c_29_2)).symm
          have c_12_3 : ¬ (4 ≤ 4) := fun z => c_12_3 ((nI_leI (by omega) (by omega)).mpr z)
          exfalso
          omega
        have c_29_2 : ¬ (t < (-4096)) := fun z => c_29_2 ((lg_cmp_lt _ _).mpr z)
        refine lv_lload_n hx hb dd_W_kindOf_32 rfl (lv_at hl 2 rfl) ?_
        refine lv_lload_n hx hb dd_W_kindOf_33 rfl (lv_at hl 0 rfl) ?_
        refine W.lcmp hx hb dd_W_kindOf_34 ?_
        refine lv_if_ge (tgt := 40) hx hb dd_W_kindOf_35 (by decide) (fun c_35_1 => ?_) (fun c_35_1 => ?_)
        · skip
          have c_35_1 : 4096 ≤ t := (lg_cmp_ge _ _).mp c_35_1
          refine lv_iinc (v := nI 4) (lv' := [(2, .int (nI 4)), (3, .long 4096), (0, .long t)]) hx hb dd_W_kindOf_40 hl (k := 1) rfl (nI_1 3) (by decide) rfl (fun ls hl => ?_)
          refine lv_goto (tgt := 10) hx hb dd_W_kindOf_43 (by decide) ?_
          refine lv_iload_n hx hb dd_W_kindOf_10 rfl (lv_at hl 0 rfl) ?_
          refine lv_iconst (v := nI 4) hx hb dd_W_kindOf_11 (by decide) ?_
          refine lv_icmp_ge (tgt := 46) hx hb dd_W_kindOf_12 (by decide) (fun c_12_3 => ?_) (fun c_12_3 => ?_)
          · skip
            have c_12_3 : 4 ≤ 4 := (nI_leI (by omega) (by omega)).mp c_12_3
            refine lv_iconst (v := nI 4) hx hb dd_W_kindOf_46 (by decide) ?_
            refine ct_iret (u := ()) hx hb hr hlocks hK hP hD hS rfl ?_ dd_W_kindOf_47
            exact congrArg nI (kd_5 c_3 (Or.inr c_35) (Or.inl c_29_1) (Or.inr c_35_1)).symm
          have c_12_3 : ¬ (4 ≤ 4) := fun z => c_12_3 ((nI_leI (by omega) (by omega)).mpr z)
          exfalso
          omega
        have c_35_1 : ¬ (4096 ≤ t) := fun z => c_35_1 ((lg_cmp_ge _ _).mpr z)
        refine lv_iload_n hx hb dd_W_kindOf_38 rfl (lv_at hl 1 rfl) ?_
        refine ct_iret (u := ()) hx hb hr hlocks hK hP hD hS rfl ?_ dd_W_kindOf_39
        exact congrArg nI (kd_3 c_3 (Or.inr c_35) (Or.inl c_29_1) c_29_2 c_35_1).symm
      have c_29_1 : ¬ (t < (-512)) := fun z => c_29_1 ((lg_cmp_lt _ _).mpr z)
      refine lv_lload_n hx hb dd_W_kindOf_32 rfl (lv_at hl 2 rfl) ?_
      refine lv_lload_n hx hb dd_W_kindOf_33 rfl (lv_at hl 0 rfl) ?_
      refine W.lcmp hx hb dd_W_kindOf_34 ?_
      refine lv_if_ge (tgt := 40) hx hb dd_W_kindOf_35 (by decide) (fun c_35_1 => ?_) (fun c_35_1 => ?_)
      · skip
        have c_35_1 : 512 ≤ t := (lg_cmp_ge _ _).mp c_35_1
        refine lv_iinc (v := nI 3) (lv' := [(2, .int (nI 3)), (3, .long 512), (0, .long t)]) hx hb dd_W_kindOf_40 hl (k := 1) rfl (nI_1 2) (by decide) rfl (fun ls hl => ?_)
        refine lv_goto (tgt := 10) hx hb dd_W_kindOf_43 (by decide) ?_
        refine lv_iload_n hx hb dd_W_kindOf_10 rfl (lv_at hl 0 rfl) ?_
        refine lv_iconst (v := nI 4) hx hb dd_W_kindOf_11 (by decide) ?_
        refine lv_icmp_ge (tgt := 46) hx hb dd_W_kindOf_12 (by decide) (fun c_12_2 => ?_) (fun c_12_2 => ?_)
        · skip
          have c_12_2 : 4 ≤ 3 := (nI_leI (by omega) (by omega)).mp c_12_2
          exfalso
          omega
        have c_12_2 : ¬ (4 ≤ 3) := fun z => c_12_2 ((nI_leI (by omega) (by omega)).mpr z)
        refine lv_lconst (v := 1) hx hb dd_W_kindOf_15 (by decide) ?_
        obtain ⟨tq, hTz, hTt⟩ := id hZ.2.1
        refine va_getsN (C := cn_X) (v := .ref tq) hx hb hTz hS hown (va_Nw.use rfl (hZ.2.2.1 (.fieldLinkNest cn_W 69 cn_X "TURN_BITS" "[I" cn_X) (by decide +kernel))) (fun _ h9 => h9) dd_W_kindOf_16 ?_
        refine lv_iload_n hx hb dd_W_kindOf_19 rfl (lv_at hl 0 rfl) ?_
        refine va_ti (v := .int (nI (cp_tb 3))) hx hb hTt hS (vp_in_nI (by omega) (by decide)) (congrArg (fun z => Value.int (nI (cp_tb z))) (nI_clamp (by omega))) dd_W_kindOf_20 ?_
        refine ct_topi (y := nI 13) (by decide) ?_
        refine lv_iconst (v := nI 1) hx hb dd_W_kindOf_21 (by decide) ?_
        refine lv_isub hx hb dd_W_kindOf_22 ?_
        refine ct_topi (y := nI (13 - 1)) (pk_sub (by omega)) ?_
        refine lv_lshl (v := 1 <<< ((nI (13 - 1)).toInt64 &&& 63)) hx hb dd_W_kindOf_23 rfl ?_
        refine ct_topl (y := 4096) (by decide) ?_
        refine lv_lstore_n (lv' := [(3, .long 4096), (2, .int (nI 3)), (0, .long t)]) hx hb dd_W_kindOf_24 rfl hl (by decide) rfl (fun ls hl => ?_)
        refine lv_lload_n hx hb dd_W_kindOf_25 rfl (lv_at hl 2 rfl) ?_
        refine lv_lload_n hx hb dd_W_kindOf_26 rfl (lv_at hl 0 rfl) ?_
        refine lv_lneg hx hb dd_W_kindOf_27 ?_
        refine W.lcmp hx hb dd_W_kindOf_28 ?_
        refine lv_if_lt (tgt := 40) hx hb dd_W_kindOf_29 (by decide) (fun c_29_2 => ?_) (fun c_29_2 => ?_)
        · skip
          have c_29_2 : t < (-4096) := (lg_cmp_lt _ _).mp c_29_2
          refine lv_iinc (v := nI 4) (lv' := [(2, .int (nI 4)), (3, .long 4096), (0, .long t)]) hx hb dd_W_kindOf_40 hl (k := 1) rfl (nI_1 3) (by decide) rfl (fun ls hl => ?_)
          refine lv_goto (tgt := 10) hx hb dd_W_kindOf_43 (by decide) ?_
          refine lv_iload_n hx hb dd_W_kindOf_10 rfl (lv_at hl 0 rfl) ?_
          refine lv_iconst (v := nI 4) hx hb dd_W_kindOf_11 (by decide) ?_
          refine lv_icmp_ge (tgt := 46) hx hb dd_W_kindOf_12 (by decide) (fun c_12_3 => ?_) (fun c_12_3 => ?_)
          · skip
            have c_12_3 : 4 ≤ 4 := (nI_leI (by omega) (by omega)).mp c_12_3
            refine lv_iconst (v := nI 4) hx hb dd_W_kindOf_46 (by decide) ?_
            refine ct_iret (u := ()) hx hb hr hlocks hK hP hD hS rfl ?_ dd_W_kindOf_47
            exact congrArg nI (kd_5 c_3 (Or.inr c_35) (Or.inr c_35_1) (Or.inl c_29_2)).symm
          have c_12_3 : ¬ (4 ≤ 4) := fun z => c_12_3 ((nI_leI (by omega) (by omega)).mpr z)
          exfalso
          omega
        have c_29_2 : ¬ (t < (-4096)) := fun z => c_29_2 ((lg_cmp_lt _ _).mpr z)
        refine lv_lload_n hx hb dd_W_kindOf_32 rfl (lv_at hl 2 rfl) ?_
        refine lv_lload_n hx hb dd_W_kindOf_33 rfl (lv_at hl 0 rfl) ?_
        refine W.lcmp hx hb dd_W_kindOf_34 ?_
        refine lv_if_ge (tgt := 40) hx hb dd_W_kindOf_35 (by decide) (fun c_35_2 => ?_) (fun c_35_2 => ?_)
        · skip
          have c_35_2 : 4096 ≤ t := (lg_cmp_ge _ _).mp c_35_2
          refine lv_iinc (v := nI 4) (lv' := [(2, .int (nI 4)), (3, .long 4096), (0, .long t)]) hx hb dd_W_kindOf_40 hl (k := 1) rfl (nI_1 3) (by decide) rfl (fun ls hl => ?_)
          refine lv_goto (tgt := 10) hx hb dd_W_kindOf_43 (by decide) ?_
          refine lv_iload_n hx hb dd_W_kindOf_10 rfl (lv_at hl 0 rfl) ?_
          refine lv_iconst (v := nI 4) hx hb dd_W_kindOf_11 (by decide) ?_
          refine lv_icmp_ge (tgt := 46) hx hb dd_W_kindOf_12 (by decide) (fun c_12_3 => ?_) (fun c_12_3 => ?_)
          · skip
            have c_12_3 : 4 ≤ 4 := (nI_leI (by omega) (by omega)).mp c_12_3
            refine lv_iconst (v := nI 4) hx hb dd_W_kindOf_46 (by decide) ?_
            refine ct_iret (u := ()) hx hb hr hlocks hK hP hD hS rfl ?_ dd_W_kindOf_47
            exact congrArg nI (kd_5 c_3 (Or.inr c_35) (Or.inr c_35_1) (Or.inr c_35_2)).symm
          have c_12_3 : ¬ (4 ≤ 4) := fun z => c_12_3 ((nI_leI (by omega) (by omega)).mpr z)
          exfalso
          omega
        have c_35_2 : ¬ (4096 ≤ t) := fun z => c_35_2 ((lg_cmp_ge _ _).mpr z)
        refine lv_iload_n hx hb dd_W_kindOf_38 rfl (lv_at hl 1 rfl) ?_
        refine ct_iret (u := ()) hx hb hr hlocks hK hP hD hS rfl ?_ dd_W_kindOf_39
        exact congrArg nI (kd_3 c_3 (Or.inr c_35) (Or.inr c_35_1) c_29_2 c_35_2).symm
      have c_35_1 : ¬ (512 ≤ t) := fun z => c_35_1 ((lg_cmp_ge _ _).mpr z)
      refine lv_iload_n hx hb dd_W_kindOf_38 rfl (lv_at hl 1 rfl) ?_
      refine ct_iret (u := ()) hx hb hr hlocks hK hP hD hS rfl ?_ dd_W_kindOf_39
      exact congrArg nI (kd_2 c_3 (Or.inr c_35) c_29_1 c_35_1).symm
    have c_35 : ¬ (64 ≤ t) := fun z => c_35 ((lg_cmp_ge _ _).mpr z)
    refine lv_iload_n hx hb dd_W_kindOf_38 rfl (lv_at hl 1 rfl) ?_
    refine ct_iret (u := ()) hx hb hr hlocks hK hP hD hS rfl ?_ dd_W_kindOf_39
    exact congrArg nI (kd_1 c_3  c_29 c_35).symm
  have c_3 : t = 0 := (lg_cmp_eq _ _).mp c_3
  refine lv_iconst (v := nI 0) hx hb dd_W_kindOf_6 (by decide) ?_
  refine ct_iret (u := ()) hx hb hr hlocks hK hP hD hS rfl ?_ dd_W_kindOf_7
  exact congrArg nI (kd_0 c_3).symm

set_option maxHeartbeats 4000000 in
set_option maxRecDepth 100000 in
theorem cc_W_writeTurn (l : Launch) (D : va_G) (cJ cB : ClassId) (q qb qw qf : Nat) (lt ls0 lv0 : Int64) (w : Nat → Int64) (L : List Bool) (t : Int64) (sz : Nat) (hL : L.length + 45 ≤ 400000) (hR : cp_Rw w L) : ct_i l my_W_writeTurn (Cond.code my_W_writeTurn mb_W_writeTurn 5 (some .boolean) :: TB) ({ frames := 2, cells := 0, slots := 0, locals := 52 } : Room) D classes cJ cB [.ref q, .long t] [(q, .inr (4, [.ref qb, .ref qf, .long lt, .long ls0, .long lv0])), (qb, .inr (0, [.ref qw, .int (nI L.length)])), (qw, .inl (cJ, 6250, .inr (.inl w)))] sz (fun (r : Int32) (u : Nat → Int64) => r = nI 1 ∧ cp_Rw u (L ++ cp_wt t)) (fun u => [(q, .inr (4, [.ref qb, .ref qf, .long lt, .long ls0, .long lv0])), (qb, .inr (0, [.ref qw, .int (nI ((L ++ cp_wt t).length))])), (qw, .inl (cJ, 6250, .inr (.inl u)))]) 0 0 := by
  refine ct_ofW (cc := mb_W_writeTurn) (maxL := 5) (ret := some .boolean) (by decide) rfl (Nat.le_of_ble_eq_true rfl) ?_
  intro p e s m below meth c hx hb hr hml hts hown hlocks hin hsz hK hP hD hA hS hZ ls hl
  have hw : ∀ w ∈ TB, w.before _ s = true := fun w h => hts w (List.mem_cons_of_mem _ h)
  have hown : s.vm.findClass cn_W = some m.cls := hown
  have hin : meth.name = "writeTurn" := hin
  generalize hAe : va_A [(q, .inr (4, [.ref qb, .ref qf, .long lt, .long ls0, .long lv0])), (qb, .inr (0, [.ref qw, .int (nI L.length)])), (qw, .inl (cJ, 6250, .inr (.inl w)))] sz = A at hD hA hS hZ ⊢
  clear hAe
  have hkd := cp_kd_le t
  have htb := cp_tb_le (cp_kd t)
  have hkb := cp_kb_len (cp_kd t)
  have hl : lv_has ls 5 [(0, .ref q), (1, .long t)] := hl
  have hP : va_P D classes [(q, .inr (4, [.ref qb, .ref qf, .long lt, .long ls0, .long lv0])), (qb, .inr (0, [.ref qw, .int (nI L.length)])), (qw, .inl (cJ, 6250, .inr (.inl w)))] s.heap := hP
  refine lv_lload_n hx hb dd_W_writeTurn_0 rfl (lv_at hl 1 rfl) ?_
  refine ct_behind_i (wc := []) (wr := [(q, .inr (4, [.ref qb, .ref qf, .long lt, .long ls0, .long lv0])), (qb, .inr (0, [.ref qw, .int (nI L.length)])), (qw, .inl (cJ, 6250, .inr (.inl w)))]) (av := [.long t]) (va_runS (As := [.long t]) (rest := []) ⟨hx, hb, hml, hown, hw⟩ (cc_W_kindOf l D cJ cB t _) (va_cwS 1 hw (tb_S wi_308 wi_309 wi_31 wi_310) rfl rfl rfl (by decide +kernel) ⟨Nat.le_of_ble_eq_true rfl, Nat.le_of_ble_eq_true rfl⟩) ⟨ct_blind, ct_pc hZ hK hP hD hS hA [] rfl (by decide)⟩ rfl rfl hl.1 rfl (lv_room (Nat.le_of_ble_eq_true rfl)) dd_W_writeTurn_1 ⟨Nat.le_of_ble_eq_true rfl, Nat.le_of_ble_eq_true rfl⟩) hK hP hD hS hA [] [0, 1, 2] rfl rfl (by decide) (by decide) (fun r_1 u_1 H locs hw_1 hP hD hS => ?_)
  subst hw_1
  have hP : va_P D classes [(q, .inr (4, [.ref qb, .ref qf, .long lt, .long ls0, .long lv0])), (qb, .inr (0, [.ref qw, .int (nI L.length)])), (qw, .inl (cJ, 6250, .inr (.inl w)))] H := hP
  have hD : va_D A [(q, .inr (4, [.ref qb, .ref qf, .long lt, .long ls0, .long lv0])), (qb, .inr (0, [.ref qw, .int (nI L.length)])), (qw, .inl (cJ, 6250, .inr (.inl w)))] := hD
  refine lv_istore_n (lv' := [(3, .int (nI (cp_kd t))), (0, .ref q), (1, .long t)]) hx hb dd_W_writeTurn_4 rfl hl (by decide) rfl (fun ls hl => ?_)
  obtain ⟨tq, hTz, hTt⟩ := id hZ.2.1
  refine va_getsN (C := cn_X) (v := .ref tq) hx hb hTz hS hown (va_Nw.use rfl (hZ.2.2.1 (.fieldLinkNest cn_W 69 cn_X "TURN_BITS" "[I" cn_X) (by decide +kernel))) (fun _ h9 => h9) dd_W_writeTurn_5 ?_
  refine lv_iload_n hx hb dd_W_writeTurn_8 rfl (lv_at hl 0 rfl) ?_
  refine va_ti (v := .int (nI (cp_tb (cp_kd t)))) hx hb hTt hS (vp_in_nI (by omega) (by decide)) (congrArg (fun z => Value.int (nI (cp_tb z))) (nI_clamp (by omega))) dd_W_writeTurn_9 ?_
  refine lv_istore (lv' := [(4, .int (nI (cp_tb (cp_kd t)))), (3, .int (nI (cp_kd t))), (0, .ref q), (1, .long t)]) hx hb dd_W_writeTurn_10 hl (by decide) rfl (fun ls hl => ?_)
  refine lv_aload_n hx hb dd_W_writeTurn_12 rfl (lv_at hl 2 rfl) ?_
  refine lv_iload_n hx hb dd_W_writeTurn_13 rfl (lv_at hl 1 rfl) ?_
  refine ct_behind_i (wc := [(q, .inr (4, [.ref qb, .ref qf, .long lt, .long ls0, .long lv0])), (qb, .inr (0, [.ref qw, .int (nI L.length)])), (qw, .inl (cJ, 6250, .inr (.inl w)))]) (wr := []) (av := [.ref q, .int (nI (cp_kd t))]) (va_runV (As := [.int (nI (cp_kd t))]) (rest := []) ⟨hx, hb, hml, hown, hw⟩ (cc_W_writeKind l D cJ cB q qb qw qf lt ls0 lv0 w L (cp_kd t) _ (by omega) hR (by omega)) (cwV 1 hw (tb_V wi_313 wi_315 wi_4 wi_31 wi_316) rfl rfl rfl (by decide +kernel) ⟨Nat.le_of_ble_eq_true rfl, Nat.le_of_ble_eq_true rfl⟩) ⟨ct_blind, ct_recv hK hP (q0 := 0) (ci := 4) rfl rfl, ct_pc hZ hK hP hD hS hA [0, 1, 2] rfl (by decide)⟩ rfl rfl hl.1 rfl (lv_room (Nat.le_of_ble_eq_true rfl)) dd_W_writeTurn_14 ⟨Nat.le_of_ble_eq_true rfl, Nat.le_of_ble_eq_true rfl⟩) hK hP hD hS hA [0, 1, 2] [] rfl rfl (by decide) (by decide) (fun r_14 u_14 H locs hw_14 hP hD hS => ?_)
  obtain ⟨hr_14, hR_w1⟩ := hw_14
  subst hr_14
  obtain ⟨w1, h9⟩ : ∃ z, z = u_14 := ⟨_, rfl⟩
  rw [← h9] at hP hD hR_w1
  clear h9
  have hP : va_P D classes [(q, .inr (4, [.ref qb, .ref qf, .long lt, .long ls0, .long lv0])), (qb, .inr (0, [.ref qw, .int (nI ((L ++ cp_kb (cp_kd t)).length))])), (qw, .inl (cJ, 6250, .inr (.inl w1)))] H := hP
  have hD : va_D A [(q, .inr (4, [.ref qb, .ref qf, .long lt, .long ls0, .long lv0])), (qb, .inr (0, [.ref qw, .int (nI ((L ++ cp_kb (cp_kd t)).length))])), (qw, .inl (cJ, 6250, .inr (.inl w1)))] := hD
  refine lv_if_eq (tgt := 44) hx hb dd_W_writeTurn_17 (by decide) (fun c_17 => ?_) (fun c_17 => ?_)
  · skip
    have c_17 : 1 = 0 := (ct_zeq (by omega)).mp c_17
    exfalso
    omega
  have c_17 : ¬ (1 = 0) := fun z => c_17 ((ct_zeq (by omega)).mpr z)
  refine lv_aload_n hx hb dd_W_writeTurn_20 rfl (lv_at hl 2 rfl) ?_
  refine va_get (D := D) (ci := 4) (C := cn_W) (T := cf_W) (N := 5) hx hb hw in_W hown hK hP 0 rfl rfl 0 (by decide) (hw _ wi_246) (fun _ h9 => h9) rfl dd_W_writeTurn_21 ?_
  refine lv_lload_n hx hb dd_W_writeTurn_24 rfl (lv_at hl 3 rfl) ?_
  refine lv_lconst (v := 1) hx hb dd_W_writeTurn_25 (by decide) ?_
  refine lv_iload hx hb dd_W_writeTurn_26 (lv_at hl 0 rfl) ?_
  refine lv_lshl (v := 1 <<< ((nI (cp_tb (cp_kd t))).toInt64 &&& 63)) hx hb dd_W_writeTurn_28 rfl ?_
  refine lv_lconst (v := 1) hx hb dd_W_writeTurn_29 (by decide) ?_
  refine lv_lsub hx hb dd_W_writeTurn_30 ?_
  refine lv_land hx hb dd_W_writeTurn_31 ?_
  refine lv_iload hx hb dd_W_writeTurn_32 (lv_at hl 0 rfl) ?_
  refine ct_behind_i (wc := [(qb, .inr (0, [.ref qw, .int (nI ((L ++ cp_kb (cp_kd t)).length))])), (qw, .inl (cJ, 6250, .inr (.inl w1)))]) (wr := [(q, .inr (4, [.ref qb, .ref qf, .long lt, .long ls0, .long lv0]))]) (av := [.ref qb, .long (t &&& ((1 <<< ((nI (cp_tb (cp_kd t))).toInt64 &&& 63)) - 1)), .int (nI (cp_tb (cp_kd t)))]) (va_runV (As := [.long (t &&& ((1 <<< ((nI (cp_tb (cp_kd t))).toInt64 &&& 63)) - 1)), .int (nI (cp_tb (cp_kd t)))]) (rest := []) ⟨hx, hb, hml, hown, hw⟩ (cs_B_append l D cJ cB qb qw w1 (L ++ cp_kb (cp_kd t)) (t &&& (1 <<< ((nI (cp_tb (cp_kd t))).toInt64 &&& 63) - 1)) (cp_tb (cp_kd t)) _ (by rw [List.length_append]; omega) hR_w1 (by omega) (cp_mask_fit (by omega))) (cwV 2 hw (tb_V wi_295 wi_296 wi_297 wi_24 wi_298) rfl rfl rfl (by decide +kernel) ⟨Nat.le_of_ble_eq_true rfl, Nat.le_of_ble_eq_true rfl⟩) ⟨ct_blind, ct_recv hK hP (q0 := 1) (ci := 0) rfl rfl, ct_pc hZ hK hP hD hS hA [1, 2] rfl (by decide)⟩ rfl rfl hl.1 rfl (lv_room (Nat.le_of_ble_eq_true rfl)) dd_W_writeTurn_34 ⟨Nat.le_of_ble_eq_true rfl, Nat.le_of_ble_eq_true rfl⟩) hK hP hD hS hA [1, 2] [0] rfl rfl (by decide) (by decide) (fun r_34 u_34 H locs hw_34 hP hD hS => ?_)
  obtain ⟨hr_34, hR_w2⟩ := hw_34
  subst hr_34
  obtain ⟨w2, h9_34⟩ : ∃ z, z = u_34 := ⟨_, rfl⟩
  rw [← h9_34] at hP hD hR_w2
  clear h9_34
  have hP : va_P D classes [(q, .inr (4, [.ref qb, .ref qf, .long lt, .long ls0, .long lv0])), (qb, .inr (0, [.ref qw, .int (nI (((L ++ cp_kb (cp_kd t)) ++ cp_bl (t &&& (1 <<< ((nI (cp_tb (cp_kd t))).toInt64 &&& 63) - 1)) (cp_tb (cp_kd t))).length))])), (qw, .inl (cJ, 6250, .inr (.inl w2)))] H := hP
  have hD : va_D A [(q, .inr (4, [.ref qb, .ref qf, .long lt, .long ls0, .long lv0])), (qb, .inr (0, [.ref qw, .int (nI (((L ++ cp_kb (cp_kd t)) ++ cp_bl (t &&& (1 <<< ((nI (cp_tb (cp_kd t))).toInt64 &&& 63) - 1)) (cp_tb (cp_kd t))).length))])), (qw, .inl (cJ, 6250, .inr (.inl w2)))] := hD
  refine lv_if_eq (tgt := 44) hx hb dd_W_writeTurn_37 (by decide) (fun c_37 => ?_) (fun c_37 => ?_)
  · skip
    have c_37 : 1 = 0 := (ct_zeq (by omega)).mp c_37
    exfalso
    omega
  have c_37 : ¬ (1 = 0) := fun z => c_37 ((ct_zeq (by omega)).mpr z)
  refine lv_iconst (v := nI 1) hx hb dd_W_writeTurn_40 (by decide) ?_
  refine lv_goto (tgt := 45) hx hb dd_W_writeTurn_41 (by decide) ?_
  rw [show (L ++ cp_kb (cp_kd t)) ++ cp_bl (t &&& (1 <<< ((nI (cp_tb (cp_kd t))).toInt64 &&& 63) - 1)) (cp_tb (cp_kd t)) = L ++ cp_wt t by unfold cp_wt; rw [cp_mask_bl (by omega), List.append_assoc]] at hP hD hR_w2
  refine ct_zret (u := w2) hx hb hr hlocks (by decide) hK hP hD hS rfl ?_ dd_W_writeTurn_45
  exact ⟨rfl, hR_w2⟩
end
section
/-! writing values and points -/
theorem cz_min {a b : Nat} (ha : a < 2 ^ 31) (hb : b < 2 ^ 31) : (if nI b < nI a then nI b else nI a) = nI (min a b) := by
  by_cases c : b < a
  · rw [if_pos ((nI_ltI hb ha).mpr c), Nat.min_eq_right (by omega)]
  · rw [if_neg (fun z => c ((nI_ltI hb ha).mp z)), Nat.min_eq_left (by omega)]
theorem cp_fit_3 : cp_fit 3 2 := cp_fit_N (a := 3) (n := 2) (by decide)
theorem cp_fit_2 : cp_fit 2 2 := cp_fit_N (a := 2) (n := 2) (by decide)
theorem cp_tn_1 {f : Nat → Int64} {i : Nat} {a d : Int64} (hi : i ≠ 0) (ha : a = f (i - 1)) (hd : d = if i ≤ 1 then 0 else f (i - 1) - f (i - 2)) : f i - a - d = cp_tn f i := by
  unfold cp_tn
  subst ha hd
  by_cases c : i = 1
  · subst c; rw [if_pos rfl, if_pos (Nat.le_refl 1), Int64.sub_zero]
  · rw [if_neg c, if_neg (by omega)]

set_option maxHeartbeats 4000000 in
set_option maxRecDepth 100000 in
theorem cc_W_writeFrame (l : Launch) (D : va_G) (cJ cB : ClassId) (q qb qw qf : Nat) (lt ls0 lv0 : Int64) (w : Nat → Int64) (L : List Bool) (z n : Nat) (a nn : Nat) (sz : Nat) (hL : L.length + 13 ≤ 400000) (hR : cp_Rw w L) (h1 : a ≤ 31) (h2 : 1 ≤ nn) (h3 : a + nn ≤ 64) : ct_i l my_W_writeFrame (Cond.code my_W_writeFrame mb_W_writeFrame 3 (some .boolean) :: TB) ({ frames := 1, cells := 0, slots := 0, locals := 29 } : Room) D classes cJ cB [.ref q, .int (nI a), .int (nI nn)] [(q, .inr (4, [.ref qb, .ref qf, .long lt, .long ls0, .long lv0])), (qb, .inr (0, [.ref qw, .int (nI L.length)])), (qw, .inl (cJ, 6250, .inr (.inl w))), (qf, .inr (1, [.int (nI z), .int (nI n)]))] sz (fun (r : Int32) (u : Nat → Int64) => r = nI 1 ∧ cp_Rw u (((L ++ cp_bl 3 2) ++ cp_bl (lN a) 5) ++ cp_bl (lN (nn - 1)) 6)) (fun u => [(q, .inr (4, [.ref qb, .ref qf, .long lt, .long ls0, .long lv0])), (qb, .inr (0, [.ref qw, .int (nI ((((L ++ cp_bl 3 2) ++ cp_bl (lN a) 5) ++ cp_bl (lN (nn - 1)) 6).length))])), (qw, .inl (cJ, 6250, .inr (.inl u))), (qf, .inr (1, [.int (nI a), .int (nI nn)]))]) 0 0 := by
  refine ct_ofW (cc := mb_W_writeFrame) (maxL := 3) (ret := some .boolean) (by decide) rfl (Nat.le_of_ble_eq_true rfl) ?_
  intro p e s m below meth c hx hb hr hml hts hown hlocks hin hsz hK hP hD hA hS hZ ls hl
  have hw : ∀ w ∈ TB, w.before _ s = true := fun w h => hts w (List.mem_cons_of_mem _ h)
  have hown : s.vm.findClass cn_W = some m.cls := hown
  have hin : meth.name = "writeFrame" := hin
  generalize hAe : va_A [(q, .inr (4, [.ref qb, .ref qf, .long lt, .long ls0, .long lv0])), (qb, .inr (0, [.ref qw, .int (nI L.length)])), (qw, .inl (cJ, 6250, .inr (.inl w))), (qf, .inr (1, [.int (nI z), .int (nI n)]))] sz = A at hD hA hS hZ ⊢
  clear hAe
  have hl : lv_has ls 3 [(0, .ref q), (1, .int (nI a)), (2, .int (nI nn))] := hl
  have hP : va_P D classes [(q, .inr (4, [.ref qb, .ref qf, .long lt, .long ls0, .long lv0])), (qb, .inr (0, [.ref qw, .int (nI L.length)])), (qw, .inl (cJ, 6250, .inr (.inl w))), (qf, .inr (1, [.int (nI z), .int (nI n)]))] s.heap := hP
  refine lv_aload_n hx hb dd_W_writeFrame_0 rfl (lv_at hl 0 rfl) ?_
  refine va_get (D := D) (ci := 4) (C := cn_W) (T := cf_W) (N := 5) hx hb hw in_W hown hK hP 0 rfl rfl 1 (by decide) (hw _ wi_247) (fun _ h9 => h9) rfl dd_W_writeFrame_1 ?_
  refine lv_iload_n hx hb dd_W_writeFrame_4 rfl (lv_at hl 1 rfl) ?_
  refine lv_iload_n hx hb dd_W_writeFrame_5 rfl (lv_at hl 2 rfl) ?_
  refine ct_behind_v (wc := [(qf, .inr (1, [.int (nI z), .int (nI n)]))]) (wr := [(q, .inr (4, [.ref qb, .ref qf, .long lt, .long ls0, .long lv0])), (qb, .inr (0, [.ref qw, .int (nI L.length)])), (qw, .inl (cJ, 6250, .inr (.inl w)))]) (av := [.ref qf, .int (nI a), .int (nI nn)]) (va_runV (As := [.int (nI a), .int (nI nn)]) (rest := []) ⟨hx, hb, hml, hown, hw⟩ (cc_F_become l D cJ cB qf z n a nn _) (cwV 2 hw (tb_V wi_354 wi_355 wi_356 wi_32 wi_357) rfl rfl rfl (by decide +kernel) ⟨Nat.le_of_ble_eq_true rfl, Nat.le_of_ble_eq_true rfl⟩) ⟨ct_blind, ct_recv hK hP (q0 := 3) (ci := 1) rfl rfl, ct_pc hZ hK hP hD hS hA [3] rfl (by decide)⟩ rfl rfl hl.1 rfl (lv_room (Nat.le_of_ble_eq_true rfl)) dd_W_writeFrame_6 ⟨Nat.le_of_ble_eq_true rfl, Nat.le_of_ble_eq_true rfl⟩) hK hP hD hS hA [3] [0, 1, 2] rfl rfl (by decide) (by decide) (fun u_6 H locs hw_6 hP hD hS => ?_)
  have hP : va_P D classes [(q, .inr (4, [.ref qb, .ref qf, .long lt, .long ls0, .long lv0])), (qb, .inr (0, [.ref qw, .int (nI L.length)])), (qw, .inl (cJ, 6250, .inr (.inl w))), (qf, .inr (1, [.int (nI a), .int (nI nn)]))] H := hP
  have hD : va_D A [(q, .inr (4, [.ref qb, .ref qf, .long lt, .long ls0, .long lv0])), (qb, .inr (0, [.ref qw, .int (nI L.length)])), (qw, .inl (cJ, 6250, .inr (.inl w))), (qf, .inr (1, [.int (nI a), .int (nI nn)]))] := hD
  refine lv_aload_n hx hb dd_W_writeFrame_9 rfl (lv_at hl 0 rfl) ?_
  refine va_get (D := D) (ci := 4) (C := cn_W) (T := cf_W) (N := 5) hx hb hw in_W hown hK hP 0 rfl rfl 0 (by decide) (hw _ wi_246) (fun _ h9 => h9) rfl dd_W_writeFrame_10 ?_
  refine lv_ldc2 (v := 3) hx hb hown (hw _ wi_358) dd_W_writeFrame_13 ?_
  refine lv_iconst (v := nI 2) hx hb dd_W_writeFrame_16 (by decide) ?_
  refine ct_behind_i (wc := [(qb, .inr (0, [.ref qw, .int (nI L.length)])), (qw, .inl (cJ, 6250, .inr (.inl w)))]) (wr := [(q, .inr (4, [.ref qb, .ref qf, .long lt, .long ls0, .long lv0])), (qf, .inr (1, [.int (nI a), .int (nI nn)]))]) (av := [.ref qb, .long 3, .int (nI 2)]) (va_runV (As := [.long 3, .int (nI 2)]) (rest := []) ⟨hx, hb, hml, hown, hw⟩ (cs_B_append l D cJ cB qb qw w L 3 2 _ (by omega) hR (by omega) (cp_fit_3)) (cwV 2 hw (tb_V wi_295 wi_296 wi_297 wi_24 wi_298) rfl rfl rfl (by decide +kernel) ⟨Nat.le_of_ble_eq_true rfl, Nat.le_of_ble_eq_true rfl⟩) ⟨ct_blind, ct_recv hK hP (q0 := 1) (ci := 0) rfl rfl, ct_pc hZ hK hP hD hS hA [1, 2] rfl (by decide)⟩ rfl rfl hl.1 rfl (lv_room (Nat.le_of_ble_eq_true rfl)) dd_W_writeFrame_17 ⟨Nat.le_of_ble_eq_true rfl, Nat.le_of_ble_eq_true rfl⟩) hK hP hD hS hA [1, 2] [0, 3] rfl rfl (by decide) (by decide) (fun r_17 u_17 H locs hw_17 hP hD hS => ?_)
  obtain ⟨hr_17, hR_w1⟩ := hw_17
  subst hr_17
  obtain ⟨w1, h9_17⟩ : ∃ z, z = u_17 := ⟨_, rfl⟩
  rw [← h9_17] at hP hD hR_w1
  clear h9_17
  have hP : va_P D classes [(q, .inr (4, [.ref qb, .ref qf, .long lt, .long ls0, .long lv0])), (qf, .inr (1, [.int (nI a), .int (nI nn)])), (qb, .inr (0, [.ref qw, .int (nI ((L ++ cp_bl 3 2).length))])), (qw, .inl (cJ, 6250, .inr (.inl w1)))] H := hP
  have hD : va_D A [(q, .inr (4, [.ref qb, .ref qf, .long lt, .long ls0, .long lv0])), (qf, .inr (1, [.int (nI a), .int (nI nn)])), (qb, .inr (0, [.ref qw, .int (nI ((L ++ cp_bl 3 2).length))])), (qw, .inl (cJ, 6250, .inr (.inl w1)))] := hD
  refine lv_if_eq (tgt := 56) hx hb dd_W_writeFrame_20 (by decide) (fun c_20 => ?_) (fun c_20 => ?_)
  · skip
    have c_20 : 1 = 0 := (ct_zeq (by omega)).mp c_20
    exfalso
    omega
  have c_20 : ¬ (1 = 0) := fun z => c_20 ((ct_zeq (by omega)).mpr z)
  refine lv_aload_n hx hb dd_W_writeFrame_23 rfl (lv_at hl 0 rfl) ?_
  refine va_get (D := D) (ci := 4) (C := cn_W) (T := cf_W) (N := 5) hx hb hw in_W hown hK hP 0 rfl rfl 0 (by decide) (hw _ wi_246) (fun _ h9 => h9) rfl dd_W_writeFrame_24 ?_
  refine lv_iload_n hx hb dd_W_writeFrame_27 rfl (lv_at hl 1 rfl) ?_
  refine lv_i2l (v := (nI a).toInt64) hx hb dd_W_writeFrame_28 rfl ?_
  refine ct_topl (y := lN a) (nI_l (by omega)) ?_
  refine lv_iconst (v := nI 5) hx hb dd_W_writeFrame_29 (by decide) ?_
  refine ct_behind_i (wc := [(qb, .inr (0, [.ref qw, .int (nI ((L ++ cp_bl 3 2).length))])), (qw, .inl (cJ, 6250, .inr (.inl w1)))]) (wr := [(q, .inr (4, [.ref qb, .ref qf, .long lt, .long ls0, .long lv0])), (qf, .inr (1, [.int (nI a), .int (nI nn)]))]) (av := [.ref qb, .long (lN a), .int (nI 5)]) (va_runV (As := [.long (lN a), .int (nI 5)]) (rest := []) ⟨hx, hb, hml, hown, hw⟩ (cs_B_append l D cJ cB qb qw w1 (L ++ cp_bl 3 2) (lN a) 5 _ (by simp only [List.length_append, cp_bl_len]; omega) hR_w1 (by omega) (cp_fit_N (by omega))) (cwV 2 hw (tb_V wi_295 wi_296 wi_297 wi_24 wi_298) rfl rfl rfl (by decide +kernel) ⟨Nat.le_of_ble_eq_true rfl, Nat.le_of_ble_eq_true rfl⟩) ⟨ct_blind, ct_recv hK hP (q0 := 2) (ci := 0) rfl rfl, ct_pc hZ hK hP hD hS hA [2, 3] rfl (by decide)⟩ rfl rfl hl.1 rfl (lv_room (Nat.le_of_ble_eq_true rfl)) dd_W_writeFrame_30 ⟨Nat.le_of_ble_eq_true rfl, Nat.le_of_ble_eq_true rfl⟩) hK hP hD hS hA [2, 3] [0, 1] rfl rfl (by decide) (by decide) (fun r_30 u_30 H locs hw_30 hP hD hS => ?_)
  obtain ⟨hr_30, hR_w2⟩ := hw_30
  subst hr_30
  obtain ⟨w2, h9_30⟩ : ∃ z, z = u_30 := ⟨_, rfl⟩
  rw [← h9_30] at hP hD hR_w2
  clear h9_30
  have hP : va_P D classes [(q, .inr (4, [.ref qb, .ref qf, .long lt, .long ls0, .long lv0])), (qf, .inr (1, [.int (nI a), .int (nI nn)])), (qb, .inr (0, [.ref qw, .int (nI (((L ++ cp_bl 3 2) ++ cp_bl (lN a) 5).length))])), (qw, .inl (cJ, 6250, .inr (.inl w2)))] H := hP
  have hD : va_D A [(q, .inr (4, [.ref qb, .ref qf, .long lt, .long ls0, .long lv0])), (qf, .inr (1, [.int (nI a), .int (nI nn)])), (qb, .inr (0, [.ref qw, .int (nI (((L ++ cp_bl 3 2) ++ cp_bl (lN a) 5).length))])), (qw, .inl (cJ, 6250, .inr (.inl w2)))] := hD
  refine lv_if_eq (tgt := 56) hx hb dd_W_writeFrame_33 (by decide) (fun c_33 => ?_) (fun c_33 => ?_)
  · skip
    have c_33 : 1 = 0 := (ct_zeq (by omega)).mp c_33
    exfalso
    omega
  have c_33 : ¬ (1 = 0) := fun z => c_33 ((ct_zeq (by omega)).mpr z)
  refine lv_aload_n hx hb dd_W_writeFrame_36 rfl (lv_at hl 0 rfl) ?_
  refine va_get (D := D) (ci := 4) (C := cn_W) (T := cf_W) (N := 5) hx hb hw in_W hown hK hP 0 rfl rfl 0 (by decide) (hw _ wi_246) (fun _ h9 => h9) rfl dd_W_writeFrame_37 ?_
  refine lv_iload_n hx hb dd_W_writeFrame_40 rfl (lv_at hl 2 rfl) ?_
  refine lv_iconst (v := nI 1) hx hb dd_W_writeFrame_41 (by decide) ?_
  refine lv_isub hx hb dd_W_writeFrame_42 ?_
  refine ct_topi (y := nI (nn - 1)) (pk_sub (by omega)) ?_
  refine lv_i2l (v := (nI (nn - 1)).toInt64) hx hb dd_W_writeFrame_43 rfl ?_
  refine ct_topl (y := lN (nn - 1)) (nI_l (by omega)) ?_
  refine lv_bipush (v := nI 6) hx hb dd_W_writeFrame_44 (by decide) ?_
  refine ct_behind_i (wc := [(qb, .inr (0, [.ref qw, .int (nI (((L ++ cp_bl 3 2) ++ cp_bl (lN a) 5).length))])), (qw, .inl (cJ, 6250, .inr (.inl w2)))]) (wr := [(q, .inr (4, [.ref qb, .ref qf, .long lt, .long ls0, .long lv0])), (qf, .inr (1, [.int (nI a), .int (nI nn)]))]) (av := [.ref qb, .long (lN (nn - 1)), .int (nI 6)]) (va_runV (As := [.long (lN (nn - 1)), .int (nI 6)]) (rest := []) ⟨hx, hb, hml, hown, hw⟩ (cs_B_append l D cJ cB qb qw w2 ((L ++ cp_bl 3 2) ++ cp_bl (lN a) 5) (lN (nn - 1)) 6 _ (by simp only [List.length_append, cp_bl_len]; omega) hR_w2 (by omega) (cp_fit_N (by omega))) (cwV 2 hw (tb_V wi_295 wi_296 wi_297 wi_24 wi_298) rfl rfl rfl (by decide +kernel) ⟨Nat.le_of_ble_eq_true rfl, Nat.le_of_ble_eq_true rfl⟩) ⟨ct_blind, ct_recv hK hP (q0 := 2) (ci := 0) rfl rfl, ct_pc hZ hK hP hD hS hA [2, 3] rfl (by decide)⟩ rfl rfl hl.1 rfl (lv_room (Nat.le_of_ble_eq_true rfl)) dd_W_writeFrame_46 ⟨Nat.le_of_ble_eq_true rfl, Nat.le_of_ble_eq_true rfl⟩) hK hP hD hS hA [2, 3] [0, 1] rfl rfl (by decide) (by decide) (fun r_46 u_46 H locs hw_46 hP hD hS => ?_)
  obtain ⟨hr_46, hR_w3⟩ := hw_46
  subst hr_46
  obtain ⟨w3, h9_46⟩ : ∃ z, z = u_46 := ⟨_, rfl⟩
  rw [← h9_46] at hP hD hR_w3
  clear h9_46
  have hP : va_P D classes [(q, .inr (4, [.ref qb, .ref qf, .long lt, .long ls0, .long lv0])), (qf, .inr (1, [.int (nI a), .int (nI nn)])), (qb, .inr (0, [.ref qw, .int (nI ((((L ++ cp_bl 3 2) ++ cp_bl (lN a) 5) ++ cp_bl (lN (nn - 1)) 6).length))])), (qw, .inl (cJ, 6250, .inr (.inl w3)))] H := hP
  have hD : va_D A [(q, .inr (4, [.ref qb, .ref qf, .long lt, .long ls0, .long lv0])), (qf, .inr (1, [.int (nI a), .int (nI nn)])), (qb, .inr (0, [.ref qw, .int (nI ((((L ++ cp_bl 3 2) ++ cp_bl (lN a) 5) ++ cp_bl (lN (nn - 1)) 6).length))])), (qw, .inl (cJ, 6250, .inr (.inl w3)))] := hD
  refine lv_if_eq (tgt := 56) hx hb dd_W_writeFrame_49 (by decide) (fun c_49 => ?_) (fun c_49 => ?_)
  · skip
    have c_49 : 1 = 0 := (ct_zeq (by omega)).mp c_49
    exfalso
    omega
  have c_49 : ¬ (1 = 0) := fun z => c_49 ((ct_zeq (by omega)).mpr z)
  refine lv_iconst (v := nI 1) hx hb dd_W_writeFrame_52 (by decide) ?_
  refine lv_goto (tgt := 57) hx hb dd_W_writeFrame_53 (by decide) ?_
  refine ct_zret (u := w3) hx hb hr hlocks (by decide) hK (hP.sub [0, 2, 3, 1] rfl) (hD.sub [0, 2, 3, 1] (by decide) rfl) hS rfl ?_ dd_W_writeFrame_57
  exact ⟨rfl, hR_w3⟩

set_option maxHeartbeats 4000000 in
set_option maxRecDepth 100000 in
theorem cc_W_writeDifference (l : Launch) (D : va_G) (cJ cB : ClassId) (q qb qw qf : Nat) (lt ls0 lv0 : Int64) (w : Nat → Int64) (L : List Bool) (z n : Nat) (x : Int64) (sz : Nat) (hL : L.length + 77 ≤ 400000) (hR : cp_Rw w L) (hzn : z + n ≤ 64) : ct_i l my_W_writeDifference (Cond.code my_W_writeDifference mb_W_writeDifference 6 (some .boolean) :: TB) ({ frames := 2, cells := 0, slots := 0, locals := 51 } : Room) D classes cJ cB [.ref q, .long x] [(q, .inr (4, [.ref qb, .ref qf, .long lt, .long ls0, .long lv0])), (qb, .inr (0, [.ref qw, .int (nI L.length)])), (qw, .inl (cJ, 6250, .inr (.inl w))), (qf, .inr (1, [.int (nI z), .int (nI n)]))] sz (fun (r : Int32) (u : Nat → Int64) => r = nI 1 ∧ cp_Rw u (L ++ (cp_wv z n x).1)) (fun u => [(q, .inr (4, [.ref qb, .ref qf, .long lt, .long ls0, .long lv0])), (qb, .inr (0, [.ref qw, .int (nI ((L ++ (cp_wv z n x).1).length))])), (qw, .inl (cJ, 6250, .inr (.inl u))), (qf, .inr (1, [.int (nI ((cp_wv z n x).2.1)), .int (nI ((cp_wv z n x).2.2))]))]) 0 0 := by
  refine ct_ofW (cc := mb_W_writeDifference) (maxL := 6) (ret := some .boolean) (by decide) rfl (Nat.le_of_ble_eq_true rfl) ?_
  intro p e s m below meth c hx hb hr hml hts hown hlocks hin hsz hK hP hD hA hS hZ ls hl
  have hw : ∀ w ∈ TB, w.before _ s = true := fun w h => hts w (List.mem_cons_of_mem _ h)
  have hown : s.vm.findClass cn_W = some m.cls := hown
  have hin : meth.name = "writeDifference" := hin
  generalize hAe : va_A [(q, .inr (4, [.ref qb, .ref qf, .long lt, .long ls0, .long lv0])), (qb, .inr (0, [.ref qw, .int (nI L.length)])), (qw, .inl (cJ, 6250, .inr (.inl w))), (qf, .inr (1, [.int (nI z), .int (nI n)]))] sz = A at hD hA hS hZ ⊢
  clear hAe
  have hl : lv_has ls 6 [(0, .ref q), (1, .long x)] := hl
  have hP : va_P D classes [(q, .inr (4, [.ref qb, .ref qf, .long lt, .long ls0, .long lv0])), (qb, .inr (0, [.ref qw, .int (nI L.length)])), (qw, .inl (cJ, 6250, .inr (.inl w))), (qf, .inr (1, [.int (nI z), .int (nI n)]))] s.heap := hP
  refine lv_lload_n hx hb dd_W_writeDifference_0 rfl (lv_at hl 1 rfl) ?_
  refine lv_lconst (v := 0) hx hb dd_W_writeDifference_1 (by decide) ?_
  refine W.lcmp hx hb dd_W_writeDifference_2 ?_
  refine lv_if_ne (tgt := 16) hx hb dd_W_writeDifference_3 (by decide) (fun c_3 => ?_) (fun c_3 => ?_)
  · skip
    have c_3 : ¬ (x = 0) := fun z => c_3 ((lg_cmp_eq _ _).mpr z)
    refine lv_lload_n hx hb dd_W_writeDifference_16 rfl (lv_at hl 1 rfl) ?_
    obtain ⟨ax, mm, tt, bb, hxa, hax, hm1, hm2, hlz, hmm, htt, hdec, htz⟩ := cz_ex c_3
    have hsum := cp_lt_sum c_3
    obtain ⟨a0, ha0⟩ : ∃ z, z = min (cp_lz x) 31 := ⟨_, rfl⟩
    obtain ⟨b0, hb0⟩ : ∃ z, z = cp_tz x := ⟨_, rfl⟩
    refine ct_topl (y := lN ax) hxa ?_
    refine ct_behind_i (wc := []) (wr := [(q, .inr (4, [.ref qb, .ref qf, .long lt, .long ls0, .long lv0])), (qb, .inr (0, [.ref qw, .int (nI L.length)])), (qw, .inl (cJ, 6250, .inr (.inl w))), (qf, .inr (1, [.int (nI z), .int (nI n)]))]) (av := [.long (lN ax)]) (va_runS (As := [.long (lN ax)]) (rest := []) ⟨hx, hb, hml, hown, hw⟩ (cc_J_numberOfLeadingZeros l D cJ cB ax mm _ hax hm1 hm2) (va_cwS 1 hw (tb_S wi_321 wi_322 wi_34 wi_323) rfl rfl rfl (by decide +kernel) ⟨Nat.le_of_ble_eq_true rfl, Nat.le_of_ble_eq_true rfl⟩) ⟨ct_blind, ct_pc hZ hK hP hD hS hA [] rfl (by decide)⟩ rfl rfl hl.1 rfl (lv_room (Nat.le_of_ble_eq_true rfl)) dd_W_writeDifference_17 ⟨Nat.le_of_ble_eq_true rfl, Nat.le_of_ble_eq_true rfl⟩) hK hP hD hS hA [] [0, 1, 2, 3] rfl rfl (by decide) (by decide) (fun r_17 u_17 H locs hw_17 hP hD hS => ?_)
    subst hw_17
    have hP : va_P D classes [(q, .inr (4, [.ref qb, .ref qf, .long lt, .long ls0, .long lv0])), (qb, .inr (0, [.ref qw, .int (nI L.length)])), (qw, .inl (cJ, 6250, .inr (.inl w))), (qf, .inr (1, [.int (nI z), .int (nI n)]))] H := hP
    have hD : va_D A [(q, .inr (4, [.ref qb, .ref qf, .long lt, .long ls0, .long lv0])), (qb, .inr (0, [.ref qw, .int (nI L.length)])), (qw, .inl (cJ, 6250, .inr (.inl w))), (qf, .inr (1, [.int (nI z), .int (nI n)]))] := hD
    refine lv_bipush (v := nI 31) hx hb dd_W_writeDifference_20 (by decide) ?_
    refine va_mmin hx hb (hml.trans hl.1.symm) hown (hw _ wi_328) (hw _ wi_329) (hw _ wi_36) (hw _ wi_330) (Nat.le_of_ble_eq_true rfl) (Nat.le_of_ble_eq_true rfl) (Nat.le_of_ble_eq_true rfl) (Nat.le_of_ble_eq_true rfl) dd_W_writeDifference_22 ?_
    refine ct_topi (y := nI a0) ((cz_min (by omega) (by decide)).trans (congrArg nI (by omega))) ?_
    refine lv_istore_n (lv' := [(3, .int (nI a0)), (0, .ref q), (1, .long x)]) hx hb dd_W_writeDifference_25 rfl hl (by decide) rfl (fun ls hl => ?_)
    refine lv_lload_n hx hb dd_W_writeDifference_26 rfl (lv_at hl 2 rfl) ?_
    refine ct_topl (y := lN ax) hxa ?_
    refine ct_behind_i (wc := []) (wr := [(q, .inr (4, [.ref qb, .ref qf, .long lt, .long ls0, .long lv0])), (qb, .inr (0, [.ref qw, .int (nI L.length)])), (qw, .inl (cJ, 6250, .inr (.inl w))), (qf, .inr (1, [.int (nI z), .int (nI n)]))]) (av := [.long (lN ax)]) (va_runS (As := [.long (lN ax)]) (rest := []) ⟨hx, hb, hml, hown, hw⟩ (cc_J_numberOfTrailingZeros l D cJ cB ax tt bb _ hax htt hdec) (va_cwS 1 hw (tb_S wi_331 wi_332 wi_34 wi_333) rfl rfl rfl (by decide +kernel) ⟨Nat.le_of_ble_eq_true rfl, Nat.le_of_ble_eq_true rfl⟩) ⟨ct_blind, ct_pc hZ hK hP hD hS hA [] rfl (by decide)⟩ rfl rfl hl.1 rfl (lv_room (Nat.le_of_ble_eq_true rfl)) dd_W_writeDifference_27 ⟨Nat.le_of_ble_eq_true rfl, Nat.le_of_ble_eq_true rfl⟩) hK hP hD hS hA [] [0, 1, 2, 3] rfl rfl (by decide) (by decide) (fun r_27 u_27 H locs hw_27 hP hD hS => ?_)
    subst hw_27
    refine ct_topi (y := nI b0) (congrArg nI (by omega)) ?_
    have hP : va_P D classes [(q, .inr (4, [.ref qb, .ref qf, .long lt, .long ls0, .long lv0])), (qb, .inr (0, [.ref qw, .int (nI L.length)])), (qw, .inl (cJ, 6250, .inr (.inl w))), (qf, .inr (1, [.int (nI z), .int (nI n)]))] H := hP
    have hD : va_D A [(q, .inr (4, [.ref qb, .ref qf, .long lt, .long ls0, .long lv0])), (qb, .inr (0, [.ref qw, .int (nI L.length)])), (qw, .inl (cJ, 6250, .inr (.inl w))), (qf, .inr (1, [.int (nI z), .int (nI n)]))] := hD
    refine lv_istore (lv' := [(4, .int (nI b0)), (3, .int (nI a0)), (0, .ref q), (1, .long x)]) hx hb dd_W_writeDifference_30 hl (by decide) rfl (fun ls hl => ?_)
    refine lv_aload_n hx hb dd_W_writeDifference_32 rfl (lv_at hl 2 rfl) ?_
    refine va_get (D := D) (ci := 4) (C := cn_W) (T := cf_W) (N := 5) hx hb hw in_W hown hK hP 0 rfl rfl 1 (by decide) (hw _ wi_247) (fun _ h9 => h9) rfl dd_W_writeDifference_33 ?_
    refine lv_iload_n hx hb dd_W_writeDifference_36 rfl (lv_at hl 1 rfl) ?_
    refine lv_iload hx hb dd_W_writeDifference_37 (lv_at hl 0 rfl) ?_
    refine ct_behind_i (wc := [(qf, .inr (1, [.int (nI z), .int (nI n)]))]) (wr := [(q, .inr (4, [.ref qb, .ref qf, .long lt, .long ls0, .long lv0])), (qb, .inr (0, [.ref qw, .int (nI L.length)])), (qw, .inl (cJ, 6250, .inr (.inl w)))]) (av := [.ref qf, .int (nI a0), .int (nI b0)]) (va_runV (As := [.int (nI a0), .int (nI b0)]) (rest := []) ⟨hx, hb, hml, hown, hw⟩ (cc_F_holds l D cJ cB qf z n a0 b0 _ hzn (by omega) (by omega)) (cwV 2 hw (tb_V wi_337 wi_338 wi_339 wi_32 wi_340) rfl rfl rfl (by decide +kernel) ⟨Nat.le_of_ble_eq_true rfl, Nat.le_of_ble_eq_true rfl⟩) ⟨ct_blind, ct_recv hK hP (q0 := 3) (ci := 1) rfl rfl, ct_pc hZ hK hP hD hS hA [3] rfl (by decide)⟩ rfl rfl hl.1 rfl (lv_room (Nat.le_of_ble_eq_true rfl)) dd_W_writeDifference_39 ⟨Nat.le_of_ble_eq_true rfl, Nat.le_of_ble_eq_true rfl⟩) hK hP hD hS hA [3] [0, 1, 2] rfl rfl (by decide) (by decide) (fun r_39 u_39 H locs hw_39 hP hD hS => ?_)
    subst hw_39
    have hP : va_P D classes [(q, .inr (4, [.ref qb, .ref qf, .long lt, .long ls0, .long lv0])), (qb, .inr (0, [.ref qw, .int (nI L.length)])), (qw, .inl (cJ, 6250, .inr (.inl w))), (qf, .inr (1, [.int (nI z), .int (nI n)]))] H := hP
    have hD : va_D A [(q, .inr (4, [.ref qb, .ref qf, .long lt, .long ls0, .long lv0])), (qb, .inr (0, [.ref qw, .int (nI L.length)])), (qw, .inl (cJ, 6250, .inr (.inl w))), (qf, .inr (1, [.int (nI z), .int (nI n)]))] := hD
    refine lv_if_eq (tgt := 59) hx hb dd_W_writeDifference_42 (by decide) (fun c_42 => ?_) (fun c_42 => ?_)
    · skip
      have c_42 : ¬ (0 < n ∧ z ≤ a0 ∧ 64 - z - n ≤ b0) := bI_z.mp c_42
      refine lv_aload_n hx hb dd_W_writeDifference_59 rfl (lv_at hl 2 rfl) ?_
      refine lv_iload_n hx hb dd_W_writeDifference_60 rfl (lv_at hl 1 rfl) ?_
      refine lv_bipush (v := nI 64) hx hb dd_W_writeDifference_61 (by decide) ?_
      refine lv_iload_n hx hb dd_W_writeDifference_63 rfl (lv_at hl 1 rfl) ?_
      refine lv_isub hx hb dd_W_writeDifference_64 ?_
      refine ct_topi (y := nI (64 - a0)) (pk_sub (by omega)) ?_
      refine lv_iload hx hb dd_W_writeDifference_65 (lv_at hl 0 rfl) ?_
      refine lv_isub hx hb dd_W_writeDifference_67 ?_
      refine ct_topi (y := nI (64 - a0 - b0)) (pk_sub (by omega)) ?_
      refine ct_behind_i (wc := [(q, .inr (4, [.ref qb, .ref qf, .long lt, .long ls0, .long lv0])), (qb, .inr (0, [.ref qw, .int (nI L.length)])), (qw, .inl (cJ, 6250, .inr (.inl w))), (qf, .inr (1, [.int (nI z), .int (nI n)]))]) (wr := []) (av := [.ref q, .int (nI a0), .int (nI (64 - a0 - b0))]) (va_runV (As := [.int (nI a0), .int (nI (64 - a0 - b0))]) (rest := []) ⟨hx, hb, hml, hown, hw⟩ (cc_W_writeFrame l D cJ cB q qb qw qf lt ls0 lv0 w L z n a0 (64 - a0 - b0) _ (by omega) hR (by omega) (by omega) (by omega)) (cwV 2 hw (tb_V wi_350 wi_352 wi_6 wi_31 wi_353) rfl rfl rfl (by decide +kernel) ⟨Nat.le_of_ble_eq_true rfl, Nat.le_of_ble_eq_true rfl⟩) ⟨ct_blind, ct_recv hK hP (q0 := 0) (ci := 4) rfl rfl, ct_pc hZ hK hP hD hS hA [0, 1, 2, 3] rfl (by decide)⟩ rfl rfl hl.1 rfl (lv_room (Nat.le_of_ble_eq_true rfl)) dd_W_writeDifference_68 ⟨Nat.le_of_ble_eq_true rfl, Nat.le_of_ble_eq_true rfl⟩) hK hP hD hS hA [0, 1, 2, 3] [] rfl rfl (by decide) (by decide) (fun r_68 u_68 H locs hw_68 hP hD hS => ?_)
      obtain ⟨hr_68, hR_w1⟩ := hw_68
      subst hr_68
      obtain ⟨w1, h9⟩ : ∃ z, z = u_68 := ⟨_, rfl⟩
      rw [← h9] at hP hD hR_w1
      clear h9
      have hP : va_P D classes [(q, .inr (4, [.ref qb, .ref qf, .long lt, .long ls0, .long lv0])), (qb, .inr (0, [.ref qw, .int (nI ((((L ++ cp_bl 3 2) ++ cp_bl (lN a0) 5) ++ cp_bl (lN (64 - a0 - b0 - 1)) 6).length))])), (qw, .inl (cJ, 6250, .inr (.inl w1))), (qf, .inr (1, [.int (nI a0), .int (nI (64 - a0 - b0))]))] H := hP
      have hD : va_D A [(q, .inr (4, [.ref qb, .ref qf, .long lt, .long ls0, .long lv0])), (qb, .inr (0, [.ref qw, .int (nI ((((L ++ cp_bl 3 2) ++ cp_bl (lN a0) 5) ++ cp_bl (lN (64 - a0 - b0 - 1)) 6).length))])), (qw, .inl (cJ, 6250, .inr (.inl w1))), (qf, .inr (1, [.int (nI a0), .int (nI (64 - a0 - b0))]))] := hD
      refine lv_istore (lv' := [(5, .int (nI 1)), (4, .int (nI b0)), (3, .int (nI a0)), (0, .ref q), (1, .long x)]) hx hb dd_W_writeDifference_71 hl (by decide) rfl (fun ls hl => ?_)
      refine lv_iload hx hb dd_W_writeDifference_73 (lv_at hl 0 rfl) ?_
      refine lv_if_eq (tgt := 108) hx hb dd_W_writeDifference_75 (by decide) (fun c_75 => ?_) (fun c_75 => ?_)
      · skip
        have c_75 : 1 = 0 := (ct_zeq (by omega)).mp c_75
        exfalso
        omega
      have c_75 : ¬ (1 = 0) := fun z => c_75 ((ct_zeq (by omega)).mpr z)
      refine lv_aload_n hx hb dd_W_writeDifference_78 rfl (lv_at hl 3 rfl) ?_
      refine va_get (D := D) (ci := 4) (C := cn_W) (T := cf_W) (N := 5) hx hb hw in_W hown hK hP 0 rfl rfl 0 (by decide) (hw _ wi_246) (fun _ h9 => h9) rfl dd_W_writeDifference_79 ?_
      refine lv_lload_n hx hb dd_W_writeDifference_82 rfl (lv_at hl 4 rfl) ?_
      refine lv_aload_n hx hb dd_W_writeDifference_83 rfl (lv_at hl 3 rfl) ?_
      refine va_get (D := D) (ci := 4) (C := cn_W) (T := cf_W) (N := 5) hx hb hw in_W hown hK hP 0 rfl rfl 1 (by decide) (hw _ wi_247) (fun _ h9 => h9) rfl dd_W_writeDifference_84 ?_
      refine ct_behind_i (wc := [(qf, .inr (1, [.int (nI a0), .int (nI (64 - a0 - b0))]))]) (wr := [(q, .inr (4, [.ref qb, .ref qf, .long lt, .long ls0, .long lv0])), (qb, .inr (0, [.ref qw, .int (nI ((((L ++ cp_bl 3 2) ++ cp_bl (lN a0) 5) ++ cp_bl (lN (64 - a0 - b0 - 1)) 6).length))])), (qw, .inl (cJ, 6250, .inr (.inl w1)))]) (av := [.ref qf]) (va_runV (As := []) (rest := [.long x, .ref qb]) ⟨hx, hb, hml, hown, hw⟩ (cc_F_below l D cJ cB qf a0 (64 - a0 - b0) _ (by omega)) (cwV 0 hw (tb_V wi_359 wi_346 wi_347 wi_32 wi_348) rfl rfl rfl (by decide +kernel) ⟨Nat.le_of_ble_eq_true rfl, Nat.le_of_ble_eq_true rfl⟩) ⟨ct_blind, ct_recv hK hP (q0 := 3) (ci := 1) rfl rfl, ct_pc hZ hK hP hD hS hA [3] rfl (by decide)⟩ rfl rfl hl.1 rfl (lv_room (Nat.le_of_ble_eq_true rfl)) dd_W_writeDifference_87 ⟨Nat.le_of_ble_eq_true rfl, Nat.le_of_ble_eq_true rfl⟩) hK hP hD hS hA [3] [0, 1, 2] rfl rfl (by decide) (by decide) (fun r_87 u_87 H locs hw_87 hP hD hS => ?_)
      subst hw_87
      refine ct_topi (y := nI b0) (congrArg nI (by omega)) ?_
      have hP : va_P D classes [(q, .inr (4, [.ref qb, .ref qf, .long lt, .long ls0, .long lv0])), (qb, .inr (0, [.ref qw, .int (nI ((((L ++ cp_bl 3 2) ++ cp_bl (lN a0) 5) ++ cp_bl (lN (64 - a0 - b0 - 1)) 6).length))])), (qw, .inl (cJ, 6250, .inr (.inl w1))), (qf, .inr (1, [.int (nI a0), .int (nI (64 - a0 - b0))]))] H := hP
      have hD : va_D A [(q, .inr (4, [.ref qb, .ref qf, .long lt, .long ls0, .long lv0])), (qb, .inr (0, [.ref qw, .int (nI ((((L ++ cp_bl 3 2) ++ cp_bl (lN a0) 5) ++ cp_bl (lN (64 - a0 - b0 - 1)) 6).length))])), (qw, .inl (cJ, 6250, .inr (.inl w1))), (qf, .inr (1, [.int (nI a0), .int (nI (64 - a0 - b0))]))] := hD
      refine lv_lushr (v := (x.toUInt64 >>> ((nI b0).toInt64.toUInt64 &&& Int64.toUInt64 63)).toInt64) hx hb dd_W_writeDifference_90 rfl ?_
      refine ct_topl (y := cp_sr x b0) (rfl) ?_
      refine lv_aload_n hx hb dd_W_writeDifference_91 rfl (lv_at hl 3 rfl) ?_
      refine va_get (D := D) (ci := 4) (C := cn_W) (T := cf_W) (N := 5) hx hb hw in_W hown hK hP 0 rfl rfl 1 (by decide) (hw _ wi_247) (fun _ h9 => h9) rfl dd_W_writeDifference_92 ?_
      refine ct_behind_i (wc := [(qf, .inr (1, [.int (nI a0), .int (nI (64 - a0 - b0))]))]) (wr := [(q, .inr (4, [.ref qb, .ref qf, .long lt, .long ls0, .long lv0])), (qb, .inr (0, [.ref qw, .int (nI ((((L ++ cp_bl 3 2) ++ cp_bl (lN a0) 5) ++ cp_bl (lN (64 - a0 - b0 - 1)) 6).length))])), (qw, .inl (cJ, 6250, .inr (.inl w1)))]) (av := [.ref qf]) (va_runV (As := []) (rest := [.long (cp_sr x b0), .ref qb]) ⟨hx, hb, hml, hown, hw⟩ (cc_F_width l D cJ cB qf a0 (64 - a0 - b0) _ (by omega)) (cwV 0 hw (tb_V wi_360 wi_361 wi_362 wi_32 wi_363) rfl rfl rfl (by decide +kernel) ⟨Nat.le_of_ble_eq_true rfl, Nat.le_of_ble_eq_true rfl⟩) ⟨ct_blind, ct_recv hK hP (q0 := 3) (ci := 1) rfl rfl, ct_pc hZ hK hP hD hS hA [3] rfl (by decide)⟩ rfl rfl hl.1 rfl (lv_room (Nat.le_of_ble_eq_true rfl)) dd_W_writeDifference_95 ⟨Nat.le_of_ble_eq_true rfl, Nat.le_of_ble_eq_true rfl⟩) hK hP hD hS hA [3] [0, 1, 2] rfl rfl (by decide) (by decide) (fun r_95 u_95 H locs hw_95 hP hD hS => ?_)
      subst hw_95
      have hP : va_P D classes [(q, .inr (4, [.ref qb, .ref qf, .long lt, .long ls0, .long lv0])), (qb, .inr (0, [.ref qw, .int (nI ((((L ++ cp_bl 3 2) ++ cp_bl (lN a0) 5) ++ cp_bl (lN (64 - a0 - b0 - 1)) 6).length))])), (qw, .inl (cJ, 6250, .inr (.inl w1))), (qf, .inr (1, [.int (nI a0), .int (nI (64 - a0 - b0))]))] H := hP
      have hD : va_D A [(q, .inr (4, [.ref qb, .ref qf, .long lt, .long ls0, .long lv0])), (qb, .inr (0, [.ref qw, .int (nI ((((L ++ cp_bl 3 2) ++ cp_bl (lN a0) 5) ++ cp_bl (lN (64 - a0 - b0 - 1)) 6).length))])), (qw, .inl (cJ, 6250, .inr (.inl w1))), (qf, .inr (1, [.int (nI a0), .int (nI (64 - a0 - b0))]))] := hD
      refine ct_behind_i (wc := [(qb, .inr (0, [.ref qw, .int (nI ((((L ++ cp_bl 3 2) ++ cp_bl (lN a0) 5) ++ cp_bl (lN (64 - a0 - b0 - 1)) 6).length))])), (qw, .inl (cJ, 6250, .inr (.inl w1)))]) (wr := [(q, .inr (4, [.ref qb, .ref qf, .long lt, .long ls0, .long lv0])), (qf, .inr (1, [.int (nI a0), .int (nI (64 - a0 - b0))]))]) (av := [.ref qb, .long (cp_sr x b0), .int (nI (64 - a0 - b0))]) (va_runV (As := [.long (cp_sr x b0), .int (nI (64 - a0 - b0))]) (rest := []) ⟨hx, hb, hml, hown, hw⟩ (cs_B_append l D cJ cB qb qw w1 (((L ++ cp_bl 3 2) ++ cp_bl (lN a0) 5) ++ cp_bl (lN (64 - a0 - b0 - 1)) 6) (cp_sr x b0) (64 - a0 - b0) _ (by simp only [List.length_append, cp_bl_len]; omega) hR_w1 (by omega) (cp_sr_fit (by omega) (by omega))) (cwV 2 hw (tb_V wi_295 wi_296 wi_297 wi_24 wi_298) rfl rfl rfl (by decide +kernel) ⟨Nat.le_of_ble_eq_true rfl, Nat.le_of_ble_eq_true rfl⟩) ⟨ct_blind, ct_recv hK hP (q0 := 1) (ci := 0) rfl rfl, ct_pc hZ hK hP hD hS hA [1, 2] rfl (by decide)⟩ rfl rfl hl.1 rfl (lv_room (Nat.le_of_ble_eq_true rfl)) dd_W_writeDifference_98 ⟨Nat.le_of_ble_eq_true rfl, Nat.le_of_ble_eq_true rfl⟩) hK hP hD hS hA [1, 2] [0, 3] rfl rfl (by decide) (by decide) (fun r_98 u_98 H locs hw_98 hP hD hS => ?_)
      obtain ⟨hr_98, hR_w2⟩ := hw_98
      subst hr_98
      obtain ⟨w2, h9_98⟩ : ∃ z, z = u_98 := ⟨_, rfl⟩
      rw [← h9_98] at hP hD hR_w2
      clear h9_98
      have hP : va_P D classes [(q, .inr (4, [.ref qb, .ref qf, .long lt, .long ls0, .long lv0])), (qf, .inr (1, [.int (nI a0), .int (nI (64 - a0 - b0))])), (qb, .inr (0, [.ref qw, .int (nI (((((L ++ cp_bl 3 2) ++ cp_bl (lN a0) 5) ++ cp_bl (lN (64 - a0 - b0 - 1)) 6) ++ cp_bl (cp_sr x b0) (64 - a0 - b0)).length))])), (qw, .inl (cJ, 6250, .inr (.inl w2)))] H := hP
      have hD : va_D A [(q, .inr (4, [.ref qb, .ref qf, .long lt, .long ls0, .long lv0])), (qf, .inr (1, [.int (nI a0), .int (nI (64 - a0 - b0))])), (qb, .inr (0, [.ref qw, .int (nI (((((L ++ cp_bl 3 2) ++ cp_bl (lN a0) 5) ++ cp_bl (lN (64 - a0 - b0 - 1)) 6) ++ cp_bl (cp_sr x b0) (64 - a0 - b0)).length))])), (qw, .inl (cJ, 6250, .inr (.inl w2)))] := hD
      refine lv_if_eq (tgt := 108) hx hb dd_W_writeDifference_101 (by decide) (fun c_101 => ?_) (fun c_101 => ?_)
      · skip
        have c_101 : 1 = 0 := (ct_zeq (by omega)).mp c_101
        exfalso
        omega
      have c_101 : ¬ (1 = 0) := fun z => c_101 ((ct_zeq (by omega)).mpr z)
      refine lv_iconst (v := nI 1) hx hb dd_W_writeDifference_104 (by decide) ?_
      refine lv_goto (tgt := 109) hx hb dd_W_writeDifference_105 (by decide) ?_
      have e_wv : cp_wv z n x = (((cp_bl 3 2 ++ cp_bl (lN a0) 5) ++ cp_bl (lN (64 - a0 - b0 - 1)) 6) ++ cp_bl (cp_sr x b0) (64 - a0 - b0), a0, 64 - a0 - b0) := by unfold cp_wv; rw [if_neg c_3, ← ha0, ← hb0, if_neg c_42]
      rw [show ((((L ++ cp_bl 3 2) ++ cp_bl (lN a0) 5) ++ cp_bl (lN (64 - a0 - b0 - 1)) 6) ++ cp_bl (cp_sr x b0) (64 - a0 - b0)) = L ++ (cp_wv z n x).1 by rw [e_wv]; simp only [List.append_assoc]] at hP hD hR_w2
      refine ct_zret (u := w2) (ws := [(q, .inr (4, [.ref qb, .ref qf, .long lt, .long ls0, .long lv0])), (qb, .inr (0, [.ref qw, .int (nI ((L ++ (cp_wv z n x).1).length))])), (qw, .inl (cJ, 6250, .inr (.inl w2))), (qf, .inr (1, [.int (nI a0), .int (nI (64 - a0 - b0))]))]) hx hb hr hlocks (by decide) hK (hP.sub [0, 2, 3, 1] rfl) (hD.sub [0, 2, 3, 1] (by decide) rfl) hS (by simp only [e_wv]) ?_ dd_W_writeDifference_109
      exact ⟨rfl, hR_w2⟩
    have c_42 : 0 < n ∧ z ≤ a0 ∧ 64 - z - n ≤ b0 := bI_n.mp c_42
    refine lv_aload_n hx hb dd_W_writeDifference_45 rfl (lv_at hl 2 rfl) ?_
    refine va_get (D := D) (ci := 4) (C := cn_W) (T := cf_W) (N := 5) hx hb hw in_W hown hK hP 0 rfl rfl 0 (by decide) (hw _ wi_246) (fun _ h9 => h9) rfl dd_W_writeDifference_46 ?_
    refine lv_ldc2 (v := 2) hx hb hown (hw _ wi_349) dd_W_writeDifference_49 ?_
    refine lv_iconst (v := nI 2) hx hb dd_W_writeDifference_52 (by decide) ?_
    refine ct_behind_i (wc := [(qb, .inr (0, [.ref qw, .int (nI L.length)])), (qw, .inl (cJ, 6250, .inr (.inl w)))]) (wr := [(q, .inr (4, [.ref qb, .ref qf, .long lt, .long ls0, .long lv0])), (qf, .inr (1, [.int (nI z), .int (nI n)]))]) (av := [.ref qb, .long 2, .int (nI 2)]) (va_runV (As := [.long 2, .int (nI 2)]) (rest := []) ⟨hx, hb, hml, hown, hw⟩ (cs_B_append l D cJ cB qb qw w L 2 2 _ (by omega) hR (by omega) (cp_fit_2)) (cwV 2 hw (tb_V wi_295 wi_296 wi_297 wi_24 wi_298) rfl rfl rfl (by decide +kernel) ⟨Nat.le_of_ble_eq_true rfl, Nat.le_of_ble_eq_true rfl⟩) ⟨ct_blind, ct_recv hK hP (q0 := 1) (ci := 0) rfl rfl, ct_pc hZ hK hP hD hS hA [1, 2] rfl (by decide)⟩ rfl rfl hl.1 rfl (lv_room (Nat.le_of_ble_eq_true rfl)) dd_W_writeDifference_53 ⟨Nat.le_of_ble_eq_true rfl, Nat.le_of_ble_eq_true rfl⟩) hK hP hD hS hA [1, 2] [0, 3] rfl rfl (by decide) (by decide) (fun r_53 u_53 H locs hw_53 hP hD hS => ?_)
    obtain ⟨hr_53, hR_w1⟩ := hw_53
    subst hr_53
    obtain ⟨w1, h9_53⟩ : ∃ z, z = u_53 := ⟨_, rfl⟩
    rw [← h9_53] at hP hD hR_w1
    clear h9_53
    have hP : va_P D classes [(q, .inr (4, [.ref qb, .ref qf, .long lt, .long ls0, .long lv0])), (qf, .inr (1, [.int (nI z), .int (nI n)])), (qb, .inr (0, [.ref qw, .int (nI ((L ++ cp_bl 2 2).length))])), (qw, .inl (cJ, 6250, .inr (.inl w1)))] H := hP
    have hD : va_D A [(q, .inr (4, [.ref qb, .ref qf, .long lt, .long ls0, .long lv0])), (qf, .inr (1, [.int (nI z), .int (nI n)])), (qb, .inr (0, [.ref qw, .int (nI ((L ++ cp_bl 2 2).length))])), (qw, .inl (cJ, 6250, .inr (.inl w1)))] := hD
    refine lv_goto (tgt := 71) hx hb dd_W_writeDifference_56 (by decide) ?_
    refine lv_istore (lv' := [(5, .int (nI 1)), (4, .int (nI b0)), (3, .int (nI a0)), (0, .ref q), (1, .long x)]) hx hb dd_W_writeDifference_71 hl (by decide) rfl (fun ls hl => ?_)
    refine lv_iload hx hb dd_W_writeDifference_73 (lv_at hl 0 rfl) ?_
    refine lv_if_eq (tgt := 108) hx hb dd_W_writeDifference_75 (by decide) (fun c_75 => ?_) (fun c_75 => ?_)
    · skip
      have c_75 : 1 = 0 := (ct_zeq (by omega)).mp c_75
      exfalso
      omega
    have c_75 : ¬ (1 = 0) := fun z => c_75 ((ct_zeq (by omega)).mpr z)
    refine lv_aload_n hx hb dd_W_writeDifference_78 rfl (lv_at hl 3 rfl) ?_
    refine va_get (D := D) (ci := 4) (C := cn_W) (T := cf_W) (N := 5) hx hb hw in_W hown hK hP 0 rfl rfl 0 (by decide) (hw _ wi_246) (fun _ h9 => h9) rfl dd_W_writeDifference_79 ?_
    refine lv_lload_n hx hb dd_W_writeDifference_82 rfl (lv_at hl 4 rfl) ?_
    refine lv_aload_n hx hb dd_W_writeDifference_83 rfl (lv_at hl 3 rfl) ?_
    refine va_get (D := D) (ci := 4) (C := cn_W) (T := cf_W) (N := 5) hx hb hw in_W hown hK hP 0 rfl rfl 1 (by decide) (hw _ wi_247) (fun _ h9 => h9) rfl dd_W_writeDifference_84 ?_
    refine ct_behind_i (wc := [(qf, .inr (1, [.int (nI z), .int (nI n)]))]) (wr := [(q, .inr (4, [.ref qb, .ref qf, .long lt, .long ls0, .long lv0])), (qb, .inr (0, [.ref qw, .int (nI ((L ++ cp_bl 2 2).length))])), (qw, .inl (cJ, 6250, .inr (.inl w1)))]) (av := [.ref qf]) (va_runV (As := []) (rest := [.long x, .ref qb]) ⟨hx, hb, hml, hown, hw⟩ (cc_F_below l D cJ cB qf z n _ hzn) (cwV 0 hw (tb_V wi_359 wi_346 wi_347 wi_32 wi_348) rfl rfl rfl (by decide +kernel) ⟨Nat.le_of_ble_eq_true rfl, Nat.le_of_ble_eq_true rfl⟩) ⟨ct_blind, ct_recv hK hP (q0 := 1) (ci := 1) rfl rfl, ct_pc hZ hK hP hD hS hA [1] rfl (by decide)⟩ rfl rfl hl.1 rfl (lv_room (Nat.le_of_ble_eq_true rfl)) dd_W_writeDifference_87 ⟨Nat.le_of_ble_eq_true rfl, Nat.le_of_ble_eq_true rfl⟩) hK hP hD hS hA [1] [0, 2, 3] rfl rfl (by decide) (by decide) (fun r_87 u_87 H locs hw_87 hP hD hS => ?_)
    subst hw_87
    have hP : va_P D classes [(q, .inr (4, [.ref qb, .ref qf, .long lt, .long ls0, .long lv0])), (qb, .inr (0, [.ref qw, .int (nI ((L ++ cp_bl 2 2).length))])), (qw, .inl (cJ, 6250, .inr (.inl w1))), (qf, .inr (1, [.int (nI z), .int (nI n)]))] H := hP
    have hD : va_D A [(q, .inr (4, [.ref qb, .ref qf, .long lt, .long ls0, .long lv0])), (qb, .inr (0, [.ref qw, .int (nI ((L ++ cp_bl 2 2).length))])), (qw, .inl (cJ, 6250, .inr (.inl w1))), (qf, .inr (1, [.int (nI z), .int (nI n)]))] := hD
    refine lv_lushr (v := (x.toUInt64 >>> ((nI (64 - z - n)).toInt64.toUInt64 &&& Int64.toUInt64 63)).toInt64) hx hb dd_W_writeDifference_90 rfl ?_
    refine ct_topl (y := cp_sr x (64 - z - n)) (rfl) ?_
    refine lv_aload_n hx hb dd_W_writeDifference_91 rfl (lv_at hl 3 rfl) ?_
    refine va_get (D := D) (ci := 4) (C := cn_W) (T := cf_W) (N := 5) hx hb hw in_W hown hK hP 0 rfl rfl 1 (by decide) (hw _ wi_247) (fun _ h9 => h9) rfl dd_W_writeDifference_92 ?_
    refine ct_behind_i (wc := [(qf, .inr (1, [.int (nI z), .int (nI n)]))]) (wr := [(q, .inr (4, [.ref qb, .ref qf, .long lt, .long ls0, .long lv0])), (qb, .inr (0, [.ref qw, .int (nI ((L ++ cp_bl 2 2).length))])), (qw, .inl (cJ, 6250, .inr (.inl w1)))]) (av := [.ref qf]) (va_runV (As := []) (rest := [.long (cp_sr x (64 - z - n)), .ref qb]) ⟨hx, hb, hml, hown, hw⟩ (cc_F_width l D cJ cB qf z n _ hzn) (cwV 0 hw (tb_V wi_360 wi_361 wi_362 wi_32 wi_363) rfl rfl rfl (by decide +kernel) ⟨Nat.le_of_ble_eq_true rfl, Nat.le_of_ble_eq_true rfl⟩) ⟨ct_blind, ct_recv hK hP (q0 := 3) (ci := 1) rfl rfl, ct_pc hZ hK hP hD hS hA [3] rfl (by decide)⟩ rfl rfl hl.1 rfl (lv_room (Nat.le_of_ble_eq_true rfl)) dd_W_writeDifference_95 ⟨Nat.le_of_ble_eq_true rfl, Nat.le_of_ble_eq_true rfl⟩) hK hP hD hS hA [3] [0, 1, 2] rfl rfl (by decide) (by decide) (fun r_95 u_95 H locs hw_95 hP hD hS => ?_)
    subst hw_95
    have hP : va_P D classes [(q, .inr (4, [.ref qb, .ref qf, .long lt, .long ls0, .long lv0])), (qb, .inr (0, [.ref qw, .int (nI ((L ++ cp_bl 2 2).length))])), (qw, .inl (cJ, 6250, .inr (.inl w1))), (qf, .inr (1, [.int (nI z), .int (nI n)]))] H := hP
    have hD : va_D A [(q, .inr (4, [.ref qb, .ref qf, .long lt, .long ls0, .long lv0])), (qb, .inr (0, [.ref qw, .int (nI ((L ++ cp_bl 2 2).length))])), (qw, .inl (cJ, 6250, .inr (.inl w1))), (qf, .inr (1, [.int (nI z), .int (nI n)]))] := hD
    refine ct_behind_i (wc := [(qb, .inr (0, [.ref qw, .int (nI ((L ++ cp_bl 2 2).length))])), (qw, .inl (cJ, 6250, .inr (.inl w1)))]) (wr := [(q, .inr (4, [.ref qb, .ref qf, .long lt, .long ls0, .long lv0])), (qf, .inr (1, [.int (nI z), .int (nI n)]))]) (av := [.ref qb, .long (cp_sr x (64 - z - n)), .int (nI n)]) (va_runV (As := [.long (cp_sr x (64 - z - n)), .int (nI n)]) (rest := []) ⟨hx, hb, hml, hown, hw⟩ (cs_B_append l D cJ cB qb qw w1 (L ++ cp_bl 2 2) (cp_sr x (64 - z - n)) n _ (by simp only [List.length_append, cp_bl_len]; omega) hR_w1 (by omega) (cp_sr_fit (by omega) (by omega))) (cwV 2 hw (tb_V wi_295 wi_296 wi_297 wi_24 wi_298) rfl rfl rfl (by decide +kernel) ⟨Nat.le_of_ble_eq_true rfl, Nat.le_of_ble_eq_true rfl⟩) ⟨ct_blind, ct_recv hK hP (q0 := 1) (ci := 0) rfl rfl, ct_pc hZ hK hP hD hS hA [1, 2] rfl (by decide)⟩ rfl rfl hl.1 rfl (lv_room (Nat.le_of_ble_eq_true rfl)) dd_W_writeDifference_98 ⟨Nat.le_of_ble_eq_true rfl, Nat.le_of_ble_eq_true rfl⟩) hK hP hD hS hA [1, 2] [0, 3] rfl rfl (by decide) (by decide) (fun r_98 u_98 H locs hw_98 hP hD hS => ?_)
    obtain ⟨hr_98, hR_w2⟩ := hw_98
    subst hr_98
    obtain ⟨w2, h9_98⟩ : ∃ z, z = u_98 := ⟨_, rfl⟩
    rw [← h9_98] at hP hD hR_w2
    clear h9_98
    have hP : va_P D classes [(q, .inr (4, [.ref qb, .ref qf, .long lt, .long ls0, .long lv0])), (qf, .inr (1, [.int (nI z), .int (nI n)])), (qb, .inr (0, [.ref qw, .int (nI (((L ++ cp_bl 2 2) ++ cp_bl (cp_sr x (64 - z - n)) n).length))])), (qw, .inl (cJ, 6250, .inr (.inl w2)))] H := hP
    have hD : va_D A [(q, .inr (4, [.ref qb, .ref qf, .long lt, .long ls0, .long lv0])), (qf, .inr (1, [.int (nI z), .int (nI n)])), (qb, .inr (0, [.ref qw, .int (nI (((L ++ cp_bl 2 2) ++ cp_bl (cp_sr x (64 - z - n)) n).length))])), (qw, .inl (cJ, 6250, .inr (.inl w2)))] := hD
    refine lv_if_eq (tgt := 108) hx hb dd_W_writeDifference_101 (by decide) (fun c_101 => ?_) (fun c_101 => ?_)
    · skip
      have c_101 : 1 = 0 := (ct_zeq (by omega)).mp c_101
      exfalso
      omega
    have c_101 : ¬ (1 = 0) := fun z => c_101 ((ct_zeq (by omega)).mpr z)
    refine lv_iconst (v := nI 1) hx hb dd_W_writeDifference_104 (by decide) ?_
    refine lv_goto (tgt := 109) hx hb dd_W_writeDifference_105 (by decide) ?_
    have e_wv : cp_wv z n x = (cp_bl 2 2 ++ cp_bl (cp_sr x (64 - z - n)) n, z, n) := by unfold cp_wv; rw [if_neg c_3, ← ha0, ← hb0, if_pos c_42]
    rw [show ((L ++ cp_bl 2 2) ++ cp_bl (cp_sr x (64 - z - n)) n) = L ++ (cp_wv z n x).1 by rw [e_wv]; simp only [List.append_assoc]] at hP hD hR_w2
    refine ct_zret (u := w2) (ws := [(q, .inr (4, [.ref qb, .ref qf, .long lt, .long ls0, .long lv0])), (qb, .inr (0, [.ref qw, .int (nI ((L ++ (cp_wv z n x).1).length))])), (qw, .inl (cJ, 6250, .inr (.inl w2))), (qf, .inr (1, [.int (nI z), .int (nI n)]))]) hx hb hr hlocks (by decide) hK (hP.sub [0, 2, 3, 1] rfl) (hD.sub [0, 2, 3, 1] (by decide) rfl) hS (by simp only [e_wv]) ?_ dd_W_writeDifference_109
    exact ⟨rfl, hR_w2⟩
  have c_3 : x = 0 := (lg_cmp_eq _ _).mp c_3
  refine lv_aload_n hx hb dd_W_writeDifference_6 rfl (lv_at hl 0 rfl) ?_
  refine va_get (D := D) (ci := 4) (C := cn_W) (T := cf_W) (N := 5) hx hb hw in_W hown hK hP 0 rfl rfl 0 (by decide) (hw _ wi_246) (fun _ h9 => h9) rfl dd_W_writeDifference_7 ?_
  refine lv_lconst (v := 0) hx hb dd_W_writeDifference_10 (by decide) ?_
  refine lv_iconst (v := nI 1) hx hb dd_W_writeDifference_11 (by decide) ?_
  refine ct_behind_i (wc := [(qb, .inr (0, [.ref qw, .int (nI L.length)])), (qw, .inl (cJ, 6250, .inr (.inl w)))]) (wr := [(q, .inr (4, [.ref qb, .ref qf, .long lt, .long ls0, .long lv0])), (qf, .inr (1, [.int (nI z), .int (nI n)]))]) (av := [.ref qb, .long 0, .int (nI 1)]) (va_runV (As := [.long 0, .int (nI 1)]) (rest := []) ⟨hx, hb, hml, hown, hw⟩ (cs_B_append l D cJ cB qb qw w L 0 1 _ (by omega) hR (by omega) (cp_fit_0 1)) (cwV 2 hw (tb_V wi_295 wi_296 wi_297 wi_24 wi_298) rfl rfl rfl (by decide +kernel) ⟨Nat.le_of_ble_eq_true rfl, Nat.le_of_ble_eq_true rfl⟩) ⟨ct_blind, ct_recv hK hP (q0 := 1) (ci := 0) rfl rfl, ct_pc hZ hK hP hD hS hA [1, 2] rfl (by decide)⟩ rfl rfl hl.1 rfl (lv_room (Nat.le_of_ble_eq_true rfl)) dd_W_writeDifference_12 ⟨Nat.le_of_ble_eq_true rfl, Nat.le_of_ble_eq_true rfl⟩) hK hP hD hS hA [1, 2] [0, 3] rfl rfl (by decide) (by decide) (fun r_12 u_12 H locs hw_12 hP hD hS => ?_)
  obtain ⟨hr_12, hR_w1⟩ := hw_12
  subst hr_12
  obtain ⟨w1, h9_12⟩ : ∃ z, z = u_12 := ⟨_, rfl⟩
  rw [← h9_12] at hP hD hR_w1
  clear h9_12
  have hP : va_P D classes [(q, .inr (4, [.ref qb, .ref qf, .long lt, .long ls0, .long lv0])), (qf, .inr (1, [.int (nI z), .int (nI n)])), (qb, .inr (0, [.ref qw, .int (nI ((L ++ cp_bl 0 1).length))])), (qw, .inl (cJ, 6250, .inr (.inl w1)))] H := hP
  have hD : va_D A [(q, .inr (4, [.ref qb, .ref qf, .long lt, .long ls0, .long lv0])), (qf, .inr (1, [.int (nI z), .int (nI n)])), (qb, .inr (0, [.ref qw, .int (nI ((L ++ cp_bl 0 1).length))])), (qw, .inl (cJ, 6250, .inr (.inl w1)))] := hD
  have e_wv : cp_wv z n x = (cp_bl 0 1, z, n) := by unfold cp_wv; rw [if_pos c_3]
  rw [show (L ++ cp_bl 0 1) = L ++ (cp_wv z n x).1 by rw [e_wv]] at hP hD hR_w1
  refine ct_zret (u := w1) (ws := [(q, .inr (4, [.ref qb, .ref qf, .long lt, .long ls0, .long lv0])), (qb, .inr (0, [.ref qw, .int (nI ((L ++ (cp_wv z n x).1).length))])), (qw, .inl (cJ, 6250, .inr (.inl w1))), (qf, .inr (1, [.int (nI z), .int (nI n)]))]) hx hb hr hlocks (by decide) hK (hP.sub [0, 2, 3, 1] rfl) (hD.sub [0, 2, 3, 1] (by decide) rfl) hS (by simp only [e_wv]) ?_ dd_W_writeDifference_15
  exact ⟨rfl, hR_w1⟩

set_option maxHeartbeats 4000000 in
set_option maxRecDepth 100000 in
theorem cc_W_writeNext (l : Launch) (D : va_G) (cJ cB : ClassId) (q qb qw qf : Nat) (lt ls0 lv0 : Int64) (w : Nat → Int64) (L : List Bool) (z n : Nat) (t v : Int64) (sz : Nat) (hL : L.length + 122 ≤ 400000) (hR : cp_Rw w L) (hzn : z + n ≤ 64) : ct_i l my_W_writeNext (Cond.code my_W_writeNext mb_W_writeNext 9 (some .boolean) :: TB) ({ frames := 3, cells := 0, slots := 0, locals := 76 } : Room) D classes cJ cB [.ref q, .long t, .long v] [(q, .inr (4, [.ref qb, .ref qf, .long lt, .long ls0, .long lv0])), (qb, .inr (0, [.ref qw, .int (nI L.length)])), (qw, .inl (cJ, 6250, .inr (.inl w))), (qf, .inr (1, [.int (nI z), .int (nI n)]))] sz (fun (r : Int32) (u : Nat → Int64) => r = nI 1 ∧ cp_Rw u ((L ++ cp_wt (t - lt - ls0)) ++ (cp_wv z n (v ^^^ lv0)).1)) (fun u => [(q, .inr (4, [.ref qb, .ref qf, .long lt, .long (t - lt), .long lv0])), (qb, .inr (0, [.ref qw, .int (nI (((L ++ cp_wt (t - lt - ls0)) ++ (cp_wv z n (v ^^^ lv0)).1).length))])), (qw, .inl (cJ, 6250, .inr (.inl u))), (qf, .inr (1, [.int (nI ((cp_wv z n (v ^^^ lv0)).2.1)), .int (nI ((cp_wv z n (v ^^^ lv0)).2.2))]))]) 0 0 := by
  refine ct_ofW (cc := mb_W_writeNext) (maxL := 9) (ret := some .boolean) (by decide) rfl (Nat.le_of_ble_eq_true rfl) ?_
  intro p e s m below meth c hx hb hr hml hts hown hlocks hin hsz hK hP hD hA hS hZ ls hl
  have hw : ∀ w ∈ TB, w.before _ s = true := fun w h => hts w (List.mem_cons_of_mem _ h)
  have hown : s.vm.findClass cn_W = some m.cls := hown
  have hin : meth.name = "writeNext" := hin
  generalize hAe : va_A [(q, .inr (4, [.ref qb, .ref qf, .long lt, .long ls0, .long lv0])), (qb, .inr (0, [.ref qw, .int (nI L.length)])), (qw, .inl (cJ, 6250, .inr (.inl w))), (qf, .inr (1, [.int (nI z), .int (nI n)]))] sz = A at hD hA hS hZ ⊢
  clear hAe
  have hl : lv_has ls 9 [(0, .ref q), (1, .long t), (3, .long v)] := hl
  have hP : va_P D classes [(q, .inr (4, [.ref qb, .ref qf, .long lt, .long ls0, .long lv0])), (qb, .inr (0, [.ref qw, .int (nI L.length)])), (qw, .inl (cJ, 6250, .inr (.inl w))), (qf, .inr (1, [.int (nI z), .int (nI n)]))] s.heap := hP
  refine lv_lload_n hx hb dd_W_writeNext_0 rfl (lv_at hl 1 rfl) ?_
  refine lv_aload_n hx hb dd_W_writeNext_1 rfl (lv_at hl 0 rfl) ?_
  refine va_get (D := D) (ci := 4) (C := cn_W) (T := cf_W) (N := 5) hx hb hw in_W hown hK hP 0 rfl rfl 2 (by decide) (hw _ wi_248) (fun _ h9 => h9) rfl dd_W_writeNext_2 ?_
  refine lv_lsub hx hb dd_W_writeNext_5 ?_
  refine lv_lstore (lv' := [(5, .long (t - lt)), (0, .ref q), (1, .long t), (3, .long v)]) hx hb dd_W_writeNext_6 hl (by decide) rfl (fun ls hl => ?_)
  refine lv_lload hx hb dd_W_writeNext_8 (lv_at hl 0 rfl) ?_
  refine lv_aload_n hx hb dd_W_writeNext_10 rfl (lv_at hl 1 rfl) ?_
  refine va_get (D := D) (ci := 4) (C := cn_W) (T := cf_W) (N := 5) hx hb hw in_W hown hK hP 0 rfl rfl 3 (by decide) (hw _ wi_249) (fun _ h9 => h9) rfl dd_W_writeNext_11 ?_
  refine lv_lsub hx hb dd_W_writeNext_14 ?_
  refine lv_lstore (lv' := [(7, .long ((t - lt) - ls0)), (5, .long (t - lt)), (0, .ref q), (1, .long t), (3, .long v)]) hx hb dd_W_writeNext_15 hl (by decide) rfl (fun ls hl => ?_)
  refine lv_aload_n hx hb dd_W_writeNext_17 rfl (lv_at hl 2 rfl) ?_
  refine lv_lload hx hb dd_W_writeNext_18 (lv_at hl 1 rfl) ?_
  refine va_put (D := D) (ci := 4) (v := .long (t - lt)) (ty := .long) (C := cn_W) (T := cf_W) (N := 5) hx hb hw in_W ty_W to_W nn_W hown hK hP hD hS 0 rfl rfl 3 (by decide) (hw _ wi_249) (fun _ h9 => h9) rfl (by decide +kernel) (rfl) (rfl) (Nat.le_of_ble_eq_true rfl) dd_W_writeNext_20 (fun H locs hP hD hS => ?_)
  have hP : va_P D classes [(q, .inr (4, [.ref qb, .ref qf, .long lt, .long (t - lt), .long lv0])), (qb, .inr (0, [.ref qw, .int (nI L.length)])), (qw, .inl (cJ, 6250, .inr (.inl w))), (qf, .inr (1, [.int (nI z), .int (nI n)]))] H := hP
  have hD : va_D A [(q, .inr (4, [.ref qb, .ref qf, .long lt, .long (t - lt), .long lv0])), (qb, .inr (0, [.ref qw, .int (nI L.length)])), (qw, .inl (cJ, 6250, .inr (.inl w))), (qf, .inr (1, [.int (nI z), .int (nI n)]))] := hD
  refine lv_aload_n hx hb dd_W_writeNext_23 rfl (lv_at hl 2 rfl) ?_
  refine lv_lload hx hb dd_W_writeNext_24 (lv_at hl 0 rfl) ?_
  refine ct_behind_i (wc := [(q, .inr (4, [.ref qb, .ref qf, .long lt, .long (t - lt), .long lv0])), (qb, .inr (0, [.ref qw, .int (nI L.length)])), (qw, .inl (cJ, 6250, .inr (.inl w)))]) (wr := [(qf, .inr (1, [.int (nI z), .int (nI n)]))]) (av := [.ref q, .long ((t - lt) - ls0)]) (va_runV (As := [.long ((t - lt) - ls0)]) (rest := []) ⟨hx, hb, hml, hown, hw⟩ (cc_W_writeTurn l D cJ cB q qb qw qf lt (t - lt) lv0 w L (t - lt - ls0) _ (by omega) hR) (cwV 1 hw (tb_V wi_304 wi_306 wi_3 wi_31 wi_307) rfl rfl rfl (by decide +kernel) ⟨Nat.le_of_ble_eq_true rfl, Nat.le_of_ble_eq_true rfl⟩) ⟨ct_blind, ct_recv hK hP (q0 := 0) (ci := 4) rfl rfl, ct_pc hZ hK hP hD hS hA [0, 1, 2] rfl (by decide)⟩ rfl rfl hl.1 rfl (lv_room (Nat.le_of_ble_eq_true rfl)) dd_W_writeNext_26 ⟨Nat.le_of_ble_eq_true rfl, Nat.le_of_ble_eq_true rfl⟩) hK hP hD hS hA [0, 1, 2] [3] rfl rfl (by decide) (by decide) (fun r_26 u_26 H locs hw_26 hP hD hS => ?_)
  obtain ⟨hr_26, hR_w1⟩ := hw_26
  subst hr_26
  obtain ⟨w1, h9⟩ : ∃ z, z = u_26 := ⟨_, rfl⟩
  rw [← h9] at hP hD hR_w1
  clear h9
  have hP : va_P D classes [(qf, .inr (1, [.int (nI z), .int (nI n)])), (q, .inr (4, [.ref qb, .ref qf, .long lt, .long (t - lt), .long lv0])), (qb, .inr (0, [.ref qw, .int (nI ((L ++ cp_wt (t - lt - ls0)).length))])), (qw, .inl (cJ, 6250, .inr (.inl w1)))] H := hP
  have hD : va_D A [(qf, .inr (1, [.int (nI z), .int (nI n)])), (q, .inr (4, [.ref qb, .ref qf, .long lt, .long (t - lt), .long lv0])), (qb, .inr (0, [.ref qw, .int (nI ((L ++ cp_wt (t - lt - ls0)).length))])), (qw, .inl (cJ, 6250, .inr (.inl w1)))] := hD
  refine lv_if_eq (tgt := 49) hx hb dd_W_writeNext_29 (by decide) (fun c_29 => ?_) (fun c_29 => ?_)
  · skip
    have c_29 : 1 = 0 := (ct_zeq (by omega)).mp c_29
    exfalso
    omega
  have c_29 : ¬ (1 = 0) := fun z => c_29 ((ct_zeq (by omega)).mpr z)
  refine lv_aload_n hx hb dd_W_writeNext_32 rfl (lv_at hl 2 rfl) ?_
  refine lv_lload_n hx hb dd_W_writeNext_33 rfl (lv_at hl 4 rfl) ?_
  refine lv_aload_n hx hb dd_W_writeNext_34 rfl (lv_at hl 2 rfl) ?_
  refine va_get (D := D) (ci := 4) (C := cn_W) (T := cf_W) (N := 5) hx hb hw in_W hown hK hP 1 rfl rfl 4 (by decide) (hw _ wi_250) (fun _ h9 => h9) rfl dd_W_writeNext_35 ?_
  refine lv_lxor hx hb dd_W_writeNext_38 ?_
  have hwt := cp_wt_len (t - lt - ls0)
  refine ct_behind_i (wc := [(q, .inr (4, [.ref qb, .ref qf, .long lt, .long (t - lt), .long lv0])), (qb, .inr (0, [.ref qw, .int (nI ((L ++ cp_wt (t - lt - ls0)).length))])), (qw, .inl (cJ, 6250, .inr (.inl w1))), (qf, .inr (1, [.int (nI z), .int (nI n)]))]) (wr := []) (av := [.ref q, .long (v ^^^ lv0)]) (va_runV (As := [.long (v ^^^ lv0)]) (rest := []) ⟨hx, hb, hml, hown, hw⟩ (cc_W_writeDifference l D cJ cB q qb qw qf lt (t - lt) lv0 w1 (L ++ cp_wt (t - lt - ls0)) z n (v ^^^ lv0) _ (by rw [List.length_append]; omega) hR_w1 hzn) (cwV 1 hw (tb_V wi_317 wi_319 wi_5 wi_31 wi_320) rfl rfl rfl (by decide +kernel) ⟨Nat.le_of_ble_eq_true rfl, Nat.le_of_ble_eq_true rfl⟩) ⟨ct_blind, ct_recv hK hP (q0 := 1) (ci := 4) rfl rfl, ct_pc hZ hK hP hD hS hA [1, 2, 3, 0] rfl (by decide)⟩ rfl rfl hl.1 rfl (lv_room (Nat.le_of_ble_eq_true rfl)) dd_W_writeNext_39 ⟨Nat.le_of_ble_eq_true rfl, Nat.le_of_ble_eq_true rfl⟩) hK hP hD hS hA [1, 2, 3, 0] [] rfl rfl (by decide) (by decide) (fun r_39 u_39 H locs hw_39 hP hD hS => ?_)
  obtain ⟨hr_39, hR_w2⟩ := hw_39
  subst hr_39
  obtain ⟨w2, h9⟩ : ∃ z, z = u_39 := ⟨_, rfl⟩
  rw [← h9] at hP hD hR_w2
  clear h9
  have hP : va_P D classes [(q, .inr (4, [.ref qb, .ref qf, .long lt, .long (t - lt), .long lv0])), (qb, .inr (0, [.ref qw, .int (nI (((L ++ cp_wt (t - lt - ls0)) ++ (cp_wv z n (v ^^^ lv0)).1).length))])), (qw, .inl (cJ, 6250, .inr (.inl w2))), (qf, .inr (1, [.int (nI ((cp_wv z n (v ^^^ lv0)).2.1)), .int (nI ((cp_wv z n (v ^^^ lv0)).2.2))]))] H := hP
  have hD : va_D A [(q, .inr (4, [.ref qb, .ref qf, .long lt, .long (t - lt), .long lv0])), (qb, .inr (0, [.ref qw, .int (nI (((L ++ cp_wt (t - lt - ls0)) ++ (cp_wv z n (v ^^^ lv0)).1).length))])), (qw, .inl (cJ, 6250, .inr (.inl w2))), (qf, .inr (1, [.int (nI ((cp_wv z n (v ^^^ lv0)).2.1)), .int (nI ((cp_wv z n (v ^^^ lv0)).2.2))]))] := hD
  refine lv_if_eq (tgt := 49) hx hb dd_W_writeNext_42 (by decide) (fun c_42 => ?_) (fun c_42 => ?_)
  · skip
    have c_42 : 1 = 0 := (ct_zeq (by omega)).mp c_42
    exfalso
    omega
  have c_42 : ¬ (1 = 0) := fun z => c_42 ((ct_zeq (by omega)).mpr z)
  refine lv_iconst (v := nI 1) hx hb dd_W_writeNext_45 (by decide) ?_
  refine lv_goto (tgt := 50) hx hb dd_W_writeNext_46 (by decide) ?_
  refine ct_zret (u := w2) hx hb hr hlocks (by decide) hK hP hD hS rfl ?_ dd_W_writeNext_50
  exact ⟨rfl, hR_w2⟩

set_option maxHeartbeats 4000000 in
set_option maxRecDepth 100000 in
theorem cc_W_writeAll (l : Launch) (D : va_G) (cJ cB : ClassId) (q qb qw qf qp qt qv : Nat) (w : Nat → Int64) (n : Nat) (f g : Nat → Int64) (sz : Nat) (h1 : n ≤ 3000) (hf0 : n ≠ 0 → cp_fit (f 0) 40) : ct_i l my_W_writeAll (Cond.code my_W_writeAll mb_W_writeAll 9 (some .boolean) :: TB) ({ frames := 4, cells := 0, slots := 0, locals := 104 } : Room) D classes cJ cB [.ref q, .ref qp] [(q, .inr (4, [.ref qb, .ref qf, .long 0, .long 0, .long 0])), (qb, .inr (0, [.ref qw, .int (nI 0)])), (qw, .inl (cJ, 6250, .inr (.inl w))), (qf, .inr (1, [.int (nI 0), .int (nI 0)])), (qp, .inr (2, [.ref qt, .ref qv, .int (nI n)])), (qt, .inl (cJ, 3000, .inr (.inl f))), (qv, .inl (cJ, 3000, .inr (.inl g)))] sz (fun (r : Int32) (u : Int64 × Int64 × Int64 × (Nat → Int64)) => r = nI 1 ∧ cp_Rw u.2.2.2 (cp_pk f g n).1) (fun u => [(q, .inr (4, [.ref qb, .ref qf, .long u.1, .long u.2.1, .long u.2.2.1])), (qb, .inr (0, [.ref qw, .int (nI ((cp_pk f g n).1.length))])), (qw, .inl (cJ, 6250, .inr (.inl u.2.2.2))), (qf, .inr (1, [.int (nI ((cp_pk f g n).2.1)), .int (nI ((cp_pk f g n).2.2))])), (qp, .inr (2, [.ref qt, .ref qv, .int (nI n)])), (qt, .inl (cJ, 3000, .inr (.inl f))), (qv, .inl (cJ, 3000, .inr (.inl g)))]) 0 0 := by
  refine ct_ofW (cc := mb_W_writeAll) (maxL := 9) (ret := some .boolean) (by decide) rfl (Nat.le_of_ble_eq_true rfl) ?_
  intro p e s m below meth c hx hb hr hml hts hown hlocks hin hsz hK hP hD hA hS hZ ls hl
  have hw : ∀ w ∈ TB, w.before _ s = true := fun w h => hts w (List.mem_cons_of_mem _ h)
  have hown : s.vm.findClass cn_W = some m.cls := hown
  have hin : meth.name = "writeAll" := hin
  generalize hAe : va_A [(q, .inr (4, [.ref qb, .ref qf, .long 0, .long 0, .long 0])), (qb, .inr (0, [.ref qw, .int (nI 0)])), (qw, .inl (cJ, 6250, .inr (.inl w))), (qf, .inr (1, [.int (nI 0), .int (nI 0)])), (qp, .inr (2, [.ref qt, .ref qv, .int (nI n)])), (qt, .inl (cJ, 3000, .inr (.inl f))), (qv, .inl (cJ, 3000, .inr (.inl g)))] sz = A at hD hA hS hZ ⊢
  clear hAe
  have hl : lv_has ls 9 [(0, .ref q), (1, .ref qp)] := hl
  have hP : va_P D classes [(q, .inr (4, [.ref qb, .ref qf, .long 0, .long 0, .long 0])), (qb, .inr (0, [.ref qw, .int (nI 0)])), (qw, .inl (cJ, 6250, .inr (.inl w))), (qf, .inr (1, [.int (nI 0), .int (nI 0)])), (qp, .inr (2, [.ref qt, .ref qv, .int (nI n)])), (qt, .inl (cJ, 3000, .inr (.inl f))), (qv, .inl (cJ, 3000, .inr (.inl g)))] s.heap := hP
  refine lv_aload_n hx hb dd_W_writeAll_0 rfl (lv_at hl 1 rfl) ?_
  refine ct_behind_i (wc := [(qp, .inr (2, [.ref qt, .ref qv, .int (nI n)])), (qt, .inl (cJ, 3000, .inr (.inl f))), (qv, .inl (cJ, 3000, .inr (.inl g)))]) (wr := [(q, .inr (4, [.ref qb, .ref qf, .long 0, .long 0, .long 0])), (qb, .inr (0, [.ref qw, .int (nI 0)])), (qw, .inl (cJ, 6250, .inr (.inl w))), (qf, .inr (1, [.int (nI 0), .int (nI 0)]))]) (av := [.ref qp]) (va_runV (As := []) (rest := []) ⟨hx, hb, hml, hown, hw⟩ (cc_P_size l D cJ cB qp qt qv n f g _ h1) (cwV 0 hw (tb_V wi_266 wi_201 wi_202 wi_23 wi_203) rfl rfl rfl (by decide +kernel) ⟨Nat.le_of_ble_eq_true rfl, Nat.le_of_ble_eq_true rfl⟩) ⟨ct_blind, ct_recv hK hP (q0 := 4) (ci := 2) rfl rfl, ct_pc hZ hK hP hD hS hA [4, 5, 6] rfl (by decide)⟩ rfl rfl hl.1 rfl (lv_room (Nat.le_of_ble_eq_true rfl)) dd_W_writeAll_1 ⟨Nat.le_of_ble_eq_true rfl, Nat.le_of_ble_eq_true rfl⟩) hK hP hD hS hA [4, 5, 6] [0, 1, 2, 3] rfl rfl (by decide) (by decide) (fun r_1 u_1 H locs hw_1 hP hD hS => ?_)
  subst hw_1
  have hP : va_P D classes [(q, .inr (4, [.ref qb, .ref qf, .long 0, .long 0, .long 0])), (qb, .inr (0, [.ref qw, .int (nI 0)])), (qw, .inl (cJ, 6250, .inr (.inl w))), (qf, .inr (1, [.int (nI 0), .int (nI 0)])), (qp, .inr (2, [.ref qt, .ref qv, .int (nI n)])), (qt, .inl (cJ, 3000, .inr (.inl f))), (qv, .inl (cJ, 3000, .inr (.inl g)))] H := hP
  have hD : va_D A [(q, .inr (4, [.ref qb, .ref qf, .long 0, .long 0, .long 0])), (qb, .inr (0, [.ref qw, .int (nI 0)])), (qw, .inl (cJ, 6250, .inr (.inl w))), (qf, .inr (1, [.int (nI 0), .int (nI 0)])), (qp, .inr (2, [.ref qt, .ref qv, .int (nI n)])), (qt, .inl (cJ, 3000, .inr (.inl f))), (qv, .inl (cJ, 3000, .inr (.inl g)))] := hD
  refine lv_istore_n (lv' := [(2, .int (nI n)), (0, .ref q), (1, .ref qp)]) hx hb dd_W_writeAll_4 rfl hl (by decide) rfl (fun ls hl => ?_)
  refine lv_iconst (v := nI 0) hx hb dd_W_writeAll_5 (by decide) ?_
  refine lv_istore_n (lv' := [(3, .int (nI 0)), (2, .int (nI n)), (0, .ref q), (1, .ref qp)]) hx hb dd_W_writeAll_6 rfl hl (by decide) rfl (fun ls hl => ?_)
  refine ct_loop (σ := Nat × Int64 × Int64 × Int64 × (Nat → Int64)) (fun a H locs ls => va_P D classes [(q, .inr (4, [.ref qb, .ref qf, .long a.2.1, .long a.2.2.1, .long a.2.2.2.1])), (qb, .inr (0, [.ref qw, .int (nI ((cp_pk f g a.1).1.length))])), (qw, .inl (cJ, 6250, .inr (.inl a.2.2.2.2))), (qf, .inr (1, [.int (nI ((cp_pk f g a.1).2.1)), .int (nI ((cp_pk f g a.1).2.2))])), (qp, .inr (2, [.ref qt, .ref qv, .int (nI n)])), (qt, .inl (cJ, 3000, .inr (.inl f))), (qv, .inl (cJ, 3000, .inr (.inl g)))] H ∧ va_D A [(q, .inr (4, [.ref qb, .ref qf, .long a.2.1, .long a.2.2.1, .long a.2.2.2.1])), (qb, .inr (0, [.ref qw, .int (nI ((cp_pk f g a.1).1.length))])), (qw, .inl (cJ, 6250, .inr (.inl a.2.2.2.2))), (qf, .inr (1, [.int (nI ((cp_pk f g a.1).2.1)), .int (nI ((cp_pk f g a.1).2.2))])), (qp, .inr (2, [.ref qt, .ref qv, .int (nI n)])), (qt, .inl (cJ, 3000, .inr (.inl f))), (qv, .inl (cJ, 3000, .inr (.inl g)))] ∧ va_S A s.heap H locs ∧ lv_has ls 9 [(0, .ref q), (1, .ref qp), (2, .int (nI n)), (3, .int (nI a.1))] ∧ (a.1 ≤ n) ∧ (cp_Rw a.2.2.2.2 (cp_pk f g a.1).1) ∧ (a.1 ≠ 0 → a.2.1 = f (a.1 - 1) ∧ a.2.2.2.1 = g (a.1 - 1)) ∧ (a.2.2.1 = if a.1 ≤ 1 then 0 else f (a.1 - 1) - f (a.1 - 2))) (fun a => n - a.1) ?_ (0, 0, 0, 0, w) ⟨hP, hD, hS, lv_sub hl [2, 3, 1, 0] rfl, Nat.zero_le n, fun i h => absurd h (Nat.not_lt_zero i), fun h => absurd rfl h, rfl⟩
  rintro ⟨i, lt, ls0, lv0, w⟩ H locs ls ⟨hP, hD, hS, hl, hi, hR, hlt, hls⟩ ih
  have hP : va_P D classes [(q, .inr (4, [.ref qb, .ref qf, .long lt, .long ls0, .long lv0])), (qb, .inr (0, [.ref qw, .int (nI ((cp_pk f g i).1.length))])), (qw, .inl (cJ, 6250, .inr (.inl w))), (qf, .inr (1, [.int (nI ((cp_pk f g i).2.1)), .int (nI ((cp_pk f g i).2.2))])), (qp, .inr (2, [.ref qt, .ref qv, .int (nI n)])), (qt, .inl (cJ, 3000, .inr (.inl f))), (qv, .inl (cJ, 3000, .inr (.inl g)))] H := hP
  have hD : va_D A [(q, .inr (4, [.ref qb, .ref qf, .long lt, .long ls0, .long lv0])), (qb, .inr (0, [.ref qw, .int (nI ((cp_pk f g i).1.length))])), (qw, .inl (cJ, 6250, .inr (.inl w))), (qf, .inr (1, [.int (nI ((cp_pk f g i).2.1)), .int (nI ((cp_pk f g i).2.2))])), (qp, .inr (2, [.ref qt, .ref qv, .int (nI n)])), (qt, .inl (cJ, 3000, .inr (.inl f))), (qv, .inl (cJ, 3000, .inr (.inl g)))] := hD
  have hl : lv_has ls 9 [(0, .ref q), (1, .ref qp), (2, .int (nI n)), (3, .int (nI i))] := hl
  have hi : i ≤ n := hi
  have hR : cp_Rw w (cp_pk f g i).1 := hR
  have hlt : i ≠ 0 → lt = f (i - 1) ∧ lv0 = g (i - 1) := hlt
  have hls : ls0 = if i ≤ 1 then 0 else f (i - 1) - f (i - 2) := hls
  refine lv_iload_n hx hb dd_W_writeAll_7 rfl (lv_at hl 3 rfl) ?_
  refine lv_iload_n hx hb dd_W_writeAll_8 rfl (lv_at hl 2 rfl) ?_
  refine lv_icmp_ge (tgt := 76) hx hb dd_W_writeAll_9 (by decide) (fun c_9 => ?_) (fun c_9 => ?_)
  · skip
    have c_9 : n ≤ i := (nI_leI (by omega) (by omega)).mp c_9
    have hin : i = n := by omega
    subst hin
    refine lv_iconst (v := nI 1) hx hb dd_W_writeAll_76 (by decide) ?_
    refine ct_zret (u := (lt, ls0, lv0, w)) hx hb hr hlocks (by decide) hK hP hD hS rfl ?_ dd_W_writeAll_77
    exact ⟨rfl, hR⟩
  have c_9 : ¬ (n ≤ i) := fun z => c_9 ((nI_leI (by omega) (by omega)).mpr z)
  refine lv_aload_n hx hb dd_W_writeAll_12 rfl (lv_at hl 1 rfl) ?_
  refine lv_iload_n hx hb dd_W_writeAll_13 rfl (lv_at hl 3 rfl) ?_
  have hpk := cp_pk_inv f g i
  refine ct_behind_l (wc := [(qp, .inr (2, [.ref qt, .ref qv, .int (nI n)])), (qt, .inl (cJ, 3000, .inr (.inl f))), (qv, .inl (cJ, 3000, .inr (.inl g)))]) (wr := [(q, .inr (4, [.ref qb, .ref qf, .long lt, .long ls0, .long lv0])), (qb, .inr (0, [.ref qw, .int (nI ((cp_pk f g i).1.length))])), (qw, .inl (cJ, 6250, .inr (.inl w))), (qf, .inr (1, [.int (nI ((cp_pk f g i).2.1)), .int (nI ((cp_pk f g i).2.2))]))]) (av := [.ref qp, .int (nI i)]) (va_runV (As := [.int (nI i)]) (rest := []) ⟨hx, hb, hml, hown, hw⟩ (cc_P_timeAt l D cJ cB qp qt qv n f g i _ h1 (by omega)) (cwV 1 hw (tb_V wi_267 wi_268 wi_269 wi_23 wi_270) rfl rfl rfl (by decide +kernel) ⟨Nat.le_of_ble_eq_true rfl, Nat.le_of_ble_eq_true rfl⟩) ⟨ct_blind, ct_recv hK hP (q0 := 4) (ci := 2) rfl rfl, ct_pc hZ hK hP hD hS hA [4, 5, 6] rfl (by decide)⟩ rfl rfl hl.1 rfl (lv_room (Nat.le_of_ble_eq_true rfl)) dd_W_writeAll_14 ⟨Nat.le_of_ble_eq_true rfl, Nat.le_of_ble_eq_true rfl⟩) hK hP hD hS hA [4, 5, 6] [0, 1, 2, 3] rfl rfl (by decide) (by decide) (fun r_14 u_14 H locs hw_14 hP hD hS => ?_)
  subst hw_14
  have hP : va_P D classes [(q, .inr (4, [.ref qb, .ref qf, .long lt, .long ls0, .long lv0])), (qb, .inr (0, [.ref qw, .int (nI ((cp_pk f g i).1.length))])), (qw, .inl (cJ, 6250, .inr (.inl w))), (qf, .inr (1, [.int (nI ((cp_pk f g i).2.1)), .int (nI ((cp_pk f g i).2.2))])), (qp, .inr (2, [.ref qt, .ref qv, .int (nI n)])), (qt, .inl (cJ, 3000, .inr (.inl f))), (qv, .inl (cJ, 3000, .inr (.inl g)))] H := hP
  have hD : va_D A [(q, .inr (4, [.ref qb, .ref qf, .long lt, .long ls0, .long lv0])), (qb, .inr (0, [.ref qw, .int (nI ((cp_pk f g i).1.length))])), (qw, .inl (cJ, 6250, .inr (.inl w))), (qf, .inr (1, [.int (nI ((cp_pk f g i).2.1)), .int (nI ((cp_pk f g i).2.2))])), (qp, .inr (2, [.ref qt, .ref qv, .int (nI n)])), (qt, .inl (cJ, 3000, .inr (.inl f))), (qv, .inl (cJ, 3000, .inr (.inl g)))] := hD
  refine lv_lstore (lv' := [(4, .long (f i)), (0, .ref q), (1, .ref qp), (2, .int (nI n)), (3, .int (nI i))]) hx hb dd_W_writeAll_17 hl (by decide) rfl (fun ls hl => ?_)
  refine lv_aload_n hx hb dd_W_writeAll_19 rfl (lv_at hl 2 rfl) ?_
  refine lv_iload_n hx hb dd_W_writeAll_20 rfl (lv_at hl 4 rfl) ?_
  refine ct_behind_l (wc := [(qp, .inr (2, [.ref qt, .ref qv, .int (nI n)])), (qt, .inl (cJ, 3000, .inr (.inl f))), (qv, .inl (cJ, 3000, .inr (.inl g)))]) (wr := [(q, .inr (4, [.ref qb, .ref qf, .long lt, .long ls0, .long lv0])), (qb, .inr (0, [.ref qw, .int (nI ((cp_pk f g i).1.length))])), (qw, .inl (cJ, 6250, .inr (.inl w))), (qf, .inr (1, [.int (nI ((cp_pk f g i).2.1)), .int (nI ((cp_pk f g i).2.2))]))]) (av := [.ref qp, .int (nI i)]) (va_runV (As := [.int (nI i)]) (rest := []) ⟨hx, hb, hml, hown, hw⟩ (cc_P_valueAt l D cJ cB qp qt qv n f g i _ h1 (by omega)) (cwV 1 hw (tb_V wi_287 wi_288 wi_289 wi_23 wi_290) rfl rfl rfl (by decide +kernel) ⟨Nat.le_of_ble_eq_true rfl, Nat.le_of_ble_eq_true rfl⟩) ⟨ct_blind, ct_recv hK hP (q0 := 4) (ci := 2) rfl rfl, ct_pc hZ hK hP hD hS hA [4, 5, 6] rfl (by decide)⟩ rfl rfl hl.1 rfl (lv_room (Nat.le_of_ble_eq_true rfl)) dd_W_writeAll_21 ⟨Nat.le_of_ble_eq_true rfl, Nat.le_of_ble_eq_true rfl⟩) hK hP hD hS hA [4, 5, 6] [0, 1, 2, 3] rfl rfl (by decide) (by decide) (fun r_21 u_21 H locs hw_21 hP hD hS => ?_)
  subst hw_21
  have hP : va_P D classes [(q, .inr (4, [.ref qb, .ref qf, .long lt, .long ls0, .long lv0])), (qb, .inr (0, [.ref qw, .int (nI ((cp_pk f g i).1.length))])), (qw, .inl (cJ, 6250, .inr (.inl w))), (qf, .inr (1, [.int (nI ((cp_pk f g i).2.1)), .int (nI ((cp_pk f g i).2.2))])), (qp, .inr (2, [.ref qt, .ref qv, .int (nI n)])), (qt, .inl (cJ, 3000, .inr (.inl f))), (qv, .inl (cJ, 3000, .inr (.inl g)))] H := hP
  have hD : va_D A [(q, .inr (4, [.ref qb, .ref qf, .long lt, .long ls0, .long lv0])), (qb, .inr (0, [.ref qw, .int (nI ((cp_pk f g i).1.length))])), (qw, .inl (cJ, 6250, .inr (.inl w))), (qf, .inr (1, [.int (nI ((cp_pk f g i).2.1)), .int (nI ((cp_pk f g i).2.2))])), (qp, .inr (2, [.ref qt, .ref qv, .int (nI n)])), (qt, .inl (cJ, 3000, .inr (.inl f))), (qv, .inl (cJ, 3000, .inr (.inl g)))] := hD
  refine lv_lstore (lv' := [(6, .long (g i)), (4, .long (f i)), (0, .ref q), (1, .ref qp), (2, .int (nI n)), (3, .int (nI i))]) hx hb dd_W_writeAll_24 hl (by decide) rfl (fun ls hl => ?_)
  refine lv_iload_n hx hb dd_W_writeAll_26 rfl (lv_at hl 5 rfl) ?_
  refine lv_if_ne (tgt := 41) hx hb dd_W_writeAll_27 (by decide) (fun c_27 => ?_) (fun c_27 => ?_)
  · skip
    have c_27 : ¬ (i = 0) := fun z => c_27 ((ct_zeq (by omega)).mpr z)
    refine lv_aload_n hx hb dd_W_writeAll_41 rfl (lv_at hl 2 rfl) ?_
    refine lv_lload hx hb dd_W_writeAll_42 (lv_at hl 1 rfl) ?_
    refine lv_lload hx hb dd_W_writeAll_44 (lv_at hl 0 rfl) ?_
    refine ct_behind_i (wc := [(q, .inr (4, [.ref qb, .ref qf, .long lt, .long ls0, .long lv0])), (qb, .inr (0, [.ref qw, .int (nI ((cp_pk f g i).1.length))])), (qw, .inl (cJ, 6250, .inr (.inl w))), (qf, .inr (1, [.int (nI ((cp_pk f g i).2.1)), .int (nI ((cp_pk f g i).2.2))]))]) (wr := [(qp, .inr (2, [.ref qt, .ref qv, .int (nI n)])), (qt, .inl (cJ, 3000, .inr (.inl f))), (qv, .inl (cJ, 3000, .inr (.inl g)))]) (av := [.ref q, .long (f i), .long (g i)]) (va_runV (As := [.long (f i), .long (g i)]) (rest := []) ⟨hx, hb, hml, hown, hw⟩ (cc_W_writeNext l D cJ cB q qb qw qf lt ls0 lv0 w (cp_pk f g i).1 (cp_pk f g i).2.1 (cp_pk f g i).2.2 (f i) (g i) _ (by omega) hR hpk.2) (cwV 2 hw (tb_V wi_300 wi_302 wi_2 wi_31 wi_303) rfl rfl rfl (by decide +kernel) ⟨Nat.le_of_ble_eq_true rfl, Nat.le_of_ble_eq_true rfl⟩) ⟨ct_blind, ct_recv hK hP (q0 := 0) (ci := 4) rfl rfl, ct_pc hZ hK hP hD hS hA [0, 1, 2, 3] rfl (by decide)⟩ rfl rfl hl.1 rfl (lv_room (Nat.le_of_ble_eq_true rfl)) dd_W_writeAll_46 ⟨Nat.le_of_ble_eq_true rfl, Nat.le_of_ble_eq_true rfl⟩) hK hP hD hS hA [0, 1, 2, 3] [4, 5, 6] rfl rfl (by decide) (by decide) (fun r_46 u_46 H locs hw_46 hP hD hS => ?_)
    obtain ⟨hr_46, hR_w1⟩ := hw_46
    subst hr_46
    obtain ⟨w1, h9⟩ : ∃ z, z = u_46 := ⟨_, rfl⟩
    rw [← h9] at hP hD hR_w1
    clear h9
    have eV : (cp_wv (cp_pk f g i).2.1 (cp_pk f g i).2.2 (g i ^^^ lv0)) = (cp_wv (cp_pk f g i).2.1 (cp_pk f g i).2.2 (g i ^^^ g (i - 1))) := by rw [(hlt c_27).2]
    have eL : ((cp_pk f g i).1 ++ cp_wt (f i - lt - ls0)) ++ (cp_wv (cp_pk f g i).2.1 (cp_pk f g i).2.2 (g i ^^^ lv0)).1 = (cp_pk f g (i + 1)).1 := by rw [cp_pk_s f g c_27, cp_tn_1 c_27 (hlt c_27).1 hls, eV]
    have eF : (cp_wv (cp_pk f g i).2.1 (cp_pk f g i).2.2 (g i ^^^ lv0)).2 = (cp_pk f g (i + 1)).2 := by rw [cp_pk_s f g c_27, eV]
    rw [eL, eF] at hP hD
    rw [eL] at hR_w1
    have hP : va_P D classes [(qp, .inr (2, [.ref qt, .ref qv, .int (nI n)])), (qt, .inl (cJ, 3000, .inr (.inl f))), (qv, .inl (cJ, 3000, .inr (.inl g))), (q, .inr (4, [.ref qb, .ref qf, .long lt, .long (f i - lt), .long lv0])), (qb, .inr (0, [.ref qw, .int (nI ((cp_pk f g (i + 1)).1.length))])), (qw, .inl (cJ, 6250, .inr (.inl w1))), (qf, .inr (1, [.int (nI ((cp_pk f g (i + 1)).2.1)), .int (nI ((cp_pk f g (i + 1)).2.2))]))] H := hP
    have hD : va_D A [(qp, .inr (2, [.ref qt, .ref qv, .int (nI n)])), (qt, .inl (cJ, 3000, .inr (.inl f))), (qv, .inl (cJ, 3000, .inr (.inl g))), (q, .inr (4, [.ref qb, .ref qf, .long lt, .long (f i - lt), .long lv0])), (qb, .inr (0, [.ref qw, .int (nI ((cp_pk f g (i + 1)).1.length))])), (qw, .inl (cJ, 6250, .inr (.inl w1))), (qf, .inr (1, [.int (nI ((cp_pk f g (i + 1)).2.1)), .int (nI ((cp_pk f g (i + 1)).2.2))]))] := hD
    refine lv_istore (lv' := [(8, .int (nI 1)), (6, .long (g i)), (4, .long (f i)), (0, .ref q), (1, .ref qp), (2, .int (nI n)), (3, .int (nI i))]) hx hb dd_W_writeAll_49 hl (by decide) rfl (fun ls hl => ?_)
    refine lv_iload hx hb dd_W_writeAll_51 (lv_at hl 0 rfl) ?_
    refine lv_if_ne (tgt := 58) hx hb dd_W_writeAll_53 (by decide) (fun c_53 => ?_) (fun c_53 => ?_)
    · skip
      have c_53 : ¬ (1 = 0) := fun z => c_53 ((ct_zeq (by omega)).mpr z)
      refine lv_aload_n hx hb dd_W_writeAll_58 rfl (lv_at hl 3 rfl) ?_
      refine lv_lload hx hb dd_W_writeAll_59 (lv_at hl 2 rfl) ?_
      refine va_put (D := D) (ci := 4) (v := .long (f i)) (ty := .long) (C := cn_W) (T := cf_W) (N := 5) hx hb hw in_W ty_W to_W nn_W hown hK hP hD hS 3 rfl rfl 2 (by decide) (hw _ wi_248) (fun _ h9 => h9) rfl (by decide +kernel) (rfl) (rfl) (Nat.le_of_ble_eq_true rfl) dd_W_writeAll_61 (fun H locs hP hD hS => ?_)
      have hP : va_P D classes [(qp, .inr (2, [.ref qt, .ref qv, .int (nI n)])), (qt, .inl (cJ, 3000, .inr (.inl f))), (qv, .inl (cJ, 3000, .inr (.inl g))), (q, .inr (4, [.ref qb, .ref qf, .long (f i), .long (f i - lt), .long lv0])), (qb, .inr (0, [.ref qw, .int (nI ((cp_pk f g (i + 1)).1.length))])), (qw, .inl (cJ, 6250, .inr (.inl w1))), (qf, .inr (1, [.int (nI ((cp_pk f g (i + 1)).2.1)), .int (nI ((cp_pk f g (i + 1)).2.2))]))] H := hP
      have hD : va_D A [(qp, .inr (2, [.ref qt, .ref qv, .int (nI n)])), (qt, .inl (cJ, 3000, .inr (.inl f))), (qv, .inl (cJ, 3000, .inr (.inl g))), (q, .inr (4, [.ref qb, .ref qf, .long (f i), .long (f i - lt), .long lv0])), (qb, .inr (0, [.ref qw, .int (nI ((cp_pk f g (i + 1)).1.length))])), (qw, .inl (cJ, 6250, .inr (.inl w1))), (qf, .inr (1, [.int (nI ((cp_pk f g (i + 1)).2.1)), .int (nI ((cp_pk f g (i + 1)).2.2))]))] := hD
      refine lv_aload_n hx hb dd_W_writeAll_64 rfl (lv_at hl 3 rfl) ?_
      refine lv_lload hx hb dd_W_writeAll_65 (lv_at hl 1 rfl) ?_
      refine va_put (D := D) (ci := 4) (v := .long (g i)) (ty := .long) (C := cn_W) (T := cf_W) (N := 5) hx hb hw in_W ty_W to_W nn_W hown hK hP hD hS 3 rfl rfl 4 (by decide) (hw _ wi_250) (fun _ h9 => h9) rfl (by decide +kernel) (rfl) (rfl) (Nat.le_of_ble_eq_true rfl) dd_W_writeAll_67 (fun H locs hP hD hS => ?_)
      have hP : va_P D classes [(qp, .inr (2, [.ref qt, .ref qv, .int (nI n)])), (qt, .inl (cJ, 3000, .inr (.inl f))), (qv, .inl (cJ, 3000, .inr (.inl g))), (q, .inr (4, [.ref qb, .ref qf, .long (f i), .long (f i - lt), .long (g i)])), (qb, .inr (0, [.ref qw, .int (nI ((cp_pk f g (i + 1)).1.length))])), (qw, .inl (cJ, 6250, .inr (.inl w1))), (qf, .inr (1, [.int (nI ((cp_pk f g (i + 1)).2.1)), .int (nI ((cp_pk f g (i + 1)).2.2))]))] H := hP
      have hD : va_D A [(qp, .inr (2, [.ref qt, .ref qv, .int (nI n)])), (qt, .inl (cJ, 3000, .inr (.inl f))), (qv, .inl (cJ, 3000, .inr (.inl g))), (q, .inr (4, [.ref qb, .ref qf, .long (f i), .long (f i - lt), .long (g i)])), (qb, .inr (0, [.ref qw, .int (nI ((cp_pk f g (i + 1)).1.length))])), (qw, .inl (cJ, 6250, .inr (.inl w1))), (qf, .inr (1, [.int (nI ((cp_pk f g (i + 1)).2.1)), .int (nI ((cp_pk f g (i + 1)).2.2))]))] := hD
      refine lv_iinc (v := nI (i + 1)) (lv' := [(3, .int (nI (i + 1))), (8, .int (nI 1)), (6, .long (g i)), (4, .long (f i)), (0, .ref q), (1, .ref qp), (2, .int (nI n))]) hx hb dd_W_writeAll_70 hl (k := 6) rfl (nI_1 i) (by decide) rfl (fun ls hl => ?_)
      refine lv_goto (tgt := 7) hx hb dd_W_writeAll_73 (by decide) ?_
      refine ih (i + 1, f i, f i - lt, g i, w1) _ _ _ (by show n - (i + 1) < n - i; omega) ⟨hP.sub [3, 4, 5, 6, 0, 1, 2] rfl, hD.sub [3, 4, 5, 6, 0, 1, 2] (by decide) rfl, hS, lv_sub hl [4, 5, 6, 0] rfl, by omega, hR_w1, fun _ => ⟨rfl, rfl⟩, by rw [if_neg (by omega), (hlt c_27).1]; rfl⟩
    have c_53 : 1 = 0 := (ct_zeq (by omega)).mp c_53
    exfalso
    omega
  have c_27 : i = 0 := (ct_zeq (by omega)).mp c_27
  refine lv_aload_n hx hb dd_W_writeAll_30 rfl (lv_at hl 2 rfl) ?_
  refine lv_lload hx hb dd_W_writeAll_31 (lv_at hl 1 rfl) ?_
  refine lv_lload hx hb dd_W_writeAll_33 (lv_at hl 0 rfl) ?_
  refine ct_behind_i (wc := [(q, .inr (4, [.ref qb, .ref qf, .long lt, .long ls0, .long lv0])), (qb, .inr (0, [.ref qw, .int (nI ((cp_pk f g i).1.length))])), (qw, .inl (cJ, 6250, .inr (.inl w)))]) (wr := [(qf, .inr (1, [.int (nI ((cp_pk f g i).2.1)), .int (nI ((cp_pk f g i).2.2))])), (qp, .inr (2, [.ref qt, .ref qv, .int (nI n)])), (qt, .inl (cJ, 3000, .inr (.inl f))), (qv, .inl (cJ, 3000, .inr (.inl g)))]) (av := [.ref q, .long (f i), .long (g i)]) (va_runV (As := [.long (f i), .long (g i)]) (rest := []) ⟨hx, hb, hml, hown, hw⟩ (cc_W_writeFirst l D cJ cB q qb qw qf lt ls0 lv0 w (cp_pk f g i).1 (f i) (g i) _ (by omega) hR (by subst c_27; exact hf0 (by omega))) (cwV 2 hw (tb_V wi_291 wi_293 wi_1 wi_31 wi_294) rfl rfl rfl (by decide +kernel) ⟨Nat.le_of_ble_eq_true rfl, Nat.le_of_ble_eq_true rfl⟩) ⟨ct_blind, ct_recv hK hP (q0 := 0) (ci := 4) rfl rfl, ct_pc hZ hK hP hD hS hA [0, 1, 2] rfl (by decide)⟩ rfl rfl hl.1 rfl (lv_room (Nat.le_of_ble_eq_true rfl)) dd_W_writeAll_35 ⟨Nat.le_of_ble_eq_true rfl, Nat.le_of_ble_eq_true rfl⟩) hK hP hD hS hA [0, 1, 2] [3, 4, 5, 6] rfl rfl (by decide) (by decide) (fun r_35 u_35 H locs hw_35 hP hD hS => ?_)
  obtain ⟨hr_35, hR_w1⟩ := hw_35
  subst hr_35
  obtain ⟨w1, h9⟩ : ∃ z, z = u_35 := ⟨_, rfl⟩
  rw [← h9] at hP hD hR_w1
  clear h9
  have eL : ((cp_pk f g i).1 ++ cp_bl (f i) 40) ++ cp_bl (g i) 64 = (cp_pk f g (i + 1)).1 := by subst c_27; rfl
  rw [eL] at hP hD hR_w1
  have eF : (cp_pk f g i).2 = (cp_pk f g (i + 1)).2 := by subst c_27; rfl
  rw [eF] at hP hD
  have hP : va_P D classes [(qf, .inr (1, [.int (nI ((cp_pk f g (i + 1)).2.1)), .int (nI ((cp_pk f g (i + 1)).2.2))])), (qp, .inr (2, [.ref qt, .ref qv, .int (nI n)])), (qt, .inl (cJ, 3000, .inr (.inl f))), (qv, .inl (cJ, 3000, .inr (.inl g))), (q, .inr (4, [.ref qb, .ref qf, .long lt, .long ls0, .long lv0])), (qb, .inr (0, [.ref qw, .int (nI ((cp_pk f g (i + 1)).1.length))])), (qw, .inl (cJ, 6250, .inr (.inl w1)))] H := hP
  have hD : va_D A [(qf, .inr (1, [.int (nI ((cp_pk f g (i + 1)).2.1)), .int (nI ((cp_pk f g (i + 1)).2.2))])), (qp, .inr (2, [.ref qt, .ref qv, .int (nI n)])), (qt, .inl (cJ, 3000, .inr (.inl f))), (qv, .inl (cJ, 3000, .inr (.inl g))), (q, .inr (4, [.ref qb, .ref qf, .long lt, .long ls0, .long lv0])), (qb, .inr (0, [.ref qw, .int (nI ((cp_pk f g (i + 1)).1.length))])), (qw, .inl (cJ, 6250, .inr (.inl w1)))] := hD
  refine lv_goto (tgt := 49) hx hb dd_W_writeAll_38 (by decide) ?_
  refine lv_istore (lv' := [(8, .int (nI 1)), (6, .long (g i)), (4, .long (f i)), (0, .ref q), (1, .ref qp), (2, .int (nI n)), (3, .int (nI i))]) hx hb dd_W_writeAll_49 hl (by decide) rfl (fun ls hl => ?_)
  refine lv_iload hx hb dd_W_writeAll_51 (lv_at hl 0 rfl) ?_
  refine lv_if_ne (tgt := 58) hx hb dd_W_writeAll_53 (by decide) (fun c_53 => ?_) (fun c_53 => ?_)
  · skip
    have c_53 : ¬ (1 = 0) := fun z => c_53 ((ct_zeq (by omega)).mpr z)
    refine lv_aload_n hx hb dd_W_writeAll_58 rfl (lv_at hl 3 rfl) ?_
    refine lv_lload hx hb dd_W_writeAll_59 (lv_at hl 2 rfl) ?_
    refine va_put (D := D) (ci := 4) (v := .long (f i)) (ty := .long) (C := cn_W) (T := cf_W) (N := 5) hx hb hw in_W ty_W to_W nn_W hown hK hP hD hS 4 rfl rfl 2 (by decide) (hw _ wi_248) (fun _ h9 => h9) rfl (by decide +kernel) (rfl) (rfl) (Nat.le_of_ble_eq_true rfl) dd_W_writeAll_61 (fun H locs hP hD hS => ?_)
    have hP : va_P D classes [(qf, .inr (1, [.int (nI ((cp_pk f g (i + 1)).2.1)), .int (nI ((cp_pk f g (i + 1)).2.2))])), (qp, .inr (2, [.ref qt, .ref qv, .int (nI n)])), (qt, .inl (cJ, 3000, .inr (.inl f))), (qv, .inl (cJ, 3000, .inr (.inl g))), (q, .inr (4, [.ref qb, .ref qf, .long (f i), .long ls0, .long lv0])), (qb, .inr (0, [.ref qw, .int (nI ((cp_pk f g (i + 1)).1.length))])), (qw, .inl (cJ, 6250, .inr (.inl w1)))] H := hP
    have hD : va_D A [(qf, .inr (1, [.int (nI ((cp_pk f g (i + 1)).2.1)), .int (nI ((cp_pk f g (i + 1)).2.2))])), (qp, .inr (2, [.ref qt, .ref qv, .int (nI n)])), (qt, .inl (cJ, 3000, .inr (.inl f))), (qv, .inl (cJ, 3000, .inr (.inl g))), (q, .inr (4, [.ref qb, .ref qf, .long (f i), .long ls0, .long lv0])), (qb, .inr (0, [.ref qw, .int (nI ((cp_pk f g (i + 1)).1.length))])), (qw, .inl (cJ, 6250, .inr (.inl w1)))] := hD
    refine lv_aload_n hx hb dd_W_writeAll_64 rfl (lv_at hl 3 rfl) ?_
    refine lv_lload hx hb dd_W_writeAll_65 (lv_at hl 1 rfl) ?_
    refine va_put (D := D) (ci := 4) (v := .long (g i)) (ty := .long) (C := cn_W) (T := cf_W) (N := 5) hx hb hw in_W ty_W to_W nn_W hown hK hP hD hS 4 rfl rfl 4 (by decide) (hw _ wi_250) (fun _ h9 => h9) rfl (by decide +kernel) (rfl) (rfl) (Nat.le_of_ble_eq_true rfl) dd_W_writeAll_67 (fun H locs hP hD hS => ?_)
    have hP : va_P D classes [(qf, .inr (1, [.int (nI ((cp_pk f g (i + 1)).2.1)), .int (nI ((cp_pk f g (i + 1)).2.2))])), (qp, .inr (2, [.ref qt, .ref qv, .int (nI n)])), (qt, .inl (cJ, 3000, .inr (.inl f))), (qv, .inl (cJ, 3000, .inr (.inl g))), (q, .inr (4, [.ref qb, .ref qf, .long (f i), .long ls0, .long (g i)])), (qb, .inr (0, [.ref qw, .int (nI ((cp_pk f g (i + 1)).1.length))])), (qw, .inl (cJ, 6250, .inr (.inl w1)))] H := hP
    have hD : va_D A [(qf, .inr (1, [.int (nI ((cp_pk f g (i + 1)).2.1)), .int (nI ((cp_pk f g (i + 1)).2.2))])), (qp, .inr (2, [.ref qt, .ref qv, .int (nI n)])), (qt, .inl (cJ, 3000, .inr (.inl f))), (qv, .inl (cJ, 3000, .inr (.inl g))), (q, .inr (4, [.ref qb, .ref qf, .long (f i), .long ls0, .long (g i)])), (qb, .inr (0, [.ref qw, .int (nI ((cp_pk f g (i + 1)).1.length))])), (qw, .inl (cJ, 6250, .inr (.inl w1)))] := hD
    refine lv_iinc (v := nI (i + 1)) (lv' := [(3, .int (nI (i + 1))), (8, .int (nI 1)), (6, .long (g i)), (4, .long (f i)), (0, .ref q), (1, .ref qp), (2, .int (nI n))]) hx hb dd_W_writeAll_70 hl (k := 6) rfl (nI_1 i) (by decide) rfl (fun ls hl => ?_)
    refine lv_goto (tgt := 7) hx hb dd_W_writeAll_73 (by decide) ?_
    refine ih (i + 1, f i, ls0, g i, w1) _ _ _ (by show n - (i + 1) < n - i; omega) ⟨hP.sub [4, 5, 6, 0, 1, 2, 3] rfl, hD.sub [4, 5, 6, 0, 1, 2, 3] (by decide) rfl, hS, lv_sub hl [4, 5, 6, 0] rfl, by omega, hR_w1, fun _ => ⟨rfl, rfl⟩, by subst c_27; exact hls⟩
  have c_53 : 1 = 0 := (ct_zeq (by omega)).mp c_53
  exfalso
  omega
end
