section
-- ===== PART A: goes FIRST, ahead of the names: the tables' words, and 'selects' of the private methods out of them =====
/-- a private method of a class that the tables say can be made, by its rows of tables_1 -/
def lw_okq (q : MethodName × Nat) : Prop := (q.1.cls ≠ "java/lang/invoke/MethodHandle" ∧ q.1.cls ≠ "java/lang/invoke/VarHandle") ∧ Cond.instantiable q.1.cls q.2 ∈ tables_1 ∧ Cond.privateMethod q.1 ∈ tables_1 ∧ Cond.instanceMethod q.1 ∈ tables_1
theorem lw_p0 : lw_okq (⟨"java/lang/Throwable", "fillInStackTrace", "(I)Ljava/lang/Throwable;"⟩, 6) := ⟨⟨by decide +kernel, by decide +kernel⟩, List.mem_of_getElem? (i := 164) (by decide +kernel), List.mem_of_getElem? (i := 162) (by decide +kernel), List.mem_of_getElem? (i := 163) (by decide +kernel)⟩
theorem lw_p1 : lw_okq (⟨"TideTable", "numberOf", "(I)I"⟩, 5) := ⟨⟨by decide +kernel, by decide +kernel⟩, List.mem_of_getElem? (i := 24) (by decide +kernel), List.mem_of_getElem? (i := 242) (by decide +kernel), List.mem_of_getElem? (i := 243) (by decide +kernel)⟩
theorem lw_p2 : lw_okq (⟨"TideTable", "currentTable", "()LTideTable$Table;"⟩, 5) := ⟨⟨by decide +kernel, by decide +kernel⟩, List.mem_of_getElem? (i := 24) (by decide +kernel), List.mem_of_getElem? (i := 247) (by decide +kernel), List.mem_of_getElem? (i := 248) (by decide +kernel)⟩
theorem lw_p3 : lw_okq (⟨"TideTable$Table", "findWaters", "()V"⟩, 5) := ⟨⟨by decide +kernel, by decide +kernel⟩, List.mem_of_getElem? (i := 72) (by decide +kernel), List.mem_of_getElem? (i := 256) (by decide +kernel), List.mem_of_getElem? (i := 257) (by decide +kernel)⟩
theorem lw_p4 : lw_okq (⟨"TideTable$Table", "noteWater", "(IIZ)V"⟩, 5) := ⟨⟨by decide +kernel, by decide +kernel⟩, List.mem_of_getElem? (i := 72) (by decide +kernel), List.mem_of_getElem? (i := 260) (by decide +kernel), List.mem_of_getElem? (i := 261) (by decide +kernel)⟩
theorem lw_p5 : lw_okq (⟨"TideTable$Table", "greatestHeight", "()I"⟩, 5) := ⟨⟨by decide +kernel, by decide +kernel⟩, List.mem_of_getElem? (i := 72) (by decide +kernel), List.mem_of_getElem? (i := 300) (by decide +kernel), List.mem_of_getElem? (i := 301) (by decide +kernel)⟩
theorem lw_p6 : lw_okq (⟨"TideTable$Table", "leastHeight", "()I"⟩, 5) := ⟨⟨by decide +kernel, by decide +kernel⟩, List.mem_of_getElem? (i := 72) (by decide +kernel), List.mem_of_getElem? (i := 312) (by decide +kernel), List.mem_of_getElem? (i := 313) (by decide +kernel)⟩
theorem lw_p7 : lw_okq (⟨"TideTable$Table", "meanOfWaters", "(Z)I"⟩, 5) := ⟨⟨by decide +kernel, by decide +kernel⟩, List.mem_of_getElem? (i := 72) (by decide +kernel), List.mem_of_getElem? (i := 319) (by decide +kernel), List.mem_of_getElem? (i := 320) (by decide +kernel)⟩
theorem lw_p8 : lw_okq (⟨"TideTable$Table", "greatestDifference", "()I"⟩, 5) := ⟨⟨by decide +kernel, by decide +kernel⟩, List.mem_of_getElem? (i := 72) (by decide +kernel), List.mem_of_getElem? (i := 328) (by decide +kernel), List.mem_of_getElem? (i := 329) (by decide +kernel)⟩
theorem lw_p9 : lw_okq (⟨"java/util/ArrayList", "add", "(Ljava/lang/Object;[Ljava/lang/Object;I)V"⟩, 3) := ⟨⟨by decide +kernel, by decide +kernel⟩, List.mem_of_getElem? (i := 38) (by decide +kernel), List.mem_of_getElem? (i := 392) (by decide +kernel), List.mem_of_getElem? (i := 393) (by decide +kernel)⟩
theorem lw_p10 : lw_okq (⟨"java/util/ArrayList", "grow", "()[Ljava/lang/Object;"⟩, 3) := ⟨⟨by decide +kernel, by decide +kernel⟩, List.mem_of_getElem? (i := 38) (by decide +kernel), List.mem_of_getElem? (i := 396) (by decide +kernel), List.mem_of_getElem? (i := 397) (by decide +kernel)⟩
theorem lw_p11 : lw_okq (⟨"java/util/ArrayList", "grow", "(I)[Ljava/lang/Object;"⟩, 3) := ⟨⟨by decide +kernel, by decide +kernel⟩, List.mem_of_getElem? (i := 38) (by decide +kernel), List.mem_of_getElem? (i := 400) (by decide +kernel), List.mem_of_getElem? (i := 401) (by decide +kernel)⟩
theorem lw_p12 : lw_okq (⟨"TideTable", "hasPort", "(I)Z"⟩, 5) := ⟨⟨by decide +kernel, by decide +kernel⟩, List.mem_of_getElem? (i := 24) (by decide +kernel), List.mem_of_getElem? (i := 445) (by decide +kernel), List.mem_of_getElem? (i := 446) (by decide +kernel)⟩
def lw_privs_1 : List (MethodName × Nat) := [(⟨"java/lang/Throwable", "fillInStackTrace", "(I)Ljava/lang/Throwable;"⟩, 6), (⟨"TideTable", "numberOf", "(I)I"⟩, 5), (⟨"TideTable", "currentTable", "()LTideTable$Table;"⟩, 5), (⟨"TideTable$Table", "findWaters", "()V"⟩, 5), (⟨"TideTable$Table", "noteWater", "(IIZ)V"⟩, 5), (⟨"TideTable$Table", "greatestHeight", "()I"⟩, 5), (⟨"TideTable$Table", "leastHeight", "()I"⟩, 5), (⟨"TideTable$Table", "meanOfWaters", "(Z)I"⟩, 5), (⟨"TideTable$Table", "greatestDifference", "()I"⟩, 5), (⟨"java/util/ArrayList", "add", "(Ljava/lang/Object;[Ljava/lang/Object;I)V"⟩, 3), (⟨"java/util/ArrayList", "grow", "()[Ljava/lang/Object;"⟩, 3), (⟨"java/util/ArrayList", "grow", "(I)[Ljava/lang/Object;"⟩, 3), (⟨"TideTable", "hasPort", "(I)Z"⟩, 5)]
theorem lw_r1 : ∀ q ∈ lw_privs_1, lw_okq q := List.forall_mem_cons.mpr ⟨lw_p0, List.forall_mem_cons.mpr ⟨lw_p1, List.forall_mem_cons.mpr ⟨lw_p2, List.forall_mem_cons.mpr ⟨lw_p3, List.forall_mem_cons.mpr ⟨lw_p4, List.forall_mem_cons.mpr ⟨lw_p5, List.forall_mem_cons.mpr ⟨lw_p6, List.forall_mem_cons.mpr ⟨lw_p7, List.forall_mem_cons.mpr ⟨lw_p8, List.forall_mem_cons.mpr ⟨lw_p9, List.forall_mem_cons.mpr ⟨lw_p10, List.forall_mem_cons.mpr ⟨lw_p11, List.forall_mem_cons.mpr ⟨lw_p12, fun _ h => absurd h List.not_mem_nil⟩⟩⟩⟩⟩⟩⟩⟩⟩⟩⟩⟩⟩
def lw_privs : List (MethodName × Nat) := lw_privs_1
def lw_tbl : List Cond := k2_sels lw_privs ++ tables_1
theorem lw_privs_ok : ∀ q ∈ lw_privs, lw_okq q := lw_r1
-- ===== end of PART A; then your names; then what follows =====
end
section
/-! ===== BEGIN words of one list among another's, by their places ===== -/
theorem goodIn_r {big : List Cond} (ws : List Cond) (ps : List Nat) (hp : ws = ps.filterMap (fun i => big[i]?)) (h : ws.all goodWord = true) : GoodIn big ws := by
  intro w hw
  have h1 := List.all_eq_true.mp h w hw
  rw [hp] at hw
  obtain ⟨i, -, hi⟩ := List.mem_filterMap.mp hw
  have hm : w ∈ big := by first | exact List.mem_of_getElem? hi | exact List.getElem?_mem hi
  exact ⟨hm, good_of_word h1⟩
theorem goodIn_app {big a b : List Cond} (ha : GoodIn big a) (hb : GoodIn big b) : GoodIn big (a ++ b) := fun w h => (List.mem_append.mp h).elim (ha w) (hb w)
theorem goodIn_ca {big a b : List Cond} {c : Cond} (ha : GoodIn big (c :: a)) (hb : GoodIn big b) : GoodIn big (c :: (a ++ b)) := fun w h => (List.mem_cons.mp h).elim (fun e => ha w (List.mem_cons.mpr (Or.inl e))) (fun h => (List.mem_append.mp h).elim (fun h => ha w (List.mem_cons.mpr (Or.inr h))) (hb w))
theorem goodIn_sub {big ws : List Cond} (hm : ∀ w ∈ ws, w ∈ big) (h : ws.all goodWord = true) : GoodIn big ws := fun w hw => ⟨hm w hw, good_of_word (List.all_eq_true.mp h w hw)⟩
/-! ===== END ===== -/

/-! ===== BEGIN exceptions that leave a method, and their catching by the caller (launches without stack traces) ===== -/
section VXA
/-! The laws vx_back, vx_callV, vx_callS, vx_callSW, vx_throw0, vx_throwS follow proofs of the library, with one case more: JvmDerived/Free/Laws.lean (Back.of_free), Shelf42/LK1.lean (callV, callS), Shelf/KitTraced.lean (throwNew0V, throwNewS). -/
/-- where a method has thrown q: the class by its name, the cell, what was written, the world -/
def vx_T (XC : String → State → State → Prop) (st : State) (q : Addr) (t : State) (mc ms : Nat) (free : Addr → Prop) : Prop :=
  ∃ (E : String) (ce : Cell) (L : List Loc), XC E st t ∧ t.heap[q]? = some ce ∧ ce.vm = .none ∧ st.vm.findClass E = some ce.cls ∧ st.WarmedH t.vm ∧ st.sameButNew ({ t with vm := st.vm } : State) L mc ms ∧ ∀ z ∈ L, free z.base
def vx_Q (Qc : Array Value → State → Outcome → State → Prop) (XC : String → State → State → Prop) (mc ms : Nat) (free : Addr → Prop) : Array Value → State → Outcome → State → Prop := fun a st o t =>
  (Qc a st o t ∧ ∃ L, FrameEnd st o t L mc ms ∧ ∀ q ∈ L, free q.base) ∨ ∃ q, o = .threw q ∧ vx_T XC st q t mc ms free
/-- a callee that returns or throws -/
def vx_Met (l : Launch) (y : MethodName) (ws : List Cond) (rm : Room) (Pc : Array Value → State → Prop) (Qc : Array Value → State → Outcome → State → Prop) (XC : String → State → State → Prop) (mc ms : Nat) (free : Addr → Prop) : Prop :=
  MetFree l y (headSpec ws rm) Pc (fun _ _ _ _ _ => True) (vx_Q Qc XC mc ms free)
def vx_Post (XC : String → State → State → Prop) (mc ms : Nat) (free : Addr → Prop) : Pt → Array Value → Addr → Pt → Prop := fun A a q B =>
  ∃ (g : JFrame) (mk : MethodId) (t : State) (L : List Loc) (E : String) (ce : Cell), B.U.heap = t.heap ∧ B.U.vm = t.vm ∧ XC E (A.U.calling g mk a) t ∧ t.heap[q]? = some ce ∧ ce.vm = .none ∧ A.U.vm.findClass E = some ce.cls ∧ B.locs = A.locs ++ L ∧ (∀ z ∈ L, free z.base) ∧ B.cells = A.cells + mc ∧ B.slots = A.slots + ms
def vx_Back (l : Launch) (R : Room) (p : Program) (e : Env) (below : List Frame) (s : State) (sargs : Array Value) (y : MethodName) (len W9 : Nat)
    (Pre : Pt → Array Value → Prop) (Post : Pt → Array Value → Option Value → Pt → Prop) (PostX : Pt → Array Value → Addr → Pt → Prop) : Prop :=
  ∀ (m : MethodId) (meth : Method) (c : Code) (A : Pt) (g : JFrame) (ig : Instr) (mk : MethodId) (a : Array Value),
    Stand p l e R s m sargs below meth c A.U A.locs A.cells A.slots → g.method = m → g.locals.size = c.maxLocals → decode c.code g.pc = .ok (ig, len) →
    2 * g.monitorRoom + (g.stack.map fun v => v.category).sum ≤ W9 → A.U.methodNamed? y = some mk → Pre A a →
    (∃ (v : Option Value) (B : Pt), Stand p l e R s m sargs below meth c B.U B.locs B.cells B.slots ∧ Post A a v B ∧
      Steps p.tables e below (doInvoke e (A.U.setTop g) [] mk a).1 (B.U.setTop { g with pc := g.pc + len, stack := v.toList ++ g.stack })) ∨
    (∃ (q : Addr) (B : Pt), Stand p l e R s m sargs below meth c B.U B.locs B.cells B.slots ∧ PostX A a q B ∧
      Steps p.tables e below (doInvoke e (A.U.setTop g) [] mk a).1 ((B.U.setTop g).pushFrame (.throwing q)))
section Payer
variable {l : Launch} {R : Room} {p : Program} {e : Env} {below : List Frame} {s : State} {sargs : Array Value} {y : MethodName} {len W9 : Nat}
theorem vx_back {ws : List Cond} {rm : Room} {Pc : Array Value → State → Prop} {Qc : Array Value → State → Outcome → State → Prop} {XC : String → State → State → Prop} {mc ms : Nat} {free : Addr → Prop} {bytes : ByteArray} {maxL : Nat} {ret : Option FieldType}
    (hM : vx_Met l y ws rm Pc Qc XC mc ms free) (hblind : FrameBlind Pc) (hrc : rm.cells = mc) (hrs : rm.slots = ms)
    (hframes : rm.frames + 1 ≤ R.frames) (hlocals : W9 + (maxL + 11) + rm.locals ≤ R.locals)
    (hws : ∀ w ∈ ws, ∀ a' U, s.WarmedH U.vm → w.before a' U = true) (hcode : Cond.code y bytes maxL ret ∈ ws) (hinit : ∀ a' U, s.WarmedH U.vm → (Cond.initialized y.cls).before a' U = true) :
    vx_Back l R p e below s sargs y len W9 (PreOf R mc ms Pc) (PostOf Qc mc ms free) (vx_Post XC mc ms free) := by
  intro m meth c A g ig mk a X hg hsize hdg hW hn hp
  have h1 : (headSpec ws rm).pre.before a A.U = true := atoms_intro fun w hw => hws w hw _ _ X.warmed
  have h2 : (Cond.code y bytes maxL ret).before a A.U = true := hws _ hcode _ _ X.warmed
  have h3 : (Cond.initialized y.cls).before a A.U = true := hinit _ _ X.warmed
  have h4 : A.cells + (headSpec ws rm).room.cells ≤ R.cells := by rw [show (headSpec ws rm).room.cells = mc from hrc]; exact hp.1
  have h5 : A.slots + (headSpec ws rm).room.slots ≤ R.slots := by rw [show (headSpec ws rm).room.slots = ms from hrs]; exact hp.2.1
  have hPc : Pc a (A.U.calling g mk a) := hblind _ _ _ _ hp.2.2
  obtain ⟨U, Ls, c0, s0⟩ := A
  dsimp only [Pt.U, Pt.locs, Pt.cells, Pt.slots] at h1 h2 h3 h4 h5 X hn hPc ⊢
  obtain ⟨methY, cY, hmY, hcY, -, hlY, -, -, -, -⟩ := Cond.code_spec hn h2
  obtain ⟨kY, hkY, -⟩ := className_of_methodNamed hn
  have hinitY : kY.init = .initialized := Cond.initialized_spec (findClass_of_methodNamed hn) hkY h3
  have h : At U g.method c below := by rw [hg]; exact X.here
  have hlocals9 : W9 + (maxL + 11) + (headSpec ws rm).room.locals ≤ R.locals := hlocals
  have happ : (headSpec ws rm).appliesLoose y e.platform (U.calling g mk a) = true :=
    Spec.appliesLoose_calling (g := g) h hdg hn hkY hinitY
      (X.room_calling (g := g) (R' := (headSpec ws rm).room) hsize hmY hcY hframes (by rw [hlY]; omega) h4 h5) h1
  obtain ⟨mid, hmid⟩ := h.above
  have hfr : (U.setTop g).frames = (.java g :: mid) ++ below := by rw [State.frames_setTop' g h.top, hmid]; rfl
  obtain ⟨o, s₂, hsteps, -, hend, hq⟩ := Steps.callFree hM p X.admits X.cas X.clock (acts := []) hfr happ hPc trivial
  have hq' : vx_Q Qc XC mc ms free a (U.calling g mk a) o s₂ := hq
  rw [State.frames_setTop' g h.top] at hend
  obtain ⟨g₀, hg0⟩ := Option.isSome_iff_exists.mp h.top
  obtain ⟨r, hr⟩ := State.topJava?_eq_some.mp hg0
  have hr' : (({ U with heap := s₂.heap, slotsUsed := s₂.slotsUsed } : State).setVm s₂.vm).frames = .java g₀ :: r := hr
  rcases hq' with ⟨hqc, L, hfe, hL⟩ | ⟨q, rfl, E, ce, L, hx, hce, hcv, hcl, hW₂, hsm, hL⟩
  · obtain ⟨⟨v, rfl⟩, hW₂, e2, q2, q3, q4, q5, q6⟩ := id hfe
    have e3 : s₂ = ({ (U.calling g mk a).setFrames s₂.frames with heap := s₂.heap, slotsUsed := s₂.slotsUsed } : State).setVm s₂.vm := by
      have : s₂ = ({ s₂ with vm := (U.calling g mk a).vm } : State).setVm s₂.vm := rfl
      rw [e2] at this
      exact this
    obtain ⟨c₂, i₂, len₂, hc₂, hd₂, hf₂⟩ := hend
    have hW' : U.WarmedH s₂.vm := hW₂
    have hcc : c₂ = c := by
      have h1 : s₂.code? g.method = U.code? g.method := by
        rw [State.code?_eq, State.code?_eq, hW'.alike.method?]
      exact Option.some.inj (hc₂.symm.trans (h1.trans h.code))
    subst hcc
    have hlen : len₂ = len := by rw [hdg] at hd₂; cases hd₂; rfl
    subst hlen
    have hs₂ : s₂ = (({ U with heap := s₂.heap, slotsUsed := s₂.slotsUsed } : State).setVm s₂.vm).setTop { g with pc := g.pc + len₂, stack := v.toList ++ g.stack } := by
      refine e3.trans ?_
      rw [hf₂, State.calling_eq h.top, State.setFrames_setFrames, State.setTop_of_frames _ hr', hr]
      rfl
    have hsame : U.sameButNew ({ U with heap := s₂.heap, slotsUsed := s₂.slotsUsed } : State) L mc ms := by
      refine ⟨?_, q2, q3, q4, q5, q6⟩
      obtain ⟨t, ht, -⟩ := State.frames_cons hr
      show ({ U with heap := s₂.heap, slotsUsed := s₂.slotsUsed } : State) = { U.setFrames U.frames with heap := s₂.heap, slotsUsed := s₂.slotsUsed }
      rw [State.setFrames_self ht]
    subst hg
    refine Or.inl ⟨v, ⟨(({ U with heap := s₂.heap, slotsUsed := s₂.slotsUsed } : State).setVm s₂.vm), Ls ++ L, c0 + mc, s0 + ms⟩,
      ⟨X.admits, X.cas, X.clock, X.frames, X.room, X.hears, X.method, X.code, (X.here.setHeapUsed s₂.heap s₂.slotsUsed).setVm hW'.alike, X.tail, State.WarmedH.trans X.warmed hW', X.limits, X.bytes, X.same.trans (hsame.setVm s.vm)⟩,
      ⟨g, mk, s₂, L, rfl, rfl, hqc, rfl, hL, rfl, rfl⟩, ?_⟩
    show Steps p.tables e below _ ((({ U with heap := s₂.heap, slotsUsed := s₂.slotsUsed } : State).setVm s₂.vm).setTop { g with pc := g.pc + len₂, stack := v.toList ++ g.stack })
    rw [← hs₂]
    exact hsteps
  · obtain ⟨e2, q2, q3, q4, q5, q6⟩ := id hsm
    have e3 : s₂ = ({ (U.calling g mk a).setFrames s₂.frames with heap := s₂.heap, slotsUsed := s₂.slotsUsed } : State).setVm s₂.vm := by
      have : s₂ = ({ s₂ with vm := (U.calling g mk a).vm } : State).setVm s₂.vm := rfl
      rw [e2] at this
      exact this
    have hf₂ : s₂.frames = .throwing q :: .java g :: U.frames.tail := hend
    have hW' : U.WarmedH s₂.vm := hW₂
    have hs₂ : s₂ = ((({ U with heap := s₂.heap, slotsUsed := s₂.slotsUsed } : State).setVm s₂.vm).setTop g).pushFrame (.throwing q) := by
      refine e3.trans ?_
      rw [hf₂, State.calling_eq h.top, State.setFrames_setFrames, State.pushFrame, State.frames_setTop _ hr', State.setTop_of_frames _ hr', State.setFrames_setFrames, hr]
      rfl
    have hsame : U.sameButNew ({ U with heap := s₂.heap, slotsUsed := s₂.slotsUsed } : State) L mc ms := by
      refine ⟨?_, q2, q3, q4, q5, q6⟩
      obtain ⟨t, ht, -⟩ := State.frames_cons hr
      show ({ U with heap := s₂.heap, slotsUsed := s₂.slotsUsed } : State) = { U.setFrames U.frames with heap := s₂.heap, slotsUsed := s₂.slotsUsed }
      rw [State.setFrames_self ht]
    subst hg
    refine Or.inr ⟨q, ⟨(({ U with heap := s₂.heap, slotsUsed := s₂.slotsUsed } : State).setVm s₂.vm), Ls ++ L, c0 + mc, s0 + ms⟩,
      ⟨X.admits, X.cas, X.clock, X.frames, X.room, X.hears, X.method, X.code, (X.here.setHeapUsed s₂.heap s₂.slotsUsed).setVm hW'.alike, X.tail, State.WarmedH.trans X.warmed hW', X.limits, X.bytes, X.same.trans (hsame.setVm s.vm)⟩,
      ⟨g, mk, s₂, L, E, ce, rfl, rfl, hx, hce, hcv, hcl, rfl, hL, rfl, rfl⟩, ?_⟩
    show Steps p.tables e below _ (((({ U with heap := s₂.heap, slotsUsed := s₂.slotsUsed } : State).setVm s₂.vm).setTop g).pushFrame (.throwing q))
    rw [← hs₂]
    exact hsteps
end Payer
section Calls
variable {p : Program} {l : Launch} {e : Env} {R : Room} {s : State} {m : MethodId} {args : Array Value} {below : List Frame} {meth : Method} {c : Code} {T : State} {locs : List Loc} {cells slots : Nat}
theorem vx_callV (X : Stand p l e R s m args below meth c T locs cells slots) (hexec : p.tables.exec = Jvm.exec) {own C : String} {index : Nat} {y : MethodName} {bytes : ByteArray} {maxL : Nat} {ret : Option FieldType}
    (hown : s.vm.findClass own = some m.cls) (hlink : (Cond.methodLink own index y).before args s = true) (hinst : (Cond.instanceMethod y).before args s = true) (hsel : (Cond.selects C y y).before args s = true)
    (hcode : (Cond.code y bytes maxL ret).before args s = true) (hy : y.cls ≠ "java/lang/invoke/MethodHandle" ∧ y.cls ≠ "java/lang/invoke/VarHandle")
    {W9 : Nat} {Pre : Pt → Array Value → Prop} {Post : Pt → Array Value → Option Value → Pt → Prop} {PostX : Pt → Array Value → Addr → Pt → Prop} (hK : vx_Back l R p e below s args y 3 W9 Pre Post PostX)
    {b : Addr} {cellB : Cell} (hcell : T.heap[b]? = some cellB) (hobj : cellB.vm.isStatics = false) (hcls : s.vm.findClass C = some cellB.cls)
    {g : JFrame} (hg : g.method = m) (hsize : g.locals.size = c.maxLocals) {argsL rest : List Value} (hlen : ∀ sig, parseMethodDescriptor y.desc = some sig → argsL.length = sig.parameters.length)
    (hstack : g.stack = argsL.reverse ++ .ref b :: rest) (hW : 2 * g.monitorRoom + (rest.map fun v => v.category).sum ≤ W9) (hdg : decode c.code g.pc = .ok (.invokevirtual index, 3))
    (hpre : ∀ vm₁, s.WarmedH vm₁ → Pre ⟨T.setVm vm₁, locs, cells, slots⟩ (Value.ref b :: argsL).toArray) :
    (∃ (v : Option Value) (vm₁ : Vm) (B : Pt), s.WarmedH vm₁ ∧ Stand p l e R s m args below meth c B.U B.locs B.cells B.slots ∧ Post ⟨T.setVm vm₁, locs, cells, slots⟩ (Value.ref b :: argsL).toArray v B ∧
      ∀ target, Steps p.tables e below (B.U.setTop { g with pc := g.pc + 3, stack := v.toList ++ rest }) target → Steps p.tables e below (T.setTop g) target) ∨
    (∃ (q : Addr) (vm₁ : Vm) (B : Pt), s.WarmedH vm₁ ∧ Stand p l e R s m args below meth c B.U B.locs B.cells B.slots ∧ PostX ⟨T.setVm vm₁, locs, cells, slots⟩ (Value.ref b :: argsL).toArray q B ∧
      Steps p.tables e below (T.setTop g) ((B.U.setTop { g with stack := rest }).pushFrame (.throwing q))) := by
  obtain ⟨mk, methM, hnamed, hmethM, hstM, habM⟩ := Cond.instanceMethod_spec hinst
  obtain ⟨methM', cM, hmethM', -, -, -, -, -, -, hsigM⟩ := Cond.code_spec hnamed hcode
  cases hmethM.symm.trans hmethM'
  obtain ⟨c2, r2, m2, q1, q2, q3, q4, kP, hkP, hkPi⟩ := Cond.selects_spec hsel
  cases hcls.symm.trans q1
  cases (State.methodFound?_of_named hnamed hy).symm.trans q2
  cases hnamed.symm.trans q3
  have hselP : selectMethod e.platform s.vm cellB.cls mk = .method mk := by rw [Launch.admits_selectMethod X.admits]; exact q4
  obtain ⟨vm₁, X₁, hstep₁⟩ := X.invokevirtual hexec hown hlink hnamed hmethM hstM hkP hkPi hy (a := b) (cell := cellB) hcell
    (fun z h => by rw [h] at hobj; cases hobj) hselP hmethM habM hkP hkPi (g := g) hg (argsL := argsL) (rest := rest) (hlen _ hsigM) hstack hdg
  rcases hK m meth c ⟨T.setVm vm₁, locs, cells, slots⟩ { g with stack := rest } (.invokevirtual index) mk (Value.ref b :: argsL).toArray X₁ hg hsize hdg hW (X₁.named hnamed) (hpre vm₁ X₁.warmed) with ⟨v, B, X', hpost, hsteps⟩ | ⟨q, B, X', hpost, hsteps⟩
  · exact Or.inl ⟨v, vm₁, B, X₁.warmed, X', hpost, fun target h => hstep₁ _ fun acts => by rw [doInvoke_state]; exact hsteps.trans h⟩
  · exact Or.inr ⟨q, vm₁, B, X₁.warmed, X', hpost, hstep₁ _ fun acts => by rw [doInvoke_state]; exact hsteps⟩
theorem vx_callS (X : Stand p l e R s m args below meth c T locs cells slots) (hexec : p.tables.exec = Jvm.exec) {own : String} {index : Nat} {y : MethodName} {bytes : ByteArray} {maxL : Nat} {ret : Option FieldType}
    (hown : s.vm.findClass own = some m.cls) (hlink : (Cond.methodLink own index y).before args s = true) (hstat : (Cond.static y).before args s = true) (hinit : (Cond.initialized y.cls).before args s = true)
    (hcode : (Cond.code y bytes maxL ret).before args s = true) (hy : y.cls ≠ "java/lang/invoke/MethodHandle" ∧ y.cls ≠ "java/lang/invoke/VarHandle")
    {W9 : Nat} {Pre : Pt → Array Value → Prop} {Post : Pt → Array Value → Option Value → Pt → Prop} {PostX : Pt → Array Value → Addr → Pt → Prop} (hK : vx_Back l R p e below s args y 3 W9 Pre Post PostX)
    {g : JFrame} (hg : g.method = m) (hsize : g.locals.size = c.maxLocals) {argsL rest : List Value} (hlen : ∀ sig, parseMethodDescriptor y.desc = some sig → argsL.length = sig.parameters.length)
    (hstack : g.stack = argsL.reverse ++ rest) (hW : 2 * g.monitorRoom + (rest.map fun v => v.category).sum ≤ W9) (hdg : decode c.code g.pc = .ok (.invokestatic index, 3))
    (hpre : ∀ vm₁, s.WarmedH vm₁ → Pre ⟨T.setVm vm₁, locs, cells, slots⟩ argsL.toArray) :
    (∃ (v : Option Value) (vm₁ : Vm) (B : Pt), s.WarmedH vm₁ ∧ Stand p l e R s m args below meth c B.U B.locs B.cells B.slots ∧ Post ⟨T.setVm vm₁, locs, cells, slots⟩ argsL.toArray v B ∧
      ∀ target, Steps p.tables e below (B.U.setTop { g with pc := g.pc + 3, stack := v.toList ++ rest }) target → Steps p.tables e below (T.setTop g) target) ∨
    (∃ (q : Addr) (vm₁ : Vm) (B : Pt), s.WarmedH vm₁ ∧ Stand p l e R s m args below meth c B.U B.locs B.cells B.slots ∧ PostX ⟨T.setVm vm₁, locs, cells, slots⟩ argsL.toArray q B ∧
      Steps p.tables e below (T.setTop g) ((B.U.setTop { g with stack := rest }).pushFrame (.throwing q))) := by
  obtain ⟨mk, hnamed⟩ := Cond.code_named hcode
  obtain ⟨methM, cM, hmethM, -, -, -, -, -, -, hsigM⟩ := Cond.code_spec hnamed hcode
  have hstatic : methM.isStatic = true := Cond.static_spec hnamed hmethM hstat
  obtain ⟨kP, hkP, -⟩ := className_of_methodNamed hnamed
  have hinitP : kP.init = .initialized := Cond.initialized_spec (findClass_of_methodNamed hnamed) hkP hinit
  obtain ⟨vm₁, X₁, hstep₁⟩ := X.invokestatic hexec hown hlink hnamed hmethM hstatic hkP hinitP hy (g := g) hg (argsL := argsL) (rest := rest) (hlen _ hsigM) hstack hdg
  rcases hK m meth c ⟨T.setVm vm₁, locs, cells, slots⟩ { g with stack := rest } (.invokestatic index) mk argsL.toArray X₁ hg hsize hdg hW (X₁.named hnamed) (hpre vm₁ X₁.warmed) with ⟨v, B, X', hpost, hsteps⟩ | ⟨q, B, X', hpost, hsteps⟩
  · exact Or.inl ⟨v, vm₁, B, X₁.warmed, X', hpost, fun target h => hstep₁ _ fun acts => by rw [doInvoke_state]; exact hsteps.trans h⟩
  · exact Or.inr ⟨q, vm₁, B, X₁.warmed, X', hpost, hstep₁ _ fun acts => by rw [doInvoke_state]; exact hsteps⟩
end Calls
theorem vx_cls {s : State} {T : State} {vm₁ : Vm} {E : String} {k : ClassId} (hW : s.WarmedH vm₁) (h : (T.setVm vm₁).vm.findClass E = some k) : s.vm.findClass E = some k := by
  have h1 : vm₁.findClass E = some k := h
  rw [hW.alike.findClass] at h1
  exact h1
/-- the method's frame g, with q thrown over it -/
def vx_W (p : Program) (l : Launch) (e : Env) (R : Room) (s : State) (m : MethodId) (args : Array Value) (below : List Frame) (meth : Method) (c : Code) (H : Heap) (locs : List Loc) (cells slots : Nat) (Q : State → Prop) (g : JFrame) (q : Addr) : Prop :=
  ∀ T : State, T.heap = H → Stand p l e R s m args below meth c T locs cells slots → ∃ t, Steps p.tables e below ((T.setTop g).pushFrame (.throwing q)) t ∧ Q t
def vx_Run (p : Program) (l : Launch) (e : Env) (R : Room) (s : State) (m : MethodId) (args : Array Value) (below : List Frame) (meth : Method) (c : Code) (H : Heap) (locs : List Loc) (cells slots mc ms : Nat) (g : JFrame) (rest : List Value) (Qa : State → Outcome → State → Prop) (XC : String → State → State → Prop) (free : Addr → Prop) : Prop :=
  ∀ T : State, T.heap = H → Stand p l e R s m args below meth c T locs cells slots →
    (∃ (v : Option Value) (st₀ t T' : State) (L : List Loc), st₀.heap = H ∧ Stand p l e R s m args below meth c T' (locs ++ L) (cells + mc) (slots + ms) ∧ (∀ q ∈ L, free q.base) ∧ T'.heap = t.heap ∧ T'.vm = t.vm ∧ Qa st₀ (.returned v) t ∧
      Goes p e below T g T' { g with pc := g.pc + 3, stack := v.toList ++ rest }) ∨
    (∃ (q : Addr) (st₀ t T' : State) (L : List Loc) (E : String) (ce : Cell), st₀.heap = H ∧ Stand p l e R s m args below meth c T' (locs ++ L) (cells + mc) (slots + ms) ∧ (∀ z ∈ L, free z.base) ∧ T'.heap = t.heap ∧ T'.vm = t.vm ∧ XC E st₀ t ∧ t.heap[q]? = some ce ∧ ce.vm = .none ∧ s.vm.findClass E = some ce.cls ∧
      Steps p.tables e below (T.setTop g) ((T'.setTop { g with stack := rest }).pushFrame (.throwing q)))
def vx_X {S : Type} (px : S → Prop) (B : String → S → State → Prop) (A : Nat → Prop) : String → State → State → Prop := fun E st t => ∃ u : S, px u ∧ B E u t ∧ va_F A st t
section Runs
variable {p : Program} {l : Launch} {e : Env} {R : Room} {s : State} {m : MethodId} {args : Array Value} {below : List Frame} {meth : Method} {c : Code} {H : Heap} {locs : List Loc} {cells slots : Nat}
variable {y : MethodName} {bytes cc : ByteArray} {maxL nL mc ms n index : Nat} {ret : Option FieldType} {ws : List Cond} {rm : Room} {Pc : Array Value → State → Prop} {Qc : Array Value → State → Outcome → State → Prop} {XC : String → State → State → Prop} {free : Addr → Prop} {Ts : List Cond} {own C : String} {b : Addr} {As rest : List Value} {g : JFrame}
theorem vx_callBack (cb : CallB R s args own index y bytes maxL ret ws rm mc ms n) (hM : vx_Met l y ws rm Pc Qc XC mc ms free) (hbl : FrameBlind Pc) : vx_Back l R p e below s args y 3 8 (PreOf R mc ms Pc) (PostOf Qc mc ms free) (vx_Post XC mc ms free) := by
  obtain ⟨hrc, hrs, hfr, hlo, hws, hcw, -, hini, -⟩ := cb
  exact vx_back (bytes := bytes) (maxL := maxL) (ret := ret) hM hbl hrc hrs hfr hlo hws hcw (fun a' U hW => word_at hW (Or.inl (by first | rfl | simp [Cond.onTables, Cond.keeps, Cond.steady])) hini)
theorem vx_runV (S : CallFix p m c cc nL s args Ts own) (hM : vx_Met l y ws rm Pc Qc XC mc ms free) (cw : CallW R s args own C index y bytes maxL ret ws rm mc ms n) (hp : PreV s H C b Pc As)
    (hg : g.method = m) (hn : As.length = n) (hsize : g.locals.size = nL) (hstack : g.stack = As.reverse ++ .ref b :: rest) (hW : 2 * g.monitorRoom + (rest.map fun v => v.category).sum ≤ 8) (hdg : decode cc g.pc = .ok (.invokevirtual index, 3)) (hf : cells + mc ≤ R.cells ∧ slots + ms ≤ R.slots) :
    vx_Run p l e R s m args below meth c H locs cells slots mc ms g rest (Qc (Value.ref b :: As).toArray) XC free := by
  have hK : vx_Back l R p e below s args y 3 8 (PreOf R mc ms Pc) (PostOf Qc mc ms free) (vx_Post XC mc ms free) := vx_callBack cw.1 hM hp.1
  obtain ⟨⟨-, -, -, -, -, -, hcode, -, hy, hlen, hl⟩, hin, hse⟩ := cw
  obtain ⟨hx, hb, hml, ho, -⟩ := S
  obtain ⟨-, ⟨cellB, hcB, hoB, hclB⟩, hPc⟩ := hp
  intro T hT X
  rcases vx_callV X hx (C := C) (bytes := bytes) (maxL := maxL) (ret := ret) ho hl hin hse hcode hy hK (by rw [hT]; exact hcB) hoB hclB hg (hsize.trans hml.symm) (argsL := As) (rest := rest) (fun sig h => hn.trans (hlen sig h)) hstack hW (by rw [hb]; exact hdg)
    (fun vm₁ hW₁ => ⟨hf.1, hf.2, hPc (T.setVm vm₁) hT hW₁⟩) with ⟨v, vm₁, ⟨U', l2, c2, s2⟩, hW₁, X', ⟨g', mk, t, L, e1, e2, hq, h1, hL, h2, h3⟩, st⟩ | ⟨q, vm₁, ⟨U', l2, c2, s2⟩, hW₁, X', ⟨g', mk, t, L, E, ce, e1, e2, hq, hce, hcv, hcl, h1, hL, h2, h3⟩, st⟩
  · dsimp only [Pt.U, Pt.locs, Pt.cells, Pt.slots] at X' e1 e2 h1 h2 h3 st
    subst h1; subst h2; subst h3
    exact Or.inl ⟨v, (T.setVm vm₁).calling g' mk (Value.ref b :: As).toArray, t, U', L, hT, X', hL, e1, e2, hq, st⟩
  · dsimp only [Pt.U, Pt.locs, Pt.cells, Pt.slots] at X' e1 e2 h1 h2 h3 st hcl
    subst h1; subst h2; subst h3
    exact Or.inr ⟨q, (T.setVm vm₁).calling g' mk (Value.ref b :: As).toArray, t, U', L, E, ce, hT, X', hL, e1, e2, hq, hce, hcv, vx_cls hW₁ hcl, st⟩
theorem vx_runS (S : CallFix p m c cc nL s args Ts own) (hM : vx_Met l y ws rm Pc Qc XC mc ms free) (cw : CallB R s args own index y bytes maxL ret ws rm mc ms n ∧ (Cond.static y).before args s = true) (hp : PreS s H Pc As)
    (hg : g.method = m) (hn : As.length = n) (hsize : g.locals.size = nL) (hstack : g.stack = As.reverse ++ rest) (hW : 2 * g.monitorRoom + (rest.map fun v => v.category).sum ≤ 8) (hdg : decode cc g.pc = .ok (.invokestatic index, 3)) (hf : cells + mc ≤ R.cells ∧ slots + ms ≤ R.slots) :
    vx_Run p l e R s m args below meth c H locs cells slots mc ms g rest (Qc As.toArray) XC free := by
  have hK : vx_Back l R p e below s args y 3 8 (PreOf R mc ms Pc) (PostOf Qc mc ms free) (vx_Post XC mc ms free) := vx_callBack cw.1 hM hp.1
  obtain ⟨⟨-, -, -, -, -, -, hcode, hini, hy, hlen, hl⟩, hstt⟩ := cw
  obtain ⟨hx, hb, hml, ho, -⟩ := S
  intro T hT X
  rcases vx_callS X hx (bytes := bytes) (maxL := maxL) (ret := ret) ho hl hstt hini hcode hy hK hg (hsize.trans hml.symm) (argsL := As) (rest := rest) (fun sig h => hn.trans (hlen sig h)) hstack hW (by rw [hb]; exact hdg)
    (fun vm₁ hW₁ => ⟨hf.1, hf.2, hp.2 (T.setVm vm₁) hT hW₁⟩) with ⟨v, vm₁, ⟨U', l2, c2, s2⟩, hW₁, X', ⟨g', mk, t, L, e1, e2, hq, h1, hL, h2, h3⟩, st⟩ | ⟨q, vm₁, ⟨U', l2, c2, s2⟩, hW₁, X', ⟨g', mk, t, L, E, ce, e1, e2, hq, hce, hcv, hcl, h1, hL, h2, h3⟩, st⟩
  · dsimp only [Pt.U, Pt.locs, Pt.cells, Pt.slots] at X' e1 e2 h1 h2 h3 st
    subst h1; subst h2; subst h3
    exact Or.inl ⟨v, (T.setVm vm₁).calling g' mk As.toArray, t, U', L, hT, X', hL, e1, e2, hq, st⟩
  · dsimp only [Pt.U, Pt.locs, Pt.cells, Pt.slots] at X' e1 e2 h1 h2 h3 st hcl
    subst h1; subst h2; subst h3
    exact Or.inr ⟨q, (T.setVm vm₁).calling g' mk As.toArray, t, U', L, E, ce, hT, X', hL, e1, e2, hq, hce, hcv, vx_cls hW₁ hcl, st⟩
end Runs
section Rows
variable {p : Program} {l : Launch} {e : Env} {R : Room} {s : State} {m : MethodId} {args : Array Value} {below : List Frame} {meth : Method} {c : Code} {H : Heap} {locs : List Loc} {cells slots : Nat} {Q : State → Prop}
variable {mc ms : Nat} {free : Addr → Prop} {A0 A1 : Nat → Prop} {H0 : Heap} {a : Array Value} {pc : Nat} {ls : Array Slot} {st0 rest : List Value}
theorem vx_keep {st₀ t T' : State} {L : List Loc} (h0 : st₀.heap = H) (e1 : T'.heap = t.heap) (hS : va_S A0 H0 H locs) (hA : ∀ q, q < H.size → A1 q → A0 q) (hf : ∀ q, free q → A0 q) (hL : ∀ q ∈ L, free q.base) (hF : va_F A1 st₀ t) :
    H.size ≤ T'.heap.size ∧ (∀ q : Nat, q < H.size → ¬ A1 q → T'.heap[q]? = H[q]?) ∧ va_S A0 H0 T'.heap (locs ++ L) := by
  obtain ⟨hz, hk⟩ := hF
  rw [h0] at hz hk
  exact ⟨by rw [e1]; exact hz, fun q h1 h2 => by rw [e1]; exact hk q h1 h2,
    ⟨Nat.le_trans hS.1 (by rw [e1]; exact hz), fun q h1 h2 => by rw [e1, hk q (Nat.lt_of_lt_of_le h1 hS.1) (fun z => h2 (hA q (Nat.lt_of_lt_of_le h1 hS.1) z))]; exact hS.2.1 q h1 h2, fun q hq => by
      rcases List.mem_append.mp hq with h | h
      · exact hS.2.2 q h
      · exact hf _ (hL q h)⟩⟩
theorem vx_calli {S SX : Type} {post : Int32 → S → Prop} {px : SX → Prop} {B : S → State → Prop} {BX : String → SX → State → Prop} {AX : Nat → Prop} (hr : vx_Run p l e R s m args below meth c H locs cells slots mc ms (F0 m pc ls st0) rest (va_Qi post B A1 a) (vx_X px BX AX) free) (hS : va_S A0 H0 H locs) (hA : ∀ q, q < H.size → A1 q → A0 q) (hf : ∀ q, free q → A0 q) (hAX : ∀ q, q < H.size → AX q → A0 q)
    (kx : ∀ (E : String) (ce : Cell) (q9 : Addr) (u : SX) (t : State) (H1 : Heap) (locs1 : List Loc), t.heap = H1 → s.vm.Alike t.vm → px u → BX E u t → H.size ≤ H1.size → (∀ q : Nat, q < H.size → ¬ AX q → H1[q]? = H[q]?) → va_S A0 H0 H1 locs1 → H1[q9]? = some ce → ce.vm = .none → s.vm.findClass E = some ce.cls → vx_W p l e R s m args below meth c H1 locs1 (cells + mc) (slots + ms) Q (F0 m pc ls rest) q9)
    (kk : ∀ (r : Int32) (u : S) (t : State) (H1 : Heap) (locs1 : List Loc), t.heap = H1 → s.vm.Alike t.vm → post r u → B u t → H.size ≤ H1.size → (∀ q : Nat, q < H.size → ¬ A1 q → H1[q]? = H[q]?) → va_S A0 H0 H1 locs1 → W p l e R s m args below meth c H1 locs1 (cells + mc) (slots + ms) Q (F0 m (pc + 3) ls (.int r :: rest))) : W p l e R s m args below meth c H locs cells slots Q (F0 m pc ls st0) := by
  intro T hT X
  rcases hr T hT X with ⟨v, st₀, t, T', L, h0, X', hL, e1, e2, ⟨⟨r, u, hv, hp, hb⟩, hF⟩, st⟩ | ⟨q, st₀, t, T', L, E, ce, h0, X', hL, e1, e2, ⟨u, hp, hb, hF⟩, hce, hcv, hcl, st⟩
  · cases hv
    obtain ⟨k1, k2, k3⟩ := vx_keep h0 e1 hS hA hf hL hF
    obtain ⟨t2, a1, b1⟩ := kk r u t T'.heap (locs ++ L) e1.symm (by rw [← e2]; exact X'.warmed.alike) hp hb k1 k2 k3 T' rfl X'
    exact ⟨t2, st t2 a1, b1⟩
  · obtain ⟨k1, k2, k3⟩ := vx_keep h0 e1 hS hAX hf hL hF
    obtain ⟨t2, a1, b1⟩ := kx E ce q u t T'.heap (locs ++ L) e1.symm (by rw [← e2]; exact X'.warmed.alike) hp hb k1 k2 k3 (by rw [e1]; exact hce) hcv hcl T' rfl X'
    exact ⟨t2, st.trans a1, b1⟩
theorem vx_calll {S SX : Type} {post : Int64 → S → Prop} {px : SX → Prop} {B : S → State → Prop} {BX : String → SX → State → Prop} {AX : Nat → Prop} (hr : vx_Run p l e R s m args below meth c H locs cells slots mc ms (F0 m pc ls st0) rest (va_Ql post B A1 a) (vx_X px BX AX) free) (hS : va_S A0 H0 H locs) (hA : ∀ q, q < H.size → A1 q → A0 q) (hf : ∀ q, free q → A0 q) (hAX : ∀ q, q < H.size → AX q → A0 q)
    (kx : ∀ (E : String) (ce : Cell) (q9 : Addr) (u : SX) (t : State) (H1 : Heap) (locs1 : List Loc), t.heap = H1 → s.vm.Alike t.vm → px u → BX E u t → H.size ≤ H1.size → (∀ q : Nat, q < H.size → ¬ AX q → H1[q]? = H[q]?) → va_S A0 H0 H1 locs1 → H1[q9]? = some ce → ce.vm = .none → s.vm.findClass E = some ce.cls → vx_W p l e R s m args below meth c H1 locs1 (cells + mc) (slots + ms) Q (F0 m pc ls rest) q9)
    (kk : ∀ (r : Int64) (u : S) (t : State) (H1 : Heap) (locs1 : List Loc), t.heap = H1 → s.vm.Alike t.vm → post r u → B u t → H.size ≤ H1.size → (∀ q : Nat, q < H.size → ¬ A1 q → H1[q]? = H[q]?) → va_S A0 H0 H1 locs1 → W p l e R s m args below meth c H1 locs1 (cells + mc) (slots + ms) Q (F0 m (pc + 3) ls (.long r :: rest))) : W p l e R s m args below meth c H locs cells slots Q (F0 m pc ls st0) := by
  intro T hT X
  rcases hr T hT X with ⟨v, st₀, t, T', L, h0, X', hL, e1, e2, ⟨⟨r, u, hv, hp, hb⟩, hF⟩, st⟩ | ⟨q, st₀, t, T', L, E, ce, h0, X', hL, e1, e2, ⟨u, hp, hb, hF⟩, hce, hcv, hcl, st⟩
  · cases hv
    obtain ⟨k1, k2, k3⟩ := vx_keep h0 e1 hS hA hf hL hF
    obtain ⟨t2, a1, b1⟩ := kk r u t T'.heap (locs ++ L) e1.symm (by rw [← e2]; exact X'.warmed.alike) hp hb k1 k2 k3 T' rfl X'
    exact ⟨t2, st t2 a1, b1⟩
  · obtain ⟨k1, k2, k3⟩ := vx_keep h0 e1 hS hAX hf hL hF
    obtain ⟨t2, a1, b1⟩ := kx E ce q u t T'.heap (locs ++ L) e1.symm (by rw [← e2]; exact X'.warmed.alike) hp hb k1 k2 k3 (by rw [e1]; exact hce) hcv hcl T' rfl X'
    exact ⟨t2, st.trans a1, b1⟩
theorem vx_callf {S SX : Type} {post : UInt32 → S → Prop} {px : SX → Prop} {B : S → State → Prop} {BX : String → SX → State → Prop} {AX : Nat → Prop} (hr : vx_Run p l e R s m args below meth c H locs cells slots mc ms (F0 m pc ls st0) rest (va_Qf post B A1 a) (vx_X px BX AX) free) (hS : va_S A0 H0 H locs) (hA : ∀ q, q < H.size → A1 q → A0 q) (hf : ∀ q, free q → A0 q) (hAX : ∀ q, q < H.size → AX q → A0 q)
    (kx : ∀ (E : String) (ce : Cell) (q9 : Addr) (u : SX) (t : State) (H1 : Heap) (locs1 : List Loc), t.heap = H1 → s.vm.Alike t.vm → px u → BX E u t → H.size ≤ H1.size → (∀ q : Nat, q < H.size → ¬ AX q → H1[q]? = H[q]?) → va_S A0 H0 H1 locs1 → H1[q9]? = some ce → ce.vm = .none → s.vm.findClass E = some ce.cls → vx_W p l e R s m args below meth c H1 locs1 (cells + mc) (slots + ms) Q (F0 m pc ls rest) q9)
    (kk : ∀ (r : UInt32) (u : S) (t : State) (H1 : Heap) (locs1 : List Loc), t.heap = H1 → s.vm.Alike t.vm → post r u → B u t → H.size ≤ H1.size → (∀ q : Nat, q < H.size → ¬ A1 q → H1[q]? = H[q]?) → va_S A0 H0 H1 locs1 → W p l e R s m args below meth c H1 locs1 (cells + mc) (slots + ms) Q (F0 m (pc + 3) ls (.float r :: rest))) : W p l e R s m args below meth c H locs cells slots Q (F0 m pc ls st0) := by
  intro T hT X
  rcases hr T hT X with ⟨v, st₀, t, T', L, h0, X', hL, e1, e2, ⟨⟨r, u, hv, hp, hb⟩, hF⟩, st⟩ | ⟨q, st₀, t, T', L, E, ce, h0, X', hL, e1, e2, ⟨u, hp, hb, hF⟩, hce, hcv, hcl, st⟩
  · cases hv
    obtain ⟨k1, k2, k3⟩ := vx_keep h0 e1 hS hA hf hL hF
    obtain ⟨t2, a1, b1⟩ := kk r u t T'.heap (locs ++ L) e1.symm (by rw [← e2]; exact X'.warmed.alike) hp hb k1 k2 k3 T' rfl X'
    exact ⟨t2, st t2 a1, b1⟩
  · obtain ⟨k1, k2, k3⟩ := vx_keep h0 e1 hS hAX hf hL hF
    obtain ⟨t2, a1, b1⟩ := kx E ce q u t T'.heap (locs ++ L) e1.symm (by rw [← e2]; exact X'.warmed.alike) hp hb k1 k2 k3 (by rw [e1]; exact hce) hcv hcl T' rfl X'
    exact ⟨t2, st.trans a1, b1⟩
theorem vx_calld {S SX : Type} {post : UInt64 → S → Prop} {px : SX → Prop} {B : S → State → Prop} {BX : String → SX → State → Prop} {AX : Nat → Prop} (hr : vx_Run p l e R s m args below meth c H locs cells slots mc ms (F0 m pc ls st0) rest (va_Qd post B A1 a) (vx_X px BX AX) free) (hS : va_S A0 H0 H locs) (hA : ∀ q, q < H.size → A1 q → A0 q) (hf : ∀ q, free q → A0 q) (hAX : ∀ q, q < H.size → AX q → A0 q)
    (kx : ∀ (E : String) (ce : Cell) (q9 : Addr) (u : SX) (t : State) (H1 : Heap) (locs1 : List Loc), t.heap = H1 → s.vm.Alike t.vm → px u → BX E u t → H.size ≤ H1.size → (∀ q : Nat, q < H.size → ¬ AX q → H1[q]? = H[q]?) → va_S A0 H0 H1 locs1 → H1[q9]? = some ce → ce.vm = .none → s.vm.findClass E = some ce.cls → vx_W p l e R s m args below meth c H1 locs1 (cells + mc) (slots + ms) Q (F0 m pc ls rest) q9)
    (kk : ∀ (r : UInt64) (u : S) (t : State) (H1 : Heap) (locs1 : List Loc), t.heap = H1 → s.vm.Alike t.vm → post r u → B u t → H.size ≤ H1.size → (∀ q : Nat, q < H.size → ¬ A1 q → H1[q]? = H[q]?) → va_S A0 H0 H1 locs1 → W p l e R s m args below meth c H1 locs1 (cells + mc) (slots + ms) Q (F0 m (pc + 3) ls (.double r :: rest))) : W p l e R s m args below meth c H locs cells slots Q (F0 m pc ls st0) := by
  intro T hT X
  rcases hr T hT X with ⟨v, st₀, t, T', L, h0, X', hL, e1, e2, ⟨⟨r, u, hv, hp, hb⟩, hF⟩, st⟩ | ⟨q, st₀, t, T', L, E, ce, h0, X', hL, e1, e2, ⟨u, hp, hb, hF⟩, hce, hcv, hcl, st⟩
  · cases hv
    obtain ⟨k1, k2, k3⟩ := vx_keep h0 e1 hS hA hf hL hF
    obtain ⟨t2, a1, b1⟩ := kk r u t T'.heap (locs ++ L) e1.symm (by rw [← e2]; exact X'.warmed.alike) hp hb k1 k2 k3 T' rfl X'
    exact ⟨t2, st t2 a1, b1⟩
  · obtain ⟨k1, k2, k3⟩ := vx_keep h0 e1 hS hAX hf hL hF
    obtain ⟨t2, a1, b1⟩ := kx E ce q u t T'.heap (locs ++ L) e1.symm (by rw [← e2]; exact X'.warmed.alike) hp hb k1 k2 k3 (by rw [e1]; exact hce) hcv hcl T' rfl X'
    exact ⟨t2, st.trans a1, b1⟩
theorem vx_callv {S SX : Type} {post : S → Prop} {px : SX → Prop} {B : S → State → Prop} {BX : String → SX → State → Prop} {AX : Nat → Prop} (hr : vx_Run p l e R s m args below meth c H locs cells slots mc ms (F0 m pc ls st0) rest (va_Qv post B A1 a) (vx_X px BX AX) free) (hS : va_S A0 H0 H locs) (hA : ∀ q, q < H.size → A1 q → A0 q) (hf : ∀ q, free q → A0 q) (hAX : ∀ q, q < H.size → AX q → A0 q)
    (kx : ∀ (E : String) (ce : Cell) (q9 : Addr) (u : SX) (t : State) (H1 : Heap) (locs1 : List Loc), t.heap = H1 → s.vm.Alike t.vm → px u → BX E u t → H.size ≤ H1.size → (∀ q : Nat, q < H.size → ¬ AX q → H1[q]? = H[q]?) → va_S A0 H0 H1 locs1 → H1[q9]? = some ce → ce.vm = .none → s.vm.findClass E = some ce.cls → vx_W p l e R s m args below meth c H1 locs1 (cells + mc) (slots + ms) Q (F0 m pc ls rest) q9)
    (kk : ∀ (u : S) (t : State) (H1 : Heap) (locs1 : List Loc), t.heap = H1 → s.vm.Alike t.vm → post u → B u t → H.size ≤ H1.size → (∀ q : Nat, q < H.size → ¬ A1 q → H1[q]? = H[q]?) → va_S A0 H0 H1 locs1 → W p l e R s m args below meth c H1 locs1 (cells + mc) (slots + ms) Q (F0 m (pc + 3) ls (rest))) : W p l e R s m args below meth c H locs cells slots Q (F0 m pc ls st0) := by
  intro T hT X
  rcases hr T hT X with ⟨v, st₀, t, T', L, h0, X', hL, e1, e2, ⟨⟨u, hv, hp, hb⟩, hF⟩, st⟩ | ⟨q, st₀, t, T', L, E, ce, h0, X', hL, e1, e2, ⟨u, hp, hb, hF⟩, hce, hcv, hcl, st⟩
  · cases hv
    obtain ⟨k1, k2, k3⟩ := vx_keep h0 e1 hS hA hf hL hF
    obtain ⟨t2, a1, b1⟩ := kk u t T'.heap (locs ++ L) e1.symm (by rw [← e2]; exact X'.warmed.alike) hp hb k1 k2 k3 T' rfl X'
    exact ⟨t2, st t2 a1, b1⟩
  · obtain ⟨k1, k2, k3⟩ := vx_keep h0 e1 hS hAX hf hL hF
    obtain ⟨t2, a1, b1⟩ := kx E ce q u t T'.heap (locs ++ L) e1.symm (by rw [← e2]; exact X'.warmed.alike) hp hb k1 k2 k3 (by rw [e1]; exact hce) hcv hcl T' rfl X'
    exact ⟨t2, st.trans a1, b1⟩
/-- caught by the row x of this method's table; the rows ahead don't take it -/
theorem vx_catch {own name : String} {E : String} {ce : Cell} {q : Addr} (hown : s.vm.findClass own = some m.cls) (pre : List ExceptionTableEntry) (x : ExceptionTableEntry) (suf : List ExceptionTableEntry) (hsplit : c.exceptionTable.toList = pre ++ x :: suf)
    (hpass : ∀ z ∈ pre, covers z pc = false ∨ (z.catchType ≠ 0 ∧ ∃ nm : String, (Cond.classLink own z.catchType nm).before args s = true ∧ va_Nc E nm s)) (hx : covers x pc = true) (h0 : x.catchType ≠ 0)
    (hlink : (Cond.classLink own x.catchType name).before args s = true) (hcast : (Cond.castable E name).before args s = true) (hcell : H[q]? = some ce) (hv : ce.vm = .none) (hcl : s.vm.findClass E = some ce.cls)
    (kk : W p l e R s m args below meth c H locs cells slots Q (F0 m x.handlerPc ls [.ref q])) : vx_W p l e R s m args below meth c H locs cells slots Q (F0 m pc ls rest) q := by
  intro T hT X
  have hpl : e.platform.magicAccessors = ({} : Platform).magicAccessors := by rw [X.admits.platform]
  obtain ⟨c3, c4, hc3, hc4, hasg⟩ := Cond.castable_spec hcast
  cases Option.some.inj (hc3.symm.trans hcl)
  obtain ⟨c5, hc5, hcl5⟩ := Cond.classLink_spec hown hlink e.platform hpl
  cases Option.some.inj (hc4.symm.trans hc5)
  obtain ⟨vm', X', st⟩ := X.thenCaughtThrough q (g := F0 m pc ls rest) rfl (Steps.refl _) (by rw [hT]; exact hcell) (by rw [hv]; rfl) (by obtain ⟨k9, h9, -⟩ := Vm.findClass_spec hcl; exact ⟨k9, h9⟩) pre x suf hsplit
    (fun z hz => by
      rcases hpass z hz with h | ⟨hz0, nm, hl1, hn1⟩
      · exact Or.inl h
      · obtain ⟨c6, hc6, hcl6⟩ := Cond.classLink_spec hown hl1 e.platform hpl
        obtain ⟨a8, b8, h1, h2, h3⟩ := hn1
        cases Option.some.inj (h1.symm.trans hcl)
        cases Option.some.inj (h2.symm.trans hc6)
        exact Or.inr ⟨hz0, _, hcl6, h3⟩) hx (Or.inr ⟨h0, c4, hcl5, hasg⟩)
  obtain ⟨t, a1, b1⟩ := kk (T.setVm vm') hT X'
  exact ⟨t, st.trans a1, b1⟩
end Rows
section Ends
variable {p : Program} {l : Launch} {e : Env} {R : Room} {s : State} {m : MethodId} {args : Array Value} {below : List Frame} {meth : Method} {c : Code} {H : Heap} {locs : List Loc} {cells slots : Nat} {Q : State → Prop}
variable {mc ms : Nat} {free : Addr → Prop} {A0 A1 : Nat → Prop} {H0 : Heap} {a : Array Value} {ls : Array Slot} {st0 rest : List Value}
variable {Qc : Array Value → State → Outcome → State → Prop} {XC : String → State → State → Prop}
/-- what a body that may throw owes at its end -/
def vx_MQ (below : List Frame) (Qc : Array Value → State → Outcome → State → Prop) (XC : String → State → State → Prop) (a : Array Value) (s : State) (mc ms : Nat) (free : Addr → Prop) : State → Prop := fun t =>
  ∃ o, t.status = .running ∧ Ended t below o ∧ vx_Q Qc XC mc ms free a s o t
theorem vx_ret {g : JFrame} {mc ms : Nat} (k : W p l e R s m args below meth c H locs cells slots (MQ below Qc args s mc ms free) g) : W p l e R s m args below meth c H locs cells slots (vx_MQ below Qc XC args s mc ms free) g := by
  intro T hT X
  obtain ⟨t, a1, o, b1, b2, b3, b4⟩ := k T hT X
  exact ⟨t, a1, o, b1, b2, Or.inl ⟨b3, b4⟩⟩
/-- not caught here: it goes on to the caller -/
theorem vx_widen {g : JFrame} {q : Addr} {k n : Nat} (h1 : cells ≤ k) (h2 : slots ≤ n) (kk : vx_W p l e R s m args below meth c H locs k n Q g q) : vx_W p l e R s m args below meth c H locs cells slots Q g q := fun T hT X => kk T hT (stand_widen X h1 h2)
theorem vx_out {pc : Nat} {E : String} {ce : Cell} {q : Addr} {mc ms : Nat} (hout : ∀ x ∈ c.exceptionTable.toList, covers x pc = false) (hlocks : meth.locks = false) (hcell : H[q]? = some ce) (hv : ce.vm = .none) (hcl : s.vm.findClass E = some ce.cls)
    (hx : ∀ t : State, t.heap = H → s.vm.Alike t.vm → XC E s t) (hf : ∀ z ∈ locs, free z.base) (hc : cells ≤ mc) (hs : slots ≤ ms) :
    vx_W p l e R s m args below meth c H locs cells slots (vx_MQ below Qc XC args s mc ms free) (F0 m pc ls rest) q := by
  intro T hT X
  obtain ⟨st1, hrun, hend, hW, hsm⟩ := X.leaveThrown q (g := F0 m pc ls rest) rfl rfl rfl hout hlocks
  have hcell9 : (T.setFrames (.throwing q :: below)).heap[q]? = some ce := by
    show T.heap[q]? = some ce
    rw [hT]; exact hcell
  exact ⟨_, st1, .threw q, hrun, hend, Or.inr ⟨q, rfl, E, ce, locs, hx _ hT hW.alike, hcell9, hv, hcl, hW, hsm.mono hc hs, hf⟩⟩
theorem vx_frame {U : State} {k n : Nat} (h : s.sameButNew ({ U with vm := s.vm } : State) locs k n) : s.heap.size ≤ U.heap.size ∧ ∀ q : Nat, q < s.heap.size → (∀ z ∈ locs, z.base ≠ q) → U.heap[q]? = s.heap[q]? := by
  obtain ⟨-, h2, -, -, -, h6⟩ := h
  refine ⟨h2, fun q hq hz => ?_⟩
  obtain ⟨c9, e1, e2, e3, e4⟩ := h6 q _ (Array.getElem?_eq_getElem hq)
  have hs : c9.slots = (s.heap[q]).slots := Array.ext_getElem? fun i => e4 i fun hm => hz _ hm rfl
  have h9 : c9 = s.heap[q] := by
    rw [hs] at e2
    exact e2
  have e5 : U.heap[q]? = some c9 := e1
  rw [e5, h9, Array.getElem?_eq_getElem hq]
/-- the words of a throw but the four that speak of the heap -/
def vx_no (w : Cond) : Bool := decide (w ≠ .isRef (.static Bundle.tN "UNASSIGNED_STACK" Bundle.steD)) && decide (w ≠ .isRef (.static Bundle.tN "SUPPRESSED_SENTINEL" Bundle.listD)) && decide (w ≠ .laysStatic Bundle.tN "UNASSIGNED_STACK" Bundle.steD) && decide (w ≠ .laysStatic Bundle.tN "SUPPRESSED_SENTINEL" Bundle.listD)
def vx_at0 (own : String) (ic : Nat) (X : String) (names : List String) : List Cond := (Bundle.ownAtoms0 own ic X names).filter vx_no
def vx_atS (own : String) (ic : Nat) (X : String) (names : List String) : List Cond := (Bundle.ownAtoms own ic X names).filter vx_no
/-- a word that the tables alone decide, or a good one -/
def vx_ot (w : Cond) : Bool := w.onTables || goodWord w
theorem vx_ot_at {args a' : Array Value} {s U : State} {w : Cond} (hW : s.WarmedH U.vm) (hvm : s.vm = U.vm) (hg : vx_ot w = true) (h : w.before args s = true) : w.before a' U = true := by
  simp only [vx_ot, Bool.or_eq_true] at hg
  rcases hg with hg | hg
  · exact va_tabs hg hvm h
  · exact word_at hW (good_of_word hg) h
/-- a list's words: the good ones out of the method's own list, the others by premises of their own -/
theorem vx_hat {args : Array Value} {s : State} {L B : List Cond} (h1 : ∀ w ∈ L.filter goodWord, w.before args s = true) (h2 : ∀ w ∈ L.filter (fun w => !goodWord w), w ∈ B) (h3 : ∀ w ∈ B, w.before args s = true) : ∀ w ∈ L, w.before args s = true := by
  intro w hw
  by_cases g : goodWord w = true
  · exact h1 w (List.mem_filter.mpr ⟨hw, g⟩)
  · refine h3 w (h2 w (List.mem_filter.mpr ⟨hw, ?_⟩))
    show (!goodWord w) = true
    cases hgw : goodWord w
    · rfl
    · exact absurd hgw g
theorem vx_c {args : Array Value} {s : State} {w : Cond} {B : List Cond} (h : w.before args s = true) (t : ∀ w ∈ B, w.before args s = true) : ∀ w' ∈ w :: B, w'.before args s = true := fun w' h' => (List.mem_cons.mp h').elim (fun e => by rw [e]; exact h) (t w')
theorem vx_n {args : Array Value} {s : State} : ∀ w ∈ ([] : List Cond), w.before args s = true := fun _ h => nomatch h
theorem vx_own {args : Array Value} {s : State} {L : List Cond} (h1 : ∀ w ∈ L.filter vx_no, w.before args s = true)
    (hU : (Cond.isRef (.static Bundle.tN "UNASSIGNED_STACK" Bundle.steD)).before args s = true) (hN : (Cond.isRef (.static Bundle.tN "SUPPRESSED_SENTINEL" Bundle.listD)).before args s = true)
    (lU : (Cond.laysStatic Bundle.tN "UNASSIGNED_STACK" Bundle.steD).before args s = true) (lN : (Cond.laysStatic Bundle.tN "SUPPRESSED_SENTINEL" Bundle.listD).before args s = true) : ∀ w ∈ L, w.before args s = true := by
  intro w hw
  by_cases e1 : w = .isRef (.static Bundle.tN "UNASSIGNED_STACK" Bundle.steD)
  · rw [e1]; exact hU
  · by_cases e2 : w = .isRef (.static Bundle.tN "SUPPRESSED_SENTINEL" Bundle.listD)
    · rw [e2]; exact hN
    · by_cases e3 : w = .laysStatic Bundle.tN "UNASSIGNED_STACK" Bundle.steD
      · rw [e3]; exact lU
      · by_cases e4 : w = .laysStatic Bundle.tN "SUPPRESSED_SENTINEL" Bundle.listD
        · rw [e4]; exact lN
        · exact h1 w (List.mem_filter.mpr ⟨hw, by unfold vx_no; rw [decide_eq_true e1, decide_eq_true e2, decide_eq_true e3, decide_eq_true e4]; rfl⟩)
/-- where a static field lies, its class's statics cell in H -/
def vx_L (C n d : String) (A : Nat → Prop) (U : State) (H : Heap) : Prop := ∃ (c : ClassId) (k : Class) (i : Nat) (f : Field) (a : Nat) (cell : Cell), U.vm.findClass C = some c ∧ U.fieldFound? C n d = some (c, k, i, f) ∧ f.isStatic = true ∧ k.statics = some a ∧ H[a]? = some cell ∧ cell.vm.isStatics = true ∧ cell.cls = c ∧ f.slot < cell.slots.size ∧ k.staticTypes[f.slot]? = some f.type ∧ ¬ A a
theorem vx_L.moved {C n d : String} {A : Nat → Prop} {u U : State} {H : Heap} (hvm : u.vm.Alike U.vm) (h : vx_L C n d A u H) : vx_L C n d A U H := by
  obtain ⟨c, k, i, f, a, cell, h1, h2, h3, h4, h5, h6, h7, h8, h9, h10⟩ := h
  obtain ⟨k', hi', he⟩ := State.fieldFound?_setVm hvm h2
  exact ⟨c, k', i, f, a, cell, by rw [hvm.findClass]; exact h1, hi', h3, by rw [he]; exact h4, h5, h6, h7, h8, by rw [he]; exact h9, h10⟩
theorem vx_L.kept {C n d : String} {A : Nat → Prop} {U : State} {H H1 : Heap} (h : vx_L C n d A U H) (hq : ∀ a : Nat, a < H.size → ¬ A a → H1[a]? = H[a]?) : vx_L C n d A U H1 := by
  obtain ⟨c, k, i, f, a, cell, h1, h2, h3, h4, h5, h6, h7, h8, h9, h10⟩ := h
  exact ⟨c, k, i, f, a, cell, h1, h2, h3, h4, by rw [hq a (Array.getElem?_eq_some_iff.mp h5).1 h10]; exact h5, h6, h7, h8, h9, h10⟩
theorem vx_L.narrow {C n d : String} {A B : Nat → Prop} {U : State} {H : Heap} (h : vx_L C n d A U H) (hAB : ∀ q, B q → A q) : vx_L C n d B U H := by
  obtain ⟨c, k, i, f, a, cell, h1, h2, h3, h4, h5, h6, h7, h8, h9, h10⟩ := h
  exact ⟨c, k, i, f, a, cell, h1, h2, h3, h4, h5, h6, h7, h8, h9, fun z => h10 (hAB _ z)⟩
theorem vx_L.word {C n d : String} {A : Nat → Prop} {s : State} {args : Array Value} (h : vx_L C n d A s s.heap) : (Cond.laysStatic C n d).before args s = true := by
  obtain ⟨c, k, i, f, a, cell, h1, h2, h3, h4, h5, h6, h7, h8, h9, -⟩ := h
  show (Cond.laysStatic C n d).holds args s none s [] = true
  exact Cond.laysStatic_of h1 h2 h3 h4 h5 h6 h7 h8 h9
/-- .. and what it holds: null or some reference -/
def vx_Zq (C n d : String) (A : Nat → Prop) (U : State) (H : Heap) : Prop := va_Zq C n d A U H ∧ vx_L C n d A U H
theorem vx_Zq.moved {C n d : String} {A : Nat → Prop} {u U : State} {H : Heap} (hvm : u.vm.Alike U.vm) (h : vx_Zq C n d A u H) : vx_Zq C n d A U H := ⟨va_Zq.moved hvm h.1, vx_L.moved hvm h.2⟩
theorem vx_Zq.kept {C n d : String} {A : Nat → Prop} {U : State} {H H1 : Heap} (h : vx_Zq C n d A U H) (hq : ∀ a : Nat, a < H.size → ¬ A a → H1[a]? = H[a]?) : vx_Zq C n d A U H1 := ⟨va_Zq.kept h.1 hq, vx_L.kept h.2 hq⟩
theorem vx_Zq.narrow {C n d : String} {A B : Nat → Prop} {U : State} {H : Heap} (h : vx_Zq C n d A U H) (hAB : ∀ q, B q → A q) : vx_Zq C n d B U H := ⟨va_Zq.narrow h.1 hAB, vx_L.narrow h.2 hAB⟩
theorem vx_Zqof {args : Array Value} {s : State} {C n d : String} {A : Nat → Prop} (hl : (Cond.laysStatic C n d).before args s = true) (hini : (Cond.initialized C).before args s = true) (h : (Cond.isRef (.static C n d)).before args s = true) (hA : ∀ a : Nat, a < s.heap.size → ¬ A a) : vx_Zq C n d A s s.heap := by
  refine ⟨va_Zqof hl hini h hA, ?_⟩
  obtain ⟨c, k, i, f, a, cell, h1, h2, h3, h4, h5, h6, h7, h8, h9⟩ := Cond.laysStatic_spec hl
  exact ⟨c, k, i, f, a, cell, h1, h2, h3, h4, h5, h6, h7, h8, h9, hA a (Array.getElem?_eq_some_iff.mp h5).1⟩
theorem vx_isRef {C n d : String} {v : Value} {A : Nat → Prop} {s : State} {args : Array Value} (h : va_Z C n d v A s s.heap) (hv : v.isRef = true) : (Cond.isRef (.static C n d)).before args s = true := by
  obtain ⟨cf, kf, fi, f, a, cell, h1, h2, h3, h4, h5, h6, h7, -⟩ := h
  have he : (Term.static C n d).eval args s none [] s = some v := by
    simp [Term.eval, State.fieldNamed?, h1, h2, h4, h5, h6, h7]
  simp only [Cond.before, Cond.holds, Cond.value, he]
  cases v <;> simp_all [Value.isRef]
theorem vx_isRefq {C n d : String} {A : Nat → Prop} {s : State} {args : Array Value} (h : va_Zq C n d A s s.heap) : (Cond.isRef (.static C n d)).before args s = true := by
  rcases h with h | ⟨t, h⟩
  · exact vx_isRef h rfl
  · exact vx_isRef h rfl
/-- the same frame, seen from here: as if the method were called anew in this heap -/
theorem vx_rebase {T : State} (X : Stand p l e R s m args below meth c T locs cells slots) {R' : Room} (hf : R'.frames ≤ R.frames) (hl : R'.locals ≤ R.locals) (hc : cells + R'.cells ≤ R.cells) (hs : slots + R'.slots ≤ R.slots) :
    Stand p l e R' ((T.setVm s.vm).setFrames (.invoking m args :: below)) m args below meth c T [] 0 0 := by
  have htop : (T.setVm s.vm).topJava?.isSome := X.here.top
  have hF : ((T.setVm s.vm).setFrames (.invoking m args :: below)).frames = .invoking m args :: below := State.frames_setFrames _ (State.cur_lt_of_top htop)
  obtain ⟨g₀, hg0⟩ := Option.isSome_iff_exists.mp htop
  obtain ⟨r, hr⟩ := State.topJava?_eq_some.mp hg0
  have hl9 : e.platform.stackLimits (T.setVm s.vm).me = e.platform.stackLimits s.me := X.limits
  have hb9 : (T.setVm s.vm).me.stackBytes = s.me.stackBytes := X.bytes
  refine ⟨X.admits, X.cas, X.clock, hF, ?_, X.hears, X.method, X.code, X.here, X.tail, X.warmed, ?_, ?_, ?_⟩
  · have h := X.room
    have hU : ((T.setVm s.vm).setFrames (.invoking m args :: below)).localsInUse = s.localsInUse := by
      rw [State.localsInUse_invoking hF (meth := meth) (c := c) X.method X.code, State.localsInUse_invoking X.frames X.method X.code]
    simp only [State.hasRoom, Bool.and_eq_true, decide_eq_true_eq] at h ⊢
    obtain ⟨⟨⟨⟨h1, h2, h3, h4, h5, h6⟩, h7⟩, h8⟩, h9⟩ := h
    rw [X.frames, List.length_cons] at h2 h3
    have q1 := X.heapSize
    have q2 := X.used
    simp only [hF, hU, List.length_cons, State.stackLimits_setFrames, State.stackBytes_setFrames, hl9, hb9]
    refine ⟨⟨⟨⟨by omega, by omega, by omega, by omega, by omega, h6⟩, ?_⟩, ?_⟩, X.book⟩
    · show T.heap.size + R'.cells ≤ e.platform.maxCells
      omega
    · show T.slotsUsed + R'.slots ≤ e.platform.maxSlots
      omega
  · rw [State.stackLimits_setFrames]; rfl
  · rw [State.stackBytes_setFrames]; rfl
  · refine ⟨?_, Nat.le_refl _, Nat.le_refl _, ?_, ?_, fun a c9 h9 => ⟨c9, h9, rfl, rfl, fun _ _ => rfl⟩⟩
    · obtain ⟨t, ht, -⟩ := State.frames_cons hr
      show T.setVm s.vm = { ((T.setVm s.vm).setFrames (.invoking m args :: below)).setFrames (T.setVm s.vm).frames with heap := T.heap, slotsUsed := T.slotsUsed }
      rw [State.setFrames_setFrames, State.setFrames_self ht]
      rfl
    · show T.slotsUsed = T.slotsUsed + ((T.heap.toList.drop T.heap.size).map (·.slots.size)).sum
      rw [List.drop_eq_nil_of_le (Nat.le_of_eq Array.length_toList)]
      rfl
    · show ((T.heap.toList.drop T.heap.size).map (·.slots.size)).sum ≤ 0
      rw [List.drop_eq_nil_of_le (Nat.le_of_eq Array.length_toList)]
      exact Nat.le_refl _
/-- 'throw new E()': new; dup; invokespecial; athrow -/
theorem vx_throw0 {cc : ByteArray} {pc : Nat} (hexec : p.tables.exec = Jvm.exec) (hb : c.code = cc) (hl : l.stackTraces = false) {own cls : String} {names : List String} {ik ic mc ms : Nat} {A : Nat → Prop}
    (hown : s.vm.findClass own = some m.cls) (hcls : Bundle.fit cls = true) (hnames : ∀ n ∈ names, Bundle.fit n = true)
    (hk : (Cond.classLink own ik cls).before args s = true) (hini : (Cond.initialized cls).before args s = true) (hat : ∀ w ∈ vx_at0 own ic cls names, w.before args s = true)
    (hgood : ∀ w ∈ Cond.classLink own ik cls :: Cond.initialized cls :: vx_at0 own ic cls names, vx_ot w = true)
    (hU : vx_Zq Bundle.tN "UNASSIGNED_STACK" Bundle.steD A s s.heap) (hN : vx_Zq Bundle.tN "SUPPRESSED_SENTINEL" Bundle.listD A s s.heap) (hS : va_S A s.heap H locs) (hsize : ls.size = c.maxLocals)
    (d0 : decode cc pc = .ok (.new ik, 3)) (d3 : decode cc (pc + 3) = .ok (.dup, 1)) (d4 : decode cc (pc + 4) = .ok (.invokespecial ic, 3)) (d7 : decode cc (pc + 7) = .ok (.athrow, 1))
    (hout : ∀ x ∈ c.exceptionTable.toList, covers x (pc + 7) = false)
    (hRframes : names.length + 3 < R.frames) (hRlocals : (rest.map fun v => v.category).sum + (13 * (names.length + 1) + 42) ≤ R.locals) (hRcells : cells + 1 ≤ R.cells) (hRslots : slots + 6 ≤ R.slots) (hlocks : meth.locks = false)
    (hx : ∀ t : State, s.vm.Alike t.vm → H.size ≤ t.heap.size → (∀ q : Nat, q < H.size → t.heap[q]? = H[q]?) → XC cls s t)
    (hf : ∀ z ∈ locs, free z.base) (hc : cells + 1 ≤ mc) (hs : slots + 6 ≤ ms) :
    W p l e R s m args below meth c H locs cells slots (vx_MQ below Qc XC args s mc ms free) (F0 m pc ls rest) := by
  intro T hT X
  have htr : e.platform.stackTraces = false := (show e.platform.stackTraces = l.stackTraces by rw [X.admits.platform]).trans hl
  have Y := vx_rebase X (R' := { frames := R.frames, locals := R.locals, cells := 1, slots := 6 }) (Nat.le_refl _) (Nat.le_refl _) hRcells hRslots
  obtain ⟨s', hA⟩ : ∃ z, z = (T.setVm s.vm).setFrames (.invoking m args :: below) := ⟨_, rfl⟩
  rw [← hA] at Y
  have hvm : s'.vm = s.vm := by rw [hA]; rfl
  have hhp : s'.heap = H := by rw [hA]; exact hT
  have hW0 : s.WarmedH s'.vm := by rw [hvm]; exact State.WarmedH.refl s
  have hat' : ∀ w ∈ vx_at0 own ic cls names, w.before args s' = true := fun w hw => vx_ot_at hW0 hvm.symm (hgood w (List.mem_cons_of_mem _ (List.mem_cons_of_mem _ hw))) (hat w hw)
  have hk' : (Cond.classLink own ik cls).before args s' = true := vx_ot_at hW0 hvm.symm (hgood _ List.mem_cons_self) hk
  have hini' : (Cond.initialized cls).before args s' = true := vx_ot_at hW0 hvm.symm (hgood _ (List.mem_cons_of_mem _ List.mem_cons_self)) hini
  have hU' : vx_Zq Bundle.tN "UNASSIGNED_STACK" Bundle.steD A s' s'.heap := by rw [hhp]; exact vx_Zq.moved hW0.alike (hU.kept hS.2.1)
  have hN' : vx_Zq Bundle.tN "SUPPRESSED_SENTINEL" Bundle.listD A s' s'.heap := by rw [hhp]; exact vx_Zq.moved hW0.alike (hN.kept hS.2.1)
  have h : ∀ w ∈ Bundle.ownAtoms0 own ic cls names, w.before args s' = true := vx_own hat' (vx_isRefq hU'.1) (vx_isRefq hN'.1) hU'.2.word hN'.2.word
  have hown' : s'.vm.findClass own = some m.cls := by rw [hvm]; exact hown
  have hins : (Cond.instantiable cls 6).before args s' = true := h _ (by simp [Bundle.ownAtoms0])
  obtain ⟨vm₁, cX, kX, hfX, hkX, -, -, X₁, st1⟩ := Y.newCold hexec (own := own) (C := cls) (index := ik) (n := 6) hown' hk' hins hini'
    (g := F0 m pc ls rest) rfl (by rw [hb]; exact d0) (Nat.le_refl _) (Nat.le_refl _)
  generalize hT1 : (T.setVm vm₁).pushCell { cls := cX, slots := kX.instanceTypes.map defaultValue, vm := .none } = T1 at X₁ st1
  have hcat : (Value.ref T.heap.size).category = 1 := rfl
  have hcellA : T1.heap[T.heap.size]? = some (freshCell cX kX) := by rw [← hT1]; exact State.heap_pushCell_size _ _
  have d3' : decode c.code (pc + 3) = .ok (.dup, 1) := by rw [hb]; exact d3
  obtain ⟨U, hsteps, hrun, hend, hW, hsame, ce, hce, hO⟩ := X₁.ctorThrow0 hexec htr (own := own) (cls := cls) (names := names) (ic := ic) hown' hcls hnames h (fun x hx => nomatch hx) hfX hkX hcellA (by rw [hhp, hT]; exact Nat.le_refl _)
    (g := { method := m, pc := pc + 4, locals := ls, stack := .ref T.heap.size :: .ref T.heap.size :: rest, locked := none }) rfl hsize rfl rfl (rest := rest) rfl
    (by rw [hb]; exact d4) (by rw [hb]; exact d7) hout hRframes (by simp only [List.map_cons, List.sum_cons, hcat]; omega) hlocks
  obtain ⟨f1, f2⟩ := vx_frame hsame
  rw [hhp] at f1 f2
  have hWs : s.WarmedH U.vm := State.WarmedH.trans hW0 hW
  have hcl : s.vm.findClass cls = some ce.cls := by
    have h9 := hO.cls
    rw [hvm] at h9
    exact h9
  have hall : s.sameButNew ({ U with vm := s.vm } : State) locs mc ms := by
    subst hA
    obtain ⟨e1, e2⟩ := hsame
    rw [State.setFrames_setFrames] at e1
    have h2 : (T.setVm s.vm).sameButNew ({ U with vm := s.vm } : State) [] (0 + 1) (0 + 6) := ⟨e1, e2⟩
    have h3 := X.same.trans h2
    rw [List.append_nil] at h3
    exact h3.mono hc hs
  refine ⟨U, ?_, .threw T.heap.size, hrun, hend, Or.inr ⟨T.heap.size, rfl, cls, ce, locs, hx U hWs.alike f1 (fun q hq => f2 q hq (fun z hz => nomatch hz)), hce, hO.vm, hcl, hWs, hall, hf⟩⟩
  refine st1 _ ?_
  show Steps p.tables e below (T1.setTop { method := m, pc := pc + 3, locals := ls, stack := .ref T.heap.size :: rest, locked := none }) _
  jvm_step X₁.here [X₁.here.top, hexec, d3', Value.category]
  exact hsteps
/-- 'throw new E("text")': new; dup; ldc; invokespecial; athrow -/
theorem vx_throwS {cc : ByteArray} {pc : Nat} (hexec : p.tables.exec = Jvm.exec) (hb : c.code = cc) (hl : l.stackTraces = false) {own cls text : String} {names : List String} {ik is ic mc ms sa : Nat} {A : Nat → Prop}
    (hown : s.vm.findClass own = some m.cls) (hcls : Bundle.fit cls = true) (hnames : ∀ n ∈ names, Bundle.fit n = true)
    (hk : (Cond.classLink own ik cls).before args s = true) (hini : (Cond.initialized cls).before args s = true) (hstr : vk_R own is text sa s) (hat : ∀ w ∈ vx_atS own ic cls names, w.before args s = true)
    (hgood : ∀ w ∈ Cond.classLink own ik cls :: Cond.initialized cls :: vx_atS own ic cls names, vx_ot w = true)
    (hU : vx_Zq Bundle.tN "UNASSIGNED_STACK" Bundle.steD A s s.heap) (hN : vx_Zq Bundle.tN "SUPPRESSED_SENTINEL" Bundle.listD A s s.heap) (hS : va_S A s.heap H locs) (hsize : ls.size = c.maxLocals)
    (d0 : decode cc pc = .ok (.new ik, 3)) (d3 : decode cc (pc + 3) = .ok (.dup, 1)) (d4 : decode cc (pc + 4) = .ok (.ldc is, 2)) (d6 : decode cc (pc + 6) = .ok (.invokespecial ic, 3)) (d9 : decode cc (pc + 9) = .ok (.athrow, 1))
    (hout : ∀ x ∈ c.exceptionTable.toList, covers x (pc + 9) = false)
    (hRframes : names.length + 3 < R.frames) (hRlocals : (rest.map fun v => v.category).sum + (13 * (names.length + 1) + 43) ≤ R.locals) (hRcells : cells + 1 ≤ R.cells) (hRslots : slots + 6 ≤ R.slots) (hlocks : meth.locks = false)
    (hx : ∀ t : State, s.vm.Alike t.vm → H.size ≤ t.heap.size → (∀ q : Nat, q < H.size → t.heap[q]? = H[q]?) → XC cls s t)
    (hf : ∀ z ∈ locs, free z.base) (hc : cells + 1 ≤ mc) (hs : slots + 6 ≤ ms) :
    W p l e R s m args below meth c H locs cells slots (vx_MQ below Qc XC args s mc ms free) (F0 m pc ls rest) := by
  intro T hT X
  have htr : e.platform.stackTraces = false := (show e.platform.stackTraces = l.stackTraces by rw [X.admits.platform]).trans hl
  have Y := vx_rebase X (R' := { frames := R.frames, locals := R.locals, cells := 1, slots := 6 }) (Nat.le_refl _) (Nat.le_refl _) hRcells hRslots
  obtain ⟨s', hA⟩ : ∃ z, z = (T.setVm s.vm).setFrames (.invoking m args :: below) := ⟨_, rfl⟩
  rw [← hA] at Y
  have hvm : s'.vm = s.vm := by rw [hA]; rfl
  have hhp : s'.heap = H := by rw [hA]; exact hT
  have hW0 : s.WarmedH s'.vm := by rw [hvm]; exact State.WarmedH.refl s
  have hat' : ∀ w ∈ vx_atS own ic cls names, w.before args s' = true := fun w hw => vx_ot_at hW0 hvm.symm (hgood w (List.mem_cons_of_mem _ (List.mem_cons_of_mem _ hw))) (hat w hw)
  have hk' : (Cond.classLink own ik cls).before args s' = true := vx_ot_at hW0 hvm.symm (hgood _ List.mem_cons_self) hk
  have hini' : (Cond.initialized cls).before args s' = true := vx_ot_at hW0 hvm.symm (hgood _ (List.mem_cons_of_mem _ List.mem_cons_self)) hini
  have hU' : vx_Zq Bundle.tN "UNASSIGNED_STACK" Bundle.steD A s' s'.heap := by rw [hhp]; exact vx_Zq.moved hW0.alike (hU.kept hS.2.1)
  have hN' : vx_Zq Bundle.tN "SUPPRESSED_SENTINEL" Bundle.listD A s' s'.heap := by rw [hhp]; exact vx_Zq.moved hW0.alike (hN.kept hS.2.1)
  have h : ∀ w ∈ Bundle.ownAtoms own ic cls names, w.before args s' = true := vx_own hat' (vx_isRefq hU'.1) (vx_isRefq hN'.1) hU'.2.word hN'.2.word
  have hown' : s'.vm.findClass own = some m.cls := by rw [hvm]; exact hown
  have hins : (Cond.instantiable cls 6).before args s' = true := h _ (by simp [Bundle.ownAtoms])
  obtain ⟨vm₁, cX, kX, hfX, hkX, -, -, X₁, st1⟩ := Y.newCold hexec (own := own) (C := cls) (index := ik) (n := 6) hown' hk' hins hini'
    (g := F0 m pc ls rest) rfl (by rw [hb]; exact d0) (Nat.le_refl _) (Nat.le_refl _)
  generalize hT1 : (T.setVm vm₁).pushCell { cls := cX, slots := kX.instanceTypes.map defaultValue, vm := .none } = T1 at X₁ st1
  have hcat : (Value.ref T.heap.size).category = 1 := rfl
  have hcellA : T1.heap[T.heap.size]? = some (freshCell cX kX) := by rw [← hT1]; exact State.heap_pushCell_size _ _
  have d3' : decode c.code (pc + 3) = .ok (.dup, 1) := by rw [hb]; exact d3
  have d4' : decode c.code (pc + 4) = .ok (.ldc is, 2) := by rw [hb]; exact d4
  have hstr' : vk_R own is text sa s' := vk_R.warm hW0 hstr
  obtain ⟨U, hsteps, hrun, hend, hW, hsame, ce, hce, hO⟩ := X₁.ctorThrowS hexec htr (own := own) (cls := cls) (names := names) (ic := ic) hown' hcls hnames h (fun x hx => nomatch hx) hfX hkX hcellA (by rw [hhp, hT]; exact Nat.le_refl _) (msg := .ref sa) rfl
    (g := { method := m, pc := pc + 6, locals := ls, stack := .ref sa :: .ref T.heap.size :: .ref T.heap.size :: rest, locked := none }) rfl hsize rfl rfl (rest := rest) rfl
    (by rw [hb]; exact d6) (by rw [hb]; exact d9) hout hRframes (by simp only [List.map_cons, List.sum_cons, hcat]; omega) hlocks
  obtain ⟨f1, f2⟩ := vx_frame hsame
  rw [hhp] at f1 f2
  have hWs : s.WarmedH U.vm := State.WarmedH.trans hW0 hW
  have hcl : s.vm.findClass cls = some ce.cls := by
    have h9 := hO.cls
    rw [hvm] at h9
    exact h9
  have hall : s.sameButNew ({ U with vm := s.vm } : State) locs mc ms := by
    subst hA
    obtain ⟨e1, e2⟩ := hsame
    rw [State.setFrames_setFrames] at e1
    have h2 : (T.setVm s.vm).sameButNew ({ U with vm := s.vm } : State) [] (0 + 1) (0 + 6) := ⟨e1, e2⟩
    have h3 := X.same.trans h2
    rw [List.append_nil] at h3
    exact h3.mono hc hs
  refine ⟨U, ?_, .threw T.heap.size, hrun, hend, Or.inr ⟨T.heap.size, rfl, cls, ce, locs, hx U hWs.alike f1 (fun q hq => f2 q hq (fun z hz => nomatch hz)), hce, hO.vm, hcl, hWs, hall, hf⟩⟩
  refine st1 _ ?_
  show Steps p.tables e below (T1.setTop { method := m, pc := pc + 3, locals := ls, stack := .ref T.heap.size :: rest, locked := none }) _
  jvm_step X₁.here [X₁.here.top, hexec, d3', Value.category]
  exact X₁.ldcString hexec (own := own) (text := text) (index := is) (a := sa) hown' hstr'.1 hstr'.2
    (g := { method := m, pc := pc + 4, locals := ls, stack := .ref T.heap.size :: .ref T.heap.size :: rest, locked := none }) rfl d4' _ hsteps
/-- 'throw new E("text")', the text by a wide index -/
theorem vx_throwSW {cc : ByteArray} {pc : Nat} (hexec : p.tables.exec = Jvm.exec) (hb : c.code = cc) (hl : l.stackTraces = false) {own cls text : String} {names : List String} {ik is ic mc ms sa : Nat} {A : Nat → Prop}
    (hown : s.vm.findClass own = some m.cls) (hcls : Bundle.fit cls = true) (hnames : ∀ n ∈ names, Bundle.fit n = true)
    (hk : (Cond.classLink own ik cls).before args s = true) (hini : (Cond.initialized cls).before args s = true) (hstr : vk_R own is text sa s) (hat : ∀ w ∈ vx_atS own ic cls names, w.before args s = true)
    (hgood : ∀ w ∈ Cond.classLink own ik cls :: Cond.initialized cls :: vx_atS own ic cls names, vx_ot w = true)
    (hU : vx_Zq Bundle.tN "UNASSIGNED_STACK" Bundle.steD A s s.heap) (hN : vx_Zq Bundle.tN "SUPPRESSED_SENTINEL" Bundle.listD A s s.heap) (hS : va_S A s.heap H locs) (hsize : ls.size = c.maxLocals)
    (d0 : decode cc pc = .ok (.new ik, 3)) (d3 : decode cc (pc + 3) = .ok (.dup, 1)) (d4 : decode cc (pc + 4) = .ok (.ldc_w is, 3)) (d7 : decode cc (pc + 7) = .ok (.invokespecial ic, 3)) (d10 : decode cc (pc + 10) = .ok (.athrow, 1))
    (hout : ∀ x ∈ c.exceptionTable.toList, covers x (pc + 10) = false)
    (hRframes : names.length + 3 < R.frames) (hRlocals : (rest.map fun v => v.category).sum + (13 * (names.length + 1) + 43) ≤ R.locals) (hRcells : cells + 1 ≤ R.cells) (hRslots : slots + 6 ≤ R.slots) (hlocks : meth.locks = false)
    (hx : ∀ t : State, s.vm.Alike t.vm → H.size ≤ t.heap.size → (∀ q : Nat, q < H.size → t.heap[q]? = H[q]?) → XC cls s t)
    (hf : ∀ z ∈ locs, free z.base) (hc : cells + 1 ≤ mc) (hs : slots + 6 ≤ ms) :
    W p l e R s m args below meth c H locs cells slots (vx_MQ below Qc XC args s mc ms free) (F0 m pc ls rest) := by
  intro T hT X
  have htr : e.platform.stackTraces = false := (show e.platform.stackTraces = l.stackTraces by rw [X.admits.platform]).trans hl
  have Y := vx_rebase X (R' := { frames := R.frames, locals := R.locals, cells := 1, slots := 6 }) (Nat.le_refl _) (Nat.le_refl _) hRcells hRslots
  obtain ⟨s', hA⟩ : ∃ z, z = (T.setVm s.vm).setFrames (.invoking m args :: below) := ⟨_, rfl⟩
  rw [← hA] at Y
  have hvm : s'.vm = s.vm := by rw [hA]; rfl
  have hhp : s'.heap = H := by rw [hA]; exact hT
  have hW0 : s.WarmedH s'.vm := by rw [hvm]; exact State.WarmedH.refl s
  have hat' : ∀ w ∈ vx_atS own ic cls names, w.before args s' = true := fun w hw => vx_ot_at hW0 hvm.symm (hgood w (List.mem_cons_of_mem _ (List.mem_cons_of_mem _ hw))) (hat w hw)
  have hk' : (Cond.classLink own ik cls).before args s' = true := vx_ot_at hW0 hvm.symm (hgood _ List.mem_cons_self) hk
  have hini' : (Cond.initialized cls).before args s' = true := vx_ot_at hW0 hvm.symm (hgood _ (List.mem_cons_of_mem _ List.mem_cons_self)) hini
  have hU' : vx_Zq Bundle.tN "UNASSIGNED_STACK" Bundle.steD A s' s'.heap := by rw [hhp]; exact vx_Zq.moved hW0.alike (hU.kept hS.2.1)
  have hN' : vx_Zq Bundle.tN "SUPPRESSED_SENTINEL" Bundle.listD A s' s'.heap := by rw [hhp]; exact vx_Zq.moved hW0.alike (hN.kept hS.2.1)
  have h : ∀ w ∈ Bundle.ownAtoms own ic cls names, w.before args s' = true := vx_own hat' (vx_isRefq hU'.1) (vx_isRefq hN'.1) hU'.2.word hN'.2.word
  have hown' : s'.vm.findClass own = some m.cls := by rw [hvm]; exact hown
  have hins : (Cond.instantiable cls 6).before args s' = true := h _ (by simp [Bundle.ownAtoms])
  obtain ⟨vm₁, cX, kX, hfX, hkX, -, -, X₁, st1⟩ := Y.newCold hexec (own := own) (C := cls) (index := ik) (n := 6) hown' hk' hins hini'
    (g := F0 m pc ls rest) rfl (by rw [hb]; exact d0) (Nat.le_refl _) (Nat.le_refl _)
  generalize hT1 : (T.setVm vm₁).pushCell { cls := cX, slots := kX.instanceTypes.map defaultValue, vm := .none } = T1 at X₁ st1
  have hcat : (Value.ref T.heap.size).category = 1 := rfl
  have hcellA : T1.heap[T.heap.size]? = some (freshCell cX kX) := by rw [← hT1]; exact State.heap_pushCell_size _ _
  have d3' : decode c.code (pc + 3) = .ok (.dup, 1) := by rw [hb]; exact d3
  have d4' : decode c.code (pc + 4) = .ok (.ldc_w is, 3) := by rw [hb]; exact d4
  have hstr' : vk_R own is text sa s' := vk_R.warm hW0 hstr
  obtain ⟨U, hsteps, hrun, hend, hW, hsame, ce, hce, hO⟩ := X₁.ctorThrowS hexec htr (own := own) (cls := cls) (names := names) (ic := ic) hown' hcls hnames h (fun x hx => nomatch hx) hfX hkX hcellA (by rw [hhp, hT]; exact Nat.le_refl _) (msg := .ref sa) rfl
    (g := { method := m, pc := pc + 7, locals := ls, stack := .ref sa :: .ref T.heap.size :: .ref T.heap.size :: rest, locked := none }) rfl hsize rfl rfl (rest := rest) rfl
    (by rw [hb]; exact d7) (by rw [hb]; exact d10) hout hRframes (by simp only [List.map_cons, List.sum_cons, hcat]; omega) hlocks
  obtain ⟨f1, f2⟩ := vx_frame hsame
  rw [hhp] at f1 f2
  have hWs : s.WarmedH U.vm := State.WarmedH.trans hW0 hW
  have hcl : s.vm.findClass cls = some ce.cls := by
    have h9 := hO.cls
    rw [hvm] at h9
    exact h9
  have hall : s.sameButNew ({ U with vm := s.vm } : State) locs mc ms := by
    subst hA
    obtain ⟨e1, e2⟩ := hsame
    rw [State.setFrames_setFrames] at e1
    have h2 : (T.setVm s.vm).sameButNew ({ U with vm := s.vm } : State) [] (0 + 1) (0 + 6) := ⟨e1, e2⟩
    have h3 := X.same.trans h2
    rw [List.append_nil] at h3
    exact h3.mono hc hs
  refine ⟨U, ?_, .threw T.heap.size, hrun, hend, Or.inr ⟨T.heap.size, rfl, cls, ce, locs, hx U hWs.alike f1 (fun q hq => f2 q hq (fun z hz => nomatch hz)), hce, hO.vm, hcl, hWs, hall, hf⟩⟩
  refine st1 _ ?_
  show Steps p.tables e below (T1.setTop { method := m, pc := pc + 3, locals := ls, stack := .ref T.heap.size :: rest, locked := none }) _
  jvm_step X₁.here [X₁.here.top, hexec, d3', Value.category]
  exact X₁.ldcStringW hexec (own := own) (text := text) (index := is) (a := sa) hown' hstr'.1 hstr'.2
    (g := { method := m, pc := pc + 4, locals := ls, stack := .ref T.heap.size :: .ref T.heap.size :: rest, locked := none }) rfl d4' _ hsteps
end Ends
section Bodies
variable {l : Launch}
theorem vx_ofW {y : MethodName} {ws ws' : List Cond} {rm : Room} {Pc : Array Value → State → Prop} {Qc : Array Value → State → Outcome → State → Prop} {XC : String → State → State → Prop} {mc ms : Nat} {free : Addr → Prop} {cc : ByteArray} {maxL : Nat} {ret : Option FieldType}
    (hy : plainName y.cls = true) (hw : ws = Cond.code y cc maxL ret :: ws')
    (body : ∀ p e s m args below meth c s₁, BodyLoose p l y (headSpec ws rm) cc maxL ret e s m args below meth c s₁ → c.maxLocals = maxL → (∀ x ∈ c.exceptionTable.toList, False) → Pc args s →
      W p l e (headSpec ws rm).room s m args below meth c s.heap [] 0 0 (vx_MQ below Qc XC args s mc ms free) (entryFrame m args maxL)) : vx_Met l y ws rm Pc Qc XC mc ms free := by
  refine MetFree.of_bodyS (code := cc) (maxLocals := maxL) (ret := ret) hy ?_ ?_
  · intro args s m h hn
    obtain ⟨meth, c, h1, h2, h3, h4, h5, h6, -, -⟩ := Cond.code_spec hn (atoms_spec (ws := ws) h _ (by rw [hw]; exact List.mem_cons_self))
    exact ⟨meth, c, h1, h2, h3, h4, h5, h6⟩
  · intro p e s m args below meth c s₁ B hml hP _
    have hh0 : s₁.heap = s.heap := by rw [B.state]; rfl
    have ht : ∀ x ∈ c.exceptionTable.toList, False := by
      obtain ⟨meth9, c9, h1, h2, -, -, -, -, h7, -⟩ := Cond.code_spec B.named (atoms_spec (ws := ws) B.pre _ (by rw [hw]; exact List.mem_cons_self))
      cases Option.some.inj (h1.symm.trans B.method)
      cases Option.some.inj (h2.symm.trans (Stand.of_body B).code)
      intro x hx
      rw [Array.isEmpty_iff.mp h7] at hx
      cases hx
    obtain ⟨t, a1, o, b1, b2, b3⟩ := body p e s m args below meth c s₁ B hml ht hP s₁ hh0 (Stand.of_body B)
    exact ⟨t, o, a1, b1, b2, b3⟩
/-- the table of a body with handlers -/
theorem vx_table {p : Program} {x y : MethodName} {S : Spec} {cc bytes : ByteArray} {maxL maxL' : Nat} {ret ret' : Option FieldType} {e : Env} {s s₁ : State} {m : MethodId} {args : Array Value} {below : List Frame} {meth : Method} {c : Code} {hh : List (Nat × Nat × Nat × Nat)}
    (B : BodyLoose p l y S cc maxL ret e s m args below meth c s₁) (h : (Cond.codeWith y bytes maxL' ret' hh).before args s = true) : c.exceptionTable.toList = tableOf hh := by
  obtain ⟨m9, meth9, c9, hn9, h1, h2, -, -, h6, -⟩ := Cond.codeWith_spec h
  cases Option.some.inj (hn9.symm.trans B.named)
  cases Option.some.inj (h1.symm.trans B.method)
  cases Option.some.inj (h2.symm.trans (Stand.of_body B).code)
  rw [← h6, table_eq]
end Bodies
end VXA
/-! ===== END ===== -/
/-! ===== BEGIN a static call of a method with an exception table ===== -/
section VXS
variable {p : Program} {l : Launch} {e : Env} {R : Room} {s : State} {m : MethodId} {args : Array Value} {below : List Frame} {meth : Method} {c : Code} {T : State} {H : Heap} {locs : List Loc} {cells slots : Nat}
abbrev vx_CSW (R : Room) (s : State) (args : Array Value) (own : String) (index : Nat) (y : MethodName) (bytes : ByteArray) (maxL : Nat) (ret : Option FieldType) (hh : List (Nat × Nat × Nat × Nat)) (ws : List Cond) (rm : Room) (mc ms n : Nat) : Prop :=
  (rm.cells = mc ∧ rm.slots = ms ∧ rm.frames + 1 ≤ R.frames ∧ 8 + (maxL + 11) + rm.locals ≤ R.locals ∧ (∀ w ∈ ws, ∀ (a' : Array Value) (U : State), s.WarmedH U.vm → w.before a' U = true) ∧ Cond.codeWith y bytes maxL ret hh ∈ ws) ∧
  (Cond.codeWith y bytes maxL ret hh).before args s = true ∧ (Cond.initialized y.cls).before args s = true ∧ (y.cls ≠ "java/lang/invoke/MethodHandle" ∧ y.cls ≠ "java/lang/invoke/VarHandle") ∧
  (∀ sig, parseMethodDescriptor y.desc = some sig → n = sig.parameters.length) ∧ (Cond.methodLink own index y).before args s = true ∧ (Cond.static y).before args s = true
theorem vx_cwSW {own : String} {index maxL mc ms : Nat} {y : MethodName} {bytes : ByteArray} {ret : Option FieldType} {hh : List (Nat × Nat × Nat × Nat)} {Ts ws ws' : List Cond} {rm : Room} (n : Nat) (ht : ∀ w ∈ Ts, w.before args s = true) (hT : GoodIn Ts (va_wsS own index y ws)) (hw : ws = Cond.codeWith y bytes maxL ret hh :: ws') (hrc : rm.cells = mc) (hrs : rm.slots = ms)
    (hd : y.cls ≠ "java/lang/invoke/MethodHandle" ∧ y.cls ≠ "java/lang/invoke/VarHandle" ∧ (parseMethodDescriptor y.desc).map (fun d => d.parameters.length) = some n) (hR : rm.frames + 1 ≤ R.frames ∧ 8 + (maxL + 11) + rm.locals ≤ R.locals) :
    vx_CSW R s args own index y bytes maxL ret hh ws rm mc ms n := by
  have ok : ∀ w ∈ va_wsS own index y ws, w.before args s = true := fun w h => ht w (hT w h).1
  have hG : GoodIn Ts ws := fun w h => hT w (by unfold va_wsS; exact List.mem_append_right _ h)
  have hc : Cond.codeWith y bytes maxL ret hh ∈ ws := by rw [hw]; exact List.mem_cons_self
  refine ⟨⟨hrc, hrs, hR.1, hR.2, pay_in ht hG, hc⟩, ht _ (hG _ hc).1, ok _ (by simp [va_wsS]), ⟨hd.1, hd.2.1⟩, fun sig h => ?_, ok _ (by simp [va_wsS]), ok _ (by simp [va_wsS])⟩
  have h2 := hd.2.2
  rw [h] at h2
  exact (Option.some.inj h2).symm
theorem vx_callSW (X : Stand p l e R s m args below meth c T locs cells slots) (hexec : p.tables.exec = Jvm.exec) {own : String} {index : Nat} {y : MethodName} {bytes : ByteArray} {maxL : Nat} {ret : Option FieldType} {hh : List (Nat × Nat × Nat × Nat)}
    (hown : s.vm.findClass own = some m.cls) (hlink : (Cond.methodLink own index y).before args s = true) (hstat : (Cond.static y).before args s = true) (hinit : (Cond.initialized y.cls).before args s = true)
    (hcode : (Cond.codeWith y bytes maxL ret hh).before args s = true) (hy : y.cls ≠ "java/lang/invoke/MethodHandle" ∧ y.cls ≠ "java/lang/invoke/VarHandle")
    {W9 : Nat} {Pre : Pt → Array Value → Prop} {Post : Pt → Array Value → Option Value → Pt → Prop} (hK : Back l R p e below s args y 3 W9 Pre Post)
    {g : JFrame} (hg : g.method = m) (hsize : g.locals.size = c.maxLocals) {argsL rest : List Value} (hlen : ∀ sig, parseMethodDescriptor y.desc = some sig → argsL.length = sig.parameters.length)
    (hstack : g.stack = argsL.reverse ++ rest) (hW : 2 * g.monitorRoom + (rest.map fun v => v.category).sum ≤ W9) (hdg : decode c.code g.pc = .ok (.invokestatic index, 3))
    (hpre : ∀ vm₁, s.WarmedH vm₁ → Pre ⟨T.setVm vm₁, locs, cells, slots⟩ argsL.toArray) :
    ∃ (v : Option Value) (vm₁ : Vm) (B : Pt), s.WarmedH vm₁ ∧ Stand p l e R s m args below meth c B.U B.locs B.cells B.slots ∧ Post ⟨T.setVm vm₁, locs, cells, slots⟩ argsL.toArray v B ∧
      ∀ target, Steps p.tables e below (B.U.setTop { g with pc := g.pc + 3, stack := v.toList ++ rest }) target → Steps p.tables e below (T.setTop g) target := by
  obtain ⟨mk, methM, cM, hnamed, hmethM, -, -, -, -, -, -, hsigM⟩ := Cond.codeWith_spec hcode
  have hstatic : methM.isStatic = true := Cond.static_spec hnamed hmethM hstat
  obtain ⟨kP, hkP, -⟩ := className_of_methodNamed hnamed
  have hinitP : kP.init = .initialized := Cond.initialized_spec (findClass_of_methodNamed hnamed) hkP hinit
  obtain ⟨vm₁, X₁, hstep₁⟩ := X.invokestatic hexec hown hlink hnamed hmethM hstatic hkP hinitP hy (g := g) hg (argsL := argsL) (rest := rest) (hlen _ hsigM) hstack hdg
  obtain ⟨v, B, X', hpost, hsteps⟩ := hK m meth c ⟨T.setVm vm₁, locs, cells, slots⟩ { g with stack := rest } (.invokestatic index) mk argsL.toArray X₁ hg hsize hdg hW (X₁.named hnamed) (hpre vm₁ X₁.warmed)
  exact ⟨v, vm₁, B, X₁.warmed, X', hpost, fun target h => hstep₁ _ fun acts => by rw [doInvoke_state]; exact hsteps.trans h⟩
theorem vx_runSW {y : MethodName} {bytes cc : ByteArray} {maxL nL mc ms n index : Nat} {ret : Option FieldType} {hh : List (Nat × Nat × Nat × Nat)} {ws : List Cond} {rm : Room} {Pc : Array Value → State → Prop} {Qc : Array Value → State → Outcome → State → Prop} {free : Addr → Prop} {Ts : List Cond} {own : String} {As rest : List Value} {g : JFrame}
    (S : CallFix p m c cc nL s args Ts own) (hM : Met l y ws rm Pc Qc mc ms free) (cw : vx_CSW R s args own index y bytes maxL ret hh ws rm mc ms n) (hp : PreS s H Pc As)
    (hg : g.method = m) (hn : As.length = n) (hsize : g.locals.size = nL) (hstack : g.stack = As.reverse ++ rest) (hW : 2 * g.monitorRoom + (rest.map fun v => v.category).sum ≤ 8) (hdg : decode cc g.pc = .ok (.invokestatic index, 3)) (hf : cells + mc ≤ R.cells ∧ slots + ms ≤ R.slots) :
    va_Run p l e R s m args below meth c H locs cells slots mc ms g rest (Qc As.toArray) (free) := by
  obtain ⟨⟨hrc, hrs, hfr, hlo, hws, hcw⟩, hcode, hini, hy, hlen, hl, hstt⟩ := cw
  have hK : Back l R p e below s args y 3 8 (PreOf R mc ms Pc) (PostOf Qc mc ms free) := va_backW (hh := hh) (bytes := bytes) (maxL := maxL) (ret := ret) hM hp.1 hrc hrs hfr hlo hws hcw (fun a' U hW => word_at hW (Or.inl (by first | rfl | simp [Cond.onTables, Cond.keeps, Cond.steady])) hini)
  obtain ⟨hx, hb, hml, ho, -⟩ := S
  intro T hT X
  obtain ⟨v, vm₁, ⟨U', l2, c2, s2⟩, hW₁, X', ⟨g', mk, t, L, e1, e2, hq, h1, hL, h2, h3⟩, st⟩ := vx_callSW X hx (hh := hh) (bytes := bytes) (maxL := maxL) (ret := ret) ho hl hstt hini hcode hy hK hg (hsize.trans hml.symm) (argsL := As) (rest := rest) (fun sig h => hn.trans (hlen sig h)) hstack hW (by rw [hb]; exact hdg)
    (fun vm₁ hW₁ => ⟨hf.1, hf.2, hp.2 (T.setVm vm₁) hT hW₁⟩)
  dsimp only [Pt.U, Pt.locs, Pt.cells, Pt.slots] at X' e1 e2 h1 h2 h3 st
  subst h1; subst h2; subst h3
  exact ⟨v, (T.setVm vm₁).calling g' mk As.toArray, t, U', L, hT, X', hL, e1, e2, hq, st⟩
/-- not caught here, past rows that name other classes: it goes on to the caller -/
theorem vx_outP {p : Program} {l : Launch} {e : Env} {R : Room} {s : State} {m : MethodId} {args : Array Value} {below : List Frame} {meth : Method} {c : Code} {H : Heap} {locs : List Loc} {cells slots : Nat} {free : Addr → Prop} {ls : Array Slot} {rest : List Value} {Qc : Array Value → State → Outcome → State → Prop} {XC : String → State → State → Prop}
    {pc : Nat} {own E : String} {ce : Cell} {q : Addr} {mc ms : Nat} (hown : s.vm.findClass own = some m.cls) (hlocks : meth.locks = false)
    (hpass : ∀ z ∈ c.exceptionTable.toList, covers z pc = false ∨ (z.catchType ≠ 0 ∧ ∃ nm : String, (Cond.classLink own z.catchType nm).before args s = true ∧ va_Nc E nm s)) (hcell : H[q]? = some ce) (hv : ce.vm = .none) (hcl : s.vm.findClass E = some ce.cls)
    (hx : ∀ t : State, t.heap = H → s.vm.Alike t.vm → XC E s t) (hf : ∀ z ∈ locs, free z.base) (hc : cells ≤ mc) (hs : slots ≤ ms) :
    vx_W p l e R s m args below meth c H locs cells slots (vx_MQ below Qc XC args s mc ms free) (F0 m pc ls rest) q := by
  intro T hT X
  have hpl : e.platform.magicAccessors = ({} : Platform).magicAccessors := by rw [X.admits.platform]
  obtain ⟨vm', hW', X', st⟩ := X.outThrough hlocks q (g := F0 m pc ls rest) rfl rfl rfl (cell := ce) (by rw [hT]; exact hcell) (by rw [hv]; rfl)
    (by obtain ⟨k9, h9, -⟩ := Vm.findClass_spec hcl; exact ⟨k9, h9⟩) (fun z hz => by
      rcases hpass z hz with h | ⟨hz0, nm, hl1, hn1⟩
      · exact Or.inl h
      · obtain ⟨c6, hc6, hcl6⟩ := Cond.classLink_spec hown hl1 e.platform hpl
        obtain ⟨a8, b8, h1, h2, h3⟩ := hn1
        cases Option.some.inj (h1.symm.trans hcl)
        cases Option.some.inj (h2.symm.trans hc6)
        exact Or.inr ⟨hz0, _, hcl6, h3⟩)
  obtain ⟨g₀, hfr⟩ := X'.frames_eq
  have hcell9 : ((T.setVm vm').setFrames (.throwing q :: below)).heap[q]? = some ce := by
    show T.heap[q]? = some ce
    rw [hT]; exact hcell
  have hend : Ended ((T.setVm vm').setFrames (.throwing q :: below)) below (.threw q) := State.frames_setFrames _ (State.cur_lt_of_frames hfr)
  refine ⟨(T.setVm vm').setFrames (.throwing q :: below), ?_, .threw q, X'.here.running, hend, Or.inr ⟨q, rfl, E, ce, locs, hx _ hT (X'.ends _).1.alike, hcell9, hv, hcl, (X'.ends _).1, (X'.ends _).2.mono hc hs, hf⟩⟩
  rw [X.pushThrowing_eq]
  exact st
/-- a thing of a world lies in the heap -/
theorem vx_lt {D : va_G} {cl : List vw_C} {ws : va_W} {H1 : Heap} (h : va_P D cl ws H1) {k : Nat} {q : Nat × va_E} (hk : ws[k]? = some q) : q.1 < H1.size := (h k q hk).lt
end VXS
/-! ===== END ===== -/
/-! ===== BEGIN methods with a table of their own: called by a name, returning or throwing ===== -/
section VXH
/-! vx_backW, vx_callVX, vx_callSX, vx_callVW, vx_runVW, vx_runVX, vx_runSX, vx_ofWH follow the same proofs as their sisters above (Free/Laws.lean, Shelf42/LK1.lean); vx_outP calls Shelf42/NT130.lean (outThrough). -/
section
variable {l : Launch} {R : Room} {p : Program} {e : Env} {below : List Frame} {s : State} {sargs : Array Value} {y : MethodName} {len W9 : Nat}
theorem vx_backW {ws : List Cond} {rm : Room} {Pc : Array Value → State → Prop} {Qc : Array Value → State → Outcome → State → Prop} {XC : String → State → State → Prop} {mc ms : Nat} {free : Addr → Prop} {bytes : ByteArray} {maxL : Nat} {ret : Option FieldType} {hh : List (Nat × Nat × Nat × Nat)}
    (hM : vx_Met l y ws rm Pc Qc XC mc ms free) (hblind : FrameBlind Pc) (hrc : rm.cells = mc) (hrs : rm.slots = ms)
    (hframes : rm.frames + 1 ≤ R.frames) (hlocals : W9 + (maxL + 11) + rm.locals ≤ R.locals)
    (hws : ∀ w ∈ ws, ∀ a' U, s.WarmedH U.vm → w.before a' U = true) (hcode : Cond.codeWith y bytes maxL ret hh ∈ ws) (hinit : ∀ a' U, s.WarmedH U.vm → (Cond.initialized y.cls).before a' U = true) :
    vx_Back l R p e below s sargs y len W9 (PreOf R mc ms Pc) (PostOf Qc mc ms free) (vx_Post XC mc ms free) := by
  intro m meth c A g ig mk a X hg hsize hdg hW hn hp
  have h1 : (headSpec ws rm).pre.before a A.U = true := atoms_intro fun w hw => hws w hw _ _ X.warmed
  have h2 : (Cond.codeWith y bytes maxL ret hh).before a A.U = true := hws _ hcode _ _ X.warmed
  have h3 : (Cond.initialized y.cls).before a A.U = true := hinit _ _ X.warmed
  have h4 : A.cells + (headSpec ws rm).room.cells ≤ R.cells := by rw [show (headSpec ws rm).room.cells = mc from hrc]; exact hp.1
  have h5 : A.slots + (headSpec ws rm).room.slots ≤ R.slots := by rw [show (headSpec ws rm).room.slots = ms from hrs]; exact hp.2.1
  have hPc : Pc a (A.U.calling g mk a) := hblind _ _ _ _ hp.2.2
  obtain ⟨U, Ls, c0, s0⟩ := A
  dsimp only [Pt.U, Pt.locs, Pt.cells, Pt.slots] at h1 h2 h3 h4 h5 X hn hPc ⊢
  obtain ⟨m9, methY, cY, hn9, hmY, hcY, -, hlY, -⟩ := Cond.codeWith_spec h2
  cases Option.some.inj (hn9.symm.trans hn)
  obtain ⟨kY, hkY, -⟩ := className_of_methodNamed hn
  have hinitY : kY.init = .initialized := Cond.initialized_spec (findClass_of_methodNamed hn) hkY h3
  have h : At U g.method c below := by rw [hg]; exact X.here
  have hlocals9 : W9 + (maxL + 11) + (headSpec ws rm).room.locals ≤ R.locals := hlocals
  have happ : (headSpec ws rm).appliesLoose y e.platform (U.calling g mk a) = true :=
    Spec.appliesLoose_calling (g := g) h hdg hn hkY hinitY
      (X.room_calling (g := g) (R' := (headSpec ws rm).room) hsize hmY hcY hframes (by rw [hlY]; omega) h4 h5) h1
  obtain ⟨mid, hmid⟩ := h.above
  have hfr : (U.setTop g).frames = (.java g :: mid) ++ below := by rw [State.frames_setTop' g h.top, hmid]; rfl
  obtain ⟨o, s₂, hsteps, -, hend, hq⟩ := Steps.callFree hM p X.admits X.cas X.clock (acts := []) hfr happ hPc trivial
  have hq' : vx_Q Qc XC mc ms free a (U.calling g mk a) o s₂ := hq
  rw [State.frames_setTop' g h.top] at hend
  obtain ⟨g₀, hg0⟩ := Option.isSome_iff_exists.mp h.top
  obtain ⟨r, hr⟩ := State.topJava?_eq_some.mp hg0
  have hr' : (({ U with heap := s₂.heap, slotsUsed := s₂.slotsUsed } : State).setVm s₂.vm).frames = .java g₀ :: r := hr
  rcases hq' with ⟨hqc, L, hfe, hL⟩ | ⟨q, rfl, E, ce, L, hx, hce, hcv, hcl, hW₂, hsm, hL⟩
  · obtain ⟨⟨v, rfl⟩, hW₂, e2, q2, q3, q4, q5, q6⟩ := id hfe
    have e3 : s₂ = ({ (U.calling g mk a).setFrames s₂.frames with heap := s₂.heap, slotsUsed := s₂.slotsUsed } : State).setVm s₂.vm := by
      have : s₂ = ({ s₂ with vm := (U.calling g mk a).vm } : State).setVm s₂.vm := rfl
      rw [e2] at this
      exact this
    obtain ⟨c₂, i₂, len₂, hc₂, hd₂, hf₂⟩ := hend
    have hW' : U.WarmedH s₂.vm := hW₂
    have hcc : c₂ = c := by
      have h1 : s₂.code? g.method = U.code? g.method := by
        rw [State.code?_eq, State.code?_eq, hW'.alike.method?]
      exact Option.some.inj (hc₂.symm.trans (h1.trans h.code))
    subst hcc
    have hlen : len₂ = len := by rw [hdg] at hd₂; cases hd₂; rfl
    subst hlen
    have hs₂ : s₂ = (({ U with heap := s₂.heap, slotsUsed := s₂.slotsUsed } : State).setVm s₂.vm).setTop { g with pc := g.pc + len₂, stack := v.toList ++ g.stack } := by
      refine e3.trans ?_
      rw [hf₂, State.calling_eq h.top, State.setFrames_setFrames, State.setTop_of_frames _ hr', hr]
      rfl
    have hsame : U.sameButNew ({ U with heap := s₂.heap, slotsUsed := s₂.slotsUsed } : State) L mc ms := by
      refine ⟨?_, q2, q3, q4, q5, q6⟩
      obtain ⟨t, ht, -⟩ := State.frames_cons hr
      show ({ U with heap := s₂.heap, slotsUsed := s₂.slotsUsed } : State) = { U.setFrames U.frames with heap := s₂.heap, slotsUsed := s₂.slotsUsed }
      rw [State.setFrames_self ht]
    subst hg
    refine Or.inl ⟨v, ⟨(({ U with heap := s₂.heap, slotsUsed := s₂.slotsUsed } : State).setVm s₂.vm), Ls ++ L, c0 + mc, s0 + ms⟩,
      ⟨X.admits, X.cas, X.clock, X.frames, X.room, X.hears, X.method, X.code, (X.here.setHeapUsed s₂.heap s₂.slotsUsed).setVm hW'.alike, X.tail, State.WarmedH.trans X.warmed hW', X.limits, X.bytes, X.same.trans (hsame.setVm s.vm)⟩,
      ⟨g, mk, s₂, L, rfl, rfl, hqc, rfl, hL, rfl, rfl⟩, ?_⟩
    show Steps p.tables e below _ ((({ U with heap := s₂.heap, slotsUsed := s₂.slotsUsed } : State).setVm s₂.vm).setTop { g with pc := g.pc + len₂, stack := v.toList ++ g.stack })
    rw [← hs₂]
    exact hsteps
  · obtain ⟨e2, q2, q3, q4, q5, q6⟩ := id hsm
    have e3 : s₂ = ({ (U.calling g mk a).setFrames s₂.frames with heap := s₂.heap, slotsUsed := s₂.slotsUsed } : State).setVm s₂.vm := by
      have : s₂ = ({ s₂ with vm := (U.calling g mk a).vm } : State).setVm s₂.vm := rfl
      rw [e2] at this
      exact this
    have hf₂ : s₂.frames = .throwing q :: .java g :: U.frames.tail := hend
    have hW' : U.WarmedH s₂.vm := hW₂
    have hs₂ : s₂ = ((({ U with heap := s₂.heap, slotsUsed := s₂.slotsUsed } : State).setVm s₂.vm).setTop g).pushFrame (.throwing q) := by
      refine e3.trans ?_
      rw [hf₂, State.calling_eq h.top, State.setFrames_setFrames, State.pushFrame, State.frames_setTop _ hr', State.setTop_of_frames _ hr', State.setFrames_setFrames, hr]
      rfl
    have hsame : U.sameButNew ({ U with heap := s₂.heap, slotsUsed := s₂.slotsUsed } : State) L mc ms := by
      refine ⟨?_, q2, q3, q4, q5, q6⟩
      obtain ⟨t, ht, -⟩ := State.frames_cons hr
      show ({ U with heap := s₂.heap, slotsUsed := s₂.slotsUsed } : State) = { U.setFrames U.frames with heap := s₂.heap, slotsUsed := s₂.slotsUsed }
      rw [State.setFrames_self ht]
    subst hg
    refine Or.inr ⟨q, ⟨(({ U with heap := s₂.heap, slotsUsed := s₂.slotsUsed } : State).setVm s₂.vm), Ls ++ L, c0 + mc, s0 + ms⟩,
      ⟨X.admits, X.cas, X.clock, X.frames, X.room, X.hears, X.method, X.code, (X.here.setHeapUsed s₂.heap s₂.slotsUsed).setVm hW'.alike, X.tail, State.WarmedH.trans X.warmed hW', X.limits, X.bytes, X.same.trans (hsame.setVm s.vm)⟩,
      ⟨g, mk, s₂, L, E, ce, rfl, rfl, hx, hce, hcv, hcl, rfl, hL, rfl, rfl⟩, ?_⟩
    show Steps p.tables e below _ (((({ U with heap := s₂.heap, slotsUsed := s₂.slotsUsed } : State).setVm s₂.vm).setTop g).pushFrame (.throwing q))
    rw [← hs₂]
    exact hsteps
end
variable {p : Program} {l : Launch} {e : Env} {R : Room} {s : State} {m : MethodId} {args : Array Value} {below : List Frame} {meth : Method} {c : Code} {T : State} {H : Heap} {locs : List Loc} {cells slots : Nat}
theorem vx_callVX (X : Stand p l e R s m args below meth c T locs cells slots) (hexec : p.tables.exec = Jvm.exec) {own C : String} {index : Nat} {y : MethodName} {bytes : ByteArray} {maxL : Nat} {ret : Option FieldType} {hh : List (Nat × Nat × Nat × Nat)}
    (hown : s.vm.findClass own = some m.cls) (hlink : (Cond.methodLink own index y).before args s = true) (hinst : (Cond.instanceMethod y).before args s = true) (hsel : (Cond.selects C y y).before args s = true)
    (hcode : (Cond.codeWith y bytes maxL ret hh).before args s = true) (hy : y.cls ≠ "java/lang/invoke/MethodHandle" ∧ y.cls ≠ "java/lang/invoke/VarHandle")
    {W9 : Nat} {Pre : Pt → Array Value → Prop} {Post : Pt → Array Value → Option Value → Pt → Prop} {PostX : Pt → Array Value → Addr → Pt → Prop} (hK : vx_Back l R p e below s args y 3 W9 Pre Post PostX)
    {b : Addr} {cellB : Cell} (hcell : T.heap[b]? = some cellB) (hobj : cellB.vm.isStatics = false) (hcls : s.vm.findClass C = some cellB.cls)
    {g : JFrame} (hg : g.method = m) (hsize : g.locals.size = c.maxLocals) {argsL rest : List Value} (hlen : ∀ sig, parseMethodDescriptor y.desc = some sig → argsL.length = sig.parameters.length)
    (hstack : g.stack = argsL.reverse ++ .ref b :: rest) (hW : 2 * g.monitorRoom + (rest.map fun v => v.category).sum ≤ W9) (hdg : decode c.code g.pc = .ok (.invokevirtual index, 3))
    (hpre : ∀ vm₁, s.WarmedH vm₁ → Pre ⟨T.setVm vm₁, locs, cells, slots⟩ (Value.ref b :: argsL).toArray) :
    (∃ (v : Option Value) (vm₁ : Vm) (B : Pt), s.WarmedH vm₁ ∧ Stand p l e R s m args below meth c B.U B.locs B.cells B.slots ∧ Post ⟨T.setVm vm₁, locs, cells, slots⟩ (Value.ref b :: argsL).toArray v B ∧
      ∀ target, Steps p.tables e below (B.U.setTop { g with pc := g.pc + 3, stack := v.toList ++ rest }) target → Steps p.tables e below (T.setTop g) target) ∨
    (∃ (q : Addr) (vm₁ : Vm) (B : Pt), s.WarmedH vm₁ ∧ Stand p l e R s m args below meth c B.U B.locs B.cells B.slots ∧ PostX ⟨T.setVm vm₁, locs, cells, slots⟩ (Value.ref b :: argsL).toArray q B ∧
      Steps p.tables e below (T.setTop g) ((B.U.setTop { g with stack := rest }).pushFrame (.throwing q))) := by
  obtain ⟨mk, methM, hnamed, hmethM, hstM, habM⟩ := Cond.instanceMethod_spec hinst
  obtain ⟨m8, methM', cM, hn8, hmethM', -, -, -, -, -, -, hsigM⟩ := Cond.codeWith_spec hcode
  cases Option.some.inj (hn8.symm.trans hnamed)
  cases hmethM.symm.trans hmethM'
  obtain ⟨c2, r2, m2, q1, q2, q3, q4, kP, hkP, hkPi⟩ := Cond.selects_spec hsel
  cases hcls.symm.trans q1
  cases (State.methodFound?_of_named hnamed hy).symm.trans q2
  cases hnamed.symm.trans q3
  have hselP : selectMethod e.platform s.vm cellB.cls mk = .method mk := by rw [Launch.admits_selectMethod X.admits]; exact q4
  obtain ⟨vm₁, X₁, hstep₁⟩ := X.invokevirtual hexec hown hlink hnamed hmethM hstM hkP hkPi hy (a := b) (cell := cellB) hcell
    (fun z h => by rw [h] at hobj; cases hobj) hselP hmethM habM hkP hkPi (g := g) hg (argsL := argsL) (rest := rest) (hlen _ hsigM) hstack hdg
  rcases hK m meth c ⟨T.setVm vm₁, locs, cells, slots⟩ { g with stack := rest } (.invokevirtual index) mk (Value.ref b :: argsL).toArray X₁ hg hsize hdg hW (X₁.named hnamed) (hpre vm₁ X₁.warmed) with ⟨v, B, X', hpost, hsteps⟩ | ⟨q, B, X', hpost, hsteps⟩
  · exact Or.inl ⟨v, vm₁, B, X₁.warmed, X', hpost, fun target h => hstep₁ _ fun acts => by rw [doInvoke_state]; exact hsteps.trans h⟩
  · exact Or.inr ⟨q, vm₁, B, X₁.warmed, X', hpost, hstep₁ _ fun acts => by rw [doInvoke_state]; exact hsteps⟩
theorem vx_callSX (X : Stand p l e R s m args below meth c T locs cells slots) (hexec : p.tables.exec = Jvm.exec) {own : String} {index : Nat} {y : MethodName} {bytes : ByteArray} {maxL : Nat} {ret : Option FieldType} {hh : List (Nat × Nat × Nat × Nat)}
    (hown : s.vm.findClass own = some m.cls) (hlink : (Cond.methodLink own index y).before args s = true) (hstat : (Cond.static y).before args s = true) (hinit : (Cond.initialized y.cls).before args s = true)
    (hcode : (Cond.codeWith y bytes maxL ret hh).before args s = true) (hy : y.cls ≠ "java/lang/invoke/MethodHandle" ∧ y.cls ≠ "java/lang/invoke/VarHandle")
    {W9 : Nat} {Pre : Pt → Array Value → Prop} {Post : Pt → Array Value → Option Value → Pt → Prop} {PostX : Pt → Array Value → Addr → Pt → Prop} (hK : vx_Back l R p e below s args y 3 W9 Pre Post PostX)
    {g : JFrame} (hg : g.method = m) (hsize : g.locals.size = c.maxLocals) {argsL rest : List Value} (hlen : ∀ sig, parseMethodDescriptor y.desc = some sig → argsL.length = sig.parameters.length)
    (hstack : g.stack = argsL.reverse ++ rest) (hW : 2 * g.monitorRoom + (rest.map fun v => v.category).sum ≤ W9) (hdg : decode c.code g.pc = .ok (.invokestatic index, 3))
    (hpre : ∀ vm₁, s.WarmedH vm₁ → Pre ⟨T.setVm vm₁, locs, cells, slots⟩ argsL.toArray) :
    (∃ (v : Option Value) (vm₁ : Vm) (B : Pt), s.WarmedH vm₁ ∧ Stand p l e R s m args below meth c B.U B.locs B.cells B.slots ∧ Post ⟨T.setVm vm₁, locs, cells, slots⟩ argsL.toArray v B ∧
      ∀ target, Steps p.tables e below (B.U.setTop { g with pc := g.pc + 3, stack := v.toList ++ rest }) target → Steps p.tables e below (T.setTop g) target) ∨
    (∃ (q : Addr) (vm₁ : Vm) (B : Pt), s.WarmedH vm₁ ∧ Stand p l e R s m args below meth c B.U B.locs B.cells B.slots ∧ PostX ⟨T.setVm vm₁, locs, cells, slots⟩ argsL.toArray q B ∧
      Steps p.tables e below (T.setTop g) ((B.U.setTop { g with stack := rest }).pushFrame (.throwing q))) := by
  obtain ⟨mk, methM, cM, hnamed, hmethM, -, -, -, -, -, -, hsigM⟩ := Cond.codeWith_spec hcode
  have hstatic : methM.isStatic = true := Cond.static_spec hnamed hmethM hstat
  obtain ⟨kP, hkP, -⟩ := className_of_methodNamed hnamed
  have hinitP : kP.init = .initialized := Cond.initialized_spec (findClass_of_methodNamed hnamed) hkP hinit
  obtain ⟨vm₁, X₁, hstep₁⟩ := X.invokestatic hexec hown hlink hnamed hmethM hstatic hkP hinitP hy (g := g) hg (argsL := argsL) (rest := rest) (hlen _ hsigM) hstack hdg
  rcases hK m meth c ⟨T.setVm vm₁, locs, cells, slots⟩ { g with stack := rest } (.invokestatic index) mk argsL.toArray X₁ hg hsize hdg hW (X₁.named hnamed) (hpre vm₁ X₁.warmed) with ⟨v, B, X', hpost, hsteps⟩ | ⟨q, B, X', hpost, hsteps⟩
  · exact Or.inl ⟨v, vm₁, B, X₁.warmed, X', hpost, fun target h => hstep₁ _ fun acts => by rw [doInvoke_state]; exact hsteps.trans h⟩
  · exact Or.inr ⟨q, vm₁, B, X₁.warmed, X', hpost, hstep₁ _ fun acts => by rw [doInvoke_state]; exact hsteps⟩
theorem vx_callVW (X : Stand p l e R s m args below meth c T locs cells slots) (hexec : p.tables.exec = Jvm.exec) {own C : String} {index : Nat} {y : MethodName} {bytes : ByteArray} {maxL : Nat} {ret : Option FieldType} {hh : List (Nat × Nat × Nat × Nat)}
    (hown : s.vm.findClass own = some m.cls) (hlink : (Cond.methodLink own index y).before args s = true) (hinst : (Cond.instanceMethod y).before args s = true) (hsel : (Cond.selects C y y).before args s = true)
    (hcode : (Cond.codeWith y bytes maxL ret hh).before args s = true) (hy : y.cls ≠ "java/lang/invoke/MethodHandle" ∧ y.cls ≠ "java/lang/invoke/VarHandle")
    {W9 : Nat} {Pre : Pt → Array Value → Prop} {Post : Pt → Array Value → Option Value → Pt → Prop} (hK : Back l R p e below s args y 3 W9 Pre Post)
    {b : Addr} {cellB : Cell} (hcell : T.heap[b]? = some cellB) (hobj : cellB.vm.isStatics = false) (hcls : s.vm.findClass C = some cellB.cls)
    {g : JFrame} (hg : g.method = m) (hsize : g.locals.size = c.maxLocals) {argsL rest : List Value} (hlen : ∀ sig, parseMethodDescriptor y.desc = some sig → argsL.length = sig.parameters.length)
    (hstack : g.stack = argsL.reverse ++ .ref b :: rest) (hW : 2 * g.monitorRoom + (rest.map fun v => v.category).sum ≤ W9) (hdg : decode c.code g.pc = .ok (.invokevirtual index, 3))
    (hpre : ∀ vm₁, s.WarmedH vm₁ → Pre ⟨T.setVm vm₁, locs, cells, slots⟩ (Value.ref b :: argsL).toArray) :
    ∃ (v : Option Value) (vm₁ : Vm) (B : Pt), s.WarmedH vm₁ ∧ Stand p l e R s m args below meth c B.U B.locs B.cells B.slots ∧ Post ⟨T.setVm vm₁, locs, cells, slots⟩ (Value.ref b :: argsL).toArray v B ∧
      ∀ target, Steps p.tables e below (B.U.setTop { g with pc := g.pc + 3, stack := v.toList ++ rest }) target → Steps p.tables e below (T.setTop g) target := by
  obtain ⟨mk, methM, hnamed, hmethM, hstM, habM⟩ := Cond.instanceMethod_spec hinst
  obtain ⟨m8, methM', cM, hn8, hmethM', -, -, -, -, -, -, hsigM⟩ := Cond.codeWith_spec hcode
  cases Option.some.inj (hn8.symm.trans hnamed)
  cases hmethM.symm.trans hmethM'
  obtain ⟨c2, r2, m2, q1, q2, q3, q4, kP, hkP, hkPi⟩ := Cond.selects_spec hsel
  cases hcls.symm.trans q1
  cases (State.methodFound?_of_named hnamed hy).symm.trans q2
  cases hnamed.symm.trans q3
  have hselP : selectMethod e.platform s.vm cellB.cls mk = .method mk := by rw [Launch.admits_selectMethod X.admits]; exact q4
  obtain ⟨vm₁, X₁, hstep₁⟩ := X.invokevirtual hexec hown hlink hnamed hmethM hstM hkP hkPi hy (a := b) (cell := cellB) hcell
    (fun z h => by rw [h] at hobj; cases hobj) hselP hmethM habM hkP hkPi (g := g) hg (argsL := argsL) (rest := rest) (hlen _ hsigM) hstack hdg
  obtain ⟨v, B, X', hpost, hsteps⟩ := hK m meth c ⟨T.setVm vm₁, locs, cells, slots⟩ { g with stack := rest } (.invokevirtual index) mk (Value.ref b :: argsL).toArray X₁ hg hsize hdg hW (X₁.named hnamed) (hpre vm₁ X₁.warmed)
  exact ⟨v, vm₁, B, X₁.warmed, X', hpost, fun target h => hstep₁ _ fun acts => by rw [doInvoke_state]; exact hsteps.trans h⟩
abbrev vx_CVW (R : Room) (s : State) (args : Array Value) (own C : String) (index : Nat) (y : MethodName) (bytes : ByteArray) (maxL : Nat) (ret : Option FieldType) (hh : List (Nat × Nat × Nat × Nat)) (ws : List Cond) (rm : Room) (mc ms n : Nat) : Prop :=
  (rm.cells = mc ∧ rm.slots = ms ∧ rm.frames + 1 ≤ R.frames ∧ 8 + (maxL + 11) + rm.locals ≤ R.locals ∧ (∀ w ∈ ws, ∀ (a' : Array Value) (U : State), s.WarmedH U.vm → w.before a' U = true) ∧ Cond.codeWith y bytes maxL ret hh ∈ ws) ∧
  (Cond.codeWith y bytes maxL ret hh).before args s = true ∧ (Cond.initialized y.cls).before args s = true ∧ (y.cls ≠ "java/lang/invoke/MethodHandle" ∧ y.cls ≠ "java/lang/invoke/VarHandle") ∧
  (∀ sig, parseMethodDescriptor y.desc = some sig → n = sig.parameters.length) ∧ (Cond.methodLink own index y).before args s = true ∧ (Cond.instanceMethod y).before args s = true ∧ (Cond.selects C y y).before args s = true
theorem vx_cwVW {own C : String} {index maxL mc ms : Nat} {y : MethodName} {bytes : ByteArray} {ret : Option FieldType} {hh : List (Nat × Nat × Nat × Nat)} {Ts ws ws' : List Cond} {rm : Room} (n : Nat) (ht : ∀ w ∈ Ts, w.before args s = true) (hT : GoodIn Ts (wsV own index C y ws)) (hw : ws = Cond.codeWith y bytes maxL ret hh :: ws') (hrc : rm.cells = mc) (hrs : rm.slots = ms)
    (hd : y.cls = C ∧ y.cls ≠ "java/lang/invoke/MethodHandle" ∧ y.cls ≠ "java/lang/invoke/VarHandle" ∧ (parseMethodDescriptor y.desc).map (fun d => d.parameters.length) = some n) (hR : rm.frames + 1 ≤ R.frames ∧ 8 + (maxL + 11) + rm.locals ≤ R.locals) :
    vx_CVW R s args own C index y bytes maxL ret hh ws rm mc ms n := by
  obtain ⟨hC, hd⟩ := hd
  subst hC
  have ok : ∀ w ∈ wsV own index y.cls y ws, w.before args s = true := fun w h => ht w (hT w h).1
  have hG : GoodIn Ts ws := fun w h => hT w (by unfold wsV; exact List.mem_append_right _ h)
  have hc : Cond.codeWith y bytes maxL ret hh ∈ ws := by rw [hw]; exact List.mem_cons_self
  refine ⟨⟨hrc, hrs, hR.1, hR.2, pay_in ht hG, hc⟩, ht _ (hG _ hc).1, ok _ (by simp [wsV]), ⟨hd.1, hd.2.1⟩, fun sig h => ?_, ok _ (by simp [wsV]), ok _ (by simp [wsV]), ok _ (by simp [wsV])⟩
  have h2 := hd.2.2
  rw [h] at h2
  exact (Option.some.inj h2).symm
theorem vx_runVW {y : MethodName} {bytes cc : ByteArray} {maxL nL mc ms n index : Nat} {ret : Option FieldType} {hh : List (Nat × Nat × Nat × Nat)} {ws : List Cond} {rm : Room} {Pc : Array Value → State → Prop} {Qc : Array Value → State → Outcome → State → Prop} {free : Addr → Prop} {Ts : List Cond} {own C : String} {b : Addr} {As rest : List Value} {g : JFrame}
    (S : CallFix p m c cc nL s args Ts own) (hM : Met l y ws rm Pc Qc mc ms free) (cw : vx_CVW R s args own C index y bytes maxL ret hh ws rm mc ms n) (hp : PreV s H C b Pc As)
    (hg : g.method = m) (hn : As.length = n) (hsize : g.locals.size = nL) (hstack : g.stack = As.reverse ++ .ref b :: rest) (hW : 2 * g.monitorRoom + (rest.map fun v => v.category).sum ≤ 8) (hdg : decode cc g.pc = .ok (.invokevirtual index, 3)) (hf : cells + mc ≤ R.cells ∧ slots + ms ≤ R.slots) :
    va_Run p l e R s m args below meth c H locs cells slots mc ms g rest (Qc (Value.ref b :: As).toArray) free := by
  obtain ⟨⟨hrc, hrs, hfr, hlo, hws, hcw⟩, hcode, hini, hy, hlen, hl, hin, hse⟩ := cw
  have hK : Back l R p e below s args y 3 8 (PreOf R mc ms Pc) (PostOf Qc mc ms free) := va_backW (hh := hh) (bytes := bytes) (maxL := maxL) (ret := ret) hM hp.1 hrc hrs hfr hlo hws hcw (fun a' U hW => word_at hW (Or.inl (by first | rfl | simp [Cond.onTables, Cond.keeps, Cond.steady])) hini)
  obtain ⟨hx, hb, hml, ho, -⟩ := S
  obtain ⟨-, ⟨cellB, hcB, hoB, hclB⟩, hPc⟩ := hp
  intro T hT X
  obtain ⟨v, vm₁, ⟨U', l2, c2, s2⟩, hW₁, X', ⟨g', mk, t, L, e1, e2, hq, h1, hL, h2, h3⟩, st⟩ := vx_callVW X hx (C := C) (hh := hh) (bytes := bytes) (maxL := maxL) (ret := ret) ho hl hin hse hcode hy hK (by rw [hT]; exact hcB) hoB hclB hg (hsize.trans hml.symm) (argsL := As) (rest := rest) (fun sig h => hn.trans (hlen sig h)) hstack hW (by rw [hb]; exact hdg)
    (fun vm₁ hW₁ => ⟨hf.1, hf.2, hPc (T.setVm vm₁) hT hW₁⟩)
  dsimp only [Pt.U, Pt.locs, Pt.cells, Pt.slots] at X' e1 e2 h1 h2 h3 st
  subst h1; subst h2; subst h3
  exact ⟨v, (T.setVm vm₁).calling g' mk (Value.ref b :: As).toArray, t, U', L, hT, X', hL, e1, e2, hq, st⟩
section
variable {y : MethodName} {bytes cc : ByteArray} {maxL nL mc ms n index : Nat} {ret : Option FieldType} {ws : List Cond} {rm : Room} {Pc : Array Value → State → Prop} {Qc : Array Value → State → Outcome → State → Prop} {XC : String → State → State → Prop} {free : Addr → Prop} {Ts : List Cond} {own C : String} {b : Addr} {As rest : List Value} {g : JFrame}
theorem vx_runVX {hh : List (Nat × Nat × Nat × Nat)} (S : CallFix p m c cc nL s args Ts own) (hM : vx_Met l y ws rm Pc Qc XC mc ms free) (cw : vx_CVW R s args own C index y bytes maxL ret hh ws rm mc ms n) (hp : PreV s H C b Pc As)
    (hg : g.method = m) (hn : As.length = n) (hsize : g.locals.size = nL) (hstack : g.stack = As.reverse ++ .ref b :: rest) (hW : 2 * g.monitorRoom + (rest.map fun v => v.category).sum ≤ 8) (hdg : decode cc g.pc = .ok (.invokevirtual index, 3)) (hf : cells + mc ≤ R.cells ∧ slots + ms ≤ R.slots) :
    vx_Run p l e R s m args below meth c H locs cells slots mc ms g rest (Qc (Value.ref b :: As).toArray) XC free := by
  obtain ⟨⟨hrc, hrs, hfr, hlo, hws, hcw⟩, hcode, hini, hy, hlen, hl, hin, hse⟩ := cw
  have hK : vx_Back l R p e below s args y 3 8 (PreOf R mc ms Pc) (PostOf Qc mc ms free) (vx_Post XC mc ms free) := vx_backW (hh := hh) (bytes := bytes) (maxL := maxL) (ret := ret) hM hp.1 hrc hrs hfr hlo hws hcw (fun a' U hW => word_at hW (Or.inl (by first | rfl | simp [Cond.onTables, Cond.keeps, Cond.steady])) hini)
  obtain ⟨hx, hb, hml, ho, -⟩ := S
  obtain ⟨-, ⟨cellB, hcB, hoB, hclB⟩, hPc⟩ := hp
  intro T hT X
  rcases vx_callVX X hx (C := C) (hh := hh) (bytes := bytes) (maxL := maxL) (ret := ret) ho hl hin hse hcode hy hK (by rw [hT]; exact hcB) hoB hclB hg (hsize.trans hml.symm) (argsL := As) (rest := rest) (fun sig h => hn.trans (hlen sig h)) hstack hW (by rw [hb]; exact hdg)
    (fun vm₁ hW₁ => ⟨hf.1, hf.2, hPc (T.setVm vm₁) hT hW₁⟩) with ⟨v, vm₁, ⟨U', l2, c2, s2⟩, hW₁, X', ⟨g', mk, t, L, e1, e2, hq, h1, hL, h2, h3⟩, st⟩ | ⟨q, vm₁, ⟨U', l2, c2, s2⟩, hW₁, X', ⟨g', mk, t, L, E, ce, e1, e2, hq, hce, hcv, hcl, h1, hL, h2, h3⟩, st⟩
  · dsimp only [Pt.U, Pt.locs, Pt.cells, Pt.slots] at X' e1 e2 h1 h2 h3 st
    subst h1; subst h2; subst h3
    exact Or.inl ⟨v, (T.setVm vm₁).calling g' mk (Value.ref b :: As).toArray, t, U', L, hT, X', hL, e1, e2, hq, st⟩
  · dsimp only [Pt.U, Pt.locs, Pt.cells, Pt.slots] at X' e1 e2 h1 h2 h3 st hcl
    subst h1; subst h2; subst h3
    exact Or.inr ⟨q, (T.setVm vm₁).calling g' mk (Value.ref b :: As).toArray, t, U', L, E, ce, hT, X', hL, e1, e2, hq, hce, hcv, vx_cls hW₁ hcl, st⟩
theorem vx_runSX {hh : List (Nat × Nat × Nat × Nat)} (S : CallFix p m c cc nL s args Ts own) (hM : vx_Met l y ws rm Pc Qc XC mc ms free) (cw : vx_CSW R s args own index y bytes maxL ret hh ws rm mc ms n) (hp : PreS s H Pc As)
    (hg : g.method = m) (hn : As.length = n) (hsize : g.locals.size = nL) (hstack : g.stack = As.reverse ++ rest) (hW : 2 * g.monitorRoom + (rest.map fun v => v.category).sum ≤ 8) (hdg : decode cc g.pc = .ok (.invokestatic index, 3)) (hf : cells + mc ≤ R.cells ∧ slots + ms ≤ R.slots) :
    vx_Run p l e R s m args below meth c H locs cells slots mc ms g rest (Qc As.toArray) XC free := by
  obtain ⟨⟨hrc, hrs, hfr, hlo, hws, hcw⟩, hcode, hini, hy, hlen, hl, hstt⟩ := cw
  have hK : vx_Back l R p e below s args y 3 8 (PreOf R mc ms Pc) (PostOf Qc mc ms free) (vx_Post XC mc ms free) := vx_backW (hh := hh) (bytes := bytes) (maxL := maxL) (ret := ret) hM hp.1 hrc hrs hfr hlo hws hcw (fun a' U hW => word_at hW (Or.inl (by first | rfl | simp [Cond.onTables, Cond.keeps, Cond.steady])) hini)
  obtain ⟨hx, hb, hml, ho, -⟩ := S
  intro T hT X
  rcases vx_callSX X hx (hh := hh) (bytes := bytes) (maxL := maxL) (ret := ret) ho hl hstt hini hcode hy hK hg (hsize.trans hml.symm) (argsL := As) (rest := rest) (fun sig h => hn.trans (hlen sig h)) hstack hW (by rw [hb]; exact hdg)
    (fun vm₁ hW₁ => ⟨hf.1, hf.2, hp.2 (T.setVm vm₁) hT hW₁⟩) with ⟨v, vm₁, ⟨U', l2, c2, s2⟩, hW₁, X', ⟨g', mk, t, L, e1, e2, hq, h1, hL, h2, h3⟩, st⟩ | ⟨q, vm₁, ⟨U', l2, c2, s2⟩, hW₁, X', ⟨g', mk, t, L, E, ce, e1, e2, hq, hce, hcv, hcl, h1, hL, h2, h3⟩, st⟩
  · dsimp only [Pt.U, Pt.locs, Pt.cells, Pt.slots] at X' e1 e2 h1 h2 h3 st
    subst h1; subst h2; subst h3
    exact Or.inl ⟨v, (T.setVm vm₁).calling g' mk As.toArray, t, U', L, hT, X', hL, e1, e2, hq, st⟩
  · dsimp only [Pt.U, Pt.locs, Pt.cells, Pt.slots] at X' e1 e2 h1 h2 h3 st hcl
    subst h1; subst h2; subst h3
    exact Or.inr ⟨q, (T.setVm vm₁).calling g' mk As.toArray, t, U', L, E, ce, hT, X', hL, e1, e2, hq, hce, hcv, vx_cls hW₁ hcl, st⟩
end
end VXH
theorem vx_ofWH {l : Launch} {y : MethodName} {ws ws' : List Cond} {rm : Room} {Pc : Array Value → State → Prop} {Qc : Array Value → State → Outcome → State → Prop} {XC : String → State → State → Prop} {mc ms : Nat} {free : Addr → Prop} {cc : ByteArray} {maxL : Nat} {ret : Option FieldType} {hh : List (Nat × Nat × Nat × Nat)}
    (hy : plainName y.cls = true) (hw : ws = Cond.codeWith y cc maxL ret hh :: ws')
    (body : ∀ p e s m args below meth c s₁, BodyLoose p l y (headSpec ws rm) cc maxL ret e s m args below meth c s₁ → c.maxLocals = maxL → Pc args s →
      W p l e (headSpec ws rm).room s m args below meth c s.heap [] 0 0 (vx_MQ below Qc XC args s mc ms free) (entryFrame m args maxL)) : vx_Met l y ws rm Pc Qc XC mc ms free := by
  refine MetFree.of_bodyS (code := cc) (maxLocals := maxL) (ret := ret) hy ?_ ?_
  · intro args s m h hn
    obtain ⟨m9, meth, c, hn9, h1, h2, h3, h4, -, h5, h6, -⟩ := Cond.codeWith_spec (atoms_spec (ws := ws) h _ (by rw [hw]; exact List.mem_cons_self))
    cases hn.symm.trans hn9
    exact ⟨meth, c, h1, h2, h3, h4, h5, h6⟩
  · intro p e s m args below meth c s₁ B hml hP _
    have hh0 : s₁.heap = s.heap := by rw [B.state]; rfl
    obtain ⟨t, a1, o, b1, b2, b3⟩ := body p e s m args below meth c s₁ B hml hP s₁ hh0 (Stand.of_body B)
    exact ⟨t, o, a1, b1, b2, b3⟩
/-! ===== END ===== -/
end
section
def RX0 : String := "TideTable$Follow"
def TX0 : u_T := fun k => match k with
  | 0 => ("TideTable$Follow", "shift", "I", false)
  | _ => ("TideTable$Follow", "factor", "I", false)
def tyX0 : Nat → FieldType := fun k => match k with
  | 0 => .int
  | _ => .int
theorem nmX0 : ∀ a, a < 2 → ∀ b, b < 2 → a ≠ b → (TX0 a).2.1 ≠ (TX0 b).2.1 := by decide +kernel
theorem tyX0_ok : ∀ k, k < 2 → parseFieldDescriptor (TX0 k).2.2.1 = some (tyX0 k) := by decide +kernel
abbrev cX0_init : ByteArray := prog_2_method_1_code
def yX0_init : MethodName := ⟨RX0, "<init>", "()V"⟩
def RX1 : String := "TideTable$Port"
def TX1 : u_T := fun k => match k with
  | 0 => ("TideTable$Port", "highs", "LTideTable$Follow;", true)
  | 1 => ("TideTable$Port", "lows", "LTideTable$Follow;", true)
  | _ => ("TideTable$Port", "addition", "I", false)
def tyX1 : Nat → FieldType := fun k => match k with
  | 0 => .object "TideTable$Follow"
  | 1 => .object "TideTable$Follow"
  | _ => .int
theorem nmX1 : ∀ a, a < 3 → ∀ b, b < 3 → a ≠ b → (TX1 a).2.1 ≠ (TX1 b).2.1 := by decide +kernel
theorem tyX1_ok : ∀ k, k < 3 → parseFieldDescriptor (TX1 k).2.2.1 = some (tyX1 k) := by decide +kernel
abbrev cX1_init : ByteArray := prog_3_method_1_code
def yX1_init : MethodName := ⟨RX1, "<init>", "()V"⟩
abbrev cX1_followOf : ByteArray := prog_3_method_2_code
def yX1_followOf : MethodName := ⟨RX1, "followOf", "(Z)LTideTable$Follow;"⟩
abbrev cX1_timeOf : ByteArray := prog_3_method_3_code
def yX1_timeOf : MethodName := ⟨RX1, "timeOf", "(LTideTable$Table;I)I"⟩
abbrev cX1_heightOf : ByteArray := prog_3_method_4_code
def yX1_heightOf : MethodName := ⟨RX1, "heightOf", "(LTideTable$Table;I)I"⟩
abbrev cX1_isOrderly : ByteArray := prog_3_method_5_code
def yX1_isOrderly : MethodName := ⟨RX1, "isOrderly", "(LTideTable$Table;)Z"⟩
abbrev cX1_latestWater : ByteArray := prog_3_method_6_code
def yX1_latestWater : MethodName := ⟨RX1, "latestWater", "(LTideTable$Table;II)I"⟩
abbrev cX1_heightBehind : ByteArray := prog_3_method_7_code
def yX1_heightBehind : MethodName := ⟨RX1, "heightBehind", "(LTideTable$Table;II)I"⟩
abbrev cX1_twelfthsGone : ByteArray := prog_3_method_8_code
def yX1_twelfthsGone : MethodName := ⟨RX1, "twelfthsGone", "(JJ)J"⟩
def RX2 : String := "TideTable$Reading"
def TX2 : u_T := fun k => match k with
  | _ => ("", "", "", false)
def tyX2 : Nat → FieldType := fun k => match k with
  | _ => .int
theorem nmX2 : ∀ a, a < 0 → ∀ b, b < 0 → a ≠ b → (TX2 a).2.1 ≠ (TX2 b).2.1 := by decide +kernel
theorem tyX2_ok : ∀ k, k < 0 → parseFieldDescriptor (TX2 k).2.2.1 = some (tyX2 k) := by decide +kernel
def RX3 : String := "TideTable$Table"
def TX3 : u_T := fun k => match k with
  | 0 => ("TideTable$Table", "heights", "[I", true)
  | 1 => ("TideTable$Table", "waterTimes", "[I", true)
  | 2 => ("TideTable$Table", "waterHeights", "[I", true)
  | 3 => ("TideTable$Table", "waterHighs", "[Z", true)
  | _ => ("TideTable$Table", "waters", "I", false)
def tyX3 : Nat → FieldType := fun k => match k with
  | 0 => .array .int
  | 1 => .array .int
  | 2 => .array .int
  | 3 => .array .boolean
  | _ => .int
theorem nmX3 : ∀ a, a < 5 → ∀ b, b < 5 → a ≠ b → (TX3 a).2.1 ≠ (TX3 b).2.1 := by decide +kernel
theorem tyX3_ok : ∀ k, k < 5 → parseFieldDescriptor (TX3 k).2.2.1 = some (tyX3 k) := by decide +kernel
abbrev cX3_init : ByteArray := prog_5_method_1_code
def yX3_init : MethodName := ⟨RX3, "<init>", "()V"⟩
abbrev cX3_fill : ByteArray := prog_5_method_2_code
def yX3_fill : MethodName := ⟨RX3, "fill", "(LTideTable$Tide;)V"⟩
abbrev cX3_findWaters : ByteArray := prog_5_method_3_code
def yX3_findWaters : MethodName := ⟨RX3, "findWaters", "()V"⟩
abbrev cX3_noteWater : ByteArray := prog_5_method_4_code
def yX3_noteWater : MethodName := ⟨RX3, "noteWater", "(IIZ)V"⟩
abbrev cX3_hasWater : ByteArray := prog_5_method_5_code
def yX3_hasWater : MethodName := ⟨RX3, "hasWater", "(I)Z"⟩
abbrev cX3_isBetweenWaters : ByteArray := prog_5_method_6_code
def yX3_isBetweenWaters : MethodName := ⟨RX3, "isBetweenWaters", "(I)Z"⟩
abbrev cX3_heightAt : ByteArray := prog_5_method_7_code
def yX3_heightAt : MethodName := ⟨RX3, "heightAt", "(I)I"⟩
abbrev cX3_timeOf : ByteArray := prog_5_method_8_code
def yX3_timeOf : MethodName := ⟨RX3, "timeOf", "(I)I"⟩
abbrev cX3_heightOf : ByteArray := prog_5_method_9_code
def yX3_heightOf : MethodName := ⟨RX3, "heightOf", "(I)I"⟩
abbrev cX3_isHigh : ByteArray := prog_5_method_10_code
def yX3_isHigh : MethodName := ⟨RX3, "isHigh", "(I)Z"⟩
abbrev cX3_datumOf : ByteArray := prog_5_method_11_code
def yX3_datumOf : MethodName := ⟨RX3, "datumOf", "(I)I"⟩
abbrev cX3_greatestHeight : ByteArray := prog_5_method_12_code
def yX3_greatestHeight : MethodName := ⟨RX3, "greatestHeight", "()I"⟩
abbrev cX3_leastHeight : ByteArray := prog_5_method_13_code
def yX3_leastHeight : MethodName := ⟨RX3, "leastHeight", "()I"⟩
abbrev cX3_meanOfWaters : ByteArray := prog_5_method_14_code
def yX3_meanOfWaters : MethodName := ⟨RX3, "meanOfWaters", "(Z)I"⟩
abbrev cX3_greatestDifference : ByteArray := prog_5_method_15_code
def yX3_greatestDifference : MethodName := ⟨RX3, "greatestDifference", "()I"⟩
def RX4 : String := "TideTable$Tally"
def TX4 : u_T := fun k => match k with
  | _ => ("", "", "", false)
def tyX4 : Nat → FieldType := fun k => match k with
  | _ => .int
theorem nmX4 : ∀ a, a < 0 → ∀ b, b < 0 → a ≠ b → (TX4 a).2.1 ≠ (TX4 b).2.1 := by decide +kernel
theorem tyX4_ok : ∀ k, k < 0 → parseFieldDescriptor (TX4 k).2.2.1 = some (tyX4 k) := by decide +kernel
def RX5 : String := "TideTable$Tide"
def TX5 : u_T := fun k => match k with
  | 0 => ("TideTable$Tide", "waves", "Ljava/util/ArrayList;", true)
  | _ => ("TideTable$Tide", "level", "I", false)
def tyX5 : Nat → FieldType := fun k => match k with
  | 0 => .object "java/util/ArrayList"
  | _ => .int
theorem nmX5 : ∀ a, a < 2 → ∀ b, b < 2 → a ≠ b → (TX5 a).2.1 ≠ (TX5 b).2.1 := by decide +kernel
theorem tyX5_ok : ∀ k, k < 2 → parseFieldDescriptor (TX5 k).2.2.1 = some (tyX5 k) := by decide +kernel
abbrev cX5_init : ByteArray := prog_7_method_1_code
def yX5_init : MethodName := ⟨RX5, "<init>", "()V"⟩
abbrev cX5_heightAt : ByteArray := prog_7_method_2_code
def yX5_heightAt : MethodName := ⟨RX5, "heightAt", "(I)I"⟩
def RX6 : String := "TideTable$Wave"
def TX6 : u_T := fun k => match k with
  | 0 => ("TideTable$Wave", "range", "I", false)
  | 1 => ("TideTable$Wave", "period", "I", true)
  | _ => ("TideTable$Wave", "offset", "I", true)
def tyX6 : Nat → FieldType := fun k => match k with
  | 0 => .int
  | 1 => .int
  | _ => .int
theorem nmX6 : ∀ a, a < 3 → ∀ b, b < 3 → a ≠ b → (TX6 a).2.1 ≠ (TX6 b).2.1 := by decide +kernel
theorem tyX6_ok : ∀ k, k < 3 → parseFieldDescriptor (TX6 k).2.2.1 = some (tyX6 k) := by decide +kernel
abbrev cX6_init : ByteArray := prog_8_method_1_code
def yX6_init : MethodName := ⟨RX6, "<init>", "(III)V"⟩
abbrev cX6_heightAt : ByteArray := prog_8_method_2_code
def yX6_heightAt : MethodName := ⟨RX6, "heightAt", "(I)I"⟩
def RX7 : String := "TideTable"
def TX7 : u_T := fun k => match k with
  | 0 => ("TideTable", "tide", "LTideTable$Tide;", true)
  | 1 => ("TideTable", "table", "LTideTable$Table;", true)
  | 2 => ("TideTable", "ports", "Ljava/util/ArrayList;", true)
  | 3 => ("TideTable", "readings", "Ljava/util/ArrayList;", true)
  | _ => ("TideTable", "isTableOld", "Z", false)
def tyX7 : Nat → FieldType := fun k => match k with
  | 0 => .object "TideTable$Tide"
  | 1 => .object "TideTable$Table"
  | 2 => .object "java/util/ArrayList"
  | 3 => .object "java/util/ArrayList"
  | _ => .boolean
theorem nmX7 : ∀ a, a < 5 → ∀ b, b < 5 → a ≠ b → (TX7 a).2.1 ≠ (TX7 b).2.1 := by decide +kernel
theorem tyX7_ok : ∀ k, k < 5 → parseFieldDescriptor (TX7 k).2.2.1 = some (tyX7 k) := by decide +kernel
abbrev cX7_init : ByteArray := prog_1_method_1_code
def yX7_init : MethodName := ⟨RX7, "<init>", "()V"⟩
abbrev cX7_addWave : ByteArray := prog_1_method_2_code
def yX7_addWave : MethodName := ⟨RX7, "addWave", "(III)I"⟩
abbrev cX7_height : ByteArray := prog_1_method_5_code
def yX7_height : MethodName := ⟨RX7, "height", "(I)I"⟩
abbrev cX7_count : ByteArray := prog_1_method_7_code
def yX7_count : MethodName := ⟨RX7, "count", "(I)I"⟩
abbrev cX7_water : ByteArray := prog_1_method_8_code
def yX7_water : MethodName := ⟨RX7, "water", "(II)I"⟩
abbrev cX7_next : ByteArray := prog_1_method_9_code
def yX7_next : MethodName := ⟨RX7, "next", "(IZ)I"⟩
abbrev cX7_datum : ByteArray := prog_1_method_10_code
def yX7_datum : MethodName := ⟨RX7, "datum", "(I)I"⟩
abbrev cX7_addPort : ByteArray := prog_1_method_11_code
def yX7_addPort : MethodName := ⟨RX7, "addPort", "()I"⟩
abbrev cX7_setPort : ByteArray := prog_1_method_12_code
def yX7_setPort : MethodName := ⟨RX7, "setPort", "(IZII)I"⟩
abbrev cX7_setAddition : ByteArray := prog_1_method_13_code
def yX7_setAddition : MethodName := ⟨RX7, "setAddition", "(II)I"⟩
abbrev cX7_isInOrder : ByteArray := prog_1_method_14_code
def yX7_isInOrder : MethodName := ⟨RX7, "isInOrder", "(I)Z"⟩
abbrev cX7_portWater : ByteArray := prog_1_method_15_code
def yX7_portWater : MethodName := ⟨RX7, "portWater", "(IIZ)I"⟩
abbrev cX7_portHeight : ByteArray := prog_1_method_16_code
def yX7_portHeight : MethodName := ⟨RX7, "portHeight", "(II)I"⟩
abbrev cX7_isWithin : ByteArray := prog_1_method_23_code
def yX7_isWithin : MethodName := ⟨RX7, "isWithin", "(III)Z"⟩
abbrev cX7_isMinute : ByteArray := prog_1_method_24_code
def yX7_isMinute : MethodName := ⟨RX7, "isMinute", "(I)Z"⟩
abbrev cX7_quotient : ByteArray := prog_1_method_25_code
def yX7_quotient : MethodName := ⟨RX7, "quotient", "(JJ)J"⟩
abbrev cX7_hasPort : ByteArray := prog_1_method_27_code
def yX7_hasPort : MethodName := ⟨RX7, "hasPort", "(I)Z"⟩
abbrev cX7_currentTable : ByteArray := prog_1_method_28_code
def yX7_currentTable : MethodName := ⟨RX7, "currentTable", "()LTideTable$Table;"⟩
abbrev cX7_numberOf : ByteArray := prog_1_method_29_code
def yX7_numberOf : MethodName := ⟨RX7, "numberOf", "(I)I"⟩
def RX8 : String := "TideTableModel"
def TX8 : u_T := fun k => match k with
  | _ => ("", "", "", false)
def tyX8 : Nat → FieldType := fun k => match k with
  | _ => .int
theorem nmX8 : ∀ a, a < 0 → ∀ b, b < 0 → a ≠ b → (TX8 a).2.1 ≠ (TX8 b).2.1 := by decide +kernel
theorem tyX8_ok : ∀ k, k < 0 → parseFieldDescriptor (TX8 k).2.2.1 = some (tyX8 k) := by decide +kernel
def RJx145de : String := "java/io/Serializable"
def TJx145de : u_T := fun k => match k with
  | _ => ("", "", "", false)
def tyJx145de : Nat → FieldType := fun k => match k with
  | _ => .int
theorem nmJx145de : ∀ a, a < 0 → ∀ b, b < 0 → a ≠ b → (TJx145de a).2.1 ≠ (TJx145de b).2.1 := by decide +kernel
theorem tyJx145de_ok : ∀ k, k < 0 → parseFieldDescriptor (TJx145de k).2.2.1 = some (tyJx145de k) := by decide +kernel
def RJx8e188 : String := "java/lang/Cloneable"
def TJx8e188 : u_T := fun k => match k with
  | _ => ("", "", "", false)
def tyJx8e188 : Nat → FieldType := fun k => match k with
  | _ => .int
theorem nmJx8e188 : ∀ a, a < 0 → ∀ b, b < 0 → a ≠ b → (TJx8e188 a).2.1 ≠ (TJx8e188 b).2.1 := by decide +kernel
theorem tyJx8e188_ok : ∀ k, k < 0 → parseFieldDescriptor (TJx8e188 k).2.2.1 = some (tyJx8e188 k) := by decide +kernel
def RJ6 : String := "java/lang/Integer"
def TJ6 : u_T := fun k => match k with
  | _ => ("", "", "", false)
def tyJ6 : Nat → FieldType := fun k => match k with
  | _ => .int
theorem nmJ6 : ∀ a, a < 0 → ∀ b, b < 0 → a ≠ b → (TJ6 a).2.1 ≠ (TJ6 b).2.1 := by decide +kernel
theorem tyJ6_ok : ∀ k, k < 0 → parseFieldDescriptor (TJ6 k).2.2.1 = some (tyJ6 k) := by decide +kernel
abbrev cJ6_compare_7cf53 : ByteArray := prog_17_method_40_code
def yJ6_compare_7cf53 : MethodName := ⟨RJ6, "compare", "(II)I"⟩
def RJxab1ab : String := "java/lang/Iterable"
def TJxab1ab : u_T := fun k => match k with
  | _ => ("", "", "", false)
def tyJxab1ab : Nat → FieldType := fun k => match k with
  | _ => .int
theorem nmJxab1ab : ∀ a, a < 0 → ∀ b, b < 0 → a ≠ b → (TJxab1ab a).2.1 ≠ (TJxab1ab b).2.1 := by decide +kernel
theorem tyJxab1ab_ok : ∀ k, k < 0 → parseFieldDescriptor (TJxab1ab k).2.2.1 = some (tyJxab1ab k) := by decide +kernel
def RJ9 : String := "java/lang/Math"
def TJ9 : u_T := fun k => match k with
  | _ => ("", "", "", false)
def tyJ9 : Nat → FieldType := fun k => match k with
  | _ => .int
theorem nmJ9 : ∀ a, a < 0 → ∀ b, b < 0 → a ≠ b → (TJ9 a).2.1 ≠ (TJ9 b).2.1 := by decide +kernel
theorem tyJ9_ok : ∀ k, k < 0 → parseFieldDescriptor (TJ9 k).2.2.1 = some (tyJ9 k) := by decide +kernel
abbrev cJ9_abs_0f7a4 : ByteArray := prog_19_method_59_code
def yJ9_abs_0f7a4 : MethodName := ⟨RJ9, "abs", "(I)I"⟩
abbrev cJ9_max_7cf53 : ByteArray := prog_19_method_65_code
def yJ9_max_7cf53 : MethodName := ⟨RJ9, "max", "(II)I"⟩
abbrev cJ9_min_7cf53 : ByteArray := prog_19_method_69_code
def yJ9_min_7cf53 : MethodName := ⟨RJ9, "min", "(II)I"⟩
def RJ0 : String := "java/lang/String"
def TJ0 : u_T := fun k => match k with
  | _ => ("", "", "", false)
def tyJ0 : Nat → FieldType := fun k => match k with
  | _ => .int
theorem nmJ0 : ∀ a, a < 0 → ∀ b, b < 0 → a ≠ b → (TJ0 a).2.1 ≠ (TJ0 b).2.1 := by decide +kernel
theorem tyJ0_ok : ∀ k, k < 0 → parseFieldDescriptor (TJ0 k).2.2.1 = some (tyJ0 k) := by decide +kernel
def RJ10 : String := "java/lang/System"
def TJ10 : u_T := fun k => match k with
  | _ => ("", "", "", false)
def tyJ10 : Nat → FieldType := fun k => match k with
  | _ => .int
theorem nmJ10 : ∀ a, a < 0 → ∀ b, b < 0 → a ≠ b → (TJ10 a).2.1 ≠ (TJ10 b).2.1 := by decide +kernel
theorem tyJ10_ok : ∀ k, k < 0 → parseFieldDescriptor (TJ10 k).2.2.1 = some (tyJ10 k) := by decide +kernel
def RJxa1e45 : String := "java/util/AbstractCollection"
def TJxa1e45 : u_T := fun k => match k with
  | _ => ("", "", "", false)
def tyJxa1e45 : Nat → FieldType := fun k => match k with
  | _ => .int
theorem nmJxa1e45 : ∀ a, a < 0 → ∀ b, b < 0 → a ≠ b → (TJxa1e45 a).2.1 ≠ (TJxa1e45 b).2.1 := by decide +kernel
theorem tyJxa1e45_ok : ∀ k, k < 0 → parseFieldDescriptor (TJxa1e45 k).2.2.1 = some (tyJxa1e45 k) := by decide +kernel
abbrev cJxa1e45_init_da8c8 : ByteArray := prog_24_method_1_code
def yJxa1e45_init_da8c8 : MethodName := ⟨RJxa1e45, "<init>", "()V"⟩
def RJxc12de : String := "java/util/AbstractList"
def TJxc12de : u_T := fun k => match k with
  | _ => ("", "", "", false)
def tyJxc12de : Nat → FieldType := fun k => match k with
  | _ => .int
theorem nmJxc12de : ∀ a, a < 0 → ∀ b, b < 0 → a ≠ b → (TJxc12de a).2.1 ≠ (TJxc12de b).2.1 := by decide +kernel
theorem tyJxc12de_ok : ∀ k, k < 0 → parseFieldDescriptor (TJxc12de k).2.2.1 = some (tyJxc12de k) := by decide +kernel
abbrev cJxc12de_init_da8c8 : ByteArray := prog_25_method_1_code
def yJxc12de_init_da8c8 : MethodName := ⟨RJxc12de, "<init>", "()V"⟩
def RJx4a65c : String := "java/util/ArrayList"
def TJx4a65c : u_T := fun k => match k with
  | 0 => ("java/util/AbstractList", "modCount", "I", false)
  | 1 => ("java/util/ArrayList", "elementData", "[Ljava/lang/Object;", false)
  | _ => ("java/util/ArrayList", "size", "I", false)
def tyJx4a65c : Nat → FieldType := fun k => match k with
  | 0 => .int
  | 1 => .array (.object "java/lang/Object")
  | _ => .int
theorem nmJx4a65c : ∀ a, a < 3 → ∀ b, b < 3 → a ≠ b → (TJx4a65c a).2.1 ≠ (TJx4a65c b).2.1 := by decide +kernel
theorem tyJx4a65c_ok : ∀ k, k < 3 → parseFieldDescriptor (TJx4a65c k).2.2.1 = some (tyJx4a65c k) := by decide +kernel
abbrev cJx4a65c_init_da8c8 : ByteArray := prog_26_method_2_code
def yJx4a65c_init_da8c8 : MethodName := ⟨RJx4a65c, "<init>", "()V"⟩
abbrev cJx4a65c_grow_92f84 : ByteArray := prog_26_method_6_code
def yJx4a65c_grow_92f84 : MethodName := ⟨RJx4a65c, "grow", "(I)[Ljava/lang/Object;"⟩
abbrev cJx4a65c_grow_d5877 : ByteArray := prog_26_method_7_code
def yJx4a65c_grow_d5877 : MethodName := ⟨RJx4a65c, "grow", "()[Ljava/lang/Object;"⟩
abbrev cJx4a65c_size_8abf5 : ByteArray := prog_26_method_8_code
def yJx4a65c_size_8abf5 : MethodName := ⟨RJx4a65c, "size", "()I"⟩
abbrev cJx4a65c_elementData_915e3 : ByteArray := prog_26_method_18_code
def yJx4a65c_elementData_915e3 : MethodName := ⟨RJx4a65c, "elementData", "(I)Ljava/lang/Object;"⟩
abbrev cJx4a65c_get_915e3 : ByteArray := prog_26_method_20_code
def yJx4a65c_get_915e3 : MethodName := ⟨RJx4a65c, "get", "(I)Ljava/lang/Object;"⟩
abbrev cJx4a65c_add_72be8 : ByteArray := prog_26_method_24_code
def yJx4a65c_add_72be8 : MethodName := ⟨RJx4a65c, "add", "(Ljava/lang/Object;[Ljava/lang/Object;I)V"⟩
abbrev cJx4a65c_add_9ea2d : ByteArray := prog_26_method_25_code
def yJx4a65c_add_9ea2d : MethodName := ⟨RJx4a65c, "add", "(Ljava/lang/Object;)Z"⟩
def RJ7 : String := "java/util/Arrays"
def TJ7 : u_T := fun k => match k with
  | _ => ("", "", "", false)
def tyJ7 : Nat → FieldType := fun k => match k with
  | _ => .int
theorem nmJ7 : ∀ a, a < 0 → ∀ b, b < 0 → a ≠ b → (TJ7 a).2.1 ≠ (TJ7 b).2.1 := by decide +kernel
theorem tyJ7_ok : ∀ k, k < 0 → parseFieldDescriptor (TJ7 k).2.2.1 = some (tyJ7 k) := by decide +kernel
abbrev cJ7_copyOf_1904c : ByteArray := prog_27_method_119_code
def yJ7_copyOf_1904c : MethodName := ⟨RJ7, "copyOf", "([Ljava/lang/Object;I)[Ljava/lang/Object;"⟩
abbrev cJ7_copyOf_6403c : ByteArray := prog_27_method_120_code
def yJ7_copyOf_6403c : MethodName := ⟨RJ7, "copyOf", "([Ljava/lang/Object;ILjava/lang/Class;)[Ljava/lang/Object;"⟩
def RJx5ef63 : String := "java/util/Collection"
def TJx5ef63 : u_T := fun k => match k with
  | _ => ("", "", "", false)
def tyJx5ef63 : Nat → FieldType := fun k => match k with
  | _ => .int
theorem nmJx5ef63 : ∀ a, a < 0 → ∀ b, b < 0 → a ≠ b → (TJx5ef63 a).2.1 ≠ (TJx5ef63 b).2.1 := by decide +kernel
theorem tyJx5ef63_ok : ∀ k, k < 0 → parseFieldDescriptor (TJx5ef63 k).2.2.1 = some (tyJx5ef63 k) := by decide +kernel
def RJxbd725 : String := "java/util/List"
def TJxbd725 : u_T := fun k => match k with
  | _ => ("", "", "", false)
def tyJxbd725 : Nat → FieldType := fun k => match k with
  | _ => .int
theorem nmJxbd725 : ∀ a, a < 0 → ∀ b, b < 0 → a ≠ b → (TJxbd725 a).2.1 ≠ (TJxbd725 b).2.1 := by decide +kernel
theorem tyJxbd725_ok : ∀ k, k < 0 → parseFieldDescriptor (TJxbd725 k).2.2.1 = some (tyJxbd725 k) := by decide +kernel
def RJ15 : String := "java/util/Objects"
def TJ15 : u_T := fun k => match k with
  | _ => ("", "", "", false)
def tyJ15 : Nat → FieldType := fun k => match k with
  | _ => .int
theorem nmJ15 : ∀ a, a < 0 → ∀ b, b < 0 → a ≠ b → (TJ15 a).2.1 ≠ (TJ15 b).2.1 := by decide +kernel
theorem tyJ15_ok : ∀ k, k < 0 → parseFieldDescriptor (TJ15 k).2.2.1 = some (tyJ15 k) := by decide +kernel
abbrev cJ15_checkIndex_7cf53 : ByteArray := prog_30_method_17_code
def yJ15_checkIndex_7cf53 : MethodName := ⟨RJ15, "checkIndex", "(II)I"⟩
def RJxf0a74 : String := "java/util/RandomAccess"
def TJxf0a74 : u_T := fun k => match k with
  | _ => ("", "", "", false)
def tyJxf0a74 : Nat → FieldType := fun k => match k with
  | _ => .int
theorem nmJxf0a74 : ∀ a, a < 0 → ∀ b, b < 0 → a ≠ b → (TJxf0a74 a).2.1 ≠ (TJxf0a74 b).2.1 := by decide +kernel
theorem tyJxf0a74_ok : ∀ k, k < 0 → parseFieldDescriptor (TJxf0a74 k).2.2.1 = some (tyJxf0a74 k) := by decide +kernel
def RJxa66e6 : String := "java/util/SequencedCollection"
def TJxa66e6 : u_T := fun k => match k with
  | _ => ("", "", "", false)
def tyJxa66e6 : Nat → FieldType := fun k => match k with
  | _ => .int
theorem nmJxa66e6 : ∀ a, a < 0 → ∀ b, b < 0 → a ≠ b → (TJxa66e6 a).2.1 ≠ (TJxa66e6 b).2.1 := by decide +kernel
theorem tyJxa66e6_ok : ∀ k, k < 0 → parseFieldDescriptor (TJxa66e6 k).2.2.1 = some (tyJxa66e6 k) := by decide +kernel
def RJ8 : String := "jdk/internal/util/ArraysSupport"
def TJ8 : u_T := fun k => match k with
  | _ => ("", "", "", false)
def tyJ8 : Nat → FieldType := fun k => match k with
  | _ => .int
theorem nmJ8 : ∀ a, a < 0 → ∀ b, b < 0 → a ≠ b → (TJ8 a).2.1 ≠ (TJ8 b).2.1 := by decide +kernel
theorem tyJ8_ok : ∀ k, k < 0 → parseFieldDescriptor (TJ8 k).2.2.1 = some (tyJ8 k) := by decide +kernel
abbrev cJ8_newLength_cabcc : ByteArray := prog_33_method_27_code
def yJ8_newLength_cabcc : MethodName := ⟨RJ8, "newLength", "(III)I"⟩
abbrev cJ8_hugeLength_7cf53 : ByteArray := prog_33_method_28_code
def yJ8_hugeLength_7cf53 : MethodName := ⟨RJ8, "hugeLength", "(II)I"⟩
def RJ3 : String := "jdk/internal/util/Preconditions"
def TJ3 : u_T := fun k => match k with
  | _ => ("", "", "", false)
def tyJ3 : Nat → FieldType := fun k => match k with
  | _ => .int
theorem nmJ3 : ∀ a, a < 0 → ∀ b, b < 0 → a ≠ b → (TJ3 a).2.1 ≠ (TJ3 b).2.1 := by decide +kernel
theorem tyJ3_ok : ∀ k, k < 0 → parseFieldDescriptor (TJ3 k).2.2.1 = some (tyJ3 k) := by decide +kernel
abbrev cJ3_checkIndex_8e157 : ByteArray := prog_34_method_11_code
def yJ3_checkIndex_8e157 : MethodName := ⟨RJ3, "checkIndex", "(IILjava/util/function/BiFunction;)I"⟩
def RL : String := "TideTableLaw"
abbrev cL_below : ByteArray := method_2_code
def yL_below : MethodName := ⟨RL, "below", "(II)I"⟩
abbrev cL_cell : ByteArray := method_3_code
def yL_cell : MethodName := ⟨RL, "cell", "([II)I"⟩
abbrev cL_waves : ByteArray := method_4_code
def yL_waves : MethodName := ⟨RL, "waves", "(LTideTable;[II[I)I"⟩
abbrev cL_law : ByteArray := code
def yL_law : MethodName := ⟨RL, "law", "([I)Z"⟩
abbrev vwCl : List vw_C := [(RJx4a65c, TJx4a65c, 3), (RX0, TX0, 2), (RX1, TX1, 3), (RX0, TX0, 2), (RX3, TX3, 5), (RX0, TX0, 2), (RX5, TX5, 2), (RX6, TX6, 3), (RX7, TX7, 5)]
end
section
theorem dJ6_compare_7cf53_0 : decode cJ6_compare_7cf53 0 = .ok (.iload_n 0, 1) := by decide +kernel
theorem dJ6_compare_7cf53_1 : decode cJ6_compare_7cf53 1 = .ok (.iload_n 1, 1) := by decide +kernel
theorem dJ6_compare_7cf53_2 : decode cJ6_compare_7cf53 2 = .ok (.if_icmp .ge 7, 3) := by decide +kernel
theorem dJ6_compare_7cf53_5 : decode cJ6_compare_7cf53 5 = .ok (.iconst (-1), 1) := by decide +kernel
theorem dJ6_compare_7cf53_6 : decode cJ6_compare_7cf53 6 = .ok (.goto 13, 3) := by decide +kernel
theorem dJ6_compare_7cf53_9 : decode cJ6_compare_7cf53 9 = .ok (.iload_n 0, 1) := by decide +kernel
theorem dJ6_compare_7cf53_10 : decode cJ6_compare_7cf53 10 = .ok (.iload_n 1, 1) := by decide +kernel
theorem dJ6_compare_7cf53_11 : decode cJ6_compare_7cf53 11 = .ok (.if_icmp .ne 7, 3) := by decide +kernel
theorem dJ6_compare_7cf53_14 : decode cJ6_compare_7cf53 14 = .ok (.iconst 0, 1) := by decide +kernel
theorem dJ6_compare_7cf53_15 : decode cJ6_compare_7cf53 15 = .ok (.goto 4, 3) := by decide +kernel
theorem dJ6_compare_7cf53_18 : decode cJ6_compare_7cf53 18 = .ok (.iconst 1, 1) := by decide +kernel
theorem dJ6_compare_7cf53_19 : decode cJ6_compare_7cf53 19 = .ok (.ireturn, 1) := by decide +kernel
theorem dJ9_abs_0f7a4_0 : decode cJ9_abs_0f7a4 0 = .ok (.iload_n 0, 1) := by decide +kernel
theorem dJ9_abs_0f7a4_1 : decode cJ9_abs_0f7a4 1 = .ok (.ifCond .ge 8, 3) := by decide +kernel
theorem dJ9_abs_0f7a4_4 : decode cJ9_abs_0f7a4 4 = .ok (.iload_n 0, 1) := by decide +kernel
theorem dJ9_abs_0f7a4_5 : decode cJ9_abs_0f7a4 5 = .ok (.ineg, 1) := by decide +kernel
theorem dJ9_abs_0f7a4_6 : decode cJ9_abs_0f7a4 6 = .ok (.goto 4, 3) := by decide +kernel
theorem dJ9_abs_0f7a4_9 : decode cJ9_abs_0f7a4 9 = .ok (.iload_n 0, 1) := by decide +kernel
theorem dJ9_abs_0f7a4_10 : decode cJ9_abs_0f7a4 10 = .ok (.ireturn, 1) := by decide +kernel
theorem dJ9_max_7cf53_0 : decode cJ9_max_7cf53 0 = .ok (.iload_n 0, 1) := by decide +kernel
theorem dJ9_max_7cf53_1 : decode cJ9_max_7cf53 1 = .ok (.iload_n 1, 1) := by decide +kernel
theorem dJ9_max_7cf53_2 : decode cJ9_max_7cf53 2 = .ok (.if_icmp .lt 7, 3) := by decide +kernel
theorem dJ9_max_7cf53_5 : decode cJ9_max_7cf53 5 = .ok (.iload_n 0, 1) := by decide +kernel
theorem dJ9_max_7cf53_6 : decode cJ9_max_7cf53 6 = .ok (.goto 4, 3) := by decide +kernel
theorem dJ9_max_7cf53_9 : decode cJ9_max_7cf53 9 = .ok (.iload_n 1, 1) := by decide +kernel
theorem dJ9_max_7cf53_10 : decode cJ9_max_7cf53 10 = .ok (.ireturn, 1) := by decide +kernel
theorem dJ9_min_7cf53_0 : decode cJ9_min_7cf53 0 = .ok (.iload_n 0, 1) := by decide +kernel
theorem dJ9_min_7cf53_1 : decode cJ9_min_7cf53 1 = .ok (.iload_n 1, 1) := by decide +kernel
theorem dJ9_min_7cf53_2 : decode cJ9_min_7cf53 2 = .ok (.if_icmp .gt 7, 3) := by decide +kernel
theorem dJ9_min_7cf53_5 : decode cJ9_min_7cf53 5 = .ok (.iload_n 0, 1) := by decide +kernel
theorem dJ9_min_7cf53_6 : decode cJ9_min_7cf53 6 = .ok (.goto 4, 3) := by decide +kernel
theorem dJ9_min_7cf53_9 : decode cJ9_min_7cf53 9 = .ok (.iload_n 1, 1) := by decide +kernel
theorem dJ9_min_7cf53_10 : decode cJ9_min_7cf53 10 = .ok (.ireturn, 1) := by decide +kernel
theorem dJxa1e45_init_da8c8_0 : decode cJxa1e45_init_da8c8 0 = .ok (.aload_n 0, 1) := by decide +kernel
theorem dJxa1e45_init_da8c8_1 : decode cJxa1e45_init_da8c8 1 = .ok (.invokespecial 1, 3) := by decide +kernel
theorem dJxa1e45_init_da8c8_4 : decode cJxa1e45_init_da8c8 4 = .ok (.return_, 1) := by decide +kernel
theorem dJxc12de_init_da8c8_0 : decode cJxc12de_init_da8c8 0 = .ok (.aload_n 0, 1) := by decide +kernel
theorem dJxc12de_init_da8c8_1 : decode cJxc12de_init_da8c8 1 = .ok (.invokespecial 1, 3) := by decide +kernel
theorem dJxc12de_init_da8c8_4 : decode cJxc12de_init_da8c8 4 = .ok (.aload_n 0, 1) := by decide +kernel
theorem dJxc12de_init_da8c8_5 : decode cJxc12de_init_da8c8 5 = .ok (.iconst 0, 1) := by decide +kernel
theorem dJxc12de_init_da8c8_6 : decode cJxc12de_init_da8c8 6 = .ok (.putfield 7, 3) := by decide +kernel
theorem dJxc12de_init_da8c8_9 : decode cJxc12de_init_da8c8 9 = .ok (.return_, 1) := by decide +kernel
theorem dJx4a65c_init_da8c8_0 : decode cJx4a65c_init_da8c8 0 = .ok (.aload_n 0, 1) := by decide +kernel
theorem dJx4a65c_init_da8c8_1 : decode cJx4a65c_init_da8c8 1 = .ok (.invokespecial 1, 3) := by decide +kernel
theorem dJx4a65c_init_da8c8_4 : decode cJx4a65c_init_da8c8 4 = .ok (.aload_n 0, 1) := by decide +kernel
theorem dJx4a65c_init_da8c8_5 : decode cJx4a65c_init_da8c8 5 = .ok (.getstatic 39, 3) := by decide +kernel
theorem dJx4a65c_init_da8c8_8 : decode cJx4a65c_init_da8c8 8 = .ok (.putfield 9, 3) := by decide +kernel
theorem dJx4a65c_init_da8c8_11 : decode cJx4a65c_init_da8c8 11 = .ok (.return_, 1) := by decide +kernel
theorem dJx4a65c_grow_92f84_0 : decode cJx4a65c_grow_92f84 0 = .ok (.aload_n 0, 1) := by decide +kernel
theorem dJx4a65c_grow_92f84_1 : decode cJx4a65c_grow_92f84 1 = .ok (.getfield 9, 3) := by decide +kernel
theorem dJx4a65c_grow_92f84_4 : decode cJx4a65c_grow_92f84 4 = .ok (.arraylength, 1) := by decide +kernel
theorem dJx4a65c_grow_92f84_5 : decode cJx4a65c_grow_92f84 5 = .ok (.istore_n 2, 1) := by decide +kernel
theorem dJx4a65c_grow_92f84_6 : decode cJx4a65c_grow_92f84 6 = .ok (.iload_n 2, 1) := by decide +kernel
theorem dJx4a65c_grow_92f84_7 : decode cJx4a65c_grow_92f84 7 = .ok (.ifCond .gt 13, 3) := by decide +kernel
theorem dJx4a65c_grow_92f84_10 : decode cJx4a65c_grow_92f84 10 = .ok (.aload_n 0, 1) := by decide +kernel
theorem dJx4a65c_grow_92f84_11 : decode cJx4a65c_grow_92f84 11 = .ok (.getfield 9, 3) := by decide +kernel
theorem dJx4a65c_grow_92f84_14 : decode cJx4a65c_grow_92f84 14 = .ok (.getstatic 39, 3) := by decide +kernel
theorem dJx4a65c_grow_92f84_17 : decode cJx4a65c_grow_92f84 17 = .ok (.if_acmp .eq 28, 3) := by decide +kernel
theorem dJx4a65c_grow_92f84_20 : decode cJx4a65c_grow_92f84 20 = .ok (.iload_n 2, 1) := by decide +kernel
theorem dJx4a65c_grow_92f84_21 : decode cJx4a65c_grow_92f84 21 = .ok (.iload_n 1, 1) := by decide +kernel
theorem dJx4a65c_grow_92f84_22 : decode cJx4a65c_grow_92f84 22 = .ok (.iload_n 2, 1) := by decide +kernel
theorem dJx4a65c_grow_92f84_23 : decode cJx4a65c_grow_92f84 23 = .ok (.isub, 1) := by decide +kernel
theorem dJx4a65c_grow_92f84_24 : decode cJx4a65c_grow_92f84 24 = .ok (.iload_n 2, 1) := by decide +kernel
theorem dJx4a65c_grow_92f84_25 : decode cJx4a65c_grow_92f84 25 = .ok (.iconst 1, 1) := by decide +kernel
theorem dJx4a65c_grow_92f84_26 : decode cJx4a65c_grow_92f84 26 = .ok (.ishr, 1) := by decide +kernel
theorem dJx4a65c_grow_92f84_27 : decode cJx4a65c_grow_92f84 27 = .ok (.invokestatic 73, 3) := by decide +kernel
theorem dJx4a65c_grow_92f84_30 : decode cJx4a65c_grow_92f84 30 = .ok (.istore_n 3, 1) := by decide +kernel
theorem dJx4a65c_grow_92f84_31 : decode cJx4a65c_grow_92f84 31 = .ok (.aload_n 0, 1) := by decide +kernel
theorem dJx4a65c_grow_92f84_32 : decode cJx4a65c_grow_92f84 32 = .ok (.aload_n 0, 1) := by decide +kernel
theorem dJx4a65c_grow_92f84_33 : decode cJx4a65c_grow_92f84 33 = .ok (.getfield 9, 3) := by decide +kernel
theorem dJx4a65c_grow_92f84_36 : decode cJx4a65c_grow_92f84 36 = .ok (.iload_n 3, 1) := by decide +kernel
theorem dJx4a65c_grow_92f84_37 : decode cJx4a65c_grow_92f84 37 = .ok (.invokestatic 66, 3) := by decide +kernel
theorem dJx4a65c_grow_92f84_40 : decode cJx4a65c_grow_92f84 40 = .ok (.dup_x1, 1) := by decide +kernel
theorem dJx4a65c_grow_92f84_41 : decode cJx4a65c_grow_92f84 41 = .ok (.putfield 9, 3) := by decide +kernel
theorem dJx4a65c_grow_92f84_44 : decode cJx4a65c_grow_92f84 44 = .ok (.areturn, 1) := by decide +kernel
theorem dJx4a65c_grow_92f84_45 : decode cJx4a65c_grow_92f84 45 = .ok (.aload_n 0, 1) := by decide +kernel
theorem dJx4a65c_grow_92f84_46 : decode cJx4a65c_grow_92f84 46 = .ok (.bipush 10, 2) := by decide +kernel
theorem dJx4a65c_grow_92f84_48 : decode cJx4a65c_grow_92f84 48 = .ok (.iload_n 1, 1) := by decide +kernel
theorem dJx4a65c_grow_92f84_49 : decode cJx4a65c_grow_92f84 49 = .ok (.invokestatic 79, 3) := by decide +kernel
theorem dJx4a65c_grow_92f84_52 : decode cJx4a65c_grow_92f84 52 = .ok (.anewarray 7, 3) := by decide +kernel
theorem dJx4a65c_grow_92f84_55 : decode cJx4a65c_grow_92f84 55 = .ok (.dup_x1, 1) := by decide +kernel
theorem dJx4a65c_grow_92f84_56 : decode cJx4a65c_grow_92f84 56 = .ok (.putfield 9, 3) := by decide +kernel
theorem dJx4a65c_grow_92f84_59 : decode cJx4a65c_grow_92f84 59 = .ok (.areturn, 1) := by decide +kernel
theorem dJx4a65c_grow_d5877_0 : decode cJx4a65c_grow_d5877 0 = .ok (.aload_n 0, 1) := by decide +kernel
theorem dJx4a65c_grow_d5877_1 : decode cJx4a65c_grow_d5877 1 = .ok (.aload_n 0, 1) := by decide +kernel
theorem dJx4a65c_grow_d5877_2 : decode cJx4a65c_grow_d5877 2 = .ok (.getfield 48, 3) := by decide +kernel
theorem dJx4a65c_grow_d5877_5 : decode cJx4a65c_grow_d5877 5 = .ok (.iconst 1, 1) := by decide +kernel
theorem dJx4a65c_grow_d5877_6 : decode cJx4a65c_grow_d5877 6 = .ok (.iadd, 1) := by decide +kernel
theorem dJx4a65c_grow_d5877_7 : decode cJx4a65c_grow_d5877 7 = .ok (.invokevirtual 69, 3) := by decide +kernel
theorem dJx4a65c_grow_d5877_10 : decode cJx4a65c_grow_d5877 10 = .ok (.areturn, 1) := by decide +kernel
theorem dJx4a65c_size_8abf5_0 : decode cJx4a65c_size_8abf5 0 = .ok (.aload_n 0, 1) := by decide +kernel
theorem dJx4a65c_size_8abf5_1 : decode cJx4a65c_size_8abf5 1 = .ok (.getfield 48, 3) := by decide +kernel
theorem dJx4a65c_size_8abf5_4 : decode cJx4a65c_size_8abf5 4 = .ok (.ireturn, 1) := by decide +kernel
theorem dJx4a65c_elementData_915e3_0 : decode cJx4a65c_elementData_915e3 0 = .ok (.aload_n 0, 1) := by decide +kernel
theorem dJx4a65c_elementData_915e3_1 : decode cJx4a65c_elementData_915e3 1 = .ok (.getfield 9, 3) := by decide +kernel
theorem dJx4a65c_elementData_915e3_4 : decode cJx4a65c_elementData_915e3 4 = .ok (.iload_n 1, 1) := by decide +kernel
theorem dJx4a65c_elementData_915e3_5 : decode cJx4a65c_elementData_915e3 5 = .ok (.aaload, 1) := by decide +kernel
theorem dJx4a65c_elementData_915e3_6 : decode cJx4a65c_elementData_915e3 6 = .ok (.areturn, 1) := by decide +kernel
theorem dJx4a65c_get_915e3_0 : decode cJx4a65c_get_915e3 0 = .ok (.iload_n 1, 1) := by decide +kernel
theorem dJx4a65c_get_915e3_1 : decode cJx4a65c_get_915e3 1 = .ok (.aload_n 0, 1) := by decide +kernel
theorem dJx4a65c_get_915e3_2 : decode cJx4a65c_get_915e3 2 = .ok (.getfield 48, 3) := by decide +kernel
theorem dJx4a65c_get_915e3_5 : decode cJx4a65c_get_915e3 5 = .ok (.invokestatic 118, 3) := by decide +kernel
theorem dJx4a65c_get_915e3_8 : decode cJx4a65c_get_915e3 8 = .ok (.pop, 1) := by decide +kernel
theorem dJx4a65c_get_915e3_9 : decode cJx4a65c_get_915e3 9 = .ok (.aload_n 0, 1) := by decide +kernel
theorem dJx4a65c_get_915e3_10 : decode cJx4a65c_get_915e3 10 = .ok (.iload_n 1, 1) := by decide +kernel
theorem dJx4a65c_get_915e3_11 : decode cJx4a65c_get_915e3 11 = .ok (.invokevirtual 123, 3) := by decide +kernel
theorem dJx4a65c_get_915e3_14 : decode cJx4a65c_get_915e3 14 = .ok (.areturn, 1) := by decide +kernel
theorem dJx4a65c_add_72be8_0 : decode cJx4a65c_add_72be8 0 = .ok (.iload_n 3, 1) := by decide +kernel
theorem dJx4a65c_add_72be8_1 : decode cJx4a65c_add_72be8 1 = .ok (.aload_n 2, 1) := by decide +kernel
theorem dJx4a65c_add_72be8_2 : decode cJx4a65c_add_72be8 2 = .ok (.arraylength, 1) := by decide +kernel
theorem dJx4a65c_add_72be8_3 : decode cJx4a65c_add_72be8 3 = .ok (.if_icmp .ne 8, 3) := by decide +kernel
theorem dJx4a65c_add_72be8_6 : decode cJx4a65c_add_72be8 6 = .ok (.aload_n 0, 1) := by decide +kernel
theorem dJx4a65c_add_72be8_7 : decode cJx4a65c_add_72be8 7 = .ok (.invokevirtual 129, 3) := by decide +kernel
theorem dJx4a65c_add_72be8_10 : decode cJx4a65c_add_72be8 10 = .ok (.astore_n 2, 1) := by decide +kernel
theorem dJx4a65c_add_72be8_11 : decode cJx4a65c_add_72be8 11 = .ok (.aload_n 2, 1) := by decide +kernel
theorem dJx4a65c_add_72be8_12 : decode cJx4a65c_add_72be8 12 = .ok (.iload_n 3, 1) := by decide +kernel
theorem dJx4a65c_add_72be8_13 : decode cJx4a65c_add_72be8 13 = .ok (.aload_n 1, 1) := by decide +kernel
theorem dJx4a65c_add_72be8_14 : decode cJx4a65c_add_72be8 14 = .ok (.aastore, 1) := by decide +kernel
theorem dJx4a65c_add_72be8_15 : decode cJx4a65c_add_72be8 15 = .ok (.aload_n 0, 1) := by decide +kernel
theorem dJx4a65c_add_72be8_16 : decode cJx4a65c_add_72be8 16 = .ok (.iload_n 3, 1) := by decide +kernel
theorem dJx4a65c_add_72be8_17 : decode cJx4a65c_add_72be8 17 = .ok (.iconst 1, 1) := by decide +kernel
theorem dJx4a65c_add_72be8_18 : decode cJx4a65c_add_72be8 18 = .ok (.iadd, 1) := by decide +kernel
theorem dJx4a65c_add_72be8_19 : decode cJx4a65c_add_72be8 19 = .ok (.putfield 48, 3) := by decide +kernel
theorem dJx4a65c_add_72be8_22 : decode cJx4a65c_add_72be8 22 = .ok (.return_, 1) := by decide +kernel
theorem dJx4a65c_add_9ea2d_0 : decode cJx4a65c_add_9ea2d 0 = .ok (.aload_n 0, 1) := by decide +kernel
theorem dJx4a65c_add_9ea2d_1 : decode cJx4a65c_add_9ea2d 1 = .ok (.dup, 1) := by decide +kernel
theorem dJx4a65c_add_9ea2d_2 : decode cJx4a65c_add_9ea2d 2 = .ok (.getfield 63, 3) := by decide +kernel
theorem dJx4a65c_add_9ea2d_5 : decode cJx4a65c_add_9ea2d 5 = .ok (.iconst 1, 1) := by decide +kernel
theorem dJx4a65c_add_9ea2d_6 : decode cJx4a65c_add_9ea2d 6 = .ok (.iadd, 1) := by decide +kernel
theorem dJx4a65c_add_9ea2d_7 : decode cJx4a65c_add_9ea2d 7 = .ok (.putfield 63, 3) := by decide +kernel
theorem dJx4a65c_add_9ea2d_10 : decode cJx4a65c_add_9ea2d 10 = .ok (.aload_n 0, 1) := by decide +kernel
theorem dJx4a65c_add_9ea2d_11 : decode cJx4a65c_add_9ea2d 11 = .ok (.aload_n 1, 1) := by decide +kernel
theorem dJx4a65c_add_9ea2d_12 : decode cJx4a65c_add_9ea2d 12 = .ok (.aload_n 0, 1) := by decide +kernel
theorem dJx4a65c_add_9ea2d_13 : decode cJx4a65c_add_9ea2d 13 = .ok (.getfield 9, 3) := by decide +kernel
theorem dJx4a65c_add_9ea2d_16 : decode cJx4a65c_add_9ea2d 16 = .ok (.aload_n 0, 1) := by decide +kernel
theorem dJx4a65c_add_9ea2d_17 : decode cJx4a65c_add_9ea2d 17 = .ok (.getfield 48, 3) := by decide +kernel
theorem dJx4a65c_add_9ea2d_20 : decode cJx4a65c_add_9ea2d 20 = .ok (.invokevirtual 131, 3) := by decide +kernel
theorem dJx4a65c_add_9ea2d_23 : decode cJx4a65c_add_9ea2d 23 = .ok (.iconst 1, 1) := by decide +kernel
theorem dJx4a65c_add_9ea2d_24 : decode cJx4a65c_add_9ea2d 24 = .ok (.ireturn, 1) := by decide +kernel
theorem dJ7_copyOf_1904c_0 : decode cJ7_copyOf_1904c 0 = .ok (.aload_n 0, 1) := by decide +kernel
theorem dJ7_copyOf_1904c_1 : decode cJ7_copyOf_1904c 1 = .ok (.iload_n 1, 1) := by decide +kernel
theorem dJ7_copyOf_1904c_2 : decode cJ7_copyOf_1904c 2 = .ok (.aload_n 0, 1) := by decide +kernel
theorem dJ7_copyOf_1904c_3 : decode cJ7_copyOf_1904c 3 = .ok (.invokevirtual 86, 3) := by decide +kernel
theorem dJ7_copyOf_1904c_6 : decode cJ7_copyOf_1904c 6 = .ok (.invokestatic 300, 3) := by decide +kernel
theorem dJ7_copyOf_1904c_9 : decode cJ7_copyOf_1904c 9 = .ok (.areturn, 1) := by decide +kernel
theorem dJ7_copyOf_6403c_0 : decode cJ7_copyOf_6403c 0 = .ok (.aload_n 2, 1) := by decide +kernel
theorem dJ7_copyOf_6403c_1 : decode cJ7_copyOf_6403c 1 = .ok (.ldc 110, 2) := by decide +kernel
theorem dJ7_copyOf_6403c_3 : decode cJ7_copyOf_6403c 3 = .ok (.if_acmp .ne 10, 3) := by decide +kernel
theorem dJ7_copyOf_6403c_6 : decode cJ7_copyOf_6403c 6 = .ok (.iload_n 1, 1) := by decide +kernel
theorem dJ7_copyOf_6403c_7 : decode cJ7_copyOf_6403c 7 = .ok (.anewarray 2, 3) := by decide +kernel
theorem dJ7_copyOf_6403c_10 : decode cJ7_copyOf_6403c 10 = .ok (.goto 14, 3) := by decide +kernel
theorem dJ7_copyOf_6403c_13 : decode cJ7_copyOf_6403c 13 = .ok (.aload_n 2, 1) := by decide +kernel
theorem dJ7_copyOf_6403c_14 : decode cJ7_copyOf_6403c 14 = .ok (.invokevirtual 90, 3) := by decide +kernel
theorem dJ7_copyOf_6403c_17 : decode cJ7_copyOf_6403c 17 = .ok (.iload_n 1, 1) := by decide +kernel
theorem dJ7_copyOf_6403c_18 : decode cJ7_copyOf_6403c 18 = .ok (.invokestatic 95, 3) := by decide +kernel
theorem dJ7_copyOf_6403c_21 : decode cJ7_copyOf_6403c 21 = .ok (.checkcast 110, 3) := by decide +kernel
theorem dJ7_copyOf_6403c_24 : decode cJ7_copyOf_6403c 24 = .ok (.astore_n 3, 1) := by decide +kernel
theorem dJ7_copyOf_6403c_25 : decode cJ7_copyOf_6403c 25 = .ok (.aload_n 0, 1) := by decide +kernel
theorem dJ7_copyOf_6403c_26 : decode cJ7_copyOf_6403c 26 = .ok (.iconst 0, 1) := by decide +kernel
theorem dJ7_copyOf_6403c_27 : decode cJ7_copyOf_6403c 27 = .ok (.aload_n 3, 1) := by decide +kernel
theorem dJ7_copyOf_6403c_28 : decode cJ7_copyOf_6403c 28 = .ok (.iconst 0, 1) := by decide +kernel
theorem dJ7_copyOf_6403c_29 : decode cJ7_copyOf_6403c 29 = .ok (.aload_n 0, 1) := by decide +kernel
theorem dJ7_copyOf_6403c_30 : decode cJ7_copyOf_6403c 30 = .ok (.arraylength, 1) := by decide +kernel
theorem dJ7_copyOf_6403c_31 : decode cJ7_copyOf_6403c 31 = .ok (.iload_n 1, 1) := by decide +kernel
theorem dJ7_copyOf_6403c_32 : decode cJ7_copyOf_6403c 32 = .ok (.invokestatic 304, 3) := by decide +kernel
theorem dJ7_copyOf_6403c_35 : decode cJ7_copyOf_6403c 35 = .ok (.invokestatic 150, 3) := by decide +kernel
theorem dJ7_copyOf_6403c_38 : decode cJ7_copyOf_6403c 38 = .ok (.aload_n 3, 1) := by decide +kernel
theorem dJ7_copyOf_6403c_39 : decode cJ7_copyOf_6403c 39 = .ok (.areturn, 1) := by decide +kernel
theorem dJ15_checkIndex_7cf53_0 : decode cJ15_checkIndex_7cf53 0 = .ok (.iload_n 0, 1) := by decide +kernel
theorem dJ15_checkIndex_7cf53_1 : decode cJ15_checkIndex_7cf53 1 = .ok (.iload_n 1, 1) := by decide +kernel
theorem dJ15_checkIndex_7cf53_2 : decode cJ15_checkIndex_7cf53 2 = .ok (.aconst_null, 1) := by decide +kernel
theorem dJ15_checkIndex_7cf53_3 : decode cJ15_checkIndex_7cf53 3 = .ok (.invokestatic 105, 3) := by decide +kernel
theorem dJ15_checkIndex_7cf53_6 : decode cJ15_checkIndex_7cf53 6 = .ok (.ireturn, 1) := by decide +kernel
theorem dJ8_newLength_cabcc_0 : decode cJ8_newLength_cabcc 0 = .ok (.iload_n 0, 1) := by decide +kernel
theorem dJ8_newLength_cabcc_1 : decode cJ8_newLength_cabcc 1 = .ok (.iload_n 1, 1) := by decide +kernel
theorem dJ8_newLength_cabcc_2 : decode cJ8_newLength_cabcc 2 = .ok (.iload_n 2, 1) := by decide +kernel
theorem dJ8_newLength_cabcc_3 : decode cJ8_newLength_cabcc 3 = .ok (.invokestatic 194, 3) := by decide +kernel
theorem dJ8_newLength_cabcc_6 : decode cJ8_newLength_cabcc 6 = .ok (.iadd, 1) := by decide +kernel
theorem dJ8_newLength_cabcc_7 : decode cJ8_newLength_cabcc 7 = .ok (.istore_n 3, 1) := by decide +kernel
theorem dJ8_newLength_cabcc_8 : decode cJ8_newLength_cabcc 8 = .ok (.iconst 0, 1) := by decide +kernel
theorem dJ8_newLength_cabcc_9 : decode cJ8_newLength_cabcc 9 = .ok (.iload_n 3, 1) := by decide +kernel
theorem dJ8_newLength_cabcc_10 : decode cJ8_newLength_cabcc 10 = .ok (.if_icmp .ge 11, 3) := by decide +kernel
theorem dJ8_newLength_cabcc_13 : decode cJ8_newLength_cabcc 13 = .ok (.iload_n 3, 1) := by decide +kernel
theorem dJ8_newLength_cabcc_14 : decode cJ8_newLength_cabcc 14 = .ok (.ldc 200, 2) := by decide +kernel
theorem dJ8_newLength_cabcc_16 : decode cJ8_newLength_cabcc 16 = .ok (.if_icmp .gt 5, 3) := by decide +kernel
theorem dJ8_newLength_cabcc_19 : decode cJ8_newLength_cabcc 19 = .ok (.iload_n 3, 1) := by decide +kernel
theorem dJ8_newLength_cabcc_20 : decode cJ8_newLength_cabcc 20 = .ok (.ireturn, 1) := by decide +kernel
theorem dJ8_newLength_cabcc_21 : decode cJ8_newLength_cabcc 21 = .ok (.iload_n 0, 1) := by decide +kernel
theorem dJ8_newLength_cabcc_22 : decode cJ8_newLength_cabcc 22 = .ok (.iload_n 1, 1) := by decide +kernel
theorem dJ8_newLength_cabcc_23 : decode cJ8_newLength_cabcc 23 = .ok (.invokestatic 201, 3) := by decide +kernel
theorem dJ8_newLength_cabcc_26 : decode cJ8_newLength_cabcc 26 = .ok (.ireturn, 1) := by decide +kernel
theorem dJ8_hugeLength_7cf53_0 : decode cJ8_hugeLength_7cf53 0 = .ok (.iload_n 0, 1) := by decide +kernel
theorem dJ8_hugeLength_7cf53_1 : decode cJ8_hugeLength_7cf53 1 = .ok (.iload_n 1, 1) := by decide +kernel
theorem dJ8_hugeLength_7cf53_2 : decode cJ8_hugeLength_7cf53 2 = .ok (.iadd, 1) := by decide +kernel
theorem dJ8_hugeLength_7cf53_3 : decode cJ8_hugeLength_7cf53 3 = .ok (.istore_n 2, 1) := by decide +kernel
theorem dJ8_hugeLength_7cf53_4 : decode cJ8_hugeLength_7cf53 4 = .ok (.iload_n 2, 1) := by decide +kernel
theorem dJ8_hugeLength_7cf53_5 : decode cJ8_hugeLength_7cf53 5 = .ok (.ifCond .ge 44, 3) := by decide +kernel
theorem dJ8_hugeLength_7cf53_8 : decode cJ8_hugeLength_7cf53 8 = .ok (.new 204, 3) := by decide +kernel
theorem dJ8_hugeLength_7cf53_11 : decode cJ8_hugeLength_7cf53 11 = .ok (.dup, 1) := by decide +kernel
theorem dJ8_hugeLength_7cf53_12 : decode cJ8_hugeLength_7cf53 12 = .ok (.new 89, 3) := by decide +kernel
theorem dJ8_hugeLength_7cf53_15 : decode cJ8_hugeLength_7cf53 15 = .ok (.dup, 1) := by decide +kernel
theorem dJ8_hugeLength_7cf53_16 : decode cJ8_hugeLength_7cf53 16 = .ok (.invokespecial 91, 3) := by decide +kernel
theorem dJ8_hugeLength_7cf53_19 : decode cJ8_hugeLength_7cf53 19 = .ok (.ldc 206, 2) := by decide +kernel
theorem dJ8_hugeLength_7cf53_21 : decode cJ8_hugeLength_7cf53 21 = .ok (.invokevirtual 94, 3) := by decide +kernel
theorem dJ8_hugeLength_7cf53_24 : decode cJ8_hugeLength_7cf53 24 = .ok (.iload_n 0, 1) := by decide +kernel
theorem dJ8_hugeLength_7cf53_25 : decode cJ8_hugeLength_7cf53 25 = .ok (.invokevirtual 98, 3) := by decide +kernel
theorem dJ8_hugeLength_7cf53_28 : decode cJ8_hugeLength_7cf53 28 = .ok (.ldc 208, 2) := by decide +kernel
theorem dJ8_hugeLength_7cf53_30 : decode cJ8_hugeLength_7cf53 30 = .ok (.invokevirtual 94, 3) := by decide +kernel
theorem dJ8_hugeLength_7cf53_33 : decode cJ8_hugeLength_7cf53 33 = .ok (.iload_n 1, 1) := by decide +kernel
theorem dJ8_hugeLength_7cf53_34 : decode cJ8_hugeLength_7cf53 34 = .ok (.invokevirtual 98, 3) := by decide +kernel
theorem dJ8_hugeLength_7cf53_37 : decode cJ8_hugeLength_7cf53 37 = .ok (.ldc 210, 2) := by decide +kernel
theorem dJ8_hugeLength_7cf53_39 : decode cJ8_hugeLength_7cf53 39 = .ok (.invokevirtual 94, 3) := by decide +kernel
theorem dJ8_hugeLength_7cf53_42 : decode cJ8_hugeLength_7cf53 42 = .ok (.invokevirtual 101, 3) := by decide +kernel
theorem dJ8_hugeLength_7cf53_45 : decode cJ8_hugeLength_7cf53 45 = .ok (.invokespecial 212, 3) := by decide +kernel
theorem dJ8_hugeLength_7cf53_48 : decode cJ8_hugeLength_7cf53 48 = .ok (.athrow, 1) := by decide +kernel
theorem dJ8_hugeLength_7cf53_49 : decode cJ8_hugeLength_7cf53 49 = .ok (.iload_n 2, 1) := by decide +kernel
theorem dJ8_hugeLength_7cf53_50 : decode cJ8_hugeLength_7cf53 50 = .ok (.ldc 200, 2) := by decide +kernel
theorem dJ8_hugeLength_7cf53_52 : decode cJ8_hugeLength_7cf53 52 = .ok (.if_icmp .gt 6, 3) := by decide +kernel
theorem dJ8_hugeLength_7cf53_55 : decode cJ8_hugeLength_7cf53 55 = .ok (.ldc 200, 2) := by decide +kernel
theorem dJ8_hugeLength_7cf53_57 : decode cJ8_hugeLength_7cf53 57 = .ok (.ireturn, 1) := by decide +kernel
theorem dJ8_hugeLength_7cf53_58 : decode cJ8_hugeLength_7cf53 58 = .ok (.iload_n 2, 1) := by decide +kernel
theorem dJ8_hugeLength_7cf53_59 : decode cJ8_hugeLength_7cf53 59 = .ok (.ireturn, 1) := by decide +kernel
theorem dJ3_checkIndex_8e157_0 : decode cJ3_checkIndex_8e157 0 = .ok (.iload_n 0, 1) := by decide +kernel
theorem dJ3_checkIndex_8e157_1 : decode cJ3_checkIndex_8e157 1 = .ok (.ifCond .lt 8, 3) := by decide +kernel
theorem dJ3_checkIndex_8e157_4 : decode cJ3_checkIndex_8e157 4 = .ok (.iload_n 0, 1) := by decide +kernel
theorem dJ3_checkIndex_8e157_5 : decode cJ3_checkIndex_8e157 5 = .ok (.iload_n 1, 1) := by decide +kernel
theorem dJ3_checkIndex_8e157_6 : decode cJ3_checkIndex_8e157 6 = .ok (.if_icmp .lt 10, 3) := by decide +kernel
theorem dJ3_checkIndex_8e157_9 : decode cJ3_checkIndex_8e157 9 = .ok (.aload_n 2, 1) := by decide +kernel
theorem dJ3_checkIndex_8e157_10 : decode cJ3_checkIndex_8e157 10 = .ok (.iload_n 0, 1) := by decide +kernel
theorem dJ3_checkIndex_8e157_11 : decode cJ3_checkIndex_8e157 11 = .ok (.iload_n 1, 1) := by decide +kernel
theorem dJ3_checkIndex_8e157_12 : decode cJ3_checkIndex_8e157 12 = .ok (.invokestatic 95, 3) := by decide +kernel
theorem dJ3_checkIndex_8e157_15 : decode cJ3_checkIndex_8e157 15 = .ok (.athrow, 1) := by decide +kernel
theorem dJ3_checkIndex_8e157_16 : decode cJ3_checkIndex_8e157 16 = .ok (.iload_n 0, 1) := by decide +kernel
theorem dJ3_checkIndex_8e157_17 : decode cJ3_checkIndex_8e157 17 = .ok (.ireturn, 1) := by decide +kernel
theorem dX0_init_0 : decode cX0_init 0 = .ok (.aload_n 0, 1) := by decide +kernel
theorem dX0_init_1 : decode cX0_init 1 = .ok (.invokespecial 3, 3) := by decide +kernel
theorem dX0_init_4 : decode cX0_init 4 = .ok (.aload_n 0, 1) := by decide +kernel
theorem dX0_init_5 : decode cX0_init 5 = .ok (.bipush 100, 2) := by decide +kernel
theorem dX0_init_7 : decode cX0_init 7 = .ok (.putfield 9, 3) := by decide +kernel
theorem dX0_init_10 : decode cX0_init 10 = .ok (.return_, 1) := by decide +kernel
theorem dX1_init_0 : decode cX1_init 0 = .ok (.aload_n 0, 1) := by decide +kernel
theorem dX1_init_1 : decode cX1_init 1 = .ok (.invokespecial 3, 3) := by decide +kernel
theorem dX1_init_4 : decode cX1_init 4 = .ok (.aload_n 0, 1) := by decide +kernel
theorem dX1_init_5 : decode cX1_init 5 = .ok (.new 9, 3) := by decide +kernel
theorem dX1_init_8 : decode cX1_init 8 = .ok (.dup, 1) := by decide +kernel
theorem dX1_init_9 : decode cX1_init 9 = .ok (.invokespecial 11, 3) := by decide +kernel
theorem dX1_init_12 : decode cX1_init 12 = .ok (.putfield 12, 3) := by decide +kernel
theorem dX1_init_15 : decode cX1_init 15 = .ok (.aload_n 0, 1) := by decide +kernel
theorem dX1_init_16 : decode cX1_init 16 = .ok (.new 9, 3) := by decide +kernel
theorem dX1_init_19 : decode cX1_init 19 = .ok (.dup, 1) := by decide +kernel
theorem dX1_init_20 : decode cX1_init 20 = .ok (.invokespecial 11, 3) := by decide +kernel
theorem dX1_init_23 : decode cX1_init 23 = .ok (.putfield 18, 3) := by decide +kernel
theorem dX1_init_26 : decode cX1_init 26 = .ok (.return_, 1) := by decide +kernel
theorem dX1_followOf_0 : decode cX1_followOf 0 = .ok (.iload_n 1, 1) := by decide +kernel
theorem dX1_followOf_1 : decode cX1_followOf 1 = .ok (.ifCond .eq 10, 3) := by decide +kernel
theorem dX1_followOf_4 : decode cX1_followOf 4 = .ok (.aload_n 0, 1) := by decide +kernel
theorem dX1_followOf_5 : decode cX1_followOf 5 = .ok (.getfield 12, 3) := by decide +kernel
theorem dX1_followOf_8 : decode cX1_followOf 8 = .ok (.goto 7, 3) := by decide +kernel
theorem dX1_followOf_11 : decode cX1_followOf 11 = .ok (.aload_n 0, 1) := by decide +kernel
theorem dX1_followOf_12 : decode cX1_followOf 12 = .ok (.getfield 18, 3) := by decide +kernel
theorem dX1_followOf_15 : decode cX1_followOf 15 = .ok (.areturn, 1) := by decide +kernel
theorem dX1_timeOf_0 : decode cX1_timeOf 0 = .ok (.aload_n 1, 1) := by decide +kernel
theorem dX1_timeOf_1 : decode cX1_timeOf 1 = .ok (.iload_n 2, 1) := by decide +kernel
theorem dX1_timeOf_2 : decode cX1_timeOf 2 = .ok (.invokevirtual 21, 3) := by decide +kernel
theorem dX1_timeOf_5 : decode cX1_timeOf 5 = .ok (.aload_n 0, 1) := by decide +kernel
theorem dX1_timeOf_6 : decode cX1_timeOf 6 = .ok (.aload_n 1, 1) := by decide +kernel
theorem dX1_timeOf_7 : decode cX1_timeOf 7 = .ok (.iload_n 2, 1) := by decide +kernel
theorem dX1_timeOf_8 : decode cX1_timeOf 8 = .ok (.invokevirtual 27, 3) := by decide +kernel
theorem dX1_timeOf_11 : decode cX1_timeOf 11 = .ok (.invokevirtual 31, 3) := by decide +kernel
theorem dX1_timeOf_14 : decode cX1_timeOf 14 = .ok (.getfield 35, 3) := by decide +kernel
theorem dX1_timeOf_17 : decode cX1_timeOf 17 = .ok (.iadd, 1) := by decide +kernel
theorem dX1_timeOf_18 : decode cX1_timeOf 18 = .ok (.ireturn, 1) := by decide +kernel
theorem dX1_heightOf_0 : decode cX1_heightOf 0 = .ok (.aload_n 0, 1) := by decide +kernel
theorem dX1_heightOf_1 : decode cX1_heightOf 1 = .ok (.aload_n 1, 1) := by decide +kernel
theorem dX1_heightOf_2 : decode cX1_heightOf 2 = .ok (.iload_n 2, 1) := by decide +kernel
theorem dX1_heightOf_3 : decode cX1_heightOf 3 = .ok (.invokevirtual 27, 3) := by decide +kernel
theorem dX1_heightOf_6 : decode cX1_heightOf 6 = .ok (.invokevirtual 31, 3) := by decide +kernel
theorem dX1_heightOf_9 : decode cX1_heightOf 9 = .ok (.getfield 39, 3) := by decide +kernel
theorem dX1_heightOf_12 : decode cX1_heightOf 12 = .ok (.istore_n 3, 1) := by decide +kernel
theorem dX1_heightOf_13 : decode cX1_heightOf 13 = .ok (.aload_n 1, 1) := by decide +kernel
theorem dX1_heightOf_14 : decode cX1_heightOf 14 = .ok (.iload_n 2, 1) := by decide +kernel
theorem dX1_heightOf_15 : decode cX1_heightOf 15 = .ok (.invokevirtual 42, 3) := by decide +kernel
theorem dX1_heightOf_18 : decode cX1_heightOf 18 = .ok (.iload_n 3, 1) := by decide +kernel
theorem dX1_heightOf_19 : decode cX1_heightOf 19 = .ok (.imul, 1) := by decide +kernel
theorem dX1_heightOf_20 : decode cX1_heightOf 20 = .ok (.bipush 100, 2) := by decide +kernel
theorem dX1_heightOf_22 : decode cX1_heightOf 22 = .ok (.idiv, 1) := by decide +kernel
theorem dX1_heightOf_23 : decode cX1_heightOf 23 = .ok (.aload_n 0, 1) := by decide +kernel
theorem dX1_heightOf_24 : decode cX1_heightOf 24 = .ok (.getfield 45, 3) := by decide +kernel
theorem dX1_heightOf_27 : decode cX1_heightOf 27 = .ok (.iadd, 1) := by decide +kernel
theorem dX1_heightOf_28 : decode cX1_heightOf 28 = .ok (.ireturn, 1) := by decide +kernel
theorem dX1_isOrderly_0 : decode cX1_isOrderly 0 = .ok (.iconst 1, 1) := by decide +kernel
theorem dX1_isOrderly_1 : decode cX1_isOrderly 1 = .ok (.istore_n 2, 1) := by decide +kernel
theorem dX1_isOrderly_2 : decode cX1_isOrderly 2 = .ok (.iload_n 2, 1) := by decide +kernel
theorem dX1_isOrderly_3 : decode cX1_isOrderly 3 = .ok (.aload_n 1, 1) := by decide +kernel
theorem dX1_isOrderly_4 : decode cX1_isOrderly 4 = .ok (.getfield 48, 3) := by decide +kernel
theorem dX1_isOrderly_7 : decode cX1_isOrderly 7 = .ok (.if_icmp .ge 28, 3) := by decide +kernel
theorem dX1_isOrderly_10 : decode cX1_isOrderly 10 = .ok (.aload_n 0, 1) := by decide +kernel
theorem dX1_isOrderly_11 : decode cX1_isOrderly 11 = .ok (.aload_n 1, 1) := by decide +kernel
theorem dX1_isOrderly_12 : decode cX1_isOrderly 12 = .ok (.iload_n 2, 1) := by decide +kernel
theorem dX1_isOrderly_13 : decode cX1_isOrderly 13 = .ok (.invokevirtual 51, 3) := by decide +kernel
theorem dX1_isOrderly_16 : decode cX1_isOrderly 16 = .ok (.aload_n 0, 1) := by decide +kernel
theorem dX1_isOrderly_17 : decode cX1_isOrderly 17 = .ok (.aload_n 1, 1) := by decide +kernel
theorem dX1_isOrderly_18 : decode cX1_isOrderly 18 = .ok (.iload_n 2, 1) := by decide +kernel
theorem dX1_isOrderly_19 : decode cX1_isOrderly 19 = .ok (.iconst 1, 1) := by decide +kernel
theorem dX1_isOrderly_20 : decode cX1_isOrderly 20 = .ok (.isub, 1) := by decide +kernel
theorem dX1_isOrderly_21 : decode cX1_isOrderly 21 = .ok (.invokevirtual 51, 3) := by decide +kernel
theorem dX1_isOrderly_24 : decode cX1_isOrderly 24 = .ok (.if_icmp .gt 5, 3) := by decide +kernel
theorem dX1_isOrderly_27 : decode cX1_isOrderly 27 = .ok (.iconst 0, 1) := by decide +kernel
theorem dX1_isOrderly_28 : decode cX1_isOrderly 28 = .ok (.ireturn, 1) := by decide +kernel
theorem dX1_isOrderly_29 : decode cX1_isOrderly 29 = .ok (.iinc 2 1, 3) := by decide +kernel
theorem dX1_isOrderly_32 : decode cX1_isOrderly 32 = .ok (.goto (-30), 3) := by decide +kernel
theorem dX1_isOrderly_35 : decode cX1_isOrderly 35 = .ok (.iconst 1, 1) := by decide +kernel
theorem dX1_isOrderly_36 : decode cX1_isOrderly 36 = .ok (.ireturn, 1) := by decide +kernel
theorem dX1_latestWater_0 : decode cX1_latestWater 0 = .ok (.iload_n 2, 1) := by decide +kernel
theorem dX1_latestWater_1 : decode cX1_latestWater 1 = .ok (.istore 4, 2) := by decide +kernel
theorem dX1_latestWater_3 : decode cX1_latestWater 3 = .ok (.iload_n 2, 1) := by decide +kernel
theorem dX1_latestWater_4 : decode cX1_latestWater 4 = .ok (.iconst 1, 1) := by decide +kernel
theorem dX1_latestWater_5 : decode cX1_latestWater 5 = .ok (.iadd, 1) := by decide +kernel
theorem dX1_latestWater_6 : decode cX1_latestWater 6 = .ok (.istore 5, 2) := by decide +kernel
theorem dX1_latestWater_8 : decode cX1_latestWater 8 = .ok (.iload 5, 2) := by decide +kernel
theorem dX1_latestWater_10 : decode cX1_latestWater 10 = .ok (.aload_n 1, 1) := by decide +kernel
theorem dX1_latestWater_11 : decode cX1_latestWater 11 = .ok (.getfield 48, 3) := by decide +kernel
theorem dX1_latestWater_14 : decode cX1_latestWater 14 = .ok (.if_icmp .ge 27, 3) := by decide +kernel
theorem dX1_latestWater_17 : decode cX1_latestWater 17 = .ok (.aload_n 0, 1) := by decide +kernel
theorem dX1_latestWater_18 : decode cX1_latestWater 18 = .ok (.aload_n 1, 1) := by decide +kernel
theorem dX1_latestWater_19 : decode cX1_latestWater 19 = .ok (.iload 5, 2) := by decide +kernel
theorem dX1_latestWater_21 : decode cX1_latestWater 21 = .ok (.invokevirtual 51, 3) := by decide +kernel
theorem dX1_latestWater_24 : decode cX1_latestWater 24 = .ok (.iload_n 3, 1) := by decide +kernel
theorem dX1_latestWater_25 : decode cX1_latestWater 25 = .ok (.if_icmp .le 6, 3) := by decide +kernel
theorem dX1_latestWater_28 : decode cX1_latestWater 28 = .ok (.goto 13, 3) := by decide +kernel
theorem dX1_latestWater_31 : decode cX1_latestWater 31 = .ok (.iload 5, 2) := by decide +kernel
theorem dX1_latestWater_33 : decode cX1_latestWater 33 = .ok (.istore 4, 2) := by decide +kernel
theorem dX1_latestWater_35 : decode cX1_latestWater 35 = .ok (.iinc 5 1, 3) := by decide +kernel
theorem dX1_latestWater_38 : decode cX1_latestWater 38 = .ok (.goto (-30), 3) := by decide +kernel
theorem dX1_latestWater_41 : decode cX1_latestWater 41 = .ok (.iload 4, 2) := by decide +kernel
theorem dX1_latestWater_43 : decode cX1_latestWater 43 = .ok (.ireturn, 1) := by decide +kernel
theorem dX1_heightBehind_0 : decode cX1_heightBehind 0 = .ok (.aload_n 0, 1) := by decide +kernel
theorem dX1_heightBehind_1 : decode cX1_heightBehind 1 = .ok (.aload_n 1, 1) := by decide +kernel
theorem dX1_heightBehind_2 : decode cX1_heightBehind 2 = .ok (.iload_n 2, 1) := by decide +kernel
theorem dX1_heightBehind_3 : decode cX1_heightBehind 3 = .ok (.invokevirtual 51, 3) := by decide +kernel
theorem dX1_heightBehind_6 : decode cX1_heightBehind 6 = .ok (.i2l, 1) := by decide +kernel
theorem dX1_heightBehind_7 : decode cX1_heightBehind 7 = .ok (.lstore 4, 2) := by decide +kernel
theorem dX1_heightBehind_9 : decode cX1_heightBehind 9 = .ok (.aload_n 0, 1) := by decide +kernel
theorem dX1_heightBehind_10 : decode cX1_heightBehind 10 = .ok (.aload_n 1, 1) := by decide +kernel
theorem dX1_heightBehind_11 : decode cX1_heightBehind 11 = .ok (.iload_n 2, 1) := by decide +kernel
theorem dX1_heightBehind_12 : decode cX1_heightBehind 12 = .ok (.iconst 1, 1) := by decide +kernel
theorem dX1_heightBehind_13 : decode cX1_heightBehind 13 = .ok (.iadd, 1) := by decide +kernel
theorem dX1_heightBehind_14 : decode cX1_heightBehind 14 = .ok (.invokevirtual 51, 3) := by decide +kernel
theorem dX1_heightBehind_17 : decode cX1_heightBehind 17 = .ok (.i2l, 1) := by decide +kernel
theorem dX1_heightBehind_18 : decode cX1_heightBehind 18 = .ok (.lload 4, 2) := by decide +kernel
theorem dX1_heightBehind_20 : decode cX1_heightBehind 20 = .ok (.lsub, 1) := by decide +kernel
theorem dX1_heightBehind_21 : decode cX1_heightBehind 21 = .ok (.lstore 6, 2) := by decide +kernel
theorem dX1_heightBehind_23 : decode cX1_heightBehind 23 = .ok (.aload_n 0, 1) := by decide +kernel
theorem dX1_heightBehind_24 : decode cX1_heightBehind 24 = .ok (.aload_n 1, 1) := by decide +kernel
theorem dX1_heightBehind_25 : decode cX1_heightBehind 25 = .ok (.iload_n 2, 1) := by decide +kernel
theorem dX1_heightBehind_26 : decode cX1_heightBehind 26 = .ok (.invokevirtual 54, 3) := by decide +kernel
theorem dX1_heightBehind_29 : decode cX1_heightBehind 29 = .ok (.i2l, 1) := by decide +kernel
theorem dX1_heightBehind_30 : decode cX1_heightBehind 30 = .ok (.lstore 8, 2) := by decide +kernel
theorem dX1_heightBehind_32 : decode cX1_heightBehind 32 = .ok (.aload_n 0, 1) := by decide +kernel
theorem dX1_heightBehind_33 : decode cX1_heightBehind 33 = .ok (.aload_n 1, 1) := by decide +kernel
theorem dX1_heightBehind_34 : decode cX1_heightBehind 34 = .ok (.iload_n 2, 1) := by decide +kernel
theorem dX1_heightBehind_35 : decode cX1_heightBehind 35 = .ok (.iconst 1, 1) := by decide +kernel
theorem dX1_heightBehind_36 : decode cX1_heightBehind 36 = .ok (.iadd, 1) := by decide +kernel
theorem dX1_heightBehind_37 : decode cX1_heightBehind 37 = .ok (.invokevirtual 54, 3) := by decide +kernel
theorem dX1_heightBehind_40 : decode cX1_heightBehind 40 = .ok (.i2l, 1) := by decide +kernel
theorem dX1_heightBehind_41 : decode cX1_heightBehind 41 = .ok (.lload 8, 2) := by decide +kernel
theorem dX1_heightBehind_43 : decode cX1_heightBehind 43 = .ok (.lsub, 1) := by decide +kernel
theorem dX1_heightBehind_44 : decode cX1_heightBehind 44 = .ok (.lstore 10, 2) := by decide +kernel
theorem dX1_heightBehind_46 : decode cX1_heightBehind 46 = .ok (.iload_n 3, 1) := by decide +kernel
theorem dX1_heightBehind_47 : decode cX1_heightBehind 47 = .ok (.i2l, 1) := by decide +kernel
theorem dX1_heightBehind_48 : decode cX1_heightBehind 48 = .ok (.lload 4, 2) := by decide +kernel
theorem dX1_heightBehind_50 : decode cX1_heightBehind 50 = .ok (.lsub, 1) := by decide +kernel
theorem dX1_heightBehind_51 : decode cX1_heightBehind 51 = .ok (.lload 6, 2) := by decide +kernel
theorem dX1_heightBehind_53 : decode cX1_heightBehind 53 = .ok (.invokestatic 56, 3) := by decide +kernel
theorem dX1_heightBehind_56 : decode cX1_heightBehind 56 = .ok (.lstore 12, 2) := by decide +kernel
theorem dX1_heightBehind_58 : decode cX1_heightBehind 58 = .ok (.lload 8, 2) := by decide +kernel
theorem dX1_heightBehind_60 : decode cX1_heightBehind 60 = .ok (.lload 10, 2) := by decide +kernel
theorem dX1_heightBehind_62 : decode cX1_heightBehind 62 = .ok (.lload 12, 2) := by decide +kernel
theorem dX1_heightBehind_64 : decode cX1_heightBehind 64 = .ok (.lmul, 1) := by decide +kernel
theorem dX1_heightBehind_65 : decode cX1_heightBehind 65 = .ok (.ldc2_w 60, 3) := by decide +kernel
theorem dX1_heightBehind_68 : decode cX1_heightBehind 68 = .ok (.lload 6, 2) := by decide +kernel
theorem dX1_heightBehind_70 : decode cX1_heightBehind 70 = .ok (.lmul, 1) := by decide +kernel
theorem dX1_heightBehind_71 : decode cX1_heightBehind 71 = .ok (.invokestatic 62, 3) := by decide +kernel
theorem dX1_heightBehind_74 : decode cX1_heightBehind 74 = .ok (.ladd, 1) := by decide +kernel
theorem dX1_heightBehind_75 : decode cX1_heightBehind 75 = .ok (.l2i, 1) := by decide +kernel
theorem dX1_heightBehind_76 : decode cX1_heightBehind 76 = .ok (.ireturn, 1) := by decide +kernel
theorem dX1_twelfthsGone_0 : decode cX1_twelfthsGone 0 = .ok (.ldc2_w 65, 3) := by decide +kernel
theorem dX1_twelfthsGone_3 : decode cX1_twelfthsGone 3 = .ok (.lload_n 0, 1) := by decide +kernel
theorem dX1_twelfthsGone_4 : decode cX1_twelfthsGone 4 = .ok (.lmul, 1) := by decide +kernel
theorem dX1_twelfthsGone_5 : decode cX1_twelfthsGone 5 = .ok (.lload_n 2, 1) := by decide +kernel
theorem dX1_twelfthsGone_6 : decode cX1_twelfthsGone 6 = .ok (.invokestatic 62, 3) := by decide +kernel
theorem dX1_twelfthsGone_9 : decode cX1_twelfthsGone 9 = .ok (.l2i, 1) := by decide +kernel
theorem dX1_twelfthsGone_10 : decode cX1_twelfthsGone 10 = .ok (.istore 4, 2) := by decide +kernel
theorem dX1_twelfthsGone_12 : decode cX1_twelfthsGone 12 = .ok (.iload 4, 2) := by decide +kernel
theorem dX1_twelfthsGone_14 : decode cX1_twelfthsGone 14 = .ok (.ifCond .lt 21, 3) := by decide +kernel
theorem dX1_twelfthsGone_17 : decode cX1_twelfthsGone 17 = .ok (.iload 4, 2) := by decide +kernel
theorem dX1_twelfthsGone_19 : decode cX1_twelfthsGone 19 = .ok (.getstatic 67, 3) := by decide +kernel
theorem dX1_twelfthsGone_22 : decode cX1_twelfthsGone 22 = .ok (.arraylength, 1) := by decide +kernel
theorem dX1_twelfthsGone_23 : decode cX1_twelfthsGone 23 = .ok (.if_icmp .ge 12, 3) := by decide +kernel
theorem dX1_twelfthsGone_26 : decode cX1_twelfthsGone 26 = .ok (.iload 4, 2) := by decide +kernel
theorem dX1_twelfthsGone_28 : decode cX1_twelfthsGone 28 = .ok (.getstatic 71, 3) := by decide +kernel
theorem dX1_twelfthsGone_31 : decode cX1_twelfthsGone 31 = .ok (.arraylength, 1) := by decide +kernel
theorem dX1_twelfthsGone_32 : decode cX1_twelfthsGone 32 = .ok (.if_icmp .lt 5, 3) := by decide +kernel
theorem dX1_twelfthsGone_35 : decode cX1_twelfthsGone 35 = .ok (.lconst 0, 1) := by decide +kernel
theorem dX1_twelfthsGone_36 : decode cX1_twelfthsGone 36 = .ok (.lreturn, 1) := by decide +kernel
theorem dX1_twelfthsGone_37 : decode cX1_twelfthsGone 37 = .ok (.getstatic 71, 3) := by decide +kernel
theorem dX1_twelfthsGone_40 : decode cX1_twelfthsGone 40 = .ok (.iload 4, 2) := by decide +kernel
theorem dX1_twelfthsGone_42 : decode cX1_twelfthsGone 42 = .ok (.iaload, 1) := by decide +kernel
theorem dX1_twelfthsGone_43 : decode cX1_twelfthsGone 43 = .ok (.i2l, 1) := by decide +kernel
theorem dX1_twelfthsGone_44 : decode cX1_twelfthsGone 44 = .ok (.lload_n 2, 1) := by decide +kernel
theorem dX1_twelfthsGone_45 : decode cX1_twelfthsGone 45 = .ok (.lmul, 1) := by decide +kernel
theorem dX1_twelfthsGone_46 : decode cX1_twelfthsGone 46 = .ok (.getstatic 67, 3) := by decide +kernel
theorem dX1_twelfthsGone_49 : decode cX1_twelfthsGone 49 = .ok (.iload 4, 2) := by decide +kernel
theorem dX1_twelfthsGone_51 : decode cX1_twelfthsGone 51 = .ok (.iaload, 1) := by decide +kernel
theorem dX1_twelfthsGone_52 : decode cX1_twelfthsGone 52 = .ok (.i2l, 1) := by decide +kernel
theorem dX1_twelfthsGone_53 : decode cX1_twelfthsGone 53 = .ok (.ldc2_w 65, 3) := by decide +kernel
theorem dX1_twelfthsGone_56 : decode cX1_twelfthsGone 56 = .ok (.lload_n 0, 1) := by decide +kernel
theorem dX1_twelfthsGone_57 : decode cX1_twelfthsGone 57 = .ok (.lmul, 1) := by decide +kernel
theorem dX1_twelfthsGone_58 : decode cX1_twelfthsGone 58 = .ok (.iload 4, 2) := by decide +kernel
theorem dX1_twelfthsGone_60 : decode cX1_twelfthsGone 60 = .ok (.i2l, 1) := by decide +kernel
theorem dX1_twelfthsGone_61 : decode cX1_twelfthsGone 61 = .ok (.lload_n 2, 1) := by decide +kernel
theorem dX1_twelfthsGone_62 : decode cX1_twelfthsGone 62 = .ok (.lmul, 1) := by decide +kernel
theorem dX1_twelfthsGone_63 : decode cX1_twelfthsGone 63 = .ok (.lsub, 1) := by decide +kernel
theorem dX1_twelfthsGone_64 : decode cX1_twelfthsGone 64 = .ok (.lmul, 1) := by decide +kernel
theorem dX1_twelfthsGone_65 : decode cX1_twelfthsGone 65 = .ok (.ladd, 1) := by decide +kernel
theorem dX1_twelfthsGone_66 : decode cX1_twelfthsGone 66 = .ok (.lreturn, 1) := by decide +kernel
theorem dX3_init_0 : decode cX3_init 0 = .ok (.aload_n 0, 1) := by decide +kernel
theorem dX3_init_1 : decode cX3_init 1 = .ok (.invokespecial 3, 3) := by decide +kernel
theorem dX3_init_4 : decode cX3_init 4 = .ok (.aload_n 0, 1) := by decide +kernel
theorem dX3_init_5 : decode cX3_init 5 = .ok (.sipush 4320, 3) := by decide +kernel
theorem dX3_init_8 : decode cX3_init 8 = .ok (.newarray .int, 2) := by decide +kernel
theorem dX3_init_10 : decode cX3_init 10 = .ok (.putfield 9, 3) := by decide +kernel
theorem dX3_init_13 : decode cX3_init 13 = .ok (.aload_n 0, 1) := by decide +kernel
theorem dX3_init_14 : decode cX3_init 14 = .ok (.sipush 4320, 3) := by decide +kernel
theorem dX3_init_17 : decode cX3_init 17 = .ok (.newarray .int, 2) := by decide +kernel
theorem dX3_init_19 : decode cX3_init 19 = .ok (.putfield 15, 3) := by decide +kernel
theorem dX3_init_22 : decode cX3_init 22 = .ok (.aload_n 0, 1) := by decide +kernel
theorem dX3_init_23 : decode cX3_init 23 = .ok (.sipush 4320, 3) := by decide +kernel
theorem dX3_init_26 : decode cX3_init 26 = .ok (.newarray .int, 2) := by decide +kernel
theorem dX3_init_28 : decode cX3_init 28 = .ok (.putfield 18, 3) := by decide +kernel
theorem dX3_init_31 : decode cX3_init 31 = .ok (.aload_n 0, 1) := by decide +kernel
theorem dX3_init_32 : decode cX3_init 32 = .ok (.sipush 4320, 3) := by decide +kernel
theorem dX3_init_35 : decode cX3_init 35 = .ok (.newarray .boolean, 2) := by decide +kernel
theorem dX3_init_37 : decode cX3_init 37 = .ok (.putfield 21, 3) := by decide +kernel
theorem dX3_init_40 : decode cX3_init 40 = .ok (.return_, 1) := by decide +kernel
theorem dX3_fill_0 : decode cX3_fill 0 = .ok (.iconst 0, 1) := by decide +kernel
theorem dX3_fill_1 : decode cX3_fill 1 = .ok (.istore_n 2, 1) := by decide +kernel
theorem dX3_fill_2 : decode cX3_fill 2 = .ok (.iload_n 2, 1) := by decide +kernel
theorem dX3_fill_3 : decode cX3_fill 3 = .ok (.aload_n 0, 1) := by decide +kernel
theorem dX3_fill_4 : decode cX3_fill 4 = .ok (.getfield 9, 3) := by decide +kernel
theorem dX3_fill_7 : decode cX3_fill 7 = .ok (.arraylength, 1) := by decide +kernel
theorem dX3_fill_8 : decode cX3_fill 8 = .ok (.if_icmp .ge 20, 3) := by decide +kernel
theorem dX3_fill_11 : decode cX3_fill 11 = .ok (.aload_n 0, 1) := by decide +kernel
theorem dX3_fill_12 : decode cX3_fill 12 = .ok (.getfield 9, 3) := by decide +kernel
theorem dX3_fill_15 : decode cX3_fill 15 = .ok (.iload_n 2, 1) := by decide +kernel
theorem dX3_fill_16 : decode cX3_fill 16 = .ok (.aload_n 1, 1) := by decide +kernel
theorem dX3_fill_17 : decode cX3_fill 17 = .ok (.iload_n 2, 1) := by decide +kernel
theorem dX3_fill_18 : decode cX3_fill 18 = .ok (.invokevirtual 25, 3) := by decide +kernel
theorem dX3_fill_21 : decode cX3_fill 21 = .ok (.iastore, 1) := by decide +kernel
theorem dX3_fill_22 : decode cX3_fill 22 = .ok (.iinc 2 1, 3) := by decide +kernel
theorem dX3_fill_25 : decode cX3_fill 25 = .ok (.goto (-23), 3) := by decide +kernel
theorem dX3_fill_28 : decode cX3_fill 28 = .ok (.aload_n 0, 1) := by decide +kernel
theorem dX3_fill_29 : decode cX3_fill 29 = .ok (.invokevirtual 31, 3) := by decide +kernel
theorem dX3_fill_32 : decode cX3_fill 32 = .ok (.return_, 1) := by decide +kernel
theorem dX3_findWaters_0 : decode cX3_findWaters 0 = .ok (.aload_n 0, 1) := by decide +kernel
theorem dX3_findWaters_1 : decode cX3_findWaters 1 = .ok (.iconst 0, 1) := by decide +kernel
theorem dX3_findWaters_2 : decode cX3_findWaters 2 = .ok (.putfield 34, 3) := by decide +kernel
theorem dX3_findWaters_5 : decode cX3_findWaters 5 = .ok (.iconst 0, 1) := by decide +kernel
theorem dX3_findWaters_6 : decode cX3_findWaters 6 = .ok (.istore_n 1, 1) := by decide +kernel
theorem dX3_findWaters_7 : decode cX3_findWaters 7 = .ok (.iconst 0, 1) := by decide +kernel
theorem dX3_findWaters_8 : decode cX3_findWaters 8 = .ok (.istore_n 2, 1) := by decide +kernel
theorem dX3_findWaters_9 : decode cX3_findWaters 9 = .ok (.iconst 1, 1) := by decide +kernel
theorem dX3_findWaters_10 : decode cX3_findWaters 10 = .ok (.istore_n 3, 1) := by decide +kernel
theorem dX3_findWaters_11 : decode cX3_findWaters 11 = .ok (.iload_n 3, 1) := by decide +kernel
theorem dX3_findWaters_12 : decode cX3_findWaters 12 = .ok (.aload_n 0, 1) := by decide +kernel
theorem dX3_findWaters_13 : decode cX3_findWaters 13 = .ok (.getfield 9, 3) := by decide +kernel
theorem dX3_findWaters_16 : decode cX3_findWaters 16 = .ok (.arraylength, 1) := by decide +kernel
theorem dX3_findWaters_17 : decode cX3_findWaters 17 = .ok (.if_icmp .ge 82, 3) := by decide +kernel
theorem dX3_findWaters_20 : decode cX3_findWaters 20 = .ok (.aload_n 0, 1) := by decide +kernel
theorem dX3_findWaters_21 : decode cX3_findWaters 21 = .ok (.getfield 9, 3) := by decide +kernel
theorem dX3_findWaters_24 : decode cX3_findWaters 24 = .ok (.iload_n 3, 1) := by decide +kernel
theorem dX3_findWaters_25 : decode cX3_findWaters 25 = .ok (.iaload, 1) := by decide +kernel
theorem dX3_findWaters_26 : decode cX3_findWaters 26 = .ok (.aload_n 0, 1) := by decide +kernel
theorem dX3_findWaters_27 : decode cX3_findWaters 27 = .ok (.getfield 9, 3) := by decide +kernel
theorem dX3_findWaters_30 : decode cX3_findWaters 30 = .ok (.iload_n 3, 1) := by decide +kernel
theorem dX3_findWaters_31 : decode cX3_findWaters 31 = .ok (.iconst 1, 1) := by decide +kernel
theorem dX3_findWaters_32 : decode cX3_findWaters 32 = .ok (.isub, 1) := by decide +kernel
theorem dX3_findWaters_33 : decode cX3_findWaters 33 = .ok (.iaload, 1) := by decide +kernel
theorem dX3_findWaters_34 : decode cX3_findWaters 34 = .ok (.if_icmp .ne 6, 3) := by decide +kernel
theorem dX3_findWaters_37 : decode cX3_findWaters 37 = .ok (.goto 56, 3) := by decide +kernel
theorem dX3_findWaters_40 : decode cX3_findWaters 40 = .ok (.aload_n 0, 1) := by decide +kernel
theorem dX3_findWaters_41 : decode cX3_findWaters 41 = .ok (.getfield 9, 3) := by decide +kernel
theorem dX3_findWaters_44 : decode cX3_findWaters 44 = .ok (.iload_n 3, 1) := by decide +kernel
theorem dX3_findWaters_45 : decode cX3_findWaters 45 = .ok (.iaload, 1) := by decide +kernel
theorem dX3_findWaters_46 : decode cX3_findWaters 46 = .ok (.aload_n 0, 1) := by decide +kernel
theorem dX3_findWaters_47 : decode cX3_findWaters 47 = .ok (.getfield 9, 3) := by decide +kernel
theorem dX3_findWaters_50 : decode cX3_findWaters 50 = .ok (.iload_n 3, 1) := by decide +kernel
theorem dX3_findWaters_51 : decode cX3_findWaters 51 = .ok (.iconst 1, 1) := by decide +kernel
theorem dX3_findWaters_52 : decode cX3_findWaters 52 = .ok (.isub, 1) := by decide +kernel
theorem dX3_findWaters_53 : decode cX3_findWaters 53 = .ok (.iaload, 1) := by decide +kernel
theorem dX3_findWaters_54 : decode cX3_findWaters 54 = .ok (.if_icmp .le 7, 3) := by decide +kernel
theorem dX3_findWaters_57 : decode cX3_findWaters 57 = .ok (.iconst 1, 1) := by decide +kernel
theorem dX3_findWaters_58 : decode cX3_findWaters 58 = .ok (.goto 4, 3) := by decide +kernel
theorem dX3_findWaters_61 : decode cX3_findWaters 61 = .ok (.iconst 0, 1) := by decide +kernel
theorem dX3_findWaters_62 : decode cX3_findWaters 62 = .ok (.istore 4, 2) := by decide +kernel
theorem dX3_findWaters_64 : decode cX3_findWaters 64 = .ok (.iload_n 1, 1) := by decide +kernel
theorem dX3_findWaters_65 : decode cX3_findWaters 65 = .ok (.ifCond .le 23, 3) := by decide +kernel
theorem dX3_findWaters_68 : decode cX3_findWaters 68 = .ok (.iload 4, 2) := by decide +kernel
theorem dX3_findWaters_70 : decode cX3_findWaters 70 = .ok (.iload_n 2, 1) := by decide +kernel
theorem dX3_findWaters_71 : decode cX3_findWaters 71 = .ok (.if_icmp .eq 17, 3) := by decide +kernel
theorem dX3_findWaters_74 : decode cX3_findWaters 74 = .ok (.aload_n 0, 1) := by decide +kernel
theorem dX3_findWaters_75 : decode cX3_findWaters 75 = .ok (.iload_n 1, 1) := by decide +kernel
theorem dX3_findWaters_76 : decode cX3_findWaters 76 = .ok (.aload_n 0, 1) := by decide +kernel
theorem dX3_findWaters_77 : decode cX3_findWaters 77 = .ok (.getfield 9, 3) := by decide +kernel
theorem dX3_findWaters_80 : decode cX3_findWaters 80 = .ok (.iload_n 3, 1) := by decide +kernel
theorem dX3_findWaters_81 : decode cX3_findWaters 81 = .ok (.iconst 1, 1) := by decide +kernel
theorem dX3_findWaters_82 : decode cX3_findWaters 82 = .ok (.isub, 1) := by decide +kernel
theorem dX3_findWaters_83 : decode cX3_findWaters 83 = .ok (.iaload, 1) := by decide +kernel
theorem dX3_findWaters_84 : decode cX3_findWaters 84 = .ok (.iload_n 2, 1) := by decide +kernel
theorem dX3_findWaters_85 : decode cX3_findWaters 85 = .ok (.invokevirtual 38, 3) := by decide +kernel
theorem dX3_findWaters_88 : decode cX3_findWaters 88 = .ok (.iload_n 3, 1) := by decide +kernel
theorem dX3_findWaters_89 : decode cX3_findWaters 89 = .ok (.istore_n 1, 1) := by decide +kernel
theorem dX3_findWaters_90 : decode cX3_findWaters 90 = .ok (.iload 4, 2) := by decide +kernel
theorem dX3_findWaters_92 : decode cX3_findWaters 92 = .ok (.istore_n 2, 1) := by decide +kernel
theorem dX3_findWaters_93 : decode cX3_findWaters 93 = .ok (.iinc 3 1, 3) := by decide +kernel
theorem dX3_findWaters_96 : decode cX3_findWaters 96 = .ok (.goto (-85), 3) := by decide +kernel
theorem dX3_findWaters_99 : decode cX3_findWaters 99 = .ok (.return_, 1) := by decide +kernel
theorem dX3_noteWater_0 : decode cX3_noteWater 0 = .ok (.aload_n 0, 1) := by decide +kernel
theorem dX3_noteWater_1 : decode cX3_noteWater 1 = .ok (.getfield 34, 3) := by decide +kernel
theorem dX3_noteWater_4 : decode cX3_noteWater 4 = .ok (.sipush 4320, 3) := by decide +kernel
theorem dX3_noteWater_7 : decode cX3_noteWater 7 = .ok (.if_icmp .ge 43, 3) := by decide +kernel
theorem dX3_noteWater_10 : decode cX3_noteWater 10 = .ok (.aload_n 0, 1) := by decide +kernel
theorem dX3_noteWater_11 : decode cX3_noteWater 11 = .ok (.getfield 15, 3) := by decide +kernel
theorem dX3_noteWater_14 : decode cX3_noteWater 14 = .ok (.aload_n 0, 1) := by decide +kernel
theorem dX3_noteWater_15 : decode cX3_noteWater 15 = .ok (.getfield 34, 3) := by decide +kernel
theorem dX3_noteWater_18 : decode cX3_noteWater 18 = .ok (.iload_n 1, 1) := by decide +kernel
theorem dX3_noteWater_19 : decode cX3_noteWater 19 = .ok (.iastore, 1) := by decide +kernel
theorem dX3_noteWater_20 : decode cX3_noteWater 20 = .ok (.aload_n 0, 1) := by decide +kernel
theorem dX3_noteWater_21 : decode cX3_noteWater 21 = .ok (.getfield 18, 3) := by decide +kernel
theorem dX3_noteWater_24 : decode cX3_noteWater 24 = .ok (.aload_n 0, 1) := by decide +kernel
theorem dX3_noteWater_25 : decode cX3_noteWater 25 = .ok (.getfield 34, 3) := by decide +kernel
theorem dX3_noteWater_28 : decode cX3_noteWater 28 = .ok (.iload_n 2, 1) := by decide +kernel
theorem dX3_noteWater_29 : decode cX3_noteWater 29 = .ok (.iastore, 1) := by decide +kernel
theorem dX3_noteWater_30 : decode cX3_noteWater 30 = .ok (.aload_n 0, 1) := by decide +kernel
theorem dX3_noteWater_31 : decode cX3_noteWater 31 = .ok (.getfield 21, 3) := by decide +kernel
theorem dX3_noteWater_34 : decode cX3_noteWater 34 = .ok (.aload_n 0, 1) := by decide +kernel
theorem dX3_noteWater_35 : decode cX3_noteWater 35 = .ok (.getfield 34, 3) := by decide +kernel
theorem dX3_noteWater_38 : decode cX3_noteWater 38 = .ok (.iload_n 3, 1) := by decide +kernel
theorem dX3_noteWater_39 : decode cX3_noteWater 39 = .ok (.bastore, 1) := by decide +kernel
theorem dX3_noteWater_40 : decode cX3_noteWater 40 = .ok (.aload_n 0, 1) := by decide +kernel
end
section
theorem dX3_noteWater_41 : decode cX3_noteWater 41 = .ok (.dup, 1) := by decide +kernel
theorem dX3_noteWater_42 : decode cX3_noteWater 42 = .ok (.getfield 34, 3) := by decide +kernel
theorem dX3_noteWater_45 : decode cX3_noteWater 45 = .ok (.iconst 1, 1) := by decide +kernel
theorem dX3_noteWater_46 : decode cX3_noteWater 46 = .ok (.iadd, 1) := by decide +kernel
theorem dX3_noteWater_47 : decode cX3_noteWater 47 = .ok (.putfield 34, 3) := by decide +kernel
theorem dX3_noteWater_50 : decode cX3_noteWater 50 = .ok (.return_, 1) := by decide +kernel
theorem dX3_hasWater_0 : decode cX3_hasWater 0 = .ok (.iload_n 1, 1) := by decide +kernel
theorem dX3_hasWater_1 : decode cX3_hasWater 1 = .ok (.ifCond .lt 15, 3) := by decide +kernel
theorem dX3_hasWater_4 : decode cX3_hasWater 4 = .ok (.iload_n 1, 1) := by decide +kernel
theorem dX3_hasWater_5 : decode cX3_hasWater 5 = .ok (.aload_n 0, 1) := by decide +kernel
theorem dX3_hasWater_6 : decode cX3_hasWater 6 = .ok (.getfield 34, 3) := by decide +kernel
theorem dX3_hasWater_9 : decode cX3_hasWater 9 = .ok (.if_icmp .ge 7, 3) := by decide +kernel
theorem dX3_hasWater_12 : decode cX3_hasWater 12 = .ok (.iconst 1, 1) := by decide +kernel
theorem dX3_hasWater_13 : decode cX3_hasWater 13 = .ok (.goto 4, 3) := by decide +kernel
theorem dX3_hasWater_16 : decode cX3_hasWater 16 = .ok (.iconst 0, 1) := by decide +kernel
theorem dX3_hasWater_17 : decode cX3_hasWater 17 = .ok (.ireturn, 1) := by decide +kernel
theorem dX3_isBetweenWaters_0 : decode cX3_isBetweenWaters 0 = .ok (.iload_n 1, 1) := by decide +kernel
theorem dX3_isBetweenWaters_1 : decode cX3_isBetweenWaters 1 = .ok (.ifCond .lt 17, 3) := by decide +kernel
theorem dX3_isBetweenWaters_4 : decode cX3_isBetweenWaters 4 = .ok (.iload_n 1, 1) := by decide +kernel
theorem dX3_isBetweenWaters_5 : decode cX3_isBetweenWaters 5 = .ok (.aload_n 0, 1) := by decide +kernel
theorem dX3_isBetweenWaters_6 : decode cX3_isBetweenWaters 6 = .ok (.getfield 34, 3) := by decide +kernel
theorem dX3_isBetweenWaters_9 : decode cX3_isBetweenWaters 9 = .ok (.iconst 1, 1) := by decide +kernel
theorem dX3_isBetweenWaters_10 : decode cX3_isBetweenWaters 10 = .ok (.isub, 1) := by decide +kernel
theorem dX3_isBetweenWaters_11 : decode cX3_isBetweenWaters 11 = .ok (.if_icmp .ge 7, 3) := by decide +kernel
theorem dX3_isBetweenWaters_14 : decode cX3_isBetweenWaters 14 = .ok (.iconst 1, 1) := by decide +kernel
theorem dX3_isBetweenWaters_15 : decode cX3_isBetweenWaters 15 = .ok (.goto 4, 3) := by decide +kernel
theorem dX3_isBetweenWaters_18 : decode cX3_isBetweenWaters 18 = .ok (.iconst 0, 1) := by decide +kernel
theorem dX3_isBetweenWaters_19 : decode cX3_isBetweenWaters 19 = .ok (.ireturn, 1) := by decide +kernel
theorem dX3_heightAt_0 : decode cX3_heightAt 0 = .ok (.iload_n 1, 1) := by decide +kernel
theorem dX3_heightAt_1 : decode cX3_heightAt 1 = .ok (.invokestatic 42, 3) := by decide +kernel
theorem dX3_heightAt_4 : decode cX3_heightAt 4 = .ok (.ifCond .eq 12, 3) := by decide +kernel
theorem dX3_heightAt_7 : decode cX3_heightAt 7 = .ok (.aload_n 0, 1) := by decide +kernel
theorem dX3_heightAt_8 : decode cX3_heightAt 8 = .ok (.getfield 9, 3) := by decide +kernel
theorem dX3_heightAt_11 : decode cX3_heightAt 11 = .ok (.iload_n 1, 1) := by decide +kernel
theorem dX3_heightAt_12 : decode cX3_heightAt 12 = .ok (.iaload, 1) := by decide +kernel
theorem dX3_heightAt_13 : decode cX3_heightAt 13 = .ok (.goto 4, 3) := by decide +kernel
theorem dX3_heightAt_16 : decode cX3_heightAt 16 = .ok (.iconst 0, 1) := by decide +kernel
theorem dX3_heightAt_17 : decode cX3_heightAt 17 = .ok (.ireturn, 1) := by decide +kernel
theorem dX3_timeOf_0 : decode cX3_timeOf 0 = .ok (.aload_n 0, 1) := by decide +kernel
theorem dX3_timeOf_1 : decode cX3_timeOf 1 = .ok (.iload_n 1, 1) := by decide +kernel
theorem dX3_timeOf_2 : decode cX3_timeOf 2 = .ok (.invokevirtual 46, 3) := by decide +kernel
theorem dX3_timeOf_5 : decode cX3_timeOf 5 = .ok (.ifCond .eq 12, 3) := by decide +kernel
theorem dX3_timeOf_8 : decode cX3_timeOf 8 = .ok (.aload_n 0, 1) := by decide +kernel
theorem dX3_timeOf_9 : decode cX3_timeOf 9 = .ok (.getfield 15, 3) := by decide +kernel
theorem dX3_timeOf_12 : decode cX3_timeOf 12 = .ok (.iload_n 1, 1) := by decide +kernel
theorem dX3_timeOf_13 : decode cX3_timeOf 13 = .ok (.iaload, 1) := by decide +kernel
theorem dX3_timeOf_14 : decode cX3_timeOf 14 = .ok (.goto 4, 3) := by decide +kernel
theorem dX3_timeOf_17 : decode cX3_timeOf 17 = .ok (.iconst 0, 1) := by decide +kernel
theorem dX3_timeOf_18 : decode cX3_timeOf 18 = .ok (.ireturn, 1) := by decide +kernel
theorem dX3_heightOf_0 : decode cX3_heightOf 0 = .ok (.aload_n 0, 1) := by decide +kernel
theorem dX3_heightOf_1 : decode cX3_heightOf 1 = .ok (.iload_n 1, 1) := by decide +kernel
theorem dX3_heightOf_2 : decode cX3_heightOf 2 = .ok (.invokevirtual 46, 3) := by decide +kernel
theorem dX3_heightOf_5 : decode cX3_heightOf 5 = .ok (.ifCond .eq 12, 3) := by decide +kernel
theorem dX3_heightOf_8 : decode cX3_heightOf 8 = .ok (.aload_n 0, 1) := by decide +kernel
theorem dX3_heightOf_9 : decode cX3_heightOf 9 = .ok (.getfield 18, 3) := by decide +kernel
theorem dX3_heightOf_12 : decode cX3_heightOf 12 = .ok (.iload_n 1, 1) := by decide +kernel
theorem dX3_heightOf_13 : decode cX3_heightOf 13 = .ok (.iaload, 1) := by decide +kernel
theorem dX3_heightOf_14 : decode cX3_heightOf 14 = .ok (.goto 4, 3) := by decide +kernel
theorem dX3_heightOf_17 : decode cX3_heightOf 17 = .ok (.iconst 0, 1) := by decide +kernel
theorem dX3_heightOf_18 : decode cX3_heightOf 18 = .ok (.ireturn, 1) := by decide +kernel
theorem dX3_isHigh_0 : decode cX3_isHigh 0 = .ok (.aload_n 0, 1) := by decide +kernel
theorem dX3_isHigh_1 : decode cX3_isHigh 1 = .ok (.iload_n 1, 1) := by decide +kernel
theorem dX3_isHigh_2 : decode cX3_isHigh 2 = .ok (.invokevirtual 46, 3) := by decide +kernel
theorem dX3_isHigh_5 : decode cX3_isHigh 5 = .ok (.ifCond .eq 16, 3) := by decide +kernel
theorem dX3_isHigh_8 : decode cX3_isHigh 8 = .ok (.aload_n 0, 1) := by decide +kernel
theorem dX3_isHigh_9 : decode cX3_isHigh 9 = .ok (.getfield 21, 3) := by decide +kernel
theorem dX3_isHigh_12 : decode cX3_isHigh 12 = .ok (.iload_n 1, 1) := by decide +kernel
theorem dX3_isHigh_13 : decode cX3_isHigh 13 = .ok (.baload, 1) := by decide +kernel
theorem dX3_isHigh_14 : decode cX3_isHigh 14 = .ok (.ifCond .eq 7, 3) := by decide +kernel
theorem dX3_isHigh_17 : decode cX3_isHigh 17 = .ok (.iconst 1, 1) := by decide +kernel
theorem dX3_isHigh_18 : decode cX3_isHigh 18 = .ok (.goto 4, 3) := by decide +kernel
theorem dX3_isHigh_21 : decode cX3_isHigh 21 = .ok (.iconst 0, 1) := by decide +kernel
theorem dX3_isHigh_22 : decode cX3_isHigh 22 = .ok (.ireturn, 1) := by decide +kernel
theorem dX3_datumOf_0 : decode cX3_datumOf 0 = .ok (.iload_n 1, 1) := by decide +kernel
theorem dX3_datumOf_1 : decode cX3_datumOf 1 = .ok (.tableswitch 53 0 3 #[31, 36, 41, 47], 31) := by decide +kernel
theorem dX3_datumOf_32 : decode cX3_datumOf 32 = .ok (.aload_n 0, 1) := by decide +kernel
theorem dX3_datumOf_33 : decode cX3_datumOf 33 = .ok (.invokevirtual 49, 3) := by decide +kernel
theorem dX3_datumOf_36 : decode cX3_datumOf 36 = .ok (.ireturn, 1) := by decide +kernel
theorem dX3_datumOf_37 : decode cX3_datumOf 37 = .ok (.aload_n 0, 1) := by decide +kernel
theorem dX3_datumOf_38 : decode cX3_datumOf 38 = .ok (.invokevirtual 53, 3) := by decide +kernel
theorem dX3_datumOf_41 : decode cX3_datumOf 41 = .ok (.ireturn, 1) := by decide +kernel
theorem dX3_datumOf_42 : decode cX3_datumOf 42 = .ok (.aload_n 0, 1) := by decide +kernel
theorem dX3_datumOf_43 : decode cX3_datumOf 43 = .ok (.iconst 1, 1) := by decide +kernel
theorem dX3_datumOf_44 : decode cX3_datumOf 44 = .ok (.invokevirtual 56, 3) := by decide +kernel
theorem dX3_datumOf_47 : decode cX3_datumOf 47 = .ok (.ireturn, 1) := by decide +kernel
theorem dX3_datumOf_48 : decode cX3_datumOf 48 = .ok (.aload_n 0, 1) := by decide +kernel
theorem dX3_datumOf_49 : decode cX3_datumOf 49 = .ok (.iconst 0, 1) := by decide +kernel
theorem dX3_datumOf_50 : decode cX3_datumOf 50 = .ok (.invokevirtual 56, 3) := by decide +kernel
theorem dX3_datumOf_53 : decode cX3_datumOf 53 = .ok (.ireturn, 1) := by decide +kernel
theorem dX3_datumOf_54 : decode cX3_datumOf 54 = .ok (.aload_n 0, 1) := by decide +kernel
theorem dX3_datumOf_55 : decode cX3_datumOf 55 = .ok (.invokevirtual 60, 3) := by decide +kernel
theorem dX3_datumOf_58 : decode cX3_datumOf 58 = .ok (.ireturn, 1) := by decide +kernel
theorem dX3_greatestHeight_0 : decode cX3_greatestHeight 0 = .ok (.aload_n 0, 1) := by decide +kernel
theorem dX3_greatestHeight_1 : decode cX3_greatestHeight 1 = .ok (.iconst 0, 1) := by decide +kernel
theorem dX3_greatestHeight_2 : decode cX3_greatestHeight 2 = .ok (.invokevirtual 63, 3) := by decide +kernel
theorem dX3_greatestHeight_5 : decode cX3_greatestHeight 5 = .ok (.istore_n 1, 1) := by decide +kernel
theorem dX3_greatestHeight_6 : decode cX3_greatestHeight 6 = .ok (.aload_n 0, 1) := by decide +kernel
theorem dX3_greatestHeight_7 : decode cX3_greatestHeight 7 = .ok (.getfield 9, 3) := by decide +kernel
theorem dX3_greatestHeight_10 : decode cX3_greatestHeight 10 = .ok (.astore_n 2, 1) := by decide +kernel
theorem dX3_greatestHeight_11 : decode cX3_greatestHeight 11 = .ok (.aload_n 2, 1) := by decide +kernel
theorem dX3_greatestHeight_12 : decode cX3_greatestHeight 12 = .ok (.arraylength, 1) := by decide +kernel
theorem dX3_greatestHeight_13 : decode cX3_greatestHeight 13 = .ok (.istore_n 3, 1) := by decide +kernel
theorem dX3_greatestHeight_14 : decode cX3_greatestHeight 14 = .ok (.iconst 0, 1) := by decide +kernel
theorem dX3_greatestHeight_15 : decode cX3_greatestHeight 15 = .ok (.istore 4, 2) := by decide +kernel
theorem dX3_greatestHeight_17 : decode cX3_greatestHeight 17 = .ok (.iload 4, 2) := by decide +kernel
theorem dX3_greatestHeight_19 : decode cX3_greatestHeight 19 = .ok (.iload_n 3, 1) := by decide +kernel
theorem dX3_greatestHeight_20 : decode cX3_greatestHeight 20 = .ok (.if_icmp .ge 22, 3) := by decide +kernel
theorem dX3_greatestHeight_23 : decode cX3_greatestHeight 23 = .ok (.aload_n 2, 1) := by decide +kernel
theorem dX3_greatestHeight_24 : decode cX3_greatestHeight 24 = .ok (.iload 4, 2) := by decide +kernel
theorem dX3_greatestHeight_26 : decode cX3_greatestHeight 26 = .ok (.iaload, 1) := by decide +kernel
theorem dX3_greatestHeight_27 : decode cX3_greatestHeight 27 = .ok (.istore 5, 2) := by decide +kernel
theorem dX3_greatestHeight_29 : decode cX3_greatestHeight 29 = .ok (.iload_n 1, 1) := by decide +kernel
theorem dX3_greatestHeight_30 : decode cX3_greatestHeight 30 = .ok (.iload 5, 2) := by decide +kernel
theorem dX3_greatestHeight_32 : decode cX3_greatestHeight 32 = .ok (.invokestatic 64, 3) := by decide +kernel
theorem dX3_greatestHeight_35 : decode cX3_greatestHeight 35 = .ok (.istore_n 1, 1) := by decide +kernel
theorem dX3_greatestHeight_36 : decode cX3_greatestHeight 36 = .ok (.iinc 4 1, 3) := by decide +kernel
theorem dX3_greatestHeight_39 : decode cX3_greatestHeight 39 = .ok (.goto (-22), 3) := by decide +kernel
theorem dX3_greatestHeight_42 : decode cX3_greatestHeight 42 = .ok (.iload_n 1, 1) := by decide +kernel
theorem dX3_greatestHeight_43 : decode cX3_greatestHeight 43 = .ok (.ireturn, 1) := by decide +kernel
theorem dX3_leastHeight_0 : decode cX3_leastHeight 0 = .ok (.aload_n 0, 1) := by decide +kernel
theorem dX3_leastHeight_1 : decode cX3_leastHeight 1 = .ok (.iconst 0, 1) := by decide +kernel
theorem dX3_leastHeight_2 : decode cX3_leastHeight 2 = .ok (.invokevirtual 63, 3) := by decide +kernel
theorem dX3_leastHeight_5 : decode cX3_leastHeight 5 = .ok (.istore_n 1, 1) := by decide +kernel
theorem dX3_leastHeight_6 : decode cX3_leastHeight 6 = .ok (.aload_n 0, 1) := by decide +kernel
theorem dX3_leastHeight_7 : decode cX3_leastHeight 7 = .ok (.getfield 9, 3) := by decide +kernel
theorem dX3_leastHeight_10 : decode cX3_leastHeight 10 = .ok (.astore_n 2, 1) := by decide +kernel
theorem dX3_leastHeight_11 : decode cX3_leastHeight 11 = .ok (.aload_n 2, 1) := by decide +kernel
theorem dX3_leastHeight_12 : decode cX3_leastHeight 12 = .ok (.arraylength, 1) := by decide +kernel
theorem dX3_leastHeight_13 : decode cX3_leastHeight 13 = .ok (.istore_n 3, 1) := by decide +kernel
theorem dX3_leastHeight_14 : decode cX3_leastHeight 14 = .ok (.iconst 0, 1) := by decide +kernel
theorem dX3_leastHeight_15 : decode cX3_leastHeight 15 = .ok (.istore 4, 2) := by decide +kernel
theorem dX3_leastHeight_17 : decode cX3_leastHeight 17 = .ok (.iload 4, 2) := by decide +kernel
theorem dX3_leastHeight_19 : decode cX3_leastHeight 19 = .ok (.iload_n 3, 1) := by decide +kernel
theorem dX3_leastHeight_20 : decode cX3_leastHeight 20 = .ok (.if_icmp .ge 22, 3) := by decide +kernel
theorem dX3_leastHeight_23 : decode cX3_leastHeight 23 = .ok (.aload_n 2, 1) := by decide +kernel
theorem dX3_leastHeight_24 : decode cX3_leastHeight 24 = .ok (.iload 4, 2) := by decide +kernel
theorem dX3_leastHeight_26 : decode cX3_leastHeight 26 = .ok (.iaload, 1) := by decide +kernel
theorem dX3_leastHeight_27 : decode cX3_leastHeight 27 = .ok (.istore 5, 2) := by decide +kernel
theorem dX3_leastHeight_29 : decode cX3_leastHeight 29 = .ok (.iload_n 1, 1) := by decide +kernel
theorem dX3_leastHeight_30 : decode cX3_leastHeight 30 = .ok (.iload 5, 2) := by decide +kernel
theorem dX3_leastHeight_32 : decode cX3_leastHeight 32 = .ok (.invokestatic 70, 3) := by decide +kernel
theorem dX3_leastHeight_35 : decode cX3_leastHeight 35 = .ok (.istore_n 1, 1) := by decide +kernel
theorem dX3_leastHeight_36 : decode cX3_leastHeight 36 = .ok (.iinc 4 1, 3) := by decide +kernel
theorem dX3_leastHeight_39 : decode cX3_leastHeight 39 = .ok (.goto (-22), 3) := by decide +kernel
theorem dX3_leastHeight_42 : decode cX3_leastHeight 42 = .ok (.iload_n 1, 1) := by decide +kernel
theorem dX3_leastHeight_43 : decode cX3_leastHeight 43 = .ok (.ireturn, 1) := by decide +kernel
theorem dX3_meanOfWaters_0 : decode cX3_meanOfWaters 0 = .ok (.lconst 0, 1) := by decide +kernel
theorem dX3_meanOfWaters_1 : decode cX3_meanOfWaters 1 = .ok (.lstore_n 2, 1) := by decide +kernel
theorem dX3_meanOfWaters_2 : decode cX3_meanOfWaters 2 = .ok (.iconst 0, 1) := by decide +kernel
theorem dX3_meanOfWaters_3 : decode cX3_meanOfWaters 3 = .ok (.istore 4, 2) := by decide +kernel
theorem dX3_meanOfWaters_5 : decode cX3_meanOfWaters 5 = .ok (.iconst 0, 1) := by decide +kernel
theorem dX3_meanOfWaters_6 : decode cX3_meanOfWaters 6 = .ok (.istore 5, 2) := by decide +kernel
theorem dX3_meanOfWaters_8 : decode cX3_meanOfWaters 8 = .ok (.iload 5, 2) := by decide +kernel
theorem dX3_meanOfWaters_10 : decode cX3_meanOfWaters 10 = .ok (.aload_n 0, 1) := by decide +kernel
theorem dX3_meanOfWaters_11 : decode cX3_meanOfWaters 11 = .ok (.getfield 34, 3) := by decide +kernel
theorem dX3_meanOfWaters_14 : decode cX3_meanOfWaters 14 = .ok (.if_icmp .ge 32, 3) := by decide +kernel
theorem dX3_meanOfWaters_17 : decode cX3_meanOfWaters 17 = .ok (.aload_n 0, 1) := by decide +kernel
theorem dX3_meanOfWaters_18 : decode cX3_meanOfWaters 18 = .ok (.iload 5, 2) := by decide +kernel
theorem dX3_meanOfWaters_20 : decode cX3_meanOfWaters 20 = .ok (.invokevirtual 73, 3) := by decide +kernel
theorem dX3_meanOfWaters_23 : decode cX3_meanOfWaters 23 = .ok (.iload_n 1, 1) := by decide +kernel
theorem dX3_meanOfWaters_24 : decode cX3_meanOfWaters 24 = .ok (.if_icmp .ne 16, 3) := by decide +kernel
theorem dX3_meanOfWaters_27 : decode cX3_meanOfWaters 27 = .ok (.lload_n 2, 1) := by decide +kernel
theorem dX3_meanOfWaters_28 : decode cX3_meanOfWaters 28 = .ok (.aload_n 0, 1) := by decide +kernel
theorem dX3_meanOfWaters_29 : decode cX3_meanOfWaters 29 = .ok (.iload 5, 2) := by decide +kernel
theorem dX3_meanOfWaters_31 : decode cX3_meanOfWaters 31 = .ok (.invokevirtual 76, 3) := by decide +kernel
theorem dX3_meanOfWaters_34 : decode cX3_meanOfWaters 34 = .ok (.i2l, 1) := by decide +kernel
theorem dX3_meanOfWaters_35 : decode cX3_meanOfWaters 35 = .ok (.ladd, 1) := by decide +kernel
theorem dX3_meanOfWaters_36 : decode cX3_meanOfWaters 36 = .ok (.lstore_n 2, 1) := by decide +kernel
theorem dX3_meanOfWaters_37 : decode cX3_meanOfWaters 37 = .ok (.iinc 4 1, 3) := by decide +kernel
theorem dX3_meanOfWaters_40 : decode cX3_meanOfWaters 40 = .ok (.iinc 5 1, 3) := by decide +kernel
theorem dX3_meanOfWaters_43 : decode cX3_meanOfWaters 43 = .ok (.goto (-35), 3) := by decide +kernel
theorem dX3_meanOfWaters_46 : decode cX3_meanOfWaters 46 = .ok (.lload_n 2, 1) := by decide +kernel
theorem dX3_meanOfWaters_47 : decode cX3_meanOfWaters 47 = .ok (.iload 4, 2) := by decide +kernel
theorem dX3_meanOfWaters_49 : decode cX3_meanOfWaters 49 = .ok (.i2l, 1) := by decide +kernel
theorem dX3_meanOfWaters_50 : decode cX3_meanOfWaters 50 = .ok (.invokestatic 79, 3) := by decide +kernel
theorem dX3_meanOfWaters_53 : decode cX3_meanOfWaters 53 = .ok (.l2i, 1) := by decide +kernel
theorem dX3_meanOfWaters_54 : decode cX3_meanOfWaters 54 = .ok (.ireturn, 1) := by decide +kernel
theorem dX3_greatestDifference_0 : decode cX3_greatestDifference 0 = .ok (.iconst 0, 1) := by decide +kernel
theorem dX3_greatestDifference_1 : decode cX3_greatestDifference 1 = .ok (.istore_n 1, 1) := by decide +kernel
theorem dX3_greatestDifference_2 : decode cX3_greatestDifference 2 = .ok (.iconst 1, 1) := by decide +kernel
theorem dX3_greatestDifference_3 : decode cX3_greatestDifference 3 = .ok (.istore_n 2, 1) := by decide +kernel
theorem dX3_greatestDifference_4 : decode cX3_greatestDifference 4 = .ok (.iload_n 2, 1) := by decide +kernel
theorem dX3_greatestDifference_5 : decode cX3_greatestDifference 5 = .ok (.aload_n 0, 1) := by decide +kernel
theorem dX3_greatestDifference_6 : decode cX3_greatestDifference 6 = .ok (.getfield 34, 3) := by decide +kernel
theorem dX3_greatestDifference_9 : decode cX3_greatestDifference 9 = .ok (.if_icmp .ge 32, 3) := by decide +kernel
theorem dX3_greatestDifference_12 : decode cX3_greatestDifference 12 = .ok (.aload_n 0, 1) := by decide +kernel
theorem dX3_greatestDifference_13 : decode cX3_greatestDifference 13 = .ok (.iload_n 2, 1) := by decide +kernel
theorem dX3_greatestDifference_14 : decode cX3_greatestDifference 14 = .ok (.invokevirtual 76, 3) := by decide +kernel
theorem dX3_greatestDifference_17 : decode cX3_greatestDifference 17 = .ok (.aload_n 0, 1) := by decide +kernel
theorem dX3_greatestDifference_18 : decode cX3_greatestDifference 18 = .ok (.iload_n 2, 1) := by decide +kernel
theorem dX3_greatestDifference_19 : decode cX3_greatestDifference 19 = .ok (.iconst 1, 1) := by decide +kernel
theorem dX3_greatestDifference_20 : decode cX3_greatestDifference 20 = .ok (.isub, 1) := by decide +kernel
theorem dX3_greatestDifference_21 : decode cX3_greatestDifference 21 = .ok (.invokevirtual 76, 3) := by decide +kernel
theorem dX3_greatestDifference_24 : decode cX3_greatestDifference 24 = .ok (.isub, 1) := by decide +kernel
theorem dX3_greatestDifference_25 : decode cX3_greatestDifference 25 = .ok (.invokestatic 83, 3) := by decide +kernel
theorem dX3_greatestDifference_28 : decode cX3_greatestDifference 28 = .ok (.istore_n 3, 1) := by decide +kernel
theorem dX3_greatestDifference_29 : decode cX3_greatestDifference 29 = .ok (.iload_n 1, 1) := by decide +kernel
theorem dX3_greatestDifference_30 : decode cX3_greatestDifference 30 = .ok (.iload_n 3, 1) := by decide +kernel
theorem dX3_greatestDifference_31 : decode cX3_greatestDifference 31 = .ok (.invokestatic 64, 3) := by decide +kernel
theorem dX3_greatestDifference_34 : decode cX3_greatestDifference 34 = .ok (.istore_n 1, 1) := by decide +kernel
theorem dX3_greatestDifference_35 : decode cX3_greatestDifference 35 = .ok (.iinc 2 1, 3) := by decide +kernel
theorem dX3_greatestDifference_38 : decode cX3_greatestDifference 38 = .ok (.goto (-34), 3) := by decide +kernel
theorem dX3_greatestDifference_41 : decode cX3_greatestDifference 41 = .ok (.iload_n 1, 1) := by decide +kernel
theorem dX3_greatestDifference_42 : decode cX3_greatestDifference 42 = .ok (.ireturn, 1) := by decide +kernel
theorem dX5_init_0 : decode cX5_init 0 = .ok (.aload_n 0, 1) := by decide +kernel
theorem dX5_init_1 : decode cX5_init 1 = .ok (.invokespecial 1, 3) := by decide +kernel
theorem dX5_init_4 : decode cX5_init 4 = .ok (.aload_n 0, 1) := by decide +kernel
theorem dX5_init_5 : decode cX5_init 5 = .ok (.new 7, 3) := by decide +kernel
theorem dX5_init_8 : decode cX5_init 8 = .ok (.dup, 1) := by decide +kernel
theorem dX5_init_9 : decode cX5_init 9 = .ok (.invokespecial 9, 3) := by decide +kernel
theorem dX5_init_12 : decode cX5_init 12 = .ok (.putfield 10, 3) := by decide +kernel
theorem dX5_init_15 : decode cX5_init 15 = .ok (.return_, 1) := by decide +kernel
theorem dX5_heightAt_0 : decode cX5_heightAt 0 = .ok (.aload_n 0, 1) := by decide +kernel
theorem dX5_heightAt_1 : decode cX5_heightAt 1 = .ok (.getfield 16, 3) := by decide +kernel
theorem dX5_heightAt_4 : decode cX5_heightAt 4 = .ok (.istore_n 2, 1) := by decide +kernel
theorem dX5_heightAt_5 : decode cX5_heightAt 5 = .ok (.iconst 0, 1) := by decide +kernel
theorem dX5_heightAt_6 : decode cX5_heightAt 6 = .ok (.istore_n 3, 1) := by decide +kernel
theorem dX5_heightAt_7 : decode cX5_heightAt 7 = .ok (.iload_n 3, 1) := by decide +kernel
theorem dX5_heightAt_8 : decode cX5_heightAt 8 = .ok (.aload_n 0, 1) := by decide +kernel
theorem dX5_heightAt_9 : decode cX5_heightAt 9 = .ok (.getfield 10, 3) := by decide +kernel
theorem dX5_heightAt_12 : decode cX5_heightAt 12 = .ok (.invokevirtual 20, 3) := by decide +kernel
theorem dX5_heightAt_15 : decode cX5_heightAt 15 = .ok (.if_icmp .ge 27, 3) := by decide +kernel
theorem dX5_heightAt_18 : decode cX5_heightAt 18 = .ok (.iload_n 2, 1) := by decide +kernel
theorem dX5_heightAt_19 : decode cX5_heightAt 19 = .ok (.aload_n 0, 1) := by decide +kernel
theorem dX5_heightAt_20 : decode cX5_heightAt 20 = .ok (.getfield 10, 3) := by decide +kernel
theorem dX5_heightAt_23 : decode cX5_heightAt 23 = .ok (.iload_n 3, 1) := by decide +kernel
theorem dX5_heightAt_24 : decode cX5_heightAt 24 = .ok (.invokevirtual 24, 3) := by decide +kernel
theorem dX5_heightAt_27 : decode cX5_heightAt 27 = .ok (.checkcast 28, 3) := by decide +kernel
theorem dX5_heightAt_30 : decode cX5_heightAt 30 = .ok (.iload_n 1, 1) := by decide +kernel
theorem dX5_heightAt_31 : decode cX5_heightAt 31 = .ok (.invokevirtual 30, 3) := by decide +kernel
theorem dX5_heightAt_34 : decode cX5_heightAt 34 = .ok (.iadd, 1) := by decide +kernel
theorem dX5_heightAt_35 : decode cX5_heightAt 35 = .ok (.istore_n 2, 1) := by decide +kernel
theorem dX5_heightAt_36 : decode cX5_heightAt 36 = .ok (.iinc 3 1, 3) := by decide +kernel
theorem dX5_heightAt_39 : decode cX5_heightAt 39 = .ok (.goto (-32), 3) := by decide +kernel
theorem dX5_heightAt_42 : decode cX5_heightAt 42 = .ok (.iload_n 2, 1) := by decide +kernel
theorem dX5_heightAt_43 : decode cX5_heightAt 43 = .ok (.ireturn, 1) := by decide +kernel
theorem dX6_init_0 : decode cX6_init 0 = .ok (.aload_n 0, 1) := by decide +kernel
theorem dX6_init_1 : decode cX6_init 1 = .ok (.invokespecial 1, 3) := by decide +kernel
theorem dX6_init_4 : decode cX6_init 4 = .ok (.aload_n 0, 1) := by decide +kernel
theorem dX6_init_5 : decode cX6_init 5 = .ok (.iload_n 1, 1) := by decide +kernel
theorem dX6_init_6 : decode cX6_init 6 = .ok (.putfield 7, 3) := by decide +kernel
theorem dX6_init_9 : decode cX6_init 9 = .ok (.aload_n 0, 1) := by decide +kernel
theorem dX6_init_10 : decode cX6_init 10 = .ok (.iload_n 2, 1) := by decide +kernel
theorem dX6_init_11 : decode cX6_init 11 = .ok (.putfield 13, 3) := by decide +kernel
theorem dX6_init_14 : decode cX6_init 14 = .ok (.aload_n 0, 1) := by decide +kernel
theorem dX6_init_15 : decode cX6_init 15 = .ok (.iload_n 3, 1) := by decide +kernel
theorem dX6_init_16 : decode cX6_init 16 = .ok (.putfield 16, 3) := by decide +kernel
theorem dX6_init_19 : decode cX6_init 19 = .ok (.return_, 1) := by decide +kernel
theorem dX6_heightAt_0 : decode cX6_heightAt 0 = .ok (.aload_n 0, 1) := by decide +kernel
theorem dX6_heightAt_1 : decode cX6_heightAt 1 = .ok (.getfield 13, 3) := by decide +kernel
theorem dX6_heightAt_4 : decode cX6_heightAt 4 = .ok (.ifCond .gt 5, 3) := by decide +kernel
theorem dX6_heightAt_7 : decode cX6_heightAt 7 = .ok (.iconst 0, 1) := by decide +kernel
theorem dX6_heightAt_8 : decode cX6_heightAt 8 = .ok (.ireturn, 1) := by decide +kernel
theorem dX6_heightAt_9 : decode cX6_heightAt 9 = .ok (.iconst 2, 1) := by decide +kernel
theorem dX6_heightAt_10 : decode cX6_heightAt 10 = .ok (.iload_n 1, 1) := by decide +kernel
theorem dX6_heightAt_11 : decode cX6_heightAt 11 = .ok (.aload_n 0, 1) := by decide +kernel
theorem dX6_heightAt_12 : decode cX6_heightAt 12 = .ok (.getfield 16, 3) := by decide +kernel
theorem dX6_heightAt_15 : decode cX6_heightAt 15 = .ok (.iadd, 1) := by decide +kernel
theorem dX6_heightAt_16 : decode cX6_heightAt 16 = .ok (.aload_n 0, 1) := by decide +kernel
theorem dX6_heightAt_17 : decode cX6_heightAt 17 = .ok (.getfield 13, 3) := by decide +kernel
theorem dX6_heightAt_20 : decode cX6_heightAt 20 = .ok (.irem, 1) := by decide +kernel
theorem dX6_heightAt_21 : decode cX6_heightAt 21 = .ok (.imul, 1) := by decide +kernel
theorem dX6_heightAt_22 : decode cX6_heightAt 22 = .ok (.istore_n 2, 1) := by decide +kernel
theorem dX6_heightAt_23 : decode cX6_heightAt 23 = .ok (.iload_n 2, 1) := by decide +kernel
theorem dX6_heightAt_24 : decode cX6_heightAt 24 = .ok (.aload_n 0, 1) := by decide +kernel
theorem dX6_heightAt_25 : decode cX6_heightAt 25 = .ok (.getfield 13, 3) := by decide +kernel
theorem dX6_heightAt_28 : decode cX6_heightAt 28 = .ok (.if_icmp .ge 7, 3) := by decide +kernel
theorem dX6_heightAt_31 : decode cX6_heightAt 31 = .ok (.iconst 1, 1) := by decide +kernel
theorem dX6_heightAt_32 : decode cX6_heightAt 32 = .ok (.goto 4, 3) := by decide +kernel
theorem dX6_heightAt_35 : decode cX6_heightAt 35 = .ok (.iconst 0, 1) := by decide +kernel
theorem dX6_heightAt_36 : decode cX6_heightAt 36 = .ok (.istore_n 3, 1) := by decide +kernel
theorem dX6_heightAt_37 : decode cX6_heightAt 37 = .ok (.iload_n 3, 1) := by decide +kernel
theorem dX6_heightAt_38 : decode cX6_heightAt 38 = .ok (.ifCond .eq 8, 3) := by decide +kernel
theorem dX6_heightAt_41 : decode cX6_heightAt 41 = .ok (.iload_n 2, 1) := by decide +kernel
theorem dX6_heightAt_42 : decode cX6_heightAt 42 = .ok (.i2l, 1) := by decide +kernel
theorem dX6_heightAt_43 : decode cX6_heightAt 43 = .ok (.goto 10, 3) := by decide +kernel
theorem dX6_heightAt_46 : decode cX6_heightAt 46 = .ok (.iload_n 2, 1) := by decide +kernel
theorem dX6_heightAt_47 : decode cX6_heightAt 47 = .ok (.aload_n 0, 1) := by decide +kernel
theorem dX6_heightAt_48 : decode cX6_heightAt 48 = .ok (.getfield 13, 3) := by decide +kernel
theorem dX6_heightAt_51 : decode cX6_heightAt 51 = .ok (.isub, 1) := by decide +kernel
theorem dX6_heightAt_52 : decode cX6_heightAt 52 = .ok (.i2l, 1) := by decide +kernel
theorem dX6_heightAt_53 : decode cX6_heightAt 53 = .ok (.lstore 4, 2) := by decide +kernel
theorem dX6_heightAt_55 : decode cX6_heightAt 55 = .ok (.ldc2_w 19, 3) := by decide +kernel
theorem dX6_heightAt_58 : decode cX6_heightAt 58 = .ok (.aload_n 0, 1) := by decide +kernel
theorem dX6_heightAt_59 : decode cX6_heightAt 59 = .ok (.getfield 7, 3) := by decide +kernel
theorem dX6_heightAt_62 : decode cX6_heightAt 62 = .ok (.i2l, 1) := by decide +kernel
theorem dX6_heightAt_63 : decode cX6_heightAt 63 = .ok (.lmul, 1) := by decide +kernel
theorem dX6_heightAt_64 : decode cX6_heightAt 64 = .ok (.lload 4, 2) := by decide +kernel
theorem dX6_heightAt_66 : decode cX6_heightAt 66 = .ok (.lmul, 1) := by decide +kernel
theorem dX6_heightAt_67 : decode cX6_heightAt 67 = .ok (.aload_n 0, 1) := by decide +kernel
theorem dX6_heightAt_68 : decode cX6_heightAt 68 = .ok (.getfield 13, 3) := by decide +kernel
theorem dX6_heightAt_71 : decode cX6_heightAt 71 = .ok (.i2l, 1) := by decide +kernel
theorem dX6_heightAt_72 : decode cX6_heightAt 72 = .ok (.lload 4, 2) := by decide +kernel
theorem dX6_heightAt_74 : decode cX6_heightAt 74 = .ok (.lsub, 1) := by decide +kernel
theorem dX6_heightAt_75 : decode cX6_heightAt 75 = .ok (.lmul, 1) := by decide +kernel
theorem dX6_heightAt_76 : decode cX6_heightAt 76 = .ok (.aload_n 0, 1) := by decide +kernel
theorem dX6_heightAt_77 : decode cX6_heightAt 77 = .ok (.getfield 13, 3) := by decide +kernel
theorem dX6_heightAt_80 : decode cX6_heightAt 80 = .ok (.i2l, 1) := by decide +kernel
theorem dX6_heightAt_81 : decode cX6_heightAt 81 = .ok (.aload_n 0, 1) := by decide +kernel
theorem dX6_heightAt_82 : decode cX6_heightAt 82 = .ok (.getfield 13, 3) := by decide +kernel
theorem dX6_heightAt_85 : decode cX6_heightAt 85 = .ok (.i2l, 1) := by decide +kernel
theorem dX6_heightAt_86 : decode cX6_heightAt 86 = .ok (.lmul, 1) := by decide +kernel
theorem dX6_heightAt_87 : decode cX6_heightAt 87 = .ok (.ldiv, 1) := by decide +kernel
theorem dX6_heightAt_88 : decode cX6_heightAt 88 = .ok (.lstore 6, 2) := by decide +kernel
theorem dX6_heightAt_90 : decode cX6_heightAt 90 = .ok (.iload_n 3, 1) := by decide +kernel
theorem dX6_heightAt_91 : decode cX6_heightAt 91 = .ok (.ifCond .eq 8, 3) := by decide +kernel
theorem dX6_heightAt_94 : decode cX6_heightAt 94 = .ok (.lload 6, 2) := by decide +kernel
theorem dX6_heightAt_96 : decode cX6_heightAt 96 = .ok (.goto 6, 3) := by decide +kernel
theorem dX6_heightAt_99 : decode cX6_heightAt 99 = .ok (.lload 6, 2) := by decide +kernel
theorem dX6_heightAt_101 : decode cX6_heightAt 101 = .ok (.lneg, 1) := by decide +kernel
theorem dX6_heightAt_102 : decode cX6_heightAt 102 = .ok (.l2i, 1) := by decide +kernel
theorem dX6_heightAt_103 : decode cX6_heightAt 103 = .ok (.ireturn, 1) := by decide +kernel
theorem dX7_init_0 : decode cX7_init 0 = .ok (.aload_n 0, 1) := by decide +kernel
theorem dX7_init_1 : decode cX7_init 1 = .ok (.invokespecial 1, 3) := by decide +kernel
theorem dX7_init_4 : decode cX7_init 4 = .ok (.aload_n 0, 1) := by decide +kernel
theorem dX7_init_5 : decode cX7_init 5 = .ok (.new 7, 3) := by decide +kernel
theorem dX7_init_8 : decode cX7_init 8 = .ok (.dup, 1) := by decide +kernel
theorem dX7_init_9 : decode cX7_init 9 = .ok (.invokespecial 9, 3) := by decide +kernel
theorem dX7_init_12 : decode cX7_init 12 = .ok (.putfield 10, 3) := by decide +kernel
theorem dX7_init_15 : decode cX7_init 15 = .ok (.aload_n 0, 1) := by decide +kernel
theorem dX7_init_16 : decode cX7_init 16 = .ok (.new 16, 3) := by decide +kernel
theorem dX7_init_19 : decode cX7_init 19 = .ok (.dup, 1) := by decide +kernel
theorem dX7_init_20 : decode cX7_init 20 = .ok (.invokespecial 18, 3) := by decide +kernel
theorem dX7_init_23 : decode cX7_init 23 = .ok (.putfield 19, 3) := by decide +kernel
theorem dX7_init_26 : decode cX7_init 26 = .ok (.aload_n 0, 1) := by decide +kernel
theorem dX7_init_27 : decode cX7_init 27 = .ok (.new 23, 3) := by decide +kernel
theorem dX7_init_30 : decode cX7_init 30 = .ok (.dup, 1) := by decide +kernel
theorem dX7_init_31 : decode cX7_init 31 = .ok (.invokespecial 25, 3) := by decide +kernel
theorem dX7_init_34 : decode cX7_init 34 = .ok (.putfield 26, 3) := by decide +kernel
theorem dX7_init_37 : decode cX7_init 37 = .ok (.aload_n 0, 1) := by decide +kernel
theorem dX7_init_38 : decode cX7_init 38 = .ok (.new 23, 3) := by decide +kernel
theorem dX7_init_41 : decode cX7_init 41 = .ok (.dup, 1) := by decide +kernel
theorem dX7_init_42 : decode cX7_init 42 = .ok (.invokespecial 25, 3) := by decide +kernel
theorem dX7_init_45 : decode cX7_init 45 = .ok (.putfield 30, 3) := by decide +kernel
theorem dX7_init_48 : decode cX7_init 48 = .ok (.aload_n 0, 1) := by decide +kernel
theorem dX7_init_49 : decode cX7_init 49 = .ok (.iconst 1, 1) := by decide +kernel
theorem dX7_init_50 : decode cX7_init 50 = .ok (.putfield 33, 3) := by decide +kernel
theorem dX7_init_53 : decode cX7_init 53 = .ok (.return_, 1) := by decide +kernel
theorem dX7_addWave_0 : decode cX7_addWave 0 = .ok (.iload_n 1, 1) := by decide +kernel
theorem dX7_addWave_1 : decode cX7_addWave 1 = .ok (.iconst 0, 1) := by decide +kernel
theorem dX7_addWave_2 : decode cX7_addWave 2 = .ok (.sipush 5000, 3) := by decide +kernel
theorem dX7_addWave_5 : decode cX7_addWave 5 = .ok (.invokestatic 37, 3) := by decide +kernel
theorem dX7_addWave_8 : decode cX7_addWave 8 = .ok (.ifCond .ne 13, 3) := by decide +kernel
theorem dX7_addWave_11 : decode cX7_addWave 11 = .ok (.new 41, 3) := by decide +kernel
theorem dX7_addWave_14 : decode cX7_addWave 14 = .ok (.dup, 1) := by decide +kernel
theorem dX7_addWave_15 : decode cX7_addWave 15 = .ok (.ldc 43, 2) := by decide +kernel
theorem dX7_addWave_17 : decode cX7_addWave 17 = .ok (.invokespecial 45, 3) := by decide +kernel
theorem dX7_addWave_20 : decode cX7_addWave 20 = .ok (.athrow, 1) := by decide +kernel
theorem dX7_addWave_21 : decode cX7_addWave 21 = .ok (.iload_n 2, 1) := by decide +kernel
theorem dX7_addWave_22 : decode cX7_addWave 22 = .ok (.bipush 60, 2) := by decide +kernel
theorem dX7_addWave_24 : decode cX7_addWave 24 = .ok (.sipush 20000, 3) := by decide +kernel
theorem dX7_addWave_27 : decode cX7_addWave 27 = .ok (.invokestatic 37, 3) := by decide +kernel
theorem dX7_addWave_30 : decode cX7_addWave 30 = .ok (.ifCond .ne 13, 3) := by decide +kernel
theorem dX7_addWave_33 : decode cX7_addWave 33 = .ok (.new 41, 3) := by decide +kernel
theorem dX7_addWave_36 : decode cX7_addWave 36 = .ok (.dup, 1) := by decide +kernel
theorem dX7_addWave_37 : decode cX7_addWave 37 = .ok (.ldc 48, 2) := by decide +kernel
theorem dX7_addWave_39 : decode cX7_addWave 39 = .ok (.invokespecial 45, 3) := by decide +kernel
theorem dX7_addWave_42 : decode cX7_addWave 42 = .ok (.athrow, 1) := by decide +kernel
theorem dX7_addWave_43 : decode cX7_addWave 43 = .ok (.iload_n 3, 1) := by decide +kernel
theorem dX7_addWave_44 : decode cX7_addWave 44 = .ok (.iconst 0, 1) := by decide +kernel
theorem dX7_addWave_45 : decode cX7_addWave 45 = .ok (.iload_n 2, 1) := by decide +kernel
theorem dX7_addWave_46 : decode cX7_addWave 46 = .ok (.iconst 1, 1) := by decide +kernel
theorem dX7_addWave_47 : decode cX7_addWave 47 = .ok (.isub, 1) := by decide +kernel
theorem dX7_addWave_48 : decode cX7_addWave 48 = .ok (.invokestatic 37, 3) := by decide +kernel
theorem dX7_addWave_51 : decode cX7_addWave 51 = .ok (.ifCond .ne 13, 3) := by decide +kernel
theorem dX7_addWave_54 : decode cX7_addWave 54 = .ok (.new 41, 3) := by decide +kernel
theorem dX7_addWave_57 : decode cX7_addWave 57 = .ok (.dup, 1) := by decide +kernel
theorem dX7_addWave_58 : decode cX7_addWave 58 = .ok (.ldc 50, 2) := by decide +kernel
theorem dX7_addWave_60 : decode cX7_addWave 60 = .ok (.invokespecial 45, 3) := by decide +kernel
theorem dX7_addWave_63 : decode cX7_addWave 63 = .ok (.athrow, 1) := by decide +kernel
theorem dX7_addWave_64 : decode cX7_addWave 64 = .ok (.aload_n 0, 1) := by decide +kernel
theorem dX7_addWave_65 : decode cX7_addWave 65 = .ok (.getfield 10, 3) := by decide +kernel
theorem dX7_addWave_68 : decode cX7_addWave 68 = .ok (.getfield 52, 3) := by decide +kernel
theorem dX7_addWave_71 : decode cX7_addWave 71 = .ok (.invokevirtual 55, 3) := by decide +kernel
theorem dX7_addWave_74 : decode cX7_addWave 74 = .ok (.bipush 8, 2) := by decide +kernel
theorem dX7_addWave_76 : decode cX7_addWave 76 = .ok (.if_icmp .lt 13, 3) := by decide +kernel
theorem dX7_addWave_79 : decode cX7_addWave 79 = .ok (.new 59, 3) := by decide +kernel
theorem dX7_addWave_82 : decode cX7_addWave 82 = .ok (.dup, 1) := by decide +kernel
theorem dX7_addWave_83 : decode cX7_addWave 83 = .ok (.ldc 61, 2) := by decide +kernel
theorem dX7_addWave_85 : decode cX7_addWave 85 = .ok (.invokespecial 63, 3) := by decide +kernel
theorem dX7_addWave_88 : decode cX7_addWave 88 = .ok (.athrow, 1) := by decide +kernel
theorem dX7_addWave_89 : decode cX7_addWave 89 = .ok (.aload_n 0, 1) := by decide +kernel
theorem dX7_addWave_90 : decode cX7_addWave 90 = .ok (.getfield 10, 3) := by decide +kernel
theorem dX7_addWave_93 : decode cX7_addWave 93 = .ok (.getfield 52, 3) := by decide +kernel
theorem dX7_addWave_96 : decode cX7_addWave 96 = .ok (.new 64, 3) := by decide +kernel
theorem dX7_addWave_99 : decode cX7_addWave 99 = .ok (.dup, 1) := by decide +kernel
theorem dX7_addWave_100 : decode cX7_addWave 100 = .ok (.iload_n 1, 1) := by decide +kernel
theorem dX7_addWave_101 : decode cX7_addWave 101 = .ok (.iload_n 2, 1) := by decide +kernel
theorem dX7_addWave_102 : decode cX7_addWave 102 = .ok (.iload_n 3, 1) := by decide +kernel
theorem dX7_addWave_103 : decode cX7_addWave 103 = .ok (.invokespecial 66, 3) := by decide +kernel
theorem dX7_addWave_106 : decode cX7_addWave 106 = .ok (.invokevirtual 69, 3) := by decide +kernel
theorem dX7_addWave_109 : decode cX7_addWave 109 = .ok (.pop, 1) := by decide +kernel
theorem dX7_addWave_110 : decode cX7_addWave 110 = .ok (.aload_n 0, 1) := by decide +kernel
theorem dX7_addWave_111 : decode cX7_addWave 111 = .ok (.iconst 1, 1) := by decide +kernel
theorem dX7_addWave_112 : decode cX7_addWave 112 = .ok (.putfield 33, 3) := by decide +kernel
theorem dX7_addWave_115 : decode cX7_addWave 115 = .ok (.aload_n 0, 1) := by decide +kernel
theorem dX7_addWave_116 : decode cX7_addWave 116 = .ok (.getfield 10, 3) := by decide +kernel
theorem dX7_addWave_119 : decode cX7_addWave 119 = .ok (.getfield 52, 3) := by decide +kernel
theorem dX7_addWave_122 : decode cX7_addWave 122 = .ok (.invokevirtual 55, 3) := by decide +kernel
theorem dX7_addWave_125 : decode cX7_addWave 125 = .ok (.iconst 1, 1) := by decide +kernel
theorem dX7_addWave_126 : decode cX7_addWave 126 = .ok (.isub, 1) := by decide +kernel
theorem dX7_addWave_127 : decode cX7_addWave 127 = .ok (.ireturn, 1) := by decide +kernel
theorem dX7_height_0 : decode cX7_height 0 = .ok (.iload_n 1, 1) := by decide +kernel
theorem dX7_height_1 : decode cX7_height 1 = .ok (.invokestatic 95, 3) := by decide +kernel
theorem dX7_height_4 : decode cX7_height 4 = .ok (.ifCond .ne 13, 3) := by decide +kernel
theorem dX7_height_7 : decode cX7_height 7 = .ok (.new 41, 3) := by decide +kernel
theorem dX7_height_10 : decode cX7_height 10 = .ok (.dup, 1) := by decide +kernel
theorem dX7_height_11 : decode cX7_height 11 = .ok (.ldc 98, 2) := by decide +kernel
theorem dX7_height_13 : decode cX7_height 13 = .ok (.invokespecial 45, 3) := by decide +kernel
theorem dX7_height_16 : decode cX7_height 16 = .ok (.athrow, 1) := by decide +kernel
theorem dX7_height_17 : decode cX7_height 17 = .ok (.aload_n 0, 1) := by decide +kernel
theorem dX7_height_18 : decode cX7_height 18 = .ok (.getfield 10, 3) := by decide +kernel
theorem dX7_height_21 : decode cX7_height 21 = .ok (.iload_n 1, 1) := by decide +kernel
theorem dX7_height_22 : decode cX7_height 22 = .ok (.invokevirtual 100, 3) := by decide +kernel
theorem dX7_height_25 : decode cX7_height 25 = .ok (.ireturn, 1) := by decide +kernel
theorem dX7_count_0 : decode cX7_count 0 = .ok (.iload_n 1, 1) := by decide +kernel
theorem dX7_count_1 : decode cX7_count 1 = .ok (.iconst 0, 1) := by decide +kernel
theorem dX7_count_2 : decode cX7_count 2 = .ok (.iconst 3, 1) := by decide +kernel
theorem dX7_count_3 : decode cX7_count 3 = .ok (.invokestatic 37, 3) := by decide +kernel
theorem dX7_count_6 : decode cX7_count 6 = .ok (.ifCond .ne 13, 3) := by decide +kernel
theorem dX7_count_9 : decode cX7_count 9 = .ok (.new 77, 3) := by decide +kernel
theorem dX7_count_12 : decode cX7_count 12 = .ok (.dup, 1) := by decide +kernel
theorem dX7_count_13 : decode cX7_count 13 = .ok (.ldc 105, 2) := by decide +kernel
theorem dX7_count_15 : decode cX7_count 15 = .ok (.invokespecial 81, 3) := by decide +kernel
theorem dX7_count_18 : decode cX7_count 18 = .ok (.athrow, 1) := by decide +kernel
theorem dX7_count_19 : decode cX7_count 19 = .ok (.aload_n 0, 1) := by decide +kernel
theorem dX7_count_20 : decode cX7_count 20 = .ok (.iload_n 1, 1) := by decide +kernel
theorem dX7_count_21 : decode cX7_count 21 = .ok (.invokevirtual 107, 3) := by decide +kernel
theorem dX7_count_24 : decode cX7_count 24 = .ok (.ireturn, 1) := by decide +kernel
theorem dX7_water_0 : decode cX7_water 0 = .ok (.aload_n 0, 1) := by decide +kernel
theorem dX7_water_1 : decode cX7_water 1 = .ok (.invokevirtual 110, 3) := by decide +kernel
theorem dX7_water_4 : decode cX7_water 4 = .ok (.astore_n 3, 1) := by decide +kernel
theorem dX7_water_5 : decode cX7_water 5 = .ok (.aload_n 3, 1) := by decide +kernel
theorem dX7_water_6 : decode cX7_water 6 = .ok (.iload_n 1, 1) := by decide +kernel
theorem dX7_water_7 : decode cX7_water 7 = .ok (.invokevirtual 114, 3) := by decide +kernel
theorem dX7_water_10 : decode cX7_water 10 = .ok (.ifCond .ne 13, 3) := by decide +kernel
theorem dX7_water_13 : decode cX7_water 13 = .ok (.new 77, 3) := by decide +kernel
theorem dX7_water_16 : decode cX7_water 16 = .ok (.dup, 1) := by decide +kernel
theorem dX7_water_17 : decode cX7_water 17 = .ok (.ldc 117, 2) := by decide +kernel
theorem dX7_water_19 : decode cX7_water 19 = .ok (.invokespecial 81, 3) := by decide +kernel
theorem dX7_water_22 : decode cX7_water 22 = .ok (.athrow, 1) := by decide +kernel
theorem dX7_water_23 : decode cX7_water 23 = .ok (.iload_n 2, 1) := by decide +kernel
theorem dX7_water_24 : decode cX7_water 24 = .ok (.tableswitch 54 0 2 #[28, 34, 40], 28) := by decide +kernel
theorem dX7_water_52 : decode cX7_water 52 = .ok (.aload_n 3, 1) := by decide +kernel
theorem dX7_water_53 : decode cX7_water 53 = .ok (.iload_n 1, 1) := by decide +kernel
theorem dX7_water_54 : decode cX7_water 54 = .ok (.invokevirtual 119, 3) := by decide +kernel
theorem dX7_water_57 : decode cX7_water 57 = .ok (.ireturn, 1) := by decide +kernel
theorem dX7_water_58 : decode cX7_water 58 = .ok (.aload_n 3, 1) := by decide +kernel
theorem dX7_water_59 : decode cX7_water 59 = .ok (.iload_n 1, 1) := by decide +kernel
theorem dX7_water_60 : decode cX7_water 60 = .ok (.invokevirtual 122, 3) := by decide +kernel
theorem dX7_water_63 : decode cX7_water 63 = .ok (.ireturn, 1) := by decide +kernel
theorem dX7_water_64 : decode cX7_water 64 = .ok (.aload_n 3, 1) := by decide +kernel
theorem dX7_water_65 : decode cX7_water 65 = .ok (.iload_n 1, 1) := by decide +kernel
theorem dX7_water_66 : decode cX7_water 66 = .ok (.invokevirtual 125, 3) := by decide +kernel
theorem dX7_water_69 : decode cX7_water 69 = .ok (.ifCond .eq 7, 3) := by decide +kernel
theorem dX7_water_72 : decode cX7_water 72 = .ok (.iconst 1, 1) := by decide +kernel
theorem dX7_water_73 : decode cX7_water 73 = .ok (.goto 4, 3) := by decide +kernel
theorem dX7_water_76 : decode cX7_water 76 = .ok (.iconst 0, 1) := by decide +kernel
theorem dX7_water_77 : decode cX7_water 77 = .ok (.ireturn, 1) := by decide +kernel
theorem dX7_water_78 : decode cX7_water 78 = .ok (.new 77, 3) := by decide +kernel
theorem dX7_water_81 : decode cX7_water 81 = .ok (.dup, 1) := by decide +kernel
theorem dX7_water_82 : decode cX7_water 82 = .ok (.ldc 128, 2) := by decide +kernel
theorem dX7_water_84 : decode cX7_water 84 = .ok (.invokespecial 81, 3) := by decide +kernel
theorem dX7_water_87 : decode cX7_water 87 = .ok (.athrow, 1) := by decide +kernel
theorem dX7_next_0 : decode cX7_next 0 = .ok (.iload_n 1, 1) := by decide +kernel
theorem dX7_next_1 : decode cX7_next 1 = .ok (.invokestatic 95, 3) := by decide +kernel
theorem dX7_next_4 : decode cX7_next 4 = .ok (.ifCond .ne 13, 3) := by decide +kernel
theorem dX7_next_7 : decode cX7_next 7 = .ok (.new 41, 3) := by decide +kernel
theorem dX7_next_10 : decode cX7_next 10 = .ok (.dup, 1) := by decide +kernel
theorem dX7_next_11 : decode cX7_next 11 = .ok (.ldc 98, 2) := by decide +kernel
theorem dX7_next_13 : decode cX7_next 13 = .ok (.invokespecial 45, 3) := by decide +kernel
theorem dX7_next_16 : decode cX7_next 16 = .ok (.athrow, 1) := by decide +kernel
theorem dX7_next_17 : decode cX7_next 17 = .ok (.aload_n 0, 1) := by decide +kernel
theorem dX7_next_18 : decode cX7_next 18 = .ok (.invokevirtual 110, 3) := by decide +kernel
theorem dX7_next_21 : decode cX7_next 21 = .ok (.astore_n 3, 1) := by decide +kernel
theorem dX7_next_22 : decode cX7_next 22 = .ok (.iconst 0, 1) := by decide +kernel
theorem dX7_next_23 : decode cX7_next 23 = .ok (.istore 4, 2) := by decide +kernel
theorem dX7_next_25 : decode cX7_next 25 = .ok (.iload 4, 2) := by decide +kernel
theorem dX7_next_27 : decode cX7_next 27 = .ok (.aload_n 3, 1) := by decide +kernel
theorem dX7_next_28 : decode cX7_next 28 = .ok (.getfield 130, 3) := by decide +kernel
theorem dX7_next_31 : decode cX7_next 31 = .ok (.if_icmp .ge 32, 3) := by decide +kernel
theorem dX7_next_34 : decode cX7_next 34 = .ok (.aload_n 3, 1) := by decide +kernel
theorem dX7_next_35 : decode cX7_next 35 = .ok (.iload 4, 2) := by decide +kernel
theorem dX7_next_37 : decode cX7_next 37 = .ok (.invokevirtual 119, 3) := by decide +kernel
theorem dX7_next_40 : decode cX7_next 40 = .ok (.iload_n 1, 1) := by decide +kernel
theorem dX7_next_41 : decode cX7_next 41 = .ok (.if_icmp .lt 16, 3) := by decide +kernel
theorem dX7_next_44 : decode cX7_next 44 = .ok (.aload_n 3, 1) := by decide +kernel
theorem dX7_next_45 : decode cX7_next 45 = .ok (.iload 4, 2) := by decide +kernel
theorem dX7_next_47 : decode cX7_next 47 = .ok (.invokevirtual 125, 3) := by decide +kernel
theorem dX7_next_50 : decode cX7_next 50 = .ok (.iload_n 2, 1) := by decide +kernel
theorem dX7_next_51 : decode cX7_next 51 = .ok (.if_icmp .ne 6, 3) := by decide +kernel
theorem dX7_next_54 : decode cX7_next 54 = .ok (.iload 4, 2) := by decide +kernel
theorem dX7_next_56 : decode cX7_next 56 = .ok (.ireturn, 1) := by decide +kernel
theorem dX7_next_57 : decode cX7_next 57 = .ok (.iinc 4 1, 3) := by decide +kernel
theorem dX7_next_60 : decode cX7_next 60 = .ok (.goto (-35), 3) := by decide +kernel
theorem dX7_next_63 : decode cX7_next 63 = .ok (.iconst (-1), 1) := by decide +kernel
theorem dX7_next_64 : decode cX7_next 64 = .ok (.ireturn, 1) := by decide +kernel
theorem dX7_datum_0 : decode cX7_datum 0 = .ok (.iload_n 1, 1) := by decide +kernel
theorem dX7_datum_1 : decode cX7_datum 1 = .ok (.iconst 0, 1) := by decide +kernel
theorem dX7_datum_2 : decode cX7_datum 2 = .ok (.iconst 4, 1) := by decide +kernel
theorem dX7_datum_3 : decode cX7_datum 3 = .ok (.invokestatic 37, 3) := by decide +kernel
theorem dX7_datum_6 : decode cX7_datum 6 = .ok (.ifCond .ne 13, 3) := by decide +kernel
theorem dX7_datum_9 : decode cX7_datum 9 = .ok (.new 77, 3) := by decide +kernel
theorem dX7_datum_12 : decode cX7_datum 12 = .ok (.dup, 1) := by decide +kernel
theorem dX7_datum_13 : decode cX7_datum 13 = .ok (.ldc 133, 2) := by decide +kernel
theorem dX7_datum_15 : decode cX7_datum 15 = .ok (.invokespecial 81, 3) := by decide +kernel
theorem dX7_datum_18 : decode cX7_datum 18 = .ok (.athrow, 1) := by decide +kernel
theorem dX7_datum_19 : decode cX7_datum 19 = .ok (.aload_n 0, 1) := by decide +kernel
theorem dX7_datum_20 : decode cX7_datum 20 = .ok (.invokevirtual 110, 3) := by decide +kernel
theorem dX7_datum_23 : decode cX7_datum 23 = .ok (.iload_n 1, 1) := by decide +kernel
theorem dX7_datum_24 : decode cX7_datum 24 = .ok (.invokevirtual 135, 3) := by decide +kernel
theorem dX7_datum_27 : decode cX7_datum 27 = .ok (.ireturn, 1) := by decide +kernel
theorem dX7_addPort_0 : decode cX7_addPort 0 = .ok (.aload_n 0, 1) := by decide +kernel
theorem dX7_addPort_1 : decode cX7_addPort 1 = .ok (.getfield 26, 3) := by decide +kernel
theorem dX7_addPort_4 : decode cX7_addPort 4 = .ok (.invokevirtual 55, 3) := by decide +kernel
theorem dX7_addPort_7 : decode cX7_addPort 7 = .ok (.bipush 6, 2) := by decide +kernel
theorem dX7_addPort_9 : decode cX7_addPort 9 = .ok (.if_icmp .lt 13, 3) := by decide +kernel
theorem dX7_addPort_12 : decode cX7_addPort 12 = .ok (.new 59, 3) := by decide +kernel
theorem dX7_addPort_15 : decode cX7_addPort 15 = .ok (.dup, 1) := by decide +kernel
theorem dX7_addPort_16 : decode cX7_addPort 16 = .ok (.ldc 138, 2) := by decide +kernel
theorem dX7_addPort_18 : decode cX7_addPort 18 = .ok (.invokespecial 63, 3) := by decide +kernel
theorem dX7_addPort_21 : decode cX7_addPort 21 = .ok (.athrow, 1) := by decide +kernel
theorem dX7_addPort_22 : decode cX7_addPort 22 = .ok (.aload_n 0, 1) := by decide +kernel
theorem dX7_addPort_23 : decode cX7_addPort 23 = .ok (.getfield 26, 3) := by decide +kernel
theorem dX7_addPort_26 : decode cX7_addPort 26 = .ok (.new 140, 3) := by decide +kernel
theorem dX7_addPort_29 : decode cX7_addPort 29 = .ok (.dup, 1) := by decide +kernel
theorem dX7_addPort_30 : decode cX7_addPort 30 = .ok (.invokespecial 142, 3) := by decide +kernel
theorem dX7_addPort_33 : decode cX7_addPort 33 = .ok (.invokevirtual 69, 3) := by decide +kernel
theorem dX7_addPort_36 : decode cX7_addPort 36 = .ok (.pop, 1) := by decide +kernel
theorem dX7_addPort_37 : decode cX7_addPort 37 = .ok (.aload_n 0, 1) := by decide +kernel
theorem dX7_addPort_38 : decode cX7_addPort 38 = .ok (.getfield 26, 3) := by decide +kernel
theorem dX7_addPort_41 : decode cX7_addPort 41 = .ok (.invokevirtual 55, 3) := by decide +kernel
theorem dX7_addPort_44 : decode cX7_addPort 44 = .ok (.iconst 1, 1) := by decide +kernel
theorem dX7_addPort_45 : decode cX7_addPort 45 = .ok (.isub, 1) := by decide +kernel
theorem dX7_addPort_46 : decode cX7_addPort 46 = .ok (.ireturn, 1) := by decide +kernel
theorem dX7_setPort_0 : decode cX7_setPort 0 = .ok (.aload_n 0, 1) := by decide +kernel
theorem dX7_setPort_1 : decode cX7_setPort 1 = .ok (.iload_n 1, 1) := by decide +kernel
theorem dX7_setPort_2 : decode cX7_setPort 2 = .ok (.invokevirtual 143, 3) := by decide +kernel
theorem dX7_setPort_5 : decode cX7_setPort 5 = .ok (.ifCond .ne 13, 3) := by decide +kernel
theorem dX7_setPort_8 : decode cX7_setPort 8 = .ok (.new 77, 3) := by decide +kernel
theorem dX7_setPort_11 : decode cX7_setPort 11 = .ok (.dup, 1) := by decide +kernel
theorem dX7_setPort_12 : decode cX7_setPort 12 = .ok (.ldc 146, 2) := by decide +kernel
theorem dX7_setPort_14 : decode cX7_setPort 14 = .ok (.invokespecial 81, 3) := by decide +kernel
theorem dX7_setPort_17 : decode cX7_setPort 17 = .ok (.athrow, 1) := by decide +kernel
theorem dX7_setPort_18 : decode cX7_setPort 18 = .ok (.iload_n 3, 1) := by decide +kernel
theorem dX7_setPort_19 : decode cX7_setPort 19 = .ok (.sipush (-300), 3) := by decide +kernel
theorem dX7_setPort_22 : decode cX7_setPort 22 = .ok (.sipush 300, 3) := by decide +kernel
theorem dX7_setPort_25 : decode cX7_setPort 25 = .ok (.invokestatic 37, 3) := by decide +kernel
theorem dX7_setPort_28 : decode cX7_setPort 28 = .ok (.ifCond .ne 13, 3) := by decide +kernel
theorem dX7_setPort_31 : decode cX7_setPort 31 = .ok (.new 41, 3) := by decide +kernel
end
section
theorem dX7_setPort_34 : decode cX7_setPort 34 = .ok (.dup, 1) := by decide +kernel
theorem dX7_setPort_35 : decode cX7_setPort 35 = .ok (.ldc 148, 2) := by decide +kernel
theorem dX7_setPort_37 : decode cX7_setPort 37 = .ok (.invokespecial 45, 3) := by decide +kernel
theorem dX7_setPort_40 : decode cX7_setPort 40 = .ok (.athrow, 1) := by decide +kernel
theorem dX7_setPort_41 : decode cX7_setPort 41 = .ok (.iload 4, 2) := by decide +kernel
theorem dX7_setPort_43 : decode cX7_setPort 43 = .ok (.iconst 0, 1) := by decide +kernel
theorem dX7_setPort_44 : decode cX7_setPort 44 = .ok (.sipush 300, 3) := by decide +kernel
theorem dX7_setPort_47 : decode cX7_setPort 47 = .ok (.invokestatic 37, 3) := by decide +kernel
theorem dX7_setPort_50 : decode cX7_setPort 50 = .ok (.ifCond .ne 13, 3) := by decide +kernel
theorem dX7_setPort_53 : decode cX7_setPort 53 = .ok (.new 41, 3) := by decide +kernel
theorem dX7_setPort_56 : decode cX7_setPort 56 = .ok (.dup, 1) := by decide +kernel
theorem dX7_setPort_57 : decode cX7_setPort 57 = .ok (.ldc 150, 2) := by decide +kernel
theorem dX7_setPort_59 : decode cX7_setPort 59 = .ok (.invokespecial 45, 3) := by decide +kernel
theorem dX7_setPort_62 : decode cX7_setPort 62 = .ok (.athrow, 1) := by decide +kernel
theorem dX7_setPort_63 : decode cX7_setPort 63 = .ok (.aload_n 0, 1) := by decide +kernel
theorem dX7_setPort_64 : decode cX7_setPort 64 = .ok (.getfield 26, 3) := by decide +kernel
theorem dX7_setPort_67 : decode cX7_setPort 67 = .ok (.iload_n 1, 1) := by decide +kernel
theorem dX7_setPort_68 : decode cX7_setPort 68 = .ok (.invokevirtual 82, 3) := by decide +kernel
theorem dX7_setPort_71 : decode cX7_setPort 71 = .ok (.checkcast 140, 3) := by decide +kernel
theorem dX7_setPort_74 : decode cX7_setPort 74 = .ok (.iload_n 2, 1) := by decide +kernel
theorem dX7_setPort_75 : decode cX7_setPort 75 = .ok (.invokevirtual 152, 3) := by decide +kernel
theorem dX7_setPort_78 : decode cX7_setPort 78 = .ok (.astore 5, 2) := by decide +kernel
theorem dX7_setPort_80 : decode cX7_setPort 80 = .ok (.aload 5, 2) := by decide +kernel
theorem dX7_setPort_82 : decode cX7_setPort 82 = .ok (.getfield 156, 3) := by decide +kernel
theorem dX7_setPort_85 : decode cX7_setPort 85 = .ok (.istore 6, 2) := by decide +kernel
theorem dX7_setPort_87 : decode cX7_setPort 87 = .ok (.aload 5, 2) := by decide +kernel
theorem dX7_setPort_89 : decode cX7_setPort 89 = .ok (.iload_n 3, 1) := by decide +kernel
theorem dX7_setPort_90 : decode cX7_setPort 90 = .ok (.putfield 161, 3) := by decide +kernel
theorem dX7_setPort_93 : decode cX7_setPort 93 = .ok (.aload 5, 2) := by decide +kernel
theorem dX7_setPort_95 : decode cX7_setPort 95 = .ok (.iload 4, 2) := by decide +kernel
theorem dX7_setPort_97 : decode cX7_setPort 97 = .ok (.putfield 156, 3) := by decide +kernel
theorem dX7_setPort_100 : decode cX7_setPort 100 = .ok (.iload 6, 2) := by decide +kernel
theorem dX7_setPort_102 : decode cX7_setPort 102 = .ok (.ireturn, 1) := by decide +kernel
theorem dX7_setAddition_0 : decode cX7_setAddition 0 = .ok (.aload_n 0, 1) := by decide +kernel
theorem dX7_setAddition_1 : decode cX7_setAddition 1 = .ok (.iload_n 1, 1) := by decide +kernel
theorem dX7_setAddition_2 : decode cX7_setAddition 2 = .ok (.invokevirtual 143, 3) := by decide +kernel
theorem dX7_setAddition_5 : decode cX7_setAddition 5 = .ok (.ifCond .ne 13, 3) := by decide +kernel
theorem dX7_setAddition_8 : decode cX7_setAddition 8 = .ok (.new 77, 3) := by decide +kernel
theorem dX7_setAddition_11 : decode cX7_setAddition 11 = .ok (.dup, 1) := by decide +kernel
theorem dX7_setAddition_12 : decode cX7_setAddition 12 = .ok (.ldc 146, 2) := by decide +kernel
theorem dX7_setAddition_14 : decode cX7_setAddition 14 = .ok (.invokespecial 81, 3) := by decide +kernel
theorem dX7_setAddition_17 : decode cX7_setAddition 17 = .ok (.athrow, 1) := by decide +kernel
theorem dX7_setAddition_18 : decode cX7_setAddition 18 = .ok (.iload_n 2, 1) := by decide +kernel
theorem dX7_setAddition_19 : decode cX7_setAddition 19 = .ok (.sipush (-3000), 3) := by decide +kernel
theorem dX7_setAddition_22 : decode cX7_setAddition 22 = .ok (.sipush 3000, 3) := by decide +kernel
theorem dX7_setAddition_25 : decode cX7_setAddition 25 = .ok (.invokestatic 37, 3) := by decide +kernel
theorem dX7_setAddition_28 : decode cX7_setAddition 28 = .ok (.ifCond .ne 13, 3) := by decide +kernel
theorem dX7_setAddition_31 : decode cX7_setAddition 31 = .ok (.new 41, 3) := by decide +kernel
theorem dX7_setAddition_34 : decode cX7_setAddition 34 = .ok (.dup, 1) := by decide +kernel
theorem dX7_setAddition_35 : decode cX7_setAddition 35 = .ok (.ldc 164, 2) := by decide +kernel
theorem dX7_setAddition_37 : decode cX7_setAddition 37 = .ok (.invokespecial 45, 3) := by decide +kernel
theorem dX7_setAddition_40 : decode cX7_setAddition 40 = .ok (.athrow, 1) := by decide +kernel
theorem dX7_setAddition_41 : decode cX7_setAddition 41 = .ok (.aload_n 0, 1) := by decide +kernel
theorem dX7_setAddition_42 : decode cX7_setAddition 42 = .ok (.getfield 26, 3) := by decide +kernel
theorem dX7_setAddition_45 : decode cX7_setAddition 45 = .ok (.iload_n 1, 1) := by decide +kernel
theorem dX7_setAddition_46 : decode cX7_setAddition 46 = .ok (.invokevirtual 82, 3) := by decide +kernel
theorem dX7_setAddition_49 : decode cX7_setAddition 49 = .ok (.checkcast 140, 3) := by decide +kernel
theorem dX7_setAddition_52 : decode cX7_setAddition 52 = .ok (.astore_n 3, 1) := by decide +kernel
theorem dX7_setAddition_53 : decode cX7_setAddition 53 = .ok (.aload_n 3, 1) := by decide +kernel
theorem dX7_setAddition_54 : decode cX7_setAddition 54 = .ok (.getfield 166, 3) := by decide +kernel
theorem dX7_setAddition_57 : decode cX7_setAddition 57 = .ok (.istore 4, 2) := by decide +kernel
theorem dX7_setAddition_59 : decode cX7_setAddition 59 = .ok (.aload_n 3, 1) := by decide +kernel
theorem dX7_setAddition_60 : decode cX7_setAddition 60 = .ok (.iload_n 2, 1) := by decide +kernel
theorem dX7_setAddition_61 : decode cX7_setAddition 61 = .ok (.putfield 166, 3) := by decide +kernel
theorem dX7_setAddition_64 : decode cX7_setAddition 64 = .ok (.iload 4, 2) := by decide +kernel
theorem dX7_setAddition_66 : decode cX7_setAddition 66 = .ok (.ireturn, 1) := by decide +kernel
theorem dX7_isInOrder_0 : decode cX7_isInOrder 0 = .ok (.aload_n 0, 1) := by decide +kernel
theorem dX7_isInOrder_1 : decode cX7_isInOrder 1 = .ok (.iload_n 1, 1) := by decide +kernel
theorem dX7_isInOrder_2 : decode cX7_isInOrder 2 = .ok (.invokevirtual 143, 3) := by decide +kernel
theorem dX7_isInOrder_5 : decode cX7_isInOrder 5 = .ok (.ifCond .ne 13, 3) := by decide +kernel
theorem dX7_isInOrder_8 : decode cX7_isInOrder 8 = .ok (.new 77, 3) := by decide +kernel
theorem dX7_isInOrder_11 : decode cX7_isInOrder 11 = .ok (.dup, 1) := by decide +kernel
theorem dX7_isInOrder_12 : decode cX7_isInOrder 12 = .ok (.ldc 146, 2) := by decide +kernel
theorem dX7_isInOrder_14 : decode cX7_isInOrder 14 = .ok (.invokespecial 81, 3) := by decide +kernel
theorem dX7_isInOrder_17 : decode cX7_isInOrder 17 = .ok (.athrow, 1) := by decide +kernel
theorem dX7_isInOrder_18 : decode cX7_isInOrder 18 = .ok (.aload_n 0, 1) := by decide +kernel
theorem dX7_isInOrder_19 : decode cX7_isInOrder 19 = .ok (.getfield 26, 3) := by decide +kernel
theorem dX7_isInOrder_22 : decode cX7_isInOrder 22 = .ok (.iload_n 1, 1) := by decide +kernel
theorem dX7_isInOrder_23 : decode cX7_isInOrder 23 = .ok (.invokevirtual 82, 3) := by decide +kernel
theorem dX7_isInOrder_26 : decode cX7_isInOrder 26 = .ok (.checkcast 140, 3) := by decide +kernel
theorem dX7_isInOrder_29 : decode cX7_isInOrder 29 = .ok (.aload_n 0, 1) := by decide +kernel
theorem dX7_isInOrder_30 : decode cX7_isInOrder 30 = .ok (.invokevirtual 110, 3) := by decide +kernel
theorem dX7_isInOrder_33 : decode cX7_isInOrder 33 = .ok (.invokevirtual 169, 3) := by decide +kernel
theorem dX7_isInOrder_36 : decode cX7_isInOrder 36 = .ok (.ireturn, 1) := by decide +kernel
theorem dX7_portWater_0 : decode cX7_portWater 0 = .ok (.aload_n 0, 1) := by decide +kernel
theorem dX7_portWater_1 : decode cX7_portWater 1 = .ok (.iload_n 1, 1) := by decide +kernel
theorem dX7_portWater_2 : decode cX7_portWater 2 = .ok (.invokevirtual 143, 3) := by decide +kernel
theorem dX7_portWater_5 : decode cX7_portWater 5 = .ok (.ifCond .ne 13, 3) := by decide +kernel
theorem dX7_portWater_8 : decode cX7_portWater 8 = .ok (.new 77, 3) := by decide +kernel
theorem dX7_portWater_11 : decode cX7_portWater 11 = .ok (.dup, 1) := by decide +kernel
theorem dX7_portWater_12 : decode cX7_portWater 12 = .ok (.ldc 146, 2) := by decide +kernel
theorem dX7_portWater_14 : decode cX7_portWater 14 = .ok (.invokespecial 81, 3) := by decide +kernel
theorem dX7_portWater_17 : decode cX7_portWater 17 = .ok (.athrow, 1) := by decide +kernel
theorem dX7_portWater_18 : decode cX7_portWater 18 = .ok (.aload_n 0, 1) := by decide +kernel
theorem dX7_portWater_19 : decode cX7_portWater 19 = .ok (.invokevirtual 110, 3) := by decide +kernel
theorem dX7_portWater_22 : decode cX7_portWater 22 = .ok (.astore 4, 2) := by decide +kernel
theorem dX7_portWater_24 : decode cX7_portWater 24 = .ok (.aload 4, 2) := by decide +kernel
theorem dX7_portWater_26 : decode cX7_portWater 26 = .ok (.iload_n 2, 1) := by decide +kernel
theorem dX7_portWater_27 : decode cX7_portWater 27 = .ok (.invokevirtual 114, 3) := by decide +kernel
theorem dX7_portWater_30 : decode cX7_portWater 30 = .ok (.ifCond .ne 13, 3) := by decide +kernel
theorem dX7_portWater_33 : decode cX7_portWater 33 = .ok (.new 77, 3) := by decide +kernel
theorem dX7_portWater_36 : decode cX7_portWater 36 = .ok (.dup, 1) := by decide +kernel
theorem dX7_portWater_37 : decode cX7_portWater 37 = .ok (.ldc 117, 2) := by decide +kernel
theorem dX7_portWater_39 : decode cX7_portWater 39 = .ok (.invokespecial 81, 3) := by decide +kernel
theorem dX7_portWater_42 : decode cX7_portWater 42 = .ok (.athrow, 1) := by decide +kernel
theorem dX7_portWater_43 : decode cX7_portWater 43 = .ok (.aload_n 0, 1) := by decide +kernel
theorem dX7_portWater_44 : decode cX7_portWater 44 = .ok (.getfield 26, 3) := by decide +kernel
theorem dX7_portWater_47 : decode cX7_portWater 47 = .ok (.iload_n 1, 1) := by decide +kernel
theorem dX7_portWater_48 : decode cX7_portWater 48 = .ok (.invokevirtual 82, 3) := by decide +kernel
theorem dX7_portWater_51 : decode cX7_portWater 51 = .ok (.checkcast 140, 3) := by decide +kernel
theorem dX7_portWater_54 : decode cX7_portWater 54 = .ok (.astore 5, 2) := by decide +kernel
theorem dX7_portWater_56 : decode cX7_portWater 56 = .ok (.iload_n 3, 1) := by decide +kernel
theorem dX7_portWater_57 : decode cX7_portWater 57 = .ok (.ifCond .eq 14, 3) := by decide +kernel
theorem dX7_portWater_60 : decode cX7_portWater 60 = .ok (.aload 5, 2) := by decide +kernel
theorem dX7_portWater_62 : decode cX7_portWater 62 = .ok (.aload 4, 2) := by decide +kernel
theorem dX7_portWater_64 : decode cX7_portWater 64 = .ok (.iload_n 2, 1) := by decide +kernel
theorem dX7_portWater_65 : decode cX7_portWater 65 = .ok (.invokevirtual 173, 3) := by decide +kernel
theorem dX7_portWater_68 : decode cX7_portWater 68 = .ok (.goto 11, 3) := by decide +kernel
theorem dX7_portWater_71 : decode cX7_portWater 71 = .ok (.aload 5, 2) := by decide +kernel
theorem dX7_portWater_73 : decode cX7_portWater 73 = .ok (.aload 4, 2) := by decide +kernel
theorem dX7_portWater_75 : decode cX7_portWater 75 = .ok (.iload_n 2, 1) := by decide +kernel
theorem dX7_portWater_76 : decode cX7_portWater 76 = .ok (.invokevirtual 176, 3) := by decide +kernel
theorem dX7_portWater_79 : decode cX7_portWater 79 = .ok (.ireturn, 1) := by decide +kernel
theorem dX7_portHeight_0 : decode cX7_portHeight 0 = .ok (.aload_n 0, 1) := by decide +kernel
theorem dX7_portHeight_1 : decode cX7_portHeight 1 = .ok (.iload_n 1, 1) := by decide +kernel
theorem dX7_portHeight_2 : decode cX7_portHeight 2 = .ok (.invokevirtual 143, 3) := by decide +kernel
theorem dX7_portHeight_5 : decode cX7_portHeight 5 = .ok (.ifCond .ne 13, 3) := by decide +kernel
theorem dX7_portHeight_8 : decode cX7_portHeight 8 = .ok (.new 77, 3) := by decide +kernel
theorem dX7_portHeight_11 : decode cX7_portHeight 11 = .ok (.dup, 1) := by decide +kernel
theorem dX7_portHeight_12 : decode cX7_portHeight 12 = .ok (.ldc 146, 2) := by decide +kernel
theorem dX7_portHeight_14 : decode cX7_portHeight 14 = .ok (.invokespecial 81, 3) := by decide +kernel
theorem dX7_portHeight_17 : decode cX7_portHeight 17 = .ok (.athrow, 1) := by decide +kernel
theorem dX7_portHeight_18 : decode cX7_portHeight 18 = .ok (.iload_n 2, 1) := by decide +kernel
theorem dX7_portHeight_19 : decode cX7_portHeight 19 = .ok (.invokestatic 95, 3) := by decide +kernel
theorem dX7_portHeight_22 : decode cX7_portHeight 22 = .ok (.ifCond .ne 13, 3) := by decide +kernel
theorem dX7_portHeight_25 : decode cX7_portHeight 25 = .ok (.new 41, 3) := by decide +kernel
theorem dX7_portHeight_28 : decode cX7_portHeight 28 = .ok (.dup, 1) := by decide +kernel
theorem dX7_portHeight_29 : decode cX7_portHeight 29 = .ok (.ldc 98, 2) := by decide +kernel
theorem dX7_portHeight_31 : decode cX7_portHeight 31 = .ok (.invokespecial 45, 3) := by decide +kernel
theorem dX7_portHeight_34 : decode cX7_portHeight 34 = .ok (.athrow, 1) := by decide +kernel
theorem dX7_portHeight_35 : decode cX7_portHeight 35 = .ok (.aload_n 0, 1) := by decide +kernel
theorem dX7_portHeight_36 : decode cX7_portHeight 36 = .ok (.invokevirtual 110, 3) := by decide +kernel
theorem dX7_portHeight_39 : decode cX7_portHeight 39 = .ok (.astore_n 3, 1) := by decide +kernel
theorem dX7_portHeight_40 : decode cX7_portHeight 40 = .ok (.aload_n 0, 1) := by decide +kernel
theorem dX7_portHeight_41 : decode cX7_portHeight 41 = .ok (.getfield 26, 3) := by decide +kernel
theorem dX7_portHeight_44 : decode cX7_portHeight 44 = .ok (.iload_n 1, 1) := by decide +kernel
theorem dX7_portHeight_45 : decode cX7_portHeight 45 = .ok (.invokevirtual 82, 3) := by decide +kernel
theorem dX7_portHeight_48 : decode cX7_portHeight 48 = .ok (.checkcast 140, 3) := by decide +kernel
theorem dX7_portHeight_51 : decode cX7_portHeight 51 = .ok (.astore 4, 2) := by decide +kernel
theorem dX7_portHeight_53 : decode cX7_portHeight 53 = .ok (.aload 4, 2) := by decide +kernel
theorem dX7_portHeight_55 : decode cX7_portHeight 55 = .ok (.aload_n 3, 1) := by decide +kernel
theorem dX7_portHeight_56 : decode cX7_portHeight 56 = .ok (.invokevirtual 169, 3) := by decide +kernel
theorem dX7_portHeight_59 : decode cX7_portHeight 59 = .ok (.ifCond .ne 13, 3) := by decide +kernel
theorem dX7_portHeight_62 : decode cX7_portHeight 62 = .ok (.new 59, 3) := by decide +kernel
theorem dX7_portHeight_65 : decode cX7_portHeight 65 = .ok (.dup, 1) := by decide +kernel
theorem dX7_portHeight_66 : decode cX7_portHeight 66 = .ok (.ldc 178, 2) := by decide +kernel
theorem dX7_portHeight_68 : decode cX7_portHeight 68 = .ok (.invokespecial 63, 3) := by decide +kernel
theorem dX7_portHeight_71 : decode cX7_portHeight 71 = .ok (.athrow, 1) := by decide +kernel
theorem dX7_portHeight_72 : decode cX7_portHeight 72 = .ok (.aload 4, 2) := by decide +kernel
theorem dX7_portHeight_74 : decode cX7_portHeight 74 = .ok (.aload_n 3, 1) := by decide +kernel
theorem dX7_portHeight_75 : decode cX7_portHeight 75 = .ok (.iconst (-1), 1) := by decide +kernel
theorem dX7_portHeight_76 : decode cX7_portHeight 76 = .ok (.iload_n 2, 1) := by decide +kernel
theorem dX7_portHeight_77 : decode cX7_portHeight 77 = .ok (.invokevirtual 180, 3) := by decide +kernel
theorem dX7_portHeight_80 : decode cX7_portHeight 80 = .ok (.istore 5, 2) := by decide +kernel
theorem dX7_portHeight_82 : decode cX7_portHeight 82 = .ok (.aload_n 3, 1) := by decide +kernel
theorem dX7_portHeight_83 : decode cX7_portHeight 83 = .ok (.iload 5, 2) := by decide +kernel
theorem dX7_portHeight_85 : decode cX7_portHeight 85 = .ok (.invokevirtual 184, 3) := by decide +kernel
theorem dX7_portHeight_88 : decode cX7_portHeight 88 = .ok (.ifCond .ne 13, 3) := by decide +kernel
theorem dX7_portHeight_91 : decode cX7_portHeight 91 = .ok (.new 59, 3) := by decide +kernel
theorem dX7_portHeight_94 : decode cX7_portHeight 94 = .ok (.dup, 1) := by decide +kernel
theorem dX7_portHeight_95 : decode cX7_portHeight 95 = .ok (.ldc 187, 2) := by decide +kernel
theorem dX7_portHeight_97 : decode cX7_portHeight 97 = .ok (.invokespecial 63, 3) := by decide +kernel
theorem dX7_portHeight_100 : decode cX7_portHeight 100 = .ok (.athrow, 1) := by decide +kernel
theorem dX7_portHeight_101 : decode cX7_portHeight 101 = .ok (.aload 4, 2) := by decide +kernel
theorem dX7_portHeight_103 : decode cX7_portHeight 103 = .ok (.aload_n 3, 1) := by decide +kernel
theorem dX7_portHeight_104 : decode cX7_portHeight 104 = .ok (.iload 5, 2) := by decide +kernel
theorem dX7_portHeight_106 : decode cX7_portHeight 106 = .ok (.iload_n 2, 1) := by decide +kernel
theorem dX7_portHeight_107 : decode cX7_portHeight 107 = .ok (.invokevirtual 189, 3) := by decide +kernel
theorem dX7_portHeight_110 : decode cX7_portHeight 110 = .ok (.ireturn, 1) := by decide +kernel
theorem dX7_isWithin_0 : decode cX7_isWithin 0 = .ok (.iload_n 0, 1) := by decide +kernel
theorem dX7_isWithin_1 : decode cX7_isWithin 1 = .ok (.iload_n 1, 1) := by decide +kernel
theorem dX7_isWithin_2 : decode cX7_isWithin 2 = .ok (.if_icmp .lt 12, 3) := by decide +kernel
theorem dX7_isWithin_5 : decode cX7_isWithin 5 = .ok (.iload_n 0, 1) := by decide +kernel
theorem dX7_isWithin_6 : decode cX7_isWithin 6 = .ok (.iload_n 2, 1) := by decide +kernel
theorem dX7_isWithin_7 : decode cX7_isWithin 7 = .ok (.if_icmp .gt 7, 3) := by decide +kernel
theorem dX7_isWithin_10 : decode cX7_isWithin 10 = .ok (.iconst 1, 1) := by decide +kernel
theorem dX7_isWithin_11 : decode cX7_isWithin 11 = .ok (.goto 4, 3) := by decide +kernel
theorem dX7_isWithin_14 : decode cX7_isWithin 14 = .ok (.iconst 0, 1) := by decide +kernel
theorem dX7_isWithin_15 : decode cX7_isWithin 15 = .ok (.ireturn, 1) := by decide +kernel
theorem dX7_isMinute_0 : decode cX7_isMinute 0 = .ok (.iload_n 0, 1) := by decide +kernel
theorem dX7_isMinute_1 : decode cX7_isMinute 1 = .ok (.iconst 0, 1) := by decide +kernel
theorem dX7_isMinute_2 : decode cX7_isMinute 2 = .ok (.sipush 4319, 3) := by decide +kernel
theorem dX7_isMinute_5 : decode cX7_isMinute 5 = .ok (.invokestatic 37, 3) := by decide +kernel
theorem dX7_isMinute_8 : decode cX7_isMinute 8 = .ok (.ireturn, 1) := by decide +kernel
theorem dX7_quotient_0 : decode cX7_quotient 0 = .ok (.lload_n 2, 1) := by decide +kernel
theorem dX7_quotient_1 : decode cX7_quotient 1 = .ok (.lconst 0, 1) := by decide +kernel
theorem dX7_quotient_2 : decode cX7_quotient 2 = .ok (.lcmp, 1) := by decide +kernel
theorem dX7_quotient_3 : decode cX7_quotient 3 = .ok (.ifCond .ne 7, 3) := by decide +kernel
theorem dX7_quotient_6 : decode cX7_quotient 6 = .ok (.lconst 0, 1) := by decide +kernel
theorem dX7_quotient_7 : decode cX7_quotient 7 = .ok (.goto 6, 3) := by decide +kernel
theorem dX7_quotient_10 : decode cX7_quotient 10 = .ok (.lload_n 0, 1) := by decide +kernel
theorem dX7_quotient_11 : decode cX7_quotient 11 = .ok (.lload_n 2, 1) := by decide +kernel
theorem dX7_quotient_12 : decode cX7_quotient 12 = .ok (.ldiv, 1) := by decide +kernel
theorem dX7_quotient_13 : decode cX7_quotient 13 = .ok (.lreturn, 1) := by decide +kernel
theorem dX7_hasPort_0 : decode cX7_hasPort 0 = .ok (.iload_n 1, 1) := by decide +kernel
theorem dX7_hasPort_1 : decode cX7_hasPort 1 = .ok (.ifCond .lt 18, 3) := by decide +kernel
theorem dX7_hasPort_4 : decode cX7_hasPort 4 = .ok (.iload_n 1, 1) := by decide +kernel
theorem dX7_hasPort_5 : decode cX7_hasPort 5 = .ok (.aload_n 0, 1) := by decide +kernel
theorem dX7_hasPort_6 : decode cX7_hasPort 6 = .ok (.getfield 26, 3) := by decide +kernel
theorem dX7_hasPort_9 : decode cX7_hasPort 9 = .ok (.invokevirtual 55, 3) := by decide +kernel
theorem dX7_hasPort_12 : decode cX7_hasPort 12 = .ok (.if_icmp .ge 7, 3) := by decide +kernel
theorem dX7_hasPort_15 : decode cX7_hasPort 15 = .ok (.iconst 1, 1) := by decide +kernel
theorem dX7_hasPort_16 : decode cX7_hasPort 16 = .ok (.goto 4, 3) := by decide +kernel
theorem dX7_hasPort_19 : decode cX7_hasPort 19 = .ok (.iconst 0, 1) := by decide +kernel
theorem dX7_hasPort_20 : decode cX7_hasPort 20 = .ok (.ireturn, 1) := by decide +kernel
theorem dX7_currentTable_0 : decode cX7_currentTable 0 = .ok (.aload_n 0, 1) := by decide +kernel
theorem dX7_currentTable_1 : decode cX7_currentTable 1 = .ok (.getfield 33, 3) := by decide +kernel
theorem dX7_currentTable_4 : decode cX7_currentTable 4 = .ok (.ifCond .eq 19, 3) := by decide +kernel
theorem dX7_currentTable_7 : decode cX7_currentTable 7 = .ok (.aload_n 0, 1) := by decide +kernel
theorem dX7_currentTable_8 : decode cX7_currentTable 8 = .ok (.getfield 19, 3) := by decide +kernel
theorem dX7_currentTable_11 : decode cX7_currentTable 11 = .ok (.aload_n 0, 1) := by decide +kernel
theorem dX7_currentTable_12 : decode cX7_currentTable 12 = .ok (.getfield 10, 3) := by decide +kernel
theorem dX7_currentTable_15 : decode cX7_currentTable 15 = .ok (.invokevirtual 263, 3) := by decide +kernel
theorem dX7_currentTable_18 : decode cX7_currentTable 18 = .ok (.aload_n 0, 1) := by decide +kernel
theorem dX7_currentTable_19 : decode cX7_currentTable 19 = .ok (.iconst 0, 1) := by decide +kernel
theorem dX7_currentTable_20 : decode cX7_currentTable 20 = .ok (.putfield 33, 3) := by decide +kernel
theorem dX7_currentTable_23 : decode cX7_currentTable 23 = .ok (.aload_n 0, 1) := by decide +kernel
theorem dX7_currentTable_24 : decode cX7_currentTable 24 = .ok (.getfield 19, 3) := by decide +kernel
theorem dX7_currentTable_27 : decode cX7_currentTable 27 = .ok (.areturn, 1) := by decide +kernel
theorem dX7_numberOf_0 : decode cX7_numberOf 0 = .ok (.iload_n 1, 1) := by decide +kernel
theorem dX7_numberOf_1 : decode cX7_numberOf 1 = .ok (.tableswitch 54 0 2 #[27, 38, 46], 27) := by decide +kernel
theorem dX7_numberOf_28 : decode cX7_numberOf 28 = .ok (.aload_n 0, 1) := by decide +kernel
theorem dX7_numberOf_29 : decode cX7_numberOf 29 = .ok (.getfield 10, 3) := by decide +kernel
theorem dX7_numberOf_32 : decode cX7_numberOf 32 = .ok (.getfield 52, 3) := by decide +kernel
theorem dX7_numberOf_35 : decode cX7_numberOf 35 = .ok (.invokevirtual 55, 3) := by decide +kernel
theorem dX7_numberOf_38 : decode cX7_numberOf 38 = .ok (.ireturn, 1) := by decide +kernel
theorem dX7_numberOf_39 : decode cX7_numberOf 39 = .ok (.aload_n 0, 1) := by decide +kernel
theorem dX7_numberOf_40 : decode cX7_numberOf 40 = .ok (.invokevirtual 110, 3) := by decide +kernel
theorem dX7_numberOf_43 : decode cX7_numberOf 43 = .ok (.getfield 130, 3) := by decide +kernel
theorem dX7_numberOf_46 : decode cX7_numberOf 46 = .ok (.ireturn, 1) := by decide +kernel
theorem dX7_numberOf_47 : decode cX7_numberOf 47 = .ok (.aload_n 0, 1) := by decide +kernel
theorem dX7_numberOf_48 : decode cX7_numberOf 48 = .ok (.getfield 26, 3) := by decide +kernel
theorem dX7_numberOf_51 : decode cX7_numberOf 51 = .ok (.invokevirtual 55, 3) := by decide +kernel
theorem dX7_numberOf_54 : decode cX7_numberOf 54 = .ok (.ireturn, 1) := by decide +kernel
theorem dX7_numberOf_55 : decode cX7_numberOf 55 = .ok (.aload_n 0, 1) := by decide +kernel
theorem dX7_numberOf_56 : decode cX7_numberOf 56 = .ok (.getfield 30, 3) := by decide +kernel
theorem dX7_numberOf_59 : decode cX7_numberOf 59 = .ok (.invokevirtual 55, 3) := by decide +kernel
theorem dX7_numberOf_62 : decode cX7_numberOf 62 = .ok (.ireturn, 1) := by decide +kernel
theorem dL_below_0 : decode cL_below 0 = .ok (.iload_n 0, 1) := by decide +kernel
theorem dL_below_1 : decode cL_below 1 = .ok (.ldc 7, 2) := by decide +kernel
theorem dL_below_3 : decode cL_below 3 = .ok (.iand, 1) := by decide +kernel
theorem dL_below_4 : decode cL_below 4 = .ok (.iload_n 1, 1) := by decide +kernel
theorem dL_below_5 : decode cL_below 5 = .ok (.irem, 1) := by decide +kernel
theorem dL_below_6 : decode cL_below 6 = .ok (.ireturn, 1) := by decide +kernel
theorem dL_cell_0 : decode cL_cell 0 = .ok (.iload_n 1, 1) := by decide +kernel
theorem dL_cell_1 : decode cL_cell 1 = .ok (.aload_n 0, 1) := by decide +kernel
theorem dL_cell_2 : decode cL_cell 2 = .ok (.arraylength, 1) := by decide +kernel
theorem dL_cell_3 : decode cL_cell 3 = .ok (.if_icmp .ge 9, 3) := by decide +kernel
theorem dL_cell_6 : decode cL_cell 6 = .ok (.aload_n 0, 1) := by decide +kernel
theorem dL_cell_7 : decode cL_cell 7 = .ok (.iload_n 1, 1) := by decide +kernel
theorem dL_cell_8 : decode cL_cell 8 = .ok (.iaload, 1) := by decide +kernel
theorem dL_cell_9 : decode cL_cell 9 = .ok (.goto 9, 3) := by decide +kernel
theorem dL_cell_12 : decode cL_cell 12 = .ok (.ldc 8, 2) := by decide +kernel
theorem dL_cell_14 : decode cL_cell 14 = .ok (.iload_n 1, 1) := by decide +kernel
theorem dL_cell_15 : decode cL_cell 15 = .ok (.iconst 3, 1) := by decide +kernel
theorem dL_cell_16 : decode cL_cell 16 = .ok (.iadd, 1) := by decide +kernel
theorem dL_cell_17 : decode cL_cell 17 = .ok (.imul, 1) := by decide +kernel
theorem dL_cell_18 : decode cL_cell 18 = .ok (.ireturn, 1) := by decide +kernel
theorem dL_waves_0 : decode cL_waves 0 = .ok (.aload_n 1, 1) := by decide +kernel
theorem dL_waves_1 : decode cL_waves 1 = .ok (.iload_n 2, 1) := by decide +kernel
theorem dL_waves_2 : decode cL_waves 2 = .ok (.invokestatic 9, 3) := by decide +kernel
theorem dL_waves_5 : decode cL_waves 5 = .ok (.iconst 4, 1) := by decide +kernel
theorem dL_waves_6 : decode cL_waves 6 = .ok (.invokestatic 15, 3) := by decide +kernel
theorem dL_waves_9 : decode cL_waves 9 = .ok (.istore 4, 2) := by decide +kernel
theorem dL_waves_11 : decode cL_waves 11 = .ok (.iconst 0, 1) := by decide +kernel
theorem dL_waves_12 : decode cL_waves 12 = .ok (.istore 5, 2) := by decide +kernel
theorem dL_waves_14 : decode cL_waves 14 = .ok (.iload 5, 2) := by decide +kernel
theorem dL_waves_16 : decode cL_waves 16 = .ok (.iload 4, 2) := by decide +kernel
theorem dL_waves_18 : decode cL_waves 18 = .ok (.if_icmp .ge 184, 3) := by decide +kernel
theorem dL_waves_21 : decode cL_waves 21 = .ok (.aload_n 1, 1) := by decide +kernel
theorem dL_waves_22 : decode cL_waves 22 = .ok (.iload_n 2, 1) := by decide +kernel
theorem dL_waves_23 : decode cL_waves 23 = .ok (.iconst 1, 1) := by decide +kernel
theorem dL_waves_24 : decode cL_waves 24 = .ok (.iadd, 1) := by decide +kernel
theorem dL_waves_25 : decode cL_waves 25 = .ok (.iload 5, 2) := by decide +kernel
theorem dL_waves_27 : decode cL_waves 27 = .ok (.iadd, 1) := by decide +kernel
theorem dL_waves_28 : decode cL_waves 28 = .ok (.invokestatic 9, 3) := by decide +kernel
theorem dL_waves_31 : decode cL_waves 31 = .ok (.istore 6, 2) := by decide +kernel
theorem dL_waves_33 : decode cL_waves 33 = .ok (.iload 6, 2) := by decide +kernel
theorem dL_waves_35 : decode cL_waves 35 = .ok (.iconst 5, 1) := by decide +kernel
theorem dL_waves_36 : decode cL_waves 36 = .ok (.invokestatic 15, 3) := by decide +kernel
theorem dL_waves_39 : decode cL_waves 39 = .ok (.ifCond .ne 19, 3) := by decide +kernel
theorem dL_waves_42 : decode cL_waves 42 = .ok (.bipush 60, 2) := by decide +kernel
theorem dL_waves_44 : decode cL_waves 44 = .ok (.iload 6, 2) := by decide +kernel
theorem dL_waves_46 : decode cL_waves 46 = .ok (.iconst 3, 1) := by decide +kernel
theorem dL_waves_47 : decode cL_waves 47 = .ok (.ishr, 1) := by decide +kernel
theorem dL_waves_48 : decode cL_waves 48 = .ok (.sipush 300, 3) := by decide +kernel
theorem dL_waves_51 : decode cL_waves 51 = .ok (.invokestatic 15, 3) := by decide +kernel
theorem dL_waves_54 : decode cL_waves 54 = .ok (.iadd, 1) := by decide +kernel
theorem dL_waves_55 : decode cL_waves 55 = .ok (.goto 44, 3) := by decide +kernel
theorem dL_waves_58 : decode cL_waves 58 = .ok (.iload 6, 2) := by decide +kernel
theorem dL_waves_60 : decode cL_waves 60 = .ok (.iconst 5, 1) := by decide +kernel
theorem dL_waves_61 : decode cL_waves 61 = .ok (.invokestatic 15, 3) := by decide +kernel
theorem dL_waves_64 : decode cL_waves 64 = .ok (.iconst 1, 1) := by decide +kernel
theorem dL_waves_65 : decode cL_waves 65 = .ok (.if_icmp .ne 20, 3) := by decide +kernel
theorem dL_waves_68 : decode cL_waves 68 = .ok (.sipush 5000, 3) := by decide +kernel
theorem dL_waves_71 : decode cL_waves 71 = .ok (.iload 6, 2) := by decide +kernel
theorem dL_waves_73 : decode cL_waves 73 = .ok (.iconst 3, 1) := by decide +kernel
theorem dL_waves_74 : decode cL_waves 74 = .ok (.ishr, 1) := by decide +kernel
theorem dL_waves_75 : decode cL_waves 75 = .ok (.sipush 15000, 3) := by decide +kernel
theorem dL_waves_78 : decode cL_waves 78 = .ok (.invokestatic 15, 3) := by decide +kernel
theorem dL_waves_81 : decode cL_waves 81 = .ok (.iadd, 1) := by decide +kernel
theorem dL_waves_82 : decode cL_waves 82 = .ok (.goto 17, 3) := by decide +kernel
theorem dL_waves_85 : decode cL_waves 85 = .ok (.sipush 500, 3) := by decide +kernel
theorem dL_waves_88 : decode cL_waves 88 = .ok (.iload 6, 2) := by decide +kernel
theorem dL_waves_90 : decode cL_waves 90 = .ok (.iconst 3, 1) := by decide +kernel
theorem dL_waves_91 : decode cL_waves 91 = .ok (.ishr, 1) := by decide +kernel
theorem dL_waves_92 : decode cL_waves 92 = .ok (.sipush 1200, 3) := by decide +kernel
theorem dL_waves_95 : decode cL_waves 95 = .ok (.invokestatic 15, 3) := by decide +kernel
theorem dL_waves_98 : decode cL_waves 98 = .ok (.iadd, 1) := by decide +kernel
theorem dL_waves_99 : decode cL_waves 99 = .ok (.istore 7, 2) := by decide +kernel
theorem dL_waves_101 : decode cL_waves 101 = .ok (.aload_n 3, 1) := by decide +kernel
theorem dL_waves_102 : decode cL_waves 102 = .ok (.iconst 3, 1) := by decide +kernel
theorem dL_waves_103 : decode cL_waves 103 = .ok (.iload 5, 2) := by decide +kernel
theorem dL_waves_105 : decode cL_waves 105 = .ok (.imul, 1) := by decide +kernel
theorem dL_waves_106 : decode cL_waves 106 = .ok (.iload 6, 2) := by decide +kernel
theorem dL_waves_108 : decode cL_waves 108 = .ok (.iconst 5, 1) := by decide +kernel
theorem dL_waves_109 : decode cL_waves 109 = .ok (.ishr, 1) := by decide +kernel
theorem dL_waves_110 : decode cL_waves 110 = .ok (.bipush 9, 2) := by decide +kernel
theorem dL_waves_112 : decode cL_waves 112 = .ok (.invokestatic 15, 3) := by decide +kernel
theorem dL_waves_115 : decode cL_waves 115 = .ok (.ifCond .ne 15, 3) := by decide +kernel
theorem dL_waves_118 : decode cL_waves 118 = .ok (.iload 6, 2) := by decide +kernel
theorem dL_waves_120 : decode cL_waves 120 = .ok (.bipush 6, 2) := by decide +kernel
theorem dL_waves_122 : decode cL_waves 122 = .ok (.ishr, 1) := by decide +kernel
theorem dL_waves_123 : decode cL_waves 123 = .ok (.iconst 4, 1) := by decide +kernel
theorem dL_waves_124 : decode cL_waves 124 = .ok (.invokestatic 15, 3) := by decide +kernel
theorem dL_waves_127 : decode cL_waves 127 = .ok (.goto 13, 3) := by decide +kernel
theorem dL_waves_130 : decode cL_waves 130 = .ok (.iload 6, 2) := by decide +kernel
theorem dL_waves_132 : decode cL_waves 132 = .ok (.iconst 5, 1) := by decide +kernel
theorem dL_waves_133 : decode cL_waves 133 = .ok (.ishr, 1) := by decide +kernel
theorem dL_waves_134 : decode cL_waves 134 = .ok (.sipush 5001, 3) := by decide +kernel
theorem dL_waves_137 : decode cL_waves 137 = .ok (.invokestatic 15, 3) := by decide +kernel
theorem dL_waves_140 : decode cL_waves 140 = .ok (.iastore, 1) := by decide +kernel
theorem dL_waves_141 : decode cL_waves 141 = .ok (.aload_n 3, 1) := by decide +kernel
theorem dL_waves_142 : decode cL_waves 142 = .ok (.iconst 3, 1) := by decide +kernel
theorem dL_waves_143 : decode cL_waves 143 = .ok (.iload 5, 2) := by decide +kernel
theorem dL_waves_145 : decode cL_waves 145 = .ok (.imul, 1) := by decide +kernel
theorem dL_waves_146 : decode cL_waves 146 = .ok (.iconst 1, 1) := by decide +kernel
theorem dL_waves_147 : decode cL_waves 147 = .ok (.iadd, 1) := by decide +kernel
theorem dL_waves_148 : decode cL_waves 148 = .ok (.iload 7, 2) := by decide +kernel
theorem dL_waves_150 : decode cL_waves 150 = .ok (.iastore, 1) := by decide +kernel
theorem dL_waves_151 : decode cL_waves 151 = .ok (.aload_n 3, 1) := by decide +kernel
theorem dL_waves_152 : decode cL_waves 152 = .ok (.iconst 3, 1) := by decide +kernel
theorem dL_waves_153 : decode cL_waves 153 = .ok (.iload 5, 2) := by decide +kernel
theorem dL_waves_155 : decode cL_waves 155 = .ok (.imul, 1) := by decide +kernel
theorem dL_waves_156 : decode cL_waves 156 = .ok (.iconst 2, 1) := by decide +kernel
theorem dL_waves_157 : decode cL_waves 157 = .ok (.iadd, 1) := by decide +kernel
theorem dL_waves_158 : decode cL_waves 158 = .ok (.iload 6, 2) := by decide +kernel
theorem dL_waves_160 : decode cL_waves 160 = .ok (.bipush 7, 2) := by decide +kernel
theorem dL_waves_162 : decode cL_waves 162 = .ok (.ishr, 1) := by decide +kernel
theorem dL_waves_163 : decode cL_waves 163 = .ok (.iload 7, 2) := by decide +kernel
theorem dL_waves_165 : decode cL_waves 165 = .ok (.invokestatic 15, 3) := by decide +kernel
theorem dL_waves_168 : decode cL_waves 168 = .ok (.iastore, 1) := by decide +kernel
theorem dL_waves_169 : decode cL_waves 169 = .ok (.aload_n 0, 1) := by decide +kernel
theorem dL_waves_170 : decode cL_waves 170 = .ok (.aload_n 3, 1) := by decide +kernel
theorem dL_waves_171 : decode cL_waves 171 = .ok (.iconst 3, 1) := by decide +kernel
theorem dL_waves_172 : decode cL_waves 172 = .ok (.iload 5, 2) := by decide +kernel
theorem dL_waves_174 : decode cL_waves 174 = .ok (.imul, 1) := by decide +kernel
theorem dL_waves_175 : decode cL_waves 175 = .ok (.iaload, 1) := by decide +kernel
theorem dL_waves_176 : decode cL_waves 176 = .ok (.iload 7, 2) := by decide +kernel
theorem dL_waves_178 : decode cL_waves 178 = .ok (.aload_n 3, 1) := by decide +kernel
theorem dL_waves_179 : decode cL_waves 179 = .ok (.iconst 3, 1) := by decide +kernel
theorem dL_waves_180 : decode cL_waves 180 = .ok (.iload 5, 2) := by decide +kernel
theorem dL_waves_182 : decode cL_waves 182 = .ok (.imul, 1) := by decide +kernel
theorem dL_waves_183 : decode cL_waves 183 = .ok (.iconst 2, 1) := by decide +kernel
theorem dL_waves_184 : decode cL_waves 184 = .ok (.iadd, 1) := by decide +kernel
theorem dL_waves_185 : decode cL_waves 185 = .ok (.iaload, 1) := by decide +kernel
theorem dL_waves_186 : decode cL_waves 186 = .ok (.invokevirtual 19, 3) := by decide +kernel
theorem dL_waves_189 : decode cL_waves 189 = .ok (.iload 5, 2) := by decide +kernel
theorem dL_waves_191 : decode cL_waves 191 = .ok (.if_icmp .eq 5, 3) := by decide +kernel
theorem dL_waves_194 : decode cL_waves 194 = .ok (.iconst (-1), 1) := by decide +kernel
theorem dL_waves_195 : decode cL_waves 195 = .ok (.ireturn, 1) := by decide +kernel
theorem dL_waves_196 : decode cL_waves 196 = .ok (.iinc 5 1, 3) := by decide +kernel
theorem dL_waves_199 : decode cL_waves 199 = .ok (.goto (-185), 3) := by decide +kernel
theorem dL_waves_202 : decode cL_waves 202 = .ok (.iload 4, 2) := by decide +kernel
theorem dL_waves_204 : decode cL_waves 204 = .ok (.ireturn, 1) := by decide +kernel
theorem dL_law_0 : decode cL_law 0 = .ok (.new 20, 3) := by decide +kernel
theorem dL_law_3 : decode cL_law 3 = .ok (.dup, 1) := by decide +kernel
theorem dL_law_4 : decode cL_law 4 = .ok (.invokespecial 41, 3) := by decide +kernel
theorem dL_law_7 : decode cL_law 7 = .ok (.astore_n 1, 1) := by decide +kernel
theorem dL_law_8 : decode cL_law 8 = .ok (.aload_n 1, 1) := by decide +kernel
theorem dL_law_9 : decode cL_law 9 = .ok (.aload_n 0, 1) := by decide +kernel
theorem dL_law_10 : decode cL_law 10 = .ok (.iconst 0, 1) := by decide +kernel
theorem dL_law_11 : decode cL_law 11 = .ok (.bipush 9, 2) := by decide +kernel
theorem dL_law_13 : decode cL_law 13 = .ok (.newarray .int, 2) := by decide +kernel
theorem dL_law_15 : decode cL_law 15 = .ok (.invokestatic 42, 3) := by decide +kernel
theorem dL_law_18 : decode cL_law 18 = .ok (.istore_n 2, 1) := by decide +kernel
theorem dL_law_19 : decode cL_law 19 = .ok (.iload_n 2, 1) := by decide +kernel
theorem dL_law_20 : decode cL_law 20 = .ok (.ifCond .ge 5, 3) := by decide +kernel
theorem dL_law_23 : decode cL_law 23 = .ok (.iconst 0, 1) := by decide +kernel
theorem dL_law_24 : decode cL_law 24 = .ok (.ireturn, 1) := by decide +kernel
theorem dL_law_25 : decode cL_law 25 = .ok (.aload_n 1, 1) := by decide +kernel
theorem dL_law_26 : decode cL_law 26 = .ok (.invokevirtual 46, 3) := by decide +kernel
theorem dL_law_29 : decode cL_law 29 = .ok (.istore_n 3, 1) := by decide +kernel
theorem dL_law_30 : decode cL_law 30 = .ok (.aload_n 0, 1) := by decide +kernel
theorem dL_law_31 : decode cL_law 31 = .ok (.iconst 5, 1) := by decide +kernel
theorem dL_law_32 : decode cL_law 32 = .ok (.invokestatic 9, 3) := by decide +kernel
theorem dL_law_35 : decode cL_law 35 = .ok (.sipush 601, 3) := by decide +kernel
theorem dL_law_38 : decode cL_law 38 = .ok (.invokestatic 15, 3) := by decide +kernel
theorem dL_law_41 : decode cL_law 41 = .ok (.sipush 300, 3) := by decide +kernel
theorem dL_law_44 : decode cL_law 44 = .ok (.isub, 1) := by decide +kernel
theorem dL_law_45 : decode cL_law 45 = .ok (.istore 4, 2) := by decide +kernel
theorem dL_law_47 : decode cL_law 47 = .ok (.aload_n 1, 1) := by decide +kernel
theorem dL_law_48 : decode cL_law 48 = .ok (.iload_n 3, 1) := by decide +kernel
theorem dL_law_49 : decode cL_law 49 = .ok (.iconst 1, 1) := by decide +kernel
theorem dL_law_50 : decode cL_law 50 = .ok (.iload 4, 2) := by decide +kernel
theorem dL_law_52 : decode cL_law 52 = .ok (.iconst 1, 1) := by decide +kernel
theorem dL_law_53 : decode cL_law 53 = .ok (.aload_n 0, 1) := by decide +kernel
theorem dL_law_54 : decode cL_law 54 = .ok (.bipush 6, 2) := by decide +kernel
theorem dL_law_56 : decode cL_law 56 = .ok (.invokestatic 9, 3) := by decide +kernel
theorem dL_law_59 : decode cL_law 59 = .ok (.sipush 300, 3) := by decide +kernel
theorem dL_law_62 : decode cL_law 62 = .ok (.invokestatic 15, 3) := by decide +kernel
theorem dL_law_65 : decode cL_law 65 = .ok (.iadd, 1) := by decide +kernel
theorem dL_law_66 : decode cL_law 66 = .ok (.invokevirtual 50, 3) := by decide +kernel
theorem dL_law_69 : decode cL_law 69 = .ok (.pop, 1) := by decide +kernel
theorem dL_law_70 : decode cL_law 70 = .ok (.aload_n 1, 1) := by decide +kernel
theorem dL_law_71 : decode cL_law 71 = .ok (.iload_n 3, 1) := by decide +kernel
theorem dL_law_72 : decode cL_law 72 = .ok (.iconst 0, 1) := by decide +kernel
theorem dL_law_73 : decode cL_law 73 = .ok (.iload 4, 2) := by decide +kernel
theorem dL_law_75 : decode cL_law 75 = .ok (.iload 4, 2) := by decide +kernel
theorem dL_law_77 : decode cL_law 77 = .ok (.sipush 290, 3) := by decide +kernel
theorem dL_law_80 : decode cL_law 80 = .ok (.if_icmp .ge 17, 3) := by decide +kernel
theorem dL_law_83 : decode cL_law 83 = .ok (.aload_n 0, 1) := by decide +kernel
theorem dL_law_84 : decode cL_law 84 = .ok (.bipush 7, 2) := by decide +kernel
theorem dL_law_86 : decode cL_law 86 = .ok (.invokestatic 9, 3) := by decide +kernel
theorem dL_law_89 : decode cL_law 89 = .ok (.bipush 9, 2) := by decide +kernel
theorem dL_law_91 : decode cL_law 91 = .ok (.invokestatic 15, 3) := by decide +kernel
theorem dL_law_94 : decode cL_law 94 = .ok (.goto 4, 3) := by decide +kernel
theorem dL_law_97 : decode cL_law 97 = .ok (.iconst 0, 1) := by decide +kernel
theorem dL_law_98 : decode cL_law 98 = .ok (.iadd, 1) := by decide +kernel
theorem dL_law_99 : decode cL_law 99 = .ok (.aload_n 0, 1) := by decide +kernel
theorem dL_law_100 : decode cL_law 100 = .ok (.bipush 8, 2) := by decide +kernel
theorem dL_law_102 : decode cL_law 102 = .ok (.invokestatic 9, 3) := by decide +kernel
theorem dL_law_105 : decode cL_law 105 = .ok (.sipush 301, 3) := by decide +kernel
theorem dL_law_108 : decode cL_law 108 = .ok (.invokestatic 15, 3) := by decide +kernel
theorem dL_law_111 : decode cL_law 111 = .ok (.invokevirtual 50, 3) := by decide +kernel
theorem dL_law_114 : decode cL_law 114 = .ok (.pop, 1) := by decide +kernel
theorem dL_law_115 : decode cL_law 115 = .ok (.aload_n 1, 1) := by decide +kernel
theorem dL_law_116 : decode cL_law 116 = .ok (.iload_n 3, 1) := by decide +kernel
theorem dL_law_117 : decode cL_law 117 = .ok (.aload_n 0, 1) := by decide +kernel
theorem dL_law_118 : decode cL_law 118 = .ok (.bipush 9, 2) := by decide +kernel
theorem dL_law_120 : decode cL_law 120 = .ok (.invokestatic 9, 3) := by decide +kernel
theorem dL_law_123 : decode cL_law 123 = .ok (.sipush 6001, 3) := by decide +kernel
theorem dL_law_126 : decode cL_law 126 = .ok (.invokestatic 15, 3) := by decide +kernel
theorem dL_law_129 : decode cL_law 129 = .ok (.sipush 3000, 3) := by decide +kernel
theorem dL_law_132 : decode cL_law 132 = .ok (.isub, 1) := by decide +kernel
theorem dL_law_133 : decode cL_law 133 = .ok (.invokevirtual 54, 3) := by decide +kernel
theorem dL_law_136 : decode cL_law 136 = .ok (.pop, 1) := by decide +kernel
theorem dL_law_137 : decode cL_law 137 = .ok (.aload_n 1, 1) := by decide +kernel
theorem dL_law_138 : decode cL_law 138 = .ok (.iconst 1, 1) := by decide +kernel
theorem dL_law_139 : decode cL_law 139 = .ok (.invokevirtual 57, 3) := by decide +kernel
theorem dL_law_142 : decode cL_law 142 = .ok (.istore 5, 2) := by decide +kernel
theorem dL_law_144 : decode cL_law 144 = .ok (.iconst 0, 1) := by decide +kernel
theorem dL_law_145 : decode cL_law 145 = .ok (.istore 6, 2) := by decide +kernel
theorem dL_law_147 : decode cL_law 147 = .ok (.iload 6, 2) := by decide +kernel
theorem dL_law_149 : decode cL_law 149 = .ok (.iconst 1, 1) := by decide +kernel
theorem dL_law_150 : decode cL_law 150 = .ok (.iadd, 1) := by decide +kernel
theorem dL_law_151 : decode cL_law 151 = .ok (.iload 5, 2) := by decide +kernel
theorem dL_law_153 : decode cL_law 153 = .ok (.if_icmp .ge 380, 3) := by decide +kernel
theorem dL_law_156 : decode cL_law 156 = .ok (.aload_n 1, 1) := by decide +kernel
theorem dL_law_157 : decode cL_law 157 = .ok (.iload 6, 2) := by decide +kernel
theorem dL_law_159 : decode cL_law 159 = .ok (.iconst 2, 1) := by decide +kernel
theorem dL_law_160 : decode cL_law 160 = .ok (.invokevirtual 61, 3) := by decide +kernel
theorem dL_law_163 : decode cL_law 163 = .ok (.iconst 1, 1) := by decide +kernel
theorem dL_law_164 : decode cL_law 164 = .ok (.if_icmp .ne 7, 3) := by decide +kernel
theorem dL_law_167 : decode cL_law 167 = .ok (.iconst 1, 1) := by decide +kernel
theorem dL_law_168 : decode cL_law 168 = .ok (.goto 4, 3) := by decide +kernel
theorem dL_law_171 : decode cL_law 171 = .ok (.iconst 0, 1) := by decide +kernel
theorem dL_law_172 : decode cL_law 172 = .ok (.istore 7, 2) := by decide +kernel
theorem dL_law_174 : decode cL_law 174 = .ok (.aload_n 1, 1) := by decide +kernel
theorem dL_law_175 : decode cL_law 175 = .ok (.iload 6, 2) := by decide +kernel
theorem dL_law_177 : decode cL_law 177 = .ok (.iconst 1, 1) := by decide +kernel
theorem dL_law_178 : decode cL_law 178 = .ok (.iadd, 1) := by decide +kernel
theorem dL_law_179 : decode cL_law 179 = .ok (.iconst 2, 1) := by decide +kernel
theorem dL_law_180 : decode cL_law 180 = .ok (.invokevirtual 61, 3) := by decide +kernel
theorem dL_law_183 : decode cL_law 183 = .ok (.aload_n 1, 1) := by decide +kernel
theorem dL_law_184 : decode cL_law 184 = .ok (.iload 6, 2) := by decide +kernel
theorem dL_law_186 : decode cL_law 186 = .ok (.iconst 2, 1) := by decide +kernel
theorem dL_law_187 : decode cL_law 187 = .ok (.invokevirtual 61, 3) := by decide +kernel
theorem dL_law_190 : decode cL_law 190 = .ok (.if_icmp .eq 22, 3) := by decide +kernel
theorem dL_law_193 : decode cL_law 193 = .ok (.aload_n 1, 1) := by decide +kernel
theorem dL_law_194 : decode cL_law 194 = .ok (.iload 6, 2) := by decide +kernel
theorem dL_law_196 : decode cL_law 196 = .ok (.iconst 1, 1) := by decide +kernel
theorem dL_law_197 : decode cL_law 197 = .ok (.iadd, 1) := by decide +kernel
theorem dL_law_198 : decode cL_law 198 = .ok (.iconst 0, 1) := by decide +kernel
theorem dL_law_199 : decode cL_law 199 = .ok (.invokevirtual 61, 3) := by decide +kernel
theorem dL_law_202 : decode cL_law 202 = .ok (.aload_n 1, 1) := by decide +kernel
theorem dL_law_203 : decode cL_law 203 = .ok (.iload 6, 2) := by decide +kernel
theorem dL_law_205 : decode cL_law 205 = .ok (.iconst 0, 1) := by decide +kernel
theorem dL_law_206 : decode cL_law 206 = .ok (.invokevirtual 61, 3) := by decide +kernel
theorem dL_law_209 : decode cL_law 209 = .ok (.if_icmp .gt 5, 3) := by decide +kernel
theorem dL_law_212 : decode cL_law 212 = .ok (.iconst 0, 1) := by decide +kernel
theorem dL_law_213 : decode cL_law 213 = .ok (.ireturn, 1) := by decide +kernel
theorem dL_law_214 : decode cL_law 214 = .ok (.aload_n 1, 1) := by decide +kernel
theorem dL_law_215 : decode cL_law 215 = .ok (.iload 6, 2) := by decide +kernel
theorem dL_law_217 : decode cL_law 217 = .ok (.iconst 1, 1) := by decide +kernel
theorem dL_law_218 : decode cL_law 218 = .ok (.invokevirtual 61, 3) := by decide +kernel
theorem dL_law_221 : decode cL_law 221 = .ok (.istore 8, 2) := by decide +kernel
theorem dL_law_223 : decode cL_law 223 = .ok (.aload_n 1, 1) := by decide +kernel
theorem dL_law_224 : decode cL_law 224 = .ok (.iload 6, 2) := by decide +kernel
theorem dL_law_226 : decode cL_law 226 = .ok (.iconst 0, 1) := by decide +kernel
theorem dL_law_227 : decode cL_law 227 = .ok (.invokevirtual 61, 3) := by decide +kernel
theorem dL_law_230 : decode cL_law 230 = .ok (.istore 9, 2) := by decide +kernel
theorem dL_law_232 : decode cL_law 232 = .ok (.iload 9, 2) := by decide +kernel
theorem dL_law_234 : decode cL_law 234 = .ok (.aload_n 1, 1) := by decide +kernel
theorem dL_law_235 : decode cL_law 235 = .ok (.iload 6, 2) := by decide +kernel
theorem dL_law_237 : decode cL_law 237 = .ok (.iconst 1, 1) := by decide +kernel
theorem dL_law_238 : decode cL_law 238 = .ok (.iadd, 1) := by decide +kernel
theorem dL_law_239 : decode cL_law 239 = .ok (.iconst 0, 1) := by decide +kernel
theorem dL_law_240 : decode cL_law 240 = .ok (.invokevirtual 61, 3) := by decide +kernel
theorem dL_law_243 : decode cL_law 243 = .ok (.if_icmp .gt 45, 3) := by decide +kernel
theorem dL_law_246 : decode cL_law 246 = .ok (.aload_n 1, 1) := by decide +kernel
theorem dL_law_247 : decode cL_law 247 = .ok (.iload 9, 2) := by decide +kernel
theorem dL_law_249 : decode cL_law 249 = .ok (.invokevirtual 64, 3) := by decide +kernel
theorem dL_law_252 : decode cL_law 252 = .ok (.istore 10, 2) := by decide +kernel
theorem dL_law_254 : decode cL_law 254 = .ok (.iload 7, 2) := by decide +kernel
theorem dL_law_256 : decode cL_law 256 = .ok (.ifCond .eq 13, 3) := by decide +kernel
theorem dL_law_259 : decode cL_law 259 = .ok (.iload 10, 2) := by decide +kernel
theorem dL_law_261 : decode cL_law 261 = .ok (.iload 8, 2) := by decide +kernel
theorem dL_law_263 : decode cL_law 263 = .ok (.if_icmp .le 15, 3) := by decide +kernel
theorem dL_law_266 : decode cL_law 266 = .ok (.goto 10, 3) := by decide +kernel
theorem dL_law_269 : decode cL_law 269 = .ok (.iload 10, 2) := by decide +kernel
theorem dL_law_271 : decode cL_law 271 = .ok (.iload 8, 2) := by decide +kernel
theorem dL_law_273 : decode cL_law 273 = .ok (.if_icmp .ge 5, 3) := by decide +kernel
theorem dL_law_276 : decode cL_law 276 = .ok (.iconst 0, 1) := by decide +kernel
theorem dL_law_277 : decode cL_law 277 = .ok (.ireturn, 1) := by decide +kernel
theorem dL_law_278 : decode cL_law 278 = .ok (.iload 10, 2) := by decide +kernel
theorem dL_law_280 : decode cL_law 280 = .ok (.istore 8, 2) := by decide +kernel
theorem dL_law_282 : decode cL_law 282 = .ok (.iinc 9 1, 3) := by decide +kernel
theorem dL_law_285 : decode cL_law 285 = .ok (.goto (-53), 3) := by decide +kernel
theorem dL_law_288 : decode cL_law 288 = .ok (.iload 8, 2) := by decide +kernel
theorem dL_law_290 : decode cL_law 290 = .ok (.aload_n 1, 1) := by decide +kernel
theorem dL_law_291 : decode cL_law 291 = .ok (.iload 6, 2) := by decide +kernel
theorem dL_law_293 : decode cL_law 293 = .ok (.iconst 1, 1) := by decide +kernel
theorem dL_law_294 : decode cL_law 294 = .ok (.iadd, 1) := by decide +kernel
theorem dL_law_295 : decode cL_law 295 = .ok (.iconst 1, 1) := by decide +kernel
theorem dL_law_296 : decode cL_law 296 = .ok (.invokevirtual 61, 3) := by decide +kernel
theorem dL_law_299 : decode cL_law 299 = .ok (.if_icmp .ne 15, 3) := by decide +kernel
theorem dL_law_302 : decode cL_law 302 = .ok (.aload_n 1, 1) := by decide +kernel
theorem dL_law_303 : decode cL_law 303 = .ok (.iload 6, 2) := by decide +kernel
theorem dL_law_305 : decode cL_law 305 = .ok (.iconst 1, 1) := by decide +kernel
end
section
theorem dL_law_306 : decode cL_law 306 = .ok (.invokevirtual 61, 3) := by decide +kernel
theorem dL_law_309 : decode cL_law 309 = .ok (.iload 8, 2) := by decide +kernel
theorem dL_law_311 : decode cL_law 311 = .ok (.if_icmp .ne 5, 3) := by decide +kernel
theorem dL_law_314 : decode cL_law 314 = .ok (.iconst 0, 1) := by decide +kernel
theorem dL_law_315 : decode cL_law 315 = .ok (.ireturn, 1) := by decide +kernel
theorem dL_law_316 : decode cL_law 316 = .ok (.aload_n 1, 1) := by decide +kernel
theorem dL_law_317 : decode cL_law 317 = .ok (.aload_n 1, 1) := by decide +kernel
theorem dL_law_318 : decode cL_law 318 = .ok (.iload 6, 2) := by decide +kernel
theorem dL_law_320 : decode cL_law 320 = .ok (.iconst 0, 1) := by decide +kernel
theorem dL_law_321 : decode cL_law 321 = .ok (.invokevirtual 61, 3) := by decide +kernel
theorem dL_law_324 : decode cL_law 324 = .ok (.iload 7, 2) := by decide +kernel
theorem dL_law_326 : decode cL_law 326 = .ok (.invokevirtual 67, 3) := by decide +kernel
theorem dL_law_329 : decode cL_law 329 = .ok (.iload 6, 2) := by decide +kernel
theorem dL_law_331 : decode cL_law 331 = .ok (.if_icmp .ne 33, 3) := by decide +kernel
theorem dL_law_334 : decode cL_law 334 = .ok (.aload_n 1, 1) := by decide +kernel
theorem dL_law_335 : decode cL_law 335 = .ok (.aload_n 1, 1) := by decide +kernel
theorem dL_law_336 : decode cL_law 336 = .ok (.iload 6, 2) := by decide +kernel
theorem dL_law_338 : decode cL_law 338 = .ok (.iconst 0, 1) := by decide +kernel
theorem dL_law_339 : decode cL_law 339 = .ok (.invokevirtual 61, 3) := by decide +kernel
theorem dL_law_342 : decode cL_law 342 = .ok (.iconst 1, 1) := by decide +kernel
theorem dL_law_343 : decode cL_law 343 = .ok (.iadd, 1) := by decide +kernel
theorem dL_law_344 : decode cL_law 344 = .ok (.iload 7, 2) := by decide +kernel
theorem dL_law_346 : decode cL_law 346 = .ok (.ifCond .ne 7, 3) := by decide +kernel
theorem dL_law_349 : decode cL_law 349 = .ok (.iconst 1, 1) := by decide +kernel
theorem dL_law_350 : decode cL_law 350 = .ok (.goto 4, 3) := by decide +kernel
theorem dL_law_353 : decode cL_law 353 = .ok (.iconst 0, 1) := by decide +kernel
theorem dL_law_354 : decode cL_law 354 = .ok (.invokevirtual 67, 3) := by decide +kernel
theorem dL_law_357 : decode cL_law 357 = .ok (.iload 6, 2) := by decide +kernel
theorem dL_law_359 : decode cL_law 359 = .ok (.iconst 1, 1) := by decide +kernel
theorem dL_law_360 : decode cL_law 360 = .ok (.iadd, 1) := by decide +kernel
theorem dL_law_361 : decode cL_law 361 = .ok (.if_icmp .eq 5, 3) := by decide +kernel
theorem dL_law_364 : decode cL_law 364 = .ok (.iconst 0, 1) := by decide +kernel
theorem dL_law_365 : decode cL_law 365 = .ok (.ireturn, 1) := by decide +kernel
theorem dL_law_366 : decode cL_law 366 = .ok (.aload_n 1, 1) := by decide +kernel
theorem dL_law_367 : decode cL_law 367 = .ok (.iload_n 3, 1) := by decide +kernel
theorem dL_law_368 : decode cL_law 368 = .ok (.invokevirtual 71, 3) := by decide +kernel
theorem dL_law_371 : decode cL_law 371 = .ok (.ifCond .ne 6, 3) := by decide +kernel
theorem dL_law_374 : decode cL_law 374 = .ok (.goto 153, 3) := by decide +kernel
theorem dL_law_377 : decode cL_law 377 = .ok (.aload_n 1, 1) := by decide +kernel
theorem dL_law_378 : decode cL_law 378 = .ok (.iload_n 3, 1) := by decide +kernel
theorem dL_law_379 : decode cL_law 379 = .ok (.iload 6, 2) := by decide +kernel
theorem dL_law_381 : decode cL_law 381 = .ok (.iconst 1, 1) := by decide +kernel
theorem dL_law_382 : decode cL_law 382 = .ok (.invokevirtual 75, 3) := by decide +kernel
theorem dL_law_385 : decode cL_law 385 = .ok (.istore 9, 2) := by decide +kernel
theorem dL_law_387 : decode cL_law 387 = .ok (.aload_n 1, 1) := by decide +kernel
theorem dL_law_388 : decode cL_law 388 = .ok (.iload_n 3, 1) := by decide +kernel
theorem dL_law_389 : decode cL_law 389 = .ok (.iload 6, 2) := by decide +kernel
theorem dL_law_391 : decode cL_law 391 = .ok (.iconst 1, 1) := by decide +kernel
theorem dL_law_392 : decode cL_law 392 = .ok (.iadd, 1) := by decide +kernel
theorem dL_law_393 : decode cL_law 393 = .ok (.iconst 1, 1) := by decide +kernel
theorem dL_law_394 : decode cL_law 394 = .ok (.invokevirtual 75, 3) := by decide +kernel
theorem dL_law_397 : decode cL_law 397 = .ok (.istore 10, 2) := by decide +kernel
theorem dL_law_399 : decode cL_law 399 = .ok (.aload_n 1, 1) := by decide +kernel
theorem dL_law_400 : decode cL_law 400 = .ok (.iload_n 3, 1) := by decide +kernel
theorem dL_law_401 : decode cL_law 401 = .ok (.iload 6, 2) := by decide +kernel
theorem dL_law_403 : decode cL_law 403 = .ok (.iconst 0, 1) := by decide +kernel
theorem dL_law_404 : decode cL_law 404 = .ok (.invokevirtual 75, 3) := by decide +kernel
theorem dL_law_407 : decode cL_law 407 = .ok (.istore 11, 2) := by decide +kernel
theorem dL_law_409 : decode cL_law 409 = .ok (.aload_n 1, 1) := by decide +kernel
theorem dL_law_410 : decode cL_law 410 = .ok (.iload_n 3, 1) := by decide +kernel
theorem dL_law_411 : decode cL_law 411 = .ok (.iload 6, 2) := by decide +kernel
theorem dL_law_413 : decode cL_law 413 = .ok (.iconst 1, 1) := by decide +kernel
theorem dL_law_414 : decode cL_law 414 = .ok (.iadd, 1) := by decide +kernel
theorem dL_law_415 : decode cL_law 415 = .ok (.iconst 0, 1) := by decide +kernel
theorem dL_law_416 : decode cL_law 416 = .ok (.invokevirtual 75, 3) := by decide +kernel
theorem dL_law_419 : decode cL_law 419 = .ok (.istore 12, 2) := by decide +kernel
theorem dL_law_421 : decode cL_law 421 = .ok (.iload 11, 2) := by decide +kernel
theorem dL_law_423 : decode cL_law 423 = .ok (.istore 13, 2) := by decide +kernel
theorem dL_law_425 : decode cL_law 425 = .ok (.iconst 0, 1) := by decide +kernel
theorem dL_law_426 : decode cL_law 426 = .ok (.iload 9, 2) := by decide +kernel
theorem dL_law_428 : decode cL_law 428 = .ok (.invokestatic 79, 3) := by decide +kernel
theorem dL_law_431 : decode cL_law 431 = .ok (.istore 14, 2) := by decide +kernel
theorem dL_law_433 : decode cL_law 433 = .ok (.iload 14, 2) := by decide +kernel
theorem dL_law_435 : decode cL_law 435 = .ok (.sipush 4320, 3) := by decide +kernel
theorem dL_law_438 : decode cL_law 438 = .ok (.iload 10, 2) := by decide +kernel
theorem dL_law_440 : decode cL_law 440 = .ok (.invokestatic 84, 3) := by decide +kernel
theorem dL_law_443 : decode cL_law 443 = .ok (.if_icmp .ge 84, 3) := by decide +kernel
theorem dL_law_446 : decode cL_law 446 = .ok (.aload_n 1, 1) := by decide +kernel
theorem dL_law_447 : decode cL_law 447 = .ok (.iload_n 3, 1) := by decide +kernel
theorem dL_law_448 : decode cL_law 448 = .ok (.iload 14, 2) := by decide +kernel
theorem dL_law_450 : decode cL_law 450 = .ok (.invokevirtual 87, 3) := by decide +kernel
theorem dL_law_453 : decode cL_law 453 = .ok (.istore 15, 2) := by decide +kernel
theorem dL_law_455 : decode cL_law 455 = .ok (.iload 14, 2) := by decide +kernel
theorem dL_law_457 : decode cL_law 457 = .ok (.iload 9, 2) := by decide +kernel
theorem dL_law_459 : decode cL_law 459 = .ok (.if_icmp .ne 10, 3) := by decide +kernel
theorem dL_law_462 : decode cL_law 462 = .ok (.iload 15, 2) := by decide +kernel
theorem dL_law_464 : decode cL_law 464 = .ok (.iload 11, 2) := by decide +kernel
theorem dL_law_466 : decode cL_law 466 = .ok (.if_icmp .ne 41, 3) := by decide +kernel
theorem dL_law_469 : decode cL_law 469 = .ok (.iload 11, 2) := by decide +kernel
theorem dL_law_471 : decode cL_law 471 = .ok (.iload 12, 2) := by decide +kernel
theorem dL_law_473 : decode cL_law 473 = .ok (.if_icmp .gt 20, 3) := by decide +kernel
theorem dL_law_476 : decode cL_law 476 = .ok (.iload 15, 2) := by decide +kernel
theorem dL_law_478 : decode cL_law 478 = .ok (.iload 13, 2) := by decide +kernel
theorem dL_law_480 : decode cL_law 480 = .ok (.if_icmp .lt 27, 3) := by decide +kernel
theorem dL_law_483 : decode cL_law 483 = .ok (.iload 15, 2) := by decide +kernel
theorem dL_law_485 : decode cL_law 485 = .ok (.iload 12, 2) := by decide +kernel
theorem dL_law_487 : decode cL_law 487 = .ok (.if_icmp .le 22, 3) := by decide +kernel
theorem dL_law_490 : decode cL_law 490 = .ok (.goto 17, 3) := by decide +kernel
theorem dL_law_493 : decode cL_law 493 = .ok (.iload 15, 2) := by decide +kernel
theorem dL_law_495 : decode cL_law 495 = .ok (.iload 13, 2) := by decide +kernel
theorem dL_law_497 : decode cL_law 497 = .ok (.if_icmp .gt 10, 3) := by decide +kernel
theorem dL_law_500 : decode cL_law 500 = .ok (.iload 15, 2) := by decide +kernel
theorem dL_law_502 : decode cL_law 502 = .ok (.iload 12, 2) := by decide +kernel
theorem dL_law_504 : decode cL_law 504 = .ok (.if_icmp .ge 5, 3) := by decide +kernel
theorem dL_law_507 : decode cL_law 507 = .ok (.iconst 0, 1) := by decide +kernel
theorem dL_law_508 : decode cL_law 508 = .ok (.ireturn, 1) := by decide +kernel
theorem dL_law_509 : decode cL_law 509 = .ok (.iload 15, 2) := by decide +kernel
theorem dL_law_511 : decode cL_law 511 = .ok (.istore 13, 2) := by decide +kernel
theorem dL_law_513 : decode cL_law 513 = .ok (.iload 14, 2) := by decide +kernel
theorem dL_law_515 : decode cL_law 515 = .ok (.iconst 1, 1) := by decide +kernel
theorem dL_law_516 : decode cL_law 516 = .ok (.iload 14, 2) := by decide +kernel
theorem dL_law_518 : decode cL_law 518 = .ok (.iconst 5, 1) := by decide +kernel
theorem dL_law_519 : decode cL_law 519 = .ok (.irem, 1) := by decide +kernel
theorem dL_law_520 : decode cL_law 520 = .ok (.iadd, 1) := by decide +kernel
theorem dL_law_521 : decode cL_law 521 = .ok (.iadd, 1) := by decide +kernel
theorem dL_law_522 : decode cL_law 522 = .ok (.istore 14, 2) := by decide +kernel
theorem dL_law_524 : decode cL_law 524 = .ok (.goto (-91), 3) := by decide +kernel
theorem dL_law_527 : decode cL_law 527 = .ok (.iinc 6 1, 3) := by decide +kernel
theorem dL_law_530 : decode cL_law 530 = .ok (.goto (-383), 3) := by decide +kernel
theorem dL_law_533 : decode cL_law 533 = .ok (.iload 5, 2) := by decide +kernel
theorem dL_law_535 : decode cL_law 535 = .ok (.ifCond .ne 9, 3) := by decide +kernel
theorem dL_law_538 : decode cL_law 538 = .ok (.sipush 4319, 3) := by decide +kernel
theorem dL_law_541 : decode cL_law 541 = .ok (.goto 9, 3) := by decide +kernel
theorem dL_law_544 : decode cL_law 544 = .ok (.aload_n 1, 1) := by decide +kernel
theorem dL_law_545 : decode cL_law 545 = .ok (.iconst 0, 1) := by decide +kernel
theorem dL_law_546 : decode cL_law 546 = .ok (.iconst 0, 1) := by decide +kernel
theorem dL_law_547 : decode cL_law 547 = .ok (.invokevirtual 61, 3) := by decide +kernel
theorem dL_law_550 : decode cL_law 550 = .ok (.istore 6, 2) := by decide +kernel
theorem dL_law_552 : decode cL_law 552 = .ok (.aload_n 1, 1) := by decide +kernel
theorem dL_law_553 : decode cL_law 553 = .ok (.iload 6, 2) := by decide +kernel
theorem dL_law_555 : decode cL_law 555 = .ok (.invokevirtual 64, 3) := by decide +kernel
theorem dL_law_558 : decode cL_law 558 = .ok (.aload_n 1, 1) := by decide +kernel
theorem dL_law_559 : decode cL_law 559 = .ok (.iconst 0, 1) := by decide +kernel
theorem dL_law_560 : decode cL_law 560 = .ok (.invokevirtual 64, 3) := by decide +kernel
theorem dL_law_563 : decode cL_law 563 = .ok (.invokestatic 90, 3) := by decide +kernel
theorem dL_law_566 : decode cL_law 566 = .ok (.istore 7, 2) := by decide +kernel
theorem dL_law_568 : decode cL_law 568 = .ok (.iconst 1, 1) := by decide +kernel
theorem dL_law_569 : decode cL_law 569 = .ok (.istore 8, 2) := by decide +kernel
theorem dL_law_571 : decode cL_law 571 = .ok (.iload 8, 2) := by decide +kernel
theorem dL_law_573 : decode cL_law 573 = .ok (.iload 6, 2) := by decide +kernel
theorem dL_law_575 : decode cL_law 575 = .ok (.if_icmp .gt 34, 3) := by decide +kernel
theorem dL_law_578 : decode cL_law 578 = .ok (.aload_n 1, 1) := by decide +kernel
theorem dL_law_579 : decode cL_law 579 = .ok (.iload 8, 2) := by decide +kernel
theorem dL_law_581 : decode cL_law 581 = .ok (.invokevirtual 64, 3) := by decide +kernel
theorem dL_law_584 : decode cL_law 584 = .ok (.aload_n 1, 1) := by decide +kernel
theorem dL_law_585 : decode cL_law 585 = .ok (.iload 8, 2) := by decide +kernel
theorem dL_law_587 : decode cL_law 587 = .ok (.iconst 1, 1) := by decide +kernel
theorem dL_law_588 : decode cL_law 588 = .ok (.isub, 1) := by decide +kernel
theorem dL_law_589 : decode cL_law 589 = .ok (.invokevirtual 64, 3) := by decide +kernel
theorem dL_law_592 : decode cL_law 592 = .ok (.invokestatic 90, 3) := by decide +kernel
theorem dL_law_595 : decode cL_law 595 = .ok (.iload 7, 2) := by decide +kernel
theorem dL_law_597 : decode cL_law 597 = .ok (.imul, 1) := by decide +kernel
theorem dL_law_598 : decode cL_law 598 = .ok (.ifCond .ge 5, 3) := by decide +kernel
theorem dL_law_601 : decode cL_law 601 = .ok (.iconst 0, 1) := by decide +kernel
theorem dL_law_602 : decode cL_law 602 = .ok (.ireturn, 1) := by decide +kernel
theorem dL_law_603 : decode cL_law 603 = .ok (.iinc 8 1, 3) := by decide +kernel
theorem dL_law_606 : decode cL_law 606 = .ok (.goto (-35), 3) := by decide +kernel
theorem dL_law_609 : decode cL_law 609 = .ok (.aload_n 1, 1) := by decide +kernel
theorem dL_law_610 : decode cL_law 610 = .ok (.iconst 0, 1) := by decide +kernel
theorem dL_law_611 : decode cL_law 611 = .ok (.invokevirtual 94, 3) := by decide +kernel
theorem dL_law_614 : decode cL_law 614 = .ok (.aload_n 1, 1) := by decide +kernel
theorem dL_law_615 : decode cL_law 615 = .ok (.iconst 1, 1) := by decide +kernel
theorem dL_law_616 : decode cL_law 616 = .ok (.invokevirtual 94, 3) := by decide +kernel
theorem dL_law_619 : decode cL_law 619 = .ok (.if_icmp .lt 26, 3) := by decide +kernel
theorem dL_law_622 : decode cL_law 622 = .ok (.aload_n 1, 1) := by decide +kernel
theorem dL_law_623 : decode cL_law 623 = .ok (.iconst 4, 1) := by decide +kernel
theorem dL_law_624 : decode cL_law 624 = .ok (.invokevirtual 94, 3) := by decide +kernel
theorem dL_law_627 : decode cL_law 627 = .ok (.aload_n 1, 1) := by decide +kernel
theorem dL_law_628 : decode cL_law 628 = .ok (.iconst 0, 1) := by decide +kernel
theorem dL_law_629 : decode cL_law 629 = .ok (.invokevirtual 94, 3) := by decide +kernel
theorem dL_law_632 : decode cL_law 632 = .ok (.aload_n 1, 1) := by decide +kernel
theorem dL_law_633 : decode cL_law 633 = .ok (.iconst 1, 1) := by decide +kernel
theorem dL_law_634 : decode cL_law 634 = .ok (.invokevirtual 94, 3) := by decide +kernel
theorem dL_law_637 : decode cL_law 637 = .ok (.isub, 1) := by decide +kernel
theorem dL_law_638 : decode cL_law 638 = .ok (.if_icmp .gt 7, 3) := by decide +kernel
theorem dL_law_641 : decode cL_law 641 = .ok (.iconst 1, 1) := by decide +kernel
theorem dL_law_642 : decode cL_law 642 = .ok (.goto 4, 3) := by decide +kernel
theorem dL_law_645 : decode cL_law 645 = .ok (.iconst 0, 1) := by decide +kernel
theorem dL_law_646 : decode cL_law 646 = .ok (.ireturn, 1) := by decide +kernel
end
section
/-! ===== numbers: machine ints as integers ===== -/
def iI (z : Int) : Int32 := Int32.ofInt z
def lI (z : Int) : Int64 := Int64.ofInt z
def bI (b : Bool) : Int := match b with
  | true => 1
  | false => 0
def inI (z : Int) : Prop := -2147483648 ≤ z ∧ z < 2147483648
def inL (z : Int) : Prop := -9223372036854775808 ≤ z ∧ z < 9223372036854775808
theorem inI_mk {z : Int} (h1 : -2147483648 ≤ z) (h2 : z < 2147483648) : inI z := ⟨h1, h2⟩
theorem iI_int {z : Int} (h : inI z) : (iI z).toInt = z := by
  have h1 := h.1
  have h2 := h.2
  exact Int32.toInt_ofInt_of_le (by omega) (by omega)
theorem lI_int {z : Int} (h : inL z) : (lI z).toInt = z := by
  have h1 := h.1
  have h2 := h.2
  exact Int64.toInt_ofInt_of_le (by omega) (by omega)
theorem iI_of (x : Int32) : x = iI x.toInt := (Int32.ofInt_toInt x).symm
theorem lI_of (x : Int64) : x = lI x.toInt := (Int64.ofInt_toInt x).symm
theorem inI_of (x : Int32) : inI x.toInt := by
  have h1 := Int32.le_toInt x
  have h2 := Int32.toInt_lt x
  constructor <;> omega
theorem inL_inI {z : Int} (h : inI z) : inL z := by
  have h1 := h.1
  have h2 := h.2
  constructor <;> omega
theorem iI_add (a b : Int) : iI a + iI b = iI (a + b) := (Int32.ofInt_add a b).symm
theorem iI_sub (a b : Int) : iI a - iI b = iI (a - b) := (Int32.ofInt_sub a b).symm
theorem iI_mul (a b : Int) : iI a * iI b = iI (a * b) := (Int32.ofInt_mul a b).symm
theorem iI_neg (a : Int) : -iI a = iI (-a) := (Int32.ofInt_neg a).symm
theorem lI_add (a b : Int) : lI a + lI b = lI (a + b) := (Int64.ofInt_add a b).symm
theorem lI_sub (a b : Int) : lI a - lI b = lI (a - b) := (Int64.ofInt_sub a b).symm
theorem lI_mul (a b : Int) : lI a * lI b = lI (a * b) := (Int64.ofInt_mul a b).symm
theorem lI_neg (a : Int) : -lI a = lI (-a) := (Int64.ofInt_neg a).symm
theorem iI_min : (Int32.minValue).toInt = -2147483648 := by decide
theorem iI_max : (Int32.maxValue).toInt = 2147483647 := by decide
theorem lI_min : (Int64.minValue).toInt = -9223372036854775808 := by decide
theorem lI_max : (Int64.maxValue).toInt = 9223372036854775807 := by decide
theorem iI_div {a b : Int} (ha : inI a) (hb : inI b) : iI a / iI b = iI (a.tdiv b) := by
  have h1 := ha.1
  have h2 := ha.2
  have h3 := hb.1
  have h4 := hb.2
  exact (Int32.ofInt_tdiv (by rw [iI_min]; omega) (by rw [iI_max]; omega) (by rw [iI_min]; omega) (by rw [iI_max]; omega)).symm
theorem lI_div {a b : Int} (ha : inL a) (hb : inL b) : lI a / lI b = lI (a.tdiv b) := by
  have h1 := ha.1
  have h2 := ha.2
  have h3 := hb.1
  have h4 := hb.2
  exact (Int64.ofInt_tdiv (by rw [lI_min]; omega) (by rw [lI_max]; omega) (by rw [lI_min]; omega) (by rw [lI_max]; omega)).symm
theorem iI_rem {a b : Int} (ha : inI a) (hb : inI b) : iI a - iI a / iI b * iI b = iI (a.tmod b) := by
  rw [iI_div ha hb, iI_mul, iI_sub, Int.tmod_def, Int.mul_comm]
theorem lI_rem {a b : Int} (ha : inL a) (hb : inL b) : lI a - lI a / lI b * lI b = lI (a.tmod b) := by
  rw [lI_div ha hb, lI_mul, lI_sub, Int.tmod_def, Int.mul_comm]
theorem iI_lt {a b : Int} (ha : inI a) (hb : inI b) : iI a < iI b ↔ a < b := by rw [Int32.lt_iff_toInt_lt, iI_int ha, iI_int hb]
theorem iI_le {a b : Int} (ha : inI a) (hb : inI b) : iI a ≤ iI b ↔ a ≤ b := by rw [Int32.le_iff_toInt_le, iI_int ha, iI_int hb]
theorem iI_eq {a b : Int} (ha : inI a) (hb : inI b) : iI a = iI b ↔ a = b := ⟨fun h => by rw [← iI_int ha, ← iI_int hb, h], fun h => by rw [h]⟩
theorem lI_lt {a b : Int} (ha : inL a) (hb : inL b) : lI a < lI b ↔ a < b := by rw [Int64.lt_iff_toInt_lt, lI_int ha, lI_int hb]
theorem lI_le {a b : Int} (ha : inL a) (hb : inL b) : lI a ≤ lI b ↔ a ≤ b := by rw [Int64.le_iff_toInt_le, lI_int ha, lI_int hb]
theorem lI_eq {a b : Int} (ha : inL a) (hb : inL b) : lI a = lI b ↔ a = b := ⟨fun h => by rw [← lI_int ha, ← lI_int hb, h], fun h => by rw [h]⟩
theorem iI_zero : (0 : Int32) = iI 0 := by decide
theorem lI_zero : (0 : Int64) = lI 0 := by decide
theorem inI_0 : inI 0 := ⟨by decide, by decide⟩
theorem inL_0 : inL 0 := ⟨by decide, by decide⟩
theorem iI_ne0 {a : Int} (ha : inI a) (h : a ≠ 0) : ¬ iI a = 0 := fun e => h ((iI_eq ha inI_0).mp (e.trans iI_zero))
theorem lI_ne0 {a : Int} (ha : inL a) (h : a ≠ 0) : ¬ lI a = 0 := fun e => h ((lI_eq ha inL_0).mp (e.trans lI_zero))
theorem iI_toL {a : Int} (ha : inI a) : (iI a).toInt64 = lI a := by
  have h1 := ha.1
  have h2 := ha.2
  exact Int32.toInt64_ofInt (by rw [iI_min]; omega) (by rw [iI_max]; omega)
theorem lI_toI (a : Int) : (lI a).toInt32 = iI a := Int64.toInt32_ofInt
theorem iI_nI (k : Nat) : iI (k : Int) = nI k := Int32.ofInt_eq_ofNat
theorem iI_clamp {k : Nat} (h : k < 2147483648) : (iI (k : Int)).toNatClampNeg = k := by rw [iI_nI]; exact nI_clamp h
theorem iI_in {z : Int} {k N : Nat} (hz : z = (k : Int)) (h : k < N) (hN : N < 2147483648) : vp_in (iI z) N := by
  subst hz
  rw [iI_nI]
  exact vp_in_nI h hN
theorem iI_cl {z : Int} {k : Nat} (hz : z = (k : Int)) (h : k < 2147483648) : (iI z).toNatClampNeg = k := by
  subst hz
  exact iI_clamp h
theorem iI_mx {a b : Int} (ha : inI a) (hb : inI b) : (if iI a < iI b then iI b else iI a) = iI (max a b) := by
  by_cases h : a < b
  · rw [if_pos ((iI_lt ha hb).mpr h), Int.max_eq_right (by omega)]
  · rw [if_neg (fun q => h ((iI_lt ha hb).mp q)), Int.max_eq_left (by omega)]
theorem iI_mn {a b : Int} (ha : inI a) (hb : inI b) : (if iI b < iI a then iI b else iI a) = iI (min a b) := by
  by_cases h : b < a
  · rw [if_pos ((iI_lt hb ha).mpr h), Int.min_eq_right (by omega)]
  · rw [if_neg (fun q => h ((iI_lt hb ha).mp q)), Int.min_eq_left (by omega)]
theorem iI_ab {a : Int} (ha : inI a) : (if 0 ≤ iI a then iI a else 0 - iI a) = iI (a.natAbs : Int) := by
  rw [iI_zero]
  by_cases h : 0 ≤ a
  · rw [if_pos ((iI_le inI_0 ha).mpr h)]
    congr 1
    omega
  · rw [if_neg (fun q => h ((iI_le inI_0 ha).mp q)), iI_sub]
    congr 1
    omega
theorem lI_mx {a b : Int} (ha : inL a) (hb : inL b) : (if lI b < lI a then lI a else lI b) = lI (max a b) := by
  by_cases h : b < a
  · rw [if_pos ((lI_lt hb ha).mpr h), Int.max_eq_left (by omega)]
  · rw [if_neg (fun q => h ((lI_lt hb ha).mp q)), Int.max_eq_right (by omega)]
theorem lI_ab {a : Int} (ha : inL a) : (if 0 < lI a then lI a else -lI a) = lI (a.natAbs : Int) := by
  rw [lI_zero]
  by_cases h : 0 < a
  · rw [if_pos ((lI_lt inL_0 ha).mpr h)]
    congr 1
    omega
  · rw [if_neg (fun q => h ((lI_lt inL_0 ha).mp q)), lI_neg]
    congr 1
    omega
/-! ===== the world: a pool of cells by a function, each with a tag of ours ===== -/
abbrev wE : Type := Nat × va_E
abbrev Kx : Type := va_G × Nat × (Nat → ClassId) × (Nat → Nat)
abbrev Kt : Type := Program × Launch × Env × State × MethodId × Array Value × List Frame × Method × Code
def kA (κ : Kx) : Nat → Prop := fun q => κ.2.1 ≤ q
def kf (f : Nat → wE) : Nat → va_E := fun a => (f a).2
def k_tys (κ : Kx) : List (ClassId × FieldType) := [(κ.2.2.1 0, .int), (κ.2.2.1 1, .int), (κ.2.2.1 2, .boolean), (κ.2.2.1 3, .object "java/lang/Object")]
def k_H (κ : Kx) (L : List Nat) (f : Nat → wE) (H : Heap) : Prop := va_P κ.1 vwCl (va_pl L (kf f)) H ∧ va_D (kA κ) (va_pl L (kf f))
def Cl (L : List Nat) (f : Nat → wE) (a : Nat) (e : wE) : Prop := a ∈ L ∧ f a = e
def k_nest : Cond → Bool
  | .fieldLinkNest .. => true
  | .methodLinkNest .. => true
  | .castable .. => true
  | .declares _ => true
  | _ => false
def k_ok (w : Cond) : Bool := goodWord w || k_nest w
def k_strs : List (Nat × String) := [(43, "range is not 0 to 5000"), (48, "period is not 60 to 20000"), (50, "offset is not 0 to period less 1"), (61, "there are 8 waves"), (98, "time is not 0 to 4319"), (105, "what is not 0 to 3"), (117, "there is no such water"), (128, "what is not 0 to 2"), (133, "what is not 0 to 4"), (138, "there are 6 ports"), (146, "there is no such port"), (148, "shift is not -300 to 300"), (150, "factor is not 0 to 300"), (164, "added is not -3000 to 3000"), (178, "the port is not in order"), (187, "there is no water on one side of the time")]
/-- what the tables say, and keep saying -/
def k_V (κ : Kx) (U : State) : Prop := va_K κ.1 vwCl (k_tys κ) U ∧ (∀ w ∈ lw_tbl, k_ok w = true → va_Nw w U) ∧ (∀ (i : Nat) (q : Nat × String), k_strs[i]? = some q → vk_R "TideTable" q.1 q.2 (κ.2.2.2 (10 + i)) U) ∧ va_AO "java/lang/Object" U ∧ va_Mi "[Ljava/lang/Object;" (κ.2.2.2 5) U
def k_arr (l : List Int) : Nat → Value := fun j => .int (iI (l.getD j 0))
/-- the script: nobody writes it -/
def k_S (κ : Kx) (U : State) (H : Heap) : Prop := ∃ (N : Nat) (xs : Nat → Int32), N < 2147483648 ∧ va_T .int (κ.2.2.2 2) N (fun j => .int (xs j)) (kA κ) U H
theorem k_S.moved {κ : Kx} {u U : State} {H : Heap} (hvm : u.vm.Alike U.vm) (h : k_S κ u H) : k_S κ U H := by
  obtain ⟨N, xs, h1, h2⟩ := h
  exact ⟨N, xs, h1, h2.moved hvm⟩
theorem k_S.kept {κ : Kx} {U : State} {H H1 : Heap} (h : k_S κ U H) (hq : ∀ a : Nat, a < H.size → ¬ kA κ a → H1[a]? = H[a]?) : k_S κ U H1 := by
  obtain ⟨N, xs, h1, h2⟩ := h
  exact ⟨N, xs, h1, h2.kept hq⟩
/-- the static fields that are read; nobody writes them -/
def k_Z (κ : Kx) (U : State) (H : Heap) : Prop :=
  (va_Z "TideTable" "TWELFTHS_OF_SIXTH" "[I" (.ref (κ.2.2.2 0)) (kA κ) U H ∧ va_T .int (κ.2.2.2 0) 6 (k_arr [1, 2, 3, 3, 2, 1]) (kA κ) U H) ∧
  (va_Z "TideTable" "TWELFTHS_AHEAD_OF_SIXTH" "[I" (.ref (κ.2.2.2 1)) (kA κ) U H ∧ va_T .int (κ.2.2.2 1) 6 (k_arr [0, 1, 3, 6, 9, 11]) (kA κ) U H) ∧
  k_S κ U H ∧
  True ∧
  (va_Z "java/util/ArrayList" "DEFAULTCAPACITY_EMPTY_ELEMENTDATA" "[Ljava/lang/Object;" (.ref (κ.2.2.2 4)) (kA κ) U H ∧ va_T (.object "java/lang/Object") (κ.2.2.2 4) 0 (fun _ => .null) (kA κ) U H) ∧
  vx_Zq Bundle.tN "UNASSIGNED_STACK" Bundle.steD (kA κ) U H ∧ vx_Zq Bundle.tN "SUPPRESSED_SENTINEL" Bundle.listD (kA κ) U H
theorem k_Z.moved {κ : Kx} {u U : State} {H : Heap} (hvm : u.vm.Alike U.vm) (h : k_Z κ u H) : k_Z κ U H := by
  obtain ⟨⟨a1, b1⟩, ⟨a2, b2⟩, h3, h4, ⟨a5, b5⟩, h6, h7⟩ := h
  exact ⟨⟨a1.moved hvm, b1.moved hvm⟩, ⟨a2.moved hvm, b2.moved hvm⟩, h3.moved hvm, h4, ⟨a5.moved hvm, b5.moved hvm⟩, h6.moved hvm, h7.moved hvm⟩
theorem k_Z.kept {κ : Kx} {U : State} {H H1 : Heap} (h : k_Z κ U H) (hq : ∀ a : Nat, a < H.size → ¬ kA κ a → H1[a]? = H[a]?) : k_Z κ U H1 := by
  obtain ⟨⟨a1, b1⟩, ⟨a2, b2⟩, h3, h4, ⟨a5, b5⟩, h6, h7⟩ := h
  exact ⟨⟨a1.kept hq, b1.kept hq⟩, ⟨a2.kept hq, b2.kept hq⟩, h3.kept hq, h4, ⟨a5.kept hq, b5.kept hq⟩, h6.kept hq, h7.kept hq⟩
theorem k_ok_warm {w : Cond} (hk : k_ok w = true) {s U : State} (hW : s.WarmedH U.vm) (h : va_Nw w s) : va_Nw w U := by
  simp only [k_ok, Bool.or_eq_true] at hk
  rcases hk with hg | hn
  · exact word_at hW (good_of_word hg) h
  · cases w <;> first | exact va_Nw.warmF hW h | exact va_Nw.warmM hW h | exact va_Nw.warmC hW h | exact va_Nw.warmD hW h | cases hn
theorem k_V.warm {κ : Kx} {s U : State} (hW : s.WarmedH U.vm) (h : k_V κ s) : k_V κ U := by
  obtain ⟨h1, h2, h3, h4, h5⟩ := h
  exact ⟨va_K.moved hW.alike h1, fun w hw hk => k_ok_warm hk hW (h2 w hw hk), fun i q hq => (h3 i q hq).warm hW, va_AO.moved hW.alike h4, va_Mi.moved hW.alike h5⟩
/-- what a method's start gives: the pool is in the heap, the tables and the statics are as they were -/
def k_I (κ : Kx) (L : List Nat) (f : Nat → wE) (U : State) : Prop := k_H κ L f U.heap ∧ k_V κ U ∧ k_Z κ U U.heap ∧ κ.2.1 ≤ U.heap.size
/-- a method's end: an answer, a new pool -/
def k_Q (κ : Kx) (post : Option Value → List Nat → (Nat → wE) → Prop) : Array Value → State → Outcome → State → Prop := fun _ st oc t => (∃ (v : Option Value) (L' : List Nat) (f' : Nat → wE), oc = .returned v ∧ post v L' f' ∧ k_H κ L' f' t.heap) ∧ va_F (kA κ) st t
theorem k_blind {κ : Kx} {L : List Nat} {f : Nat → wE} {As : List Value} : FrameBlind (va_Pc As (k_I κ L f)) := by
  intro a U g mk h
  obtain ⟨h1, h2, h3, h4, h5⟩ := h
  exact ⟨h1, h2, k_V.warm (State.WarmedH.refl U) h3, k_Z.moved (Vm.Alike.refl U.vm) h4, h5⟩
/-- what holds in a method's body: the machine, its code, the tables, the statics -/
def k_E (θ : Kt) (κ : Kx) (cc : ByteArray) (nL : Nat) (ret : Option FieldType) (own : String) : Prop :=
  θ.1.tables.exec = Jvm.exec ∧ θ.2.2.2.2.2.2.2.2.code = cc ∧ θ.2.2.2.2.2.2.2.2.maxLocals = nL ∧ θ.2.2.2.1.vm.findClass own = some θ.2.2.2.2.1.cls ∧ k_V κ θ.2.2.2.1 ∧ k_Z κ θ.2.2.2.1 θ.2.2.2.1.heap ∧ κ.2.1 ≤ θ.2.2.2.1.heap.size ∧ θ.2.2.2.2.2.2.2.1.sig.returnType = ret ∧ θ.2.2.2.2.2.2.2.1.locks = false
def k_W (θ : Kt) (R : Room) (H : Heap) (locs : List Loc) (k n : Nat) (Q : State → Prop) (pc : Nat) (ls : Array Slot) (st : List Value) : Prop :=
  W θ.1 θ.2.1 θ.2.2.1 R θ.2.2.2.1 θ.2.2.2.2.1 θ.2.2.2.2.2.1 θ.2.2.2.2.2.2.1 θ.2.2.2.2.2.2.2.1 θ.2.2.2.2.2.2.2.2 H locs k n Q (F0 θ.2.2.2.2.1 pc ls st)
/-- the walk: from here, with the pool (L, f), the locals lv and the stack st, the body comes to an end with Q -/
def k_G (θ : Kt) (κ : Kx) (cc : ByteArray) (nL : Nat) (ret : Option FieldType) (own : String) (R : Room) (Q : State → Prop) (L : List Nat) (f : Nat → wE) (k n pc : Nat) (lv : List (Nat × Value)) (st : List Value) : Prop :=
  k_E θ κ cc nL ret own → ∀ (H : Heap) (locs : List Loc) (ls : Array Slot), k_H κ L f H → va_S (kA κ) θ.2.2.2.1.heap H locs → lv_has ls nL lv → k_W θ R H locs k n Q pc ls st
section Words
variable {θ : Kt} {κ : Kx} {cc : ByteArray} {nL : Nat} {ret : Option FieldType} {own : String}
theorem k_E.word (E : k_E θ κ cc nL ret own) {w : Cond} (hw : w ∈ lw_tbl) (hk : k_ok w = true) : w.before θ.2.2.2.2.2.1 θ.2.2.2.1 = true := by
  have h := E.2.2.2.2.1.2.1 w hw hk
  simp only [k_ok, Bool.or_eq_true] at hk
  rcases hk with hg | hn
  · exact word_at (State.WarmedH.refl _) (good_of_word hg) h
  · refine va_Nw.use ?_ h
    cases w <;> first | rfl | cases hn
theorem k_E.K (E : k_E θ κ cc nL ret own) : va_K κ.1 vwCl (k_tys κ) θ.2.2.2.1 := E.2.2.2.2.1.1
theorem k_E.cls (E : k_E θ κ cc nL ret own) {C : String} {T : u_T} {N : Nat} (h : ∀ w ∈ u_ws C T N, w ∈ lw_tbl) : ∀ w ∈ u_ws C T N, w.before θ.2.2.2.2.2.1 θ.2.2.2.1 = true := by
  intro w hw
  refine E.word (h w hw) ?_
  obtain ⟨k, -, rfl⟩ := List.mem_map.mp hw
  unfold u_lay
  split <;> rfl
theorem k_pos {L : List Nat} {f : Nat → wE} {a : Nat} {e : wE} (h : Cl L f a e) : ∃ q0 : Nat, (va_pl L (kf f))[q0]? = some (a, e.2) := by
  obtain ⟨k, hk⟩ := va_pl_get (X := []) (f := kf f) h.1
  refine ⟨k, ?_⟩
  have e1 : kf f a = e.2 := by rw [kf, h.2]
  rw [e1] at hk
  exact hk
theorem k_set {A : Nat → Prop} {L : List Nat} {f : Nat → wE} {a q0 : Nat} {e : wE} {x : va_E} (hD : va_D A (va_pl L (kf f))) (h : Cl L f a e) (hq : (va_pl L (kf f))[q0]? = some (a, e.2)) : (va_pl L (kf f)).set q0 (a, x) = va_pl L (kf (va_up f a (e.1, x))) := by
  have e1 : kf f a = e.2 := by rw [kf, h.2]
  have h1 := va_pl_set (X := []) (f := kf f) (e := x) hD h.1 (by rw [e1]; exact hq)
  refine h1.trans ?_
  refine va_pl_congr fun b => ?_
  by_cases hb : b = a
  · subst hb
    simp [va_up, kf]
  · simp [va_up, kf, hb]
theorem k_push {A : Nat → Prop} {L : List Nat} {f : Nat → wE} {q : Nat} {x : va_E} (tg : Nat) (hD : va_D A (va_pl L (kf f) ++ [(q, x)])) : q ∉ L ∧ va_pl L (kf f) ++ [(q, x)] = va_pl (L ++ [q]) (kf (va_up f q (tg, x))) := by
  have h1 : q ∉ L := va_pl_fresh2 (X := []) (f := kf f) hD
  refine ⟨h1, (va_pl_push h1).trans (va_pl_congr fun b => ?_)⟩
  by_cases hb : b = q
  · subst hb
    simp [va_up, kf]
  · simp [va_up, kf, hb]
/-- another cell stays -/
theorem Cl.ne {L : List Nat} {f : Nat → wE} {a b t u : Nat} {x y : va_E} (ha : Cl L f a (t, x)) (hb : Cl L f b (u, y)) (h : t ≠ u) : a ≠ b := by
  intro e
  subst e
  have := ha.2.symm.trans hb.2
  exact h (congrArg Prod.fst this)
theorem Cl.put {L : List Nat} {f f' : Nat → wE} {a b t u : Nat} {x y : va_E} (hne : ∀ z, z ≠ a → f' z = f z) (ha : Cl L f a (t, x)) (hb : Cl L f b (u, y)) (h : u ≠ t) : Cl L f' b (u, y) := ⟨hb.1, (hne b (hb.ne ha h)).trans hb.2⟩
theorem Cl.put2 {L : List Nat} {f f' : Nat → wE} {a b : Nat} {e : wE} (hne : ∀ z, z ≠ a → f' z = f z) (hb : Cl L f b e) (h : b ≠ a) : Cl L f' b e := ⟨hb.1, (hne b h).trans hb.2⟩
theorem Cl.new {L L' : List Nat} {f f' : Nat → wE} {b : Nat} {e : wE} (hne : ∀ z ∈ L, z ∈ L' ∧ f' z = f z) (hb : Cl L f b e) : Cl L' f' b e := ⟨(hne b hb.1).1, (hne b hb.1).2.trans hb.2⟩
/-- outside the tags of S nothing changes -/
def k_fr (S : Nat → Bool) (L : List Nat) (f : Nat → wE) (L' : List Nat) (f' : Nat → wE) : Prop := ∀ z ∈ L, z ∈ L' ∧ (S (f z).1 = false → f' z = f z)
theorem Cl.fr {S : Nat → Bool} {L L' : List Nat} {f f' : Nat → wE} {b t : Nat} {x : va_E} (h : k_fr S L f L' f') (hb : Cl L f b (t, x)) (ht : S t = false) : Cl L' f' b (t, x) := ⟨(h b hb.1).1, ((h b hb.1).2 (by rw [hb.2]; exact ht)).trans hb.2⟩
end Words
end
section
section Rows
variable {θ : Kt} {κ : Kx} {cc : ByteArray} {nL : Nat} {ret : Option FieldType} {own : String} {R : Room} {Q : State → Prop} {L : List Nat} {f : Nat → wE} {k n pc : Nat} {lv : List (Nat × Value)} {st : List Value}
theorem k_iconst {z : Int} (d : decode cc pc = .ok (.iconst z, 1)) (kk : k_G θ κ cc nL ret own R Q L f k n (pc + 1) lv (.int (iI z) :: st)) : k_G θ κ cc nL ret own R Q L f k n pc lv st :=
  fun E H locs ls hH hS hl => lv_iconst E.1 E.2.1 d rfl (kk E H locs ls hH hS hl)
theorem k_bipush {z : Int} (d : decode cc pc = .ok (.bipush z, 2)) (hz : (Int8.ofInt z).toInt32 = iI z) (kk : k_G θ κ cc nL ret own R Q L f k n (pc + 2) lv (.int (iI z) :: st)) : k_G θ κ cc nL ret own R Q L f k n pc lv st :=
  fun E H locs ls hH hS hl => lv_bipush E.1 E.2.1 d hz (kk E H locs ls hH hS hl)
theorem k_sipush {z : Int} (d : decode cc pc = .ok (.sipush z, 3)) (hz : (Int16.ofInt z).toInt32 = iI z) (kk : k_G θ κ cc nL ret own R Q L f k n (pc + 3) lv (.int (iI z) :: st)) : k_G θ κ cc nL ret own R Q L f k n pc lv st :=
  fun E H locs ls hH hS hl => lv_sipush E.1 E.2.1 d hz (kk E H locs ls hH hS hl)
theorem k_lconst {z : Fin 2} (w : Int) (d : decode cc pc = .ok (.lconst z, 1)) (hz : Int64.ofNat (z : Nat) = lI w) (kk : k_G θ κ cc nL ret own R Q L f k n (pc + 1) lv (.long (lI w) :: st)) : k_G θ κ cc nL ret own R Q L f k n pc lv st :=
  fun E H locs ls hH hS hl => lv_lconst E.1 E.2.1 d hz (kk E H locs ls hH hS hl)
theorem k_ldc {i : Nat} {v : Int32} (z : Int) (hq : Cond.constant own i v ∈ lw_tbl) (hz : v = iI z) (d : decode cc pc = .ok (.ldc i, 2)) (kk : k_G θ κ cc nL ret own R Q L f k n (pc + 2) lv (.int (iI z) :: st)) : k_G θ κ cc nL ret own R Q L f k n pc lv st :=
  fun E H locs ls hH hS hl => lv_ldc E.1 E.2.1 E.2.2.2.1 (E.word hq rfl) d (by rw [hz]; exact kk E H locs ls hH hS hl)
theorem k_ldc2 {i : Nat} {v : Int64} (z : Int) (hq : Cond.constantLong own i v ∈ lw_tbl) (hz : v = lI z) (d : decode cc pc = .ok (.ldc2_w i, 3)) (kk : k_G θ κ cc nL ret own R Q L f k n (pc + 3) lv (.long (lI z) :: st)) : k_G θ κ cc nL ret own R Q L f k n pc lv st :=
  fun E H locs ls hH hS hl => lv_ldc2 E.1 E.2.1 E.2.2.2.1 (E.word hq rfl) d (by rw [hz]; exact kk E H locs ls hH hS hl)
theorem k_iload_n {z : Fin 4} {x : Int32} (j i : Nat) (d : decode cc pc = .ok (.iload_n z, 1)) (hi : (z : Nat) = i) (hj : lv[j]? = some (i, .int x)) (kk : k_G θ κ cc nL ret own R Q L f k n (pc + 1) lv (.int x :: st)) : k_G θ κ cc nL ret own R Q L f k n pc lv st :=
  fun E H locs ls hH hS hl => lv_iload_n E.1 E.2.1 d hi (lv_at hl j hj) (kk E H locs ls hH hS hl)
theorem k_iload {x : Int32} {i : Nat} (j : Nat) (d : decode cc pc = .ok (.iload i, 2)) (hj : lv[j]? = some (i, .int x)) (kk : k_G θ κ cc nL ret own R Q L f k n (pc + 2) lv (.int x :: st)) : k_G θ κ cc nL ret own R Q L f k n pc lv st :=
  fun E H locs ls hH hS hl => lv_iload E.1 E.2.1 d (lv_at hl j hj) (kk E H locs ls hH hS hl)
theorem k_lload_n {z : Fin 4} {x : Int64} (j i : Nat) (d : decode cc pc = .ok (.lload_n z, 1)) (hi : (z : Nat) = i) (hj : lv[j]? = some (i, .long x)) (kk : k_G θ κ cc nL ret own R Q L f k n (pc + 1) lv (.long x :: st)) : k_G θ κ cc nL ret own R Q L f k n pc lv st :=
  fun E H locs ls hH hS hl => lv_lload_n E.1 E.2.1 d hi (lv_at hl j hj) (kk E H locs ls hH hS hl)
theorem k_lload {x : Int64} {i : Nat} (j : Nat) (d : decode cc pc = .ok (.lload i, 2)) (hj : lv[j]? = some (i, .long x)) (kk : k_G θ κ cc nL ret own R Q L f k n (pc + 2) lv (.long x :: st)) : k_G θ κ cc nL ret own R Q L f k n pc lv st :=
  fun E H locs ls hH hS hl => lv_lload E.1 E.2.1 d (lv_at hl j hj) (kk E H locs ls hH hS hl)
theorem k_aload_n {z : Fin 4} {x : Nat} (j i : Nat) (d : decode cc pc = .ok (.aload_n z, 1)) (hi : (z : Nat) = i) (hj : lv[j]? = some (i, .ref x)) (kk : k_G θ κ cc nL ret own R Q L f k n (pc + 1) lv (.ref x :: st)) : k_G θ κ cc nL ret own R Q L f k n pc lv st :=
  fun E H locs ls hH hS hl => lv_aload_n E.1 E.2.1 d hi (lv_at hl j hj) (kk E H locs ls hH hS hl)
theorem k_aload {x : Nat} {i : Nat} (j : Nat) (d : decode cc pc = .ok (.aload i, 2)) (hj : lv[j]? = some (i, .ref x)) (kk : k_G θ κ cc nL ret own R Q L f k n (pc + 2) lv (.ref x :: st)) : k_G θ κ cc nL ret own R Q L f k n pc lv st :=
  fun E H locs ls hH hS hl => lv_aload E.1 E.2.1 d (lv_at hl j hj) (kk E H locs ls hH hS hl)
theorem k_istore_n {z : Fin 4} {x : Int32} (i : Nat) (lv' : List (Nat × Value)) (d : decode cc pc = .ok (.istore_n z, 1)) (hi : (z : Nat) = i) (hn : i < nL) (he : (i, Value.int x) :: lv.filter (fun q => !(q.1 == i) && !(q.1 + 1 == i && q.2.category == 2)) = lv') (kk : k_G θ κ cc nL ret own R Q L f k n (pc + 1) lv' st) : k_G θ κ cc nL ret own R Q L f k n pc lv (.int x :: st) :=
  fun E H locs ls hH hS hl => lv_istore_n E.1 E.2.1 d hi hl hn he (fun ls' hl' => kk E H locs ls' hH hS hl')
theorem k_istore {x : Int32} {i : Nat} (lv' : List (Nat × Value)) (d : decode cc pc = .ok (.istore i, 2)) (hn : i < nL) (he : (i, Value.int x) :: lv.filter (fun q => !(q.1 == i) && !(q.1 + 1 == i && q.2.category == 2)) = lv') (kk : k_G θ κ cc nL ret own R Q L f k n (pc + 2) lv' st) : k_G θ κ cc nL ret own R Q L f k n pc lv (.int x :: st) :=
  fun E H locs ls hH hS hl => lv_istore E.1 E.2.1 d hl hn he (fun ls' hl' => kk E H locs ls' hH hS hl')
theorem k_lstore_n {z : Fin 4} {x : Int64} (i : Nat) (lv' : List (Nat × Value)) (d : decode cc pc = .ok (.lstore_n z, 1)) (hi : (z : Nat) = i) (hn : i + 1 < nL) (he : (i, Value.long x) :: lv.filter (fun q => !(q.1 == i) && (!(q.1 == i + 1) && !(q.1 + 1 == i && q.2.category == 2))) = lv') (kk : k_G θ κ cc nL ret own R Q L f k n (pc + 1) lv' st) : k_G θ κ cc nL ret own R Q L f k n pc lv (.long x :: st) :=
  fun E H locs ls hH hS hl => lv_lstore_n E.1 E.2.1 d hi hl hn he (fun ls' hl' => kk E H locs ls' hH hS hl')
theorem k_lstore {x : Int64} {i : Nat} (lv' : List (Nat × Value)) (d : decode cc pc = .ok (.lstore i, 2)) (hn : i + 1 < nL) (he : (i, Value.long x) :: lv.filter (fun q => !(q.1 == i) && (!(q.1 == i + 1) && !(q.1 + 1 == i && q.2.category == 2))) = lv') (kk : k_G θ κ cc nL ret own R Q L f k n (pc + 2) lv' st) : k_G θ κ cc nL ret own R Q L f k n pc lv (.long x :: st) :=
  fun E H locs ls hH hS hl => lv_lstore E.1 E.2.1 d hl hn he (fun ls' hl' => kk E H locs ls' hH hS hl')
theorem k_astore_n {z : Fin 4} {x : Nat} (i : Nat) (lv' : List (Nat × Value)) (d : decode cc pc = .ok (.astore_n z, 1)) (hi : (z : Nat) = i) (hn : i < nL) (he : (i, Value.ref x) :: lv.filter (fun q => !(q.1 == i) && !(q.1 + 1 == i && q.2.category == 2)) = lv') (kk : k_G θ κ cc nL ret own R Q L f k n (pc + 1) lv' st) : k_G θ κ cc nL ret own R Q L f k n pc lv (.ref x :: st) :=
  fun E H locs ls hH hS hl => lv_astore_n E.1 E.2.1 d hi hl hn he (fun ls' hl' => kk E H locs ls' hH hS hl')
theorem k_astore {x : Nat} {i : Nat} (lv' : List (Nat × Value)) (d : decode cc pc = .ok (.astore i, 2)) (hn : i < nL) (he : (i, Value.ref x) :: lv.filter (fun q => !(q.1 == i) && !(q.1 + 1 == i && q.2.category == 2)) = lv') (kk : k_G θ κ cc nL ret own R Q L f k n (pc + 2) lv' st) : k_G θ κ cc nL ret own R Q L f k n pc lv (.ref x :: st) :=
  fun E H locs ls hH hS hl => lv_astore E.1 E.2.1 d hl hn he (fun ls' hl' => kk E H locs ls' hH hS hl')
theorem k_iinc {i : Nat} {z x : Int} (j : Nat) (lv' : List (Nat × Value)) (d : decode cc pc = .ok (.iinc i z, 3)) (hj : lv[j]? = some (i, .int (iI x))) (hn : i < nL) (he : (i, Value.int (iI (x + z))) :: lv.filter (fun q => !(q.1 == i) && !(q.1 + 1 == i && q.2.category == 2)) = lv') (kk : k_G θ κ cc nL ret own R Q L f k n (pc + 3) lv' st) : k_G θ κ cc nL ret own R Q L f k n pc lv st :=
  fun E H locs ls hH hS hl => lv_iinc E.1 E.2.1 d hl hj (iI_add x z) hn he (fun ls' hl' => kk E H locs ls' hH hS hl')
theorem k_perm (ks : List Nat) (lv' : List (Nat × Value)) (he : lv_pick lv ks = lv') (kk : k_G θ κ cc nL ret own R Q L f k n pc lv' st) : k_G θ κ cc nL ret own R Q L f k n pc lv st :=
  fun E H locs ls hH hS hl => kk E H locs ls hH hS (lv_sub hl ks he)
theorem k_iadd {x y : Int} (d : decode cc pc = .ok (.iadd, 1)) (kk : k_G θ κ cc nL ret own R Q L f k n (pc + 1) lv (.int (iI (x + y)) :: st)) : k_G θ κ cc nL ret own R Q L f k n pc lv (.int (iI y) :: .int (iI x) :: st) :=
  fun E H locs ls hH hS hl => lv_iadd E.1 E.2.1 d (by rw [iI_add]; exact kk E H locs ls hH hS hl)
theorem k_isub {x y : Int} (d : decode cc pc = .ok (.isub, 1)) (kk : k_G θ κ cc nL ret own R Q L f k n (pc + 1) lv (.int (iI (x - y)) :: st)) : k_G θ κ cc nL ret own R Q L f k n pc lv (.int (iI y) :: .int (iI x) :: st) :=
  fun E H locs ls hH hS hl => lv_isub E.1 E.2.1 d (by rw [iI_sub]; exact kk E H locs ls hH hS hl)
theorem k_imul {x y : Int} (d : decode cc pc = .ok (.imul, 1)) (kk : k_G θ κ cc nL ret own R Q L f k n (pc + 1) lv (.int (iI (x * y)) :: st)) : k_G θ κ cc nL ret own R Q L f k n pc lv (.int (iI y) :: .int (iI x) :: st) :=
  fun E H locs ls hH hS hl => lv_imul E.1 E.2.1 d (by rw [iI_mul]; exact kk E H locs ls hH hS hl)
theorem k_idiv {x y : Int} (d : decode cc pc = .ok (.idiv, 1)) (hx : inI x) (hy : inI y) (h0 : y ≠ 0) (kk : k_G θ κ cc nL ret own R Q L f k n (pc + 1) lv (.int (iI (x.tdiv y)) :: st)) : k_G θ κ cc nL ret own R Q L f k n pc lv (.int (iI y) :: .int (iI x) :: st) :=
  fun E H locs ls hH hS hl => lv_idiv E.1 E.2.1 d (iI_ne0 hy h0) (by rw [iI_div hx hy]; exact kk E H locs ls hH hS hl)
theorem k_irem {x y : Int} (d : decode cc pc = .ok (.irem, 1)) (hx : inI x) (hy : inI y) (h0 : y ≠ 0) (kk : k_G θ κ cc nL ret own R Q L f k n (pc + 1) lv (.int (iI (x.tmod y)) :: st)) : k_G θ κ cc nL ret own R Q L f k n pc lv (.int (iI y) :: .int (iI x) :: st) :=
  fun E H locs ls hH hS hl => lv_irem E.1 E.2.1 d (iI_ne0 hy h0) (by rw [iI_rem hx hy]; exact kk E H locs ls hH hS hl)
theorem k_ineg {x : Int} (d : decode cc pc = .ok (.ineg, 1)) (kk : k_G θ κ cc nL ret own R Q L f k n (pc + 1) lv (.int (iI (-x)) :: st)) : k_G θ κ cc nL ret own R Q L f k n pc lv (.int (iI x) :: st) :=
  fun E H locs ls hH hS hl => lv_ineg E.1 E.2.1 d (by rw [iI_neg]; exact kk E H locs ls hH hS hl)
theorem k_ladd {x y : Int} (d : decode cc pc = .ok (.ladd, 1)) (kk : k_G θ κ cc nL ret own R Q L f k n (pc + 1) lv (.long (lI (x + y)) :: st)) : k_G θ κ cc nL ret own R Q L f k n pc lv (.long (lI y) :: .long (lI x) :: st) :=
  fun E H locs ls hH hS hl => lv_ladd E.1 E.2.1 d (by rw [lI_add]; exact kk E H locs ls hH hS hl)
theorem k_lsub {x y : Int} (d : decode cc pc = .ok (.lsub, 1)) (kk : k_G θ κ cc nL ret own R Q L f k n (pc + 1) lv (.long (lI (x - y)) :: st)) : k_G θ κ cc nL ret own R Q L f k n pc lv (.long (lI y) :: .long (lI x) :: st) :=
  fun E H locs ls hH hS hl => lv_lsub E.1 E.2.1 d (by rw [lI_sub]; exact kk E H locs ls hH hS hl)
theorem k_lmul {x y : Int} (d : decode cc pc = .ok (.lmul, 1)) (kk : k_G θ κ cc nL ret own R Q L f k n (pc + 1) lv (.long (lI (x * y)) :: st)) : k_G θ κ cc nL ret own R Q L f k n pc lv (.long (lI y) :: .long (lI x) :: st) :=
  fun E H locs ls hH hS hl => lv_lmul E.1 E.2.1 d (by rw [lI_mul]; exact kk E H locs ls hH hS hl)
theorem k_ldiv {x y : Int} (d : decode cc pc = .ok (.ldiv, 1)) (hx : inL x) (hy : inL y) (h0 : y ≠ 0) (kk : k_G θ κ cc nL ret own R Q L f k n (pc + 1) lv (.long (lI (x.tdiv y)) :: st)) : k_G θ κ cc nL ret own R Q L f k n pc lv (.long (lI y) :: .long (lI x) :: st) :=
  fun E H locs ls hH hS hl => lv_ldiv E.1 E.2.1 d (lI_ne0 hy h0) (by rw [lI_div hx hy]; exact kk E H locs ls hH hS hl)
theorem k_lrem {x y : Int} (d : decode cc pc = .ok (.lrem, 1)) (hx : inL x) (hy : inL y) (h0 : y ≠ 0) (kk : k_G θ κ cc nL ret own R Q L f k n (pc + 1) lv (.long (lI (x.tmod y)) :: st)) : k_G θ κ cc nL ret own R Q L f k n pc lv (.long (lI y) :: .long (lI x) :: st) :=
  fun E H locs ls hH hS hl => lv_lrem E.1 E.2.1 d (lI_ne0 hy h0) (by rw [lI_rem hx hy]; exact kk E H locs ls hH hS hl)
theorem k_lneg {x : Int} (d : decode cc pc = .ok (.lneg, 1)) (kk : k_G θ κ cc nL ret own R Q L f k n (pc + 1) lv (.long (lI (-x)) :: st)) : k_G θ κ cc nL ret own R Q L f k n pc lv (.long (lI x) :: st) :=
  fun E H locs ls hH hS hl => lv_lneg E.1 E.2.1 d (by rw [lI_neg]; exact kk E H locs ls hH hS hl)
theorem k_i2l {x : Int} (d : decode cc pc = .ok (.i2l, 1)) (hx : inI x) (kk : k_G θ κ cc nL ret own R Q L f k n (pc + 1) lv (.long (lI x) :: st)) : k_G θ κ cc nL ret own R Q L f k n pc lv (.int (iI x) :: st) :=
  fun E H locs ls hH hS hl => lv_i2l E.1 E.2.1 d (iI_toL hx) (kk E H locs ls hH hS hl)
theorem k_l2i {x : Int} (d : decode cc pc = .ok (.l2i, 1)) (kk : k_G θ κ cc nL ret own R Q L f k n (pc + 1) lv (.int (iI x) :: st)) : k_G θ κ cc nL ret own R Q L f k n pc lv (.long (lI x) :: st) :=
  fun E H locs ls hH hS hl => lv_l2i E.1 E.2.1 d (lI_toI x) (kk E H locs ls hH hS hl)
theorem k_goto {off : Int} (tgt : Nat) (d : decode cc pc = .ok (.goto off, 3)) (ht : (pc : Int) + off = (tgt : Int)) (kk : k_G θ κ cc nL ret own R Q L f k n tgt lv st) : k_G θ κ cc nL ret own R Q L f k n pc lv st :=
  fun E H locs ls hH hS hl => lv_goto E.1 E.2.1 d ht (kk E H locs ls hH hS hl)
theorem k_dup {v : Value} (d : decode cc pc = .ok (.dup, 1)) (hv : v.category = 1) (kk : k_G θ κ cc nL ret own R Q L f k n (pc + 1) lv (v :: v :: st)) : k_G θ κ cc nL ret own R Q L f k n pc lv (v :: st) :=
  fun E H locs ls hH hS hl => lv_dup E.1 E.2.1 d hv (kk E H locs ls hH hS hl)
theorem k_pop {v : Value} (d : decode cc pc = .ok (.pop, 1)) (hv : v.category = 1) (kk : k_G θ κ cc nL ret own R Q L f k n (pc + 1) lv st) : k_G θ κ cc nL ret own R Q L f k n pc lv (v :: st) :=
  fun E H locs ls hH hS hl => lv_pop E.1 E.2.1 d hv (kk E H locs ls hH hS hl)
theorem k_dup_x1 {v w : Value} (d : decode cc pc = .ok (.dup_x1, 1)) (hv : v.category = 1) (hw : w.category = 1) (kk : k_G θ κ cc nL ret own R Q L f k n (pc + 1) lv (v :: w :: v :: st)) : k_G θ κ cc nL ret own R Q L f k n pc lv (v :: w :: st) :=
  fun E H locs ls hH hS hl => lv_dup_x1 E.1 E.2.1 d hv hw (kk E H locs ls hH hS hl)
theorem k_dup2 {v w : Value} (d : decode cc pc = .ok (.dup2, 1)) (hv : v.category = 1) (hw : w.category = 1) (kk : k_G θ κ cc nL ret own R Q L f k n (pc + 1) lv (v :: w :: v :: w :: st)) : k_G θ κ cc nL ret own R Q L f k n pc lv (v :: w :: st) :=
  fun E H locs ls hH hS hl => lv_dup2_11 E.1 E.2.1 d hv hw (kk E H locs ls hH hS hl)
theorem k_null (d : decode cc pc = .ok (.aconst_null, 1)) (kk : k_G θ κ cc nL ret own R Q L f k n (pc + 1) lv (.null :: st)) : k_G θ κ cc nL ret own R Q L f k n pc lv st :=
  fun E H locs ls hH hS hl => lv_null E.1 E.2.1 d (kk E H locs ls hH hS hl)
end Rows
end
section
section Branches
variable {θ : Kt} {κ : Kx} {cc : ByteArray} {nL : Nat} {ret : Option FieldType} {own : String} {R : Room} {Q : State → Prop} {L : List Nat} {f : Nat → wE} {k n pc : Nat} {lv : List (Nat × Value)} {st : List Value}
theorem k_icmp_lt {x y off : Int} (tgt : Nat) (d : decode cc pc = .ok (.if_icmp .lt off, 3)) (ht : (pc : Int) + off = (tgt : Int)) (hx : inI x) (hy : inI y) (kt : x < y → k_G θ κ cc nL ret own R Q L f k n tgt lv st) (kf : y ≤ x → k_G θ κ cc nL ret own R Q L f k n (pc + 3) lv st) : k_G θ κ cc nL ret own R Q L f k n pc lv (.int (iI y) :: .int (iI x) :: st) :=
  fun E H locs ls hH hS hl => lv_icmp_lt E.1 E.2.1 d ht (fun q => kt ((iI_lt hx hy).mp q) E H locs ls hH hS hl) (fun q => kf (Int.not_lt.mp (fun z => q ((iI_lt hx hy).mpr z))) E H locs ls hH hS hl)
theorem k_if_lt {x off : Int} (tgt : Nat) (d : decode cc pc = .ok (.ifCond .lt off, 3)) (ht : (pc : Int) + off = (tgt : Int)) (hx : inI x) (kt : x < 0 → k_G θ κ cc nL ret own R Q L f k n tgt lv st) (kf : 0 ≤ x → k_G θ κ cc nL ret own R Q L f k n (pc + 3) lv st) : k_G θ κ cc nL ret own R Q L f k n pc lv (.int (iI x) :: st) :=
  fun E H locs ls hH hS hl => lv_if_lt E.1 E.2.1 d ht (fun q => kt ((iI_lt hx inI_0).mp q) E H locs ls hH hS hl) (fun q => kf (Int.not_lt.mp (fun z => q ((iI_lt hx inI_0).mpr z))) E H locs ls hH hS hl)
theorem k_lcmp_lt {x y off : Int} (tgt : Nat) (d0 : decode cc pc = .ok (.lcmp, 1)) (d : decode cc (pc + 1) = .ok (.ifCond .lt off, 3)) (ht : ((pc + 1 : Nat) : Int) + off = (tgt : Int)) (hx : inL x) (hy : inL y) (kt : x < y → k_G θ κ cc nL ret own R Q L f k n tgt lv st) (kf : y ≤ x → k_G θ κ cc nL ret own R Q L f k n (pc + 1 + 3) lv st) : k_G θ κ cc nL ret own R Q L f k n pc lv (.long (lI y) :: .long (lI x) :: st) :=
  fun E H locs ls hH hS hl => W.lcmp E.1 E.2.1 d0 (lv_if_lt E.1 E.2.1 d ht (fun q => kt ((lI_lt hx hy).mp ((lg_cmp_lt (lI x) (lI y)).mp q)) E H locs ls hH hS hl) (fun q => kf (Int.not_lt.mp (fun z => q ((lg_cmp_lt (lI x) (lI y)).mpr ((lI_lt hx hy).mpr z)))) E H locs ls hH hS hl))
theorem k_icmp_ge {x y off : Int} (tgt : Nat) (d : decode cc pc = .ok (.if_icmp .ge off, 3)) (ht : (pc : Int) + off = (tgt : Int)) (hx : inI x) (hy : inI y) (kt : y ≤ x → k_G θ κ cc nL ret own R Q L f k n tgt lv st) (kf : x < y → k_G θ κ cc nL ret own R Q L f k n (pc + 3) lv st) : k_G θ κ cc nL ret own R Q L f k n pc lv (.int (iI y) :: .int (iI x) :: st) :=
  fun E H locs ls hH hS hl => lv_icmp_ge E.1 E.2.1 d ht (fun q => kt ((iI_le hy hx).mp q) E H locs ls hH hS hl) (fun q => kf (Int.not_le.mp (fun z => q ((iI_le hy hx).mpr z))) E H locs ls hH hS hl)
theorem k_if_ge {x off : Int} (tgt : Nat) (d : decode cc pc = .ok (.ifCond .ge off, 3)) (ht : (pc : Int) + off = (tgt : Int)) (hx : inI x) (kt : 0 ≤ x → k_G θ κ cc nL ret own R Q L f k n tgt lv st) (kf : x < 0 → k_G θ κ cc nL ret own R Q L f k n (pc + 3) lv st) : k_G θ κ cc nL ret own R Q L f k n pc lv (.int (iI x) :: st) :=
  fun E H locs ls hH hS hl => lv_if_ge E.1 E.2.1 d ht (fun q => kt ((iI_le inI_0 hx).mp q) E H locs ls hH hS hl) (fun q => kf (Int.not_le.mp (fun z => q ((iI_le inI_0 hx).mpr z))) E H locs ls hH hS hl)
theorem k_lcmp_ge {x y off : Int} (tgt : Nat) (d0 : decode cc pc = .ok (.lcmp, 1)) (d : decode cc (pc + 1) = .ok (.ifCond .ge off, 3)) (ht : ((pc + 1 : Nat) : Int) + off = (tgt : Int)) (hx : inL x) (hy : inL y) (kt : y ≤ x → k_G θ κ cc nL ret own R Q L f k n tgt lv st) (kf : x < y → k_G θ κ cc nL ret own R Q L f k n (pc + 1 + 3) lv st) : k_G θ κ cc nL ret own R Q L f k n pc lv (.long (lI y) :: .long (lI x) :: st) :=
  fun E H locs ls hH hS hl => W.lcmp E.1 E.2.1 d0 (lv_if_ge E.1 E.2.1 d ht (fun q => kt ((lI_le hy hx).mp ((lg_cmp_ge (lI x) (lI y)).mp q)) E H locs ls hH hS hl) (fun q => kf (Int.not_le.mp (fun z => q ((lg_cmp_ge (lI x) (lI y)).mpr ((lI_le hy hx).mpr z)))) E H locs ls hH hS hl))
theorem k_icmp_gt {x y off : Int} (tgt : Nat) (d : decode cc pc = .ok (.if_icmp .gt off, 3)) (ht : (pc : Int) + off = (tgt : Int)) (hx : inI x) (hy : inI y) (kt : y < x → k_G θ κ cc nL ret own R Q L f k n tgt lv st) (kf : x ≤ y → k_G θ κ cc nL ret own R Q L f k n (pc + 3) lv st) : k_G θ κ cc nL ret own R Q L f k n pc lv (.int (iI y) :: .int (iI x) :: st) :=
  fun E H locs ls hH hS hl => lv_icmp_gt E.1 E.2.1 d ht (fun q => kt ((iI_lt hy hx).mp q) E H locs ls hH hS hl) (fun q => kf (Int.not_lt.mp (fun z => q ((iI_lt hy hx).mpr z))) E H locs ls hH hS hl)
theorem k_if_gt {x off : Int} (tgt : Nat) (d : decode cc pc = .ok (.ifCond .gt off, 3)) (ht : (pc : Int) + off = (tgt : Int)) (hx : inI x) (kt : 0 < x → k_G θ κ cc nL ret own R Q L f k n tgt lv st) (kf : x ≤ 0 → k_G θ κ cc nL ret own R Q L f k n (pc + 3) lv st) : k_G θ κ cc nL ret own R Q L f k n pc lv (.int (iI x) :: st) :=
  fun E H locs ls hH hS hl => lv_if_gt E.1 E.2.1 d ht (fun q => kt ((iI_lt inI_0 hx).mp q) E H locs ls hH hS hl) (fun q => kf (Int.not_lt.mp (fun z => q ((iI_lt inI_0 hx).mpr z))) E H locs ls hH hS hl)
theorem k_lcmp_gt {x y off : Int} (tgt : Nat) (d0 : decode cc pc = .ok (.lcmp, 1)) (d : decode cc (pc + 1) = .ok (.ifCond .gt off, 3)) (ht : ((pc + 1 : Nat) : Int) + off = (tgt : Int)) (hx : inL x) (hy : inL y) (kt : y < x → k_G θ κ cc nL ret own R Q L f k n tgt lv st) (kf : x ≤ y → k_G θ κ cc nL ret own R Q L f k n (pc + 1 + 3) lv st) : k_G θ κ cc nL ret own R Q L f k n pc lv (.long (lI y) :: .long (lI x) :: st) :=
  fun E H locs ls hH hS hl => W.lcmp E.1 E.2.1 d0 (lv_if_gt E.1 E.2.1 d ht (fun q => kt ((lI_lt hy hx).mp ((lg_cmp_gt (lI x) (lI y)).mp q)) E H locs ls hH hS hl) (fun q => kf (Int.not_lt.mp (fun z => q ((lg_cmp_gt (lI x) (lI y)).mpr ((lI_lt hy hx).mpr z)))) E H locs ls hH hS hl))
theorem k_icmp_le {x y off : Int} (tgt : Nat) (d : decode cc pc = .ok (.if_icmp .le off, 3)) (ht : (pc : Int) + off = (tgt : Int)) (hx : inI x) (hy : inI y) (kt : x ≤ y → k_G θ κ cc nL ret own R Q L f k n tgt lv st) (kf : y < x → k_G θ κ cc nL ret own R Q L f k n (pc + 3) lv st) : k_G θ κ cc nL ret own R Q L f k n pc lv (.int (iI y) :: .int (iI x) :: st) :=
  fun E H locs ls hH hS hl => lv_icmp_le E.1 E.2.1 d ht (fun q => kt ((iI_le hx hy).mp q) E H locs ls hH hS hl) (fun q => kf (Int.not_le.mp (fun z => q ((iI_le hx hy).mpr z))) E H locs ls hH hS hl)
theorem k_if_le {x off : Int} (tgt : Nat) (d : decode cc pc = .ok (.ifCond .le off, 3)) (ht : (pc : Int) + off = (tgt : Int)) (hx : inI x) (kt : x ≤ 0 → k_G θ κ cc nL ret own R Q L f k n tgt lv st) (kf : 0 < x → k_G θ κ cc nL ret own R Q L f k n (pc + 3) lv st) : k_G θ κ cc nL ret own R Q L f k n pc lv (.int (iI x) :: st) :=
  fun E H locs ls hH hS hl => lv_if_le E.1 E.2.1 d ht (fun q => kt ((iI_le hx inI_0).mp q) E H locs ls hH hS hl) (fun q => kf (Int.not_le.mp (fun z => q ((iI_le hx inI_0).mpr z))) E H locs ls hH hS hl)
theorem k_lcmp_le {x y off : Int} (tgt : Nat) (d0 : decode cc pc = .ok (.lcmp, 1)) (d : decode cc (pc + 1) = .ok (.ifCond .le off, 3)) (ht : ((pc + 1 : Nat) : Int) + off = (tgt : Int)) (hx : inL x) (hy : inL y) (kt : x ≤ y → k_G θ κ cc nL ret own R Q L f k n tgt lv st) (kf : y < x → k_G θ κ cc nL ret own R Q L f k n (pc + 1 + 3) lv st) : k_G θ κ cc nL ret own R Q L f k n pc lv (.long (lI y) :: .long (lI x) :: st) :=
  fun E H locs ls hH hS hl => W.lcmp E.1 E.2.1 d0 (lv_if_le E.1 E.2.1 d ht (fun q => kt ((lI_le hx hy).mp ((lg_cmp_le (lI x) (lI y)).mp q)) E H locs ls hH hS hl) (fun q => kf (Int.not_le.mp (fun z => q ((lg_cmp_le (lI x) (lI y)).mpr ((lI_le hx hy).mpr z)))) E H locs ls hH hS hl))
theorem k_icmp_eq {x y off : Int} (tgt : Nat) (d : decode cc pc = .ok (.if_icmp .eq off, 3)) (ht : (pc : Int) + off = (tgt : Int)) (hx : inI x) (hy : inI y) (kt : x = y → k_G θ κ cc nL ret own R Q L f k n tgt lv st) (kf : x ≠ y → k_G θ κ cc nL ret own R Q L f k n (pc + 3) lv st) : k_G θ κ cc nL ret own R Q L f k n pc lv (.int (iI y) :: .int (iI x) :: st) :=
  fun E H locs ls hH hS hl => lv_icmp_eq E.1 E.2.1 d ht (fun q => kt ((iI_eq hx hy).mp q) E H locs ls hH hS hl) (fun q => kf (fun z => q ((iI_eq hx hy).mpr z)) E H locs ls hH hS hl)
theorem k_if_eq {x off : Int} (tgt : Nat) (d : decode cc pc = .ok (.ifCond .eq off, 3)) (ht : (pc : Int) + off = (tgt : Int)) (hx : inI x) (kt : x = 0 → k_G θ κ cc nL ret own R Q L f k n tgt lv st) (kf : x ≠ 0 → k_G θ κ cc nL ret own R Q L f k n (pc + 3) lv st) : k_G θ κ cc nL ret own R Q L f k n pc lv (.int (iI x) :: st) :=
  fun E H locs ls hH hS hl => lv_if_eq E.1 E.2.1 d ht (fun q => kt ((iI_eq hx inI_0).mp q) E H locs ls hH hS hl) (fun q => kf (fun z => q ((iI_eq hx inI_0).mpr z)) E H locs ls hH hS hl)
theorem k_lcmp_eq {x y off : Int} (tgt : Nat) (d0 : decode cc pc = .ok (.lcmp, 1)) (d : decode cc (pc + 1) = .ok (.ifCond .eq off, 3)) (ht : ((pc + 1 : Nat) : Int) + off = (tgt : Int)) (hx : inL x) (hy : inL y) (kt : x = y → k_G θ κ cc nL ret own R Q L f k n tgt lv st) (kf : x ≠ y → k_G θ κ cc nL ret own R Q L f k n (pc + 1 + 3) lv st) : k_G θ κ cc nL ret own R Q L f k n pc lv (.long (lI y) :: .long (lI x) :: st) :=
  fun E H locs ls hH hS hl => W.lcmp E.1 E.2.1 d0 (lv_if_eq E.1 E.2.1 d ht (fun q => kt ((lI_eq hx hy).mp ((lg_cmp_eq (lI x) (lI y)).mp q)) E H locs ls hH hS hl) (fun q => kf (fun z => q ((lg_cmp_eq (lI x) (lI y)).mpr ((lI_eq hx hy).mpr z))) E H locs ls hH hS hl))
theorem k_icmp_ne {x y off : Int} (tgt : Nat) (d : decode cc pc = .ok (.if_icmp .ne off, 3)) (ht : (pc : Int) + off = (tgt : Int)) (hx : inI x) (hy : inI y) (kt : x ≠ y → k_G θ κ cc nL ret own R Q L f k n tgt lv st) (kf : x = y → k_G θ κ cc nL ret own R Q L f k n (pc + 3) lv st) : k_G θ κ cc nL ret own R Q L f k n pc lv (.int (iI y) :: .int (iI x) :: st) :=
  fun E H locs ls hH hS hl => lv_icmp_ne E.1 E.2.1 d ht (fun q => kt (fun z => q ((iI_eq hx hy).mpr z)) E H locs ls hH hS hl) (fun q => kf ((iI_eq hx hy).mp q) E H locs ls hH hS hl)
theorem k_if_ne {x off : Int} (tgt : Nat) (d : decode cc pc = .ok (.ifCond .ne off, 3)) (ht : (pc : Int) + off = (tgt : Int)) (hx : inI x) (kt : x ≠ 0 → k_G θ κ cc nL ret own R Q L f k n tgt lv st) (kf : x = 0 → k_G θ κ cc nL ret own R Q L f k n (pc + 3) lv st) : k_G θ κ cc nL ret own R Q L f k n pc lv (.int (iI x) :: st) :=
  fun E H locs ls hH hS hl => lv_if_ne E.1 E.2.1 d ht (fun q => kt (fun z => q ((iI_eq hx inI_0).mpr z)) E H locs ls hH hS hl) (fun q => kf ((iI_eq hx inI_0).mp q) E H locs ls hH hS hl)
theorem k_lcmp_ne {x y off : Int} (tgt : Nat) (d0 : decode cc pc = .ok (.lcmp, 1)) (d : decode cc (pc + 1) = .ok (.ifCond .ne off, 3)) (ht : ((pc + 1 : Nat) : Int) + off = (tgt : Int)) (hx : inL x) (hy : inL y) (kt : x ≠ y → k_G θ κ cc nL ret own R Q L f k n tgt lv st) (kf : x = y → k_G θ κ cc nL ret own R Q L f k n (pc + 1 + 3) lv st) : k_G θ κ cc nL ret own R Q L f k n pc lv (.long (lI y) :: .long (lI x) :: st) :=
  fun E H locs ls hH hS hl => W.lcmp E.1 E.2.1 d0 (lv_if_ne E.1 E.2.1 d ht (fun q => kt (fun z => q ((lg_cmp_eq (lI x) (lI y)).mpr ((lI_eq hx hy).mpr z))) E H locs ls hH hS hl) (fun q => kf ((lI_eq hx hy).mp ((lg_cmp_eq (lI x) (lI y)).mp q)) E H locs ls hH hS hl))
theorem bI_eq0 {b : Bool} : bI b = 0 ↔ b = false := by cases b <;> decide
theorem bI_in (b : Bool) : inI (bI b) := by cases b <;> exact ⟨by decide, by decide⟩
theorem k_ifb_eq {b : Bool} {off : Int} (tgt : Nat) (d : decode cc pc = .ok (.ifCond .eq off, 3)) (ht : (pc : Int) + off = (tgt : Int)) (kt : b = false → k_G θ κ cc nL ret own R Q L f k n tgt lv st) (kf : b = true → k_G θ κ cc nL ret own R Q L f k n (pc + 3) lv st) : k_G θ κ cc nL ret own R Q L f k n pc lv (.int (iI (bI b)) :: st) :=
  k_if_eq tgt d ht (bI_in b) (fun q => kt (bI_eq0.mp q)) (fun q => kf (by cases b with | true => rfl | false => exact absurd rfl q))
theorem k_ifb_ne {b : Bool} {off : Int} (tgt : Nat) (d : decode cc pc = .ok (.ifCond .ne off, 3)) (ht : (pc : Int) + off = (tgt : Int)) (kt : b = true → k_G θ κ cc nL ret own R Q L f k n tgt lv st) (kf : b = false → k_G θ κ cc nL ret own R Q L f k n (pc + 3) lv st) : k_G θ κ cc nL ret own R Q L f k n pc lv (.int (iI (bI b)) :: st) :=
  k_if_ne tgt d ht (bI_in b) (fun q => kt (by cases b with | true => rfl | false => exact absurd rfl q)) (fun q => kf (bI_eq0.mp q))
/-- a switch: at the place of a number that it has, or beside them all -/
theorem k_swIn {x dflt lo hi off : Int} {offs : Array Int} {len : Nat} (z : Int) (tgt : Nat) (d : decode cc pc = .ok (.tableswitch dflt lo hi offs, len)) (hx : inI x) (hz : x = z) (h1 : lo ≤ z) (h2 : z ≤ hi) (ho : offs[(z - lo).toNat]? = some off) (ht : (pc : Int) + off = (tgt : Int)) (kk : k_G θ κ cc nL ret own R Q L f k n tgt lv st) : k_G θ κ cc nL ret own R Q L f k n pc lv (.int (iI x) :: st) :=
  fun E H locs ls hH hS hl => by
    subst hz
    exact lv_tableIn E.1 E.2.1 d (by rw [iI_int hx]; omega) (by rw [iI_int hx]; omega) (by rw [iI_int hx]; exact ho) ht (kk E H locs ls hH hS hl)
theorem k_swOut {x dflt lo hi : Int} {offs : Array Int} {len : Nat} (tgt : Nat) (d : decode cc pc = .ok (.tableswitch dflt lo hi offs, len)) (hx : inI x) (h : x < lo ∨ hi < x) (ht : (pc : Int) + dflt = (tgt : Int)) (kk : k_G θ κ cc nL ret own R Q L f k n tgt lv st) : k_G θ κ cc nL ret own R Q L f k n pc lv (.int (iI x) :: st) :=
  fun E H locs ls hH hS hl => lv_tableOut E.1 E.2.1 d (by rw [iI_int hx]; exact h) ht (kk E H locs ls hH hS hl)
end Branches
section Memory
variable {θ : Kt} {κ : Kx} {cc : ByteArray} {nL : Nat} {ret : Option FieldType} {own : String} {R : Room} {Q : State → Prop} {L : List Nat} {f : Nat → wE} {k n pc : Nat} {lv : List (Nat × Value)} {st : List Value} {a tg : Nat}
theorem k_get {C : String} {T : u_T} {N ci i : Nat} {fs : List Value} {v : Value} (j : Nat) (ic : ∀ w ∈ u_ws C T N, w ∈ lw_tbl) (hq : Cond.fieldLink own i (T j).1 (T j).2.1 (T j).2.2.1 ∈ lw_tbl) (hc : Cl L f a (tg, .inr (ci, fs))) (hci : vwCl[ci]? = some (C, T, N)) (hj : j < N) (hv : fs[j]? = some v) (d : decode cc pc = .ok (.getfield i, 3)) (kk : k_G θ κ cc nL ret own R Q L f k n (pc + 3) lv (v :: st)) : k_G θ κ cc nL ret own R Q L f k n pc lv (.ref a :: st) := by
  intro E H locs ls hH hS hl
  obtain ⟨q0, hq0⟩ := k_pos hc
  exact va_get E.1 E.2.1 (E.cls ic) (fun _ h => h) E.2.2.2.1 E.K hH.1 q0 hq0 hci j hj (E.word hq rfl) (fun _ h => h) hv d (kk E H locs ls hH hS hl)
theorem k_getN {C : String} {T : u_T} {N ci i : Nat} {fs : List Value} {v : Value} {host : String} (j : Nat) (ic : ∀ w ∈ u_ws C T N, w ∈ lw_tbl) (hq : Cond.fieldLinkNest own i (T j).1 (T j).2.1 (T j).2.2.1 host ∈ lw_tbl) (hc : Cl L f a (tg, .inr (ci, fs))) (hci : vwCl[ci]? = some (C, T, N)) (hj : j < N) (hv : fs[j]? = some v) (d : decode cc pc = .ok (.getfield i, 3)) (kk : k_G θ κ cc nL ret own R Q L f k n (pc + 3) lv (v :: st)) : k_G θ κ cc nL ret own R Q L f k n pc lv (.ref a :: st) := by
  intro E H locs ls hH hS hl
  obtain ⟨q0, hq0⟩ := k_pos hc
  exact va_getN E.1 E.2.1 (E.cls ic) (fun _ h => h) E.2.2.2.1 E.K hH.1 q0 hq0 hci j hj (E.word hq rfl) (fun _ h => h) hv d (kk E H locs ls hH hS hl)
/-- a field read through a class that inherits it -/
theorem k_getS {C ref : String} {T : u_T} {N ci i : Nat} {fs : List Value} {v : Value} (j : Nat) (ic : ∀ w ∈ u_ws C T N, w ∈ lw_tbl) (hq : Cond.fieldLink own i ref (T j).2.1 (T j).2.2.1 ∈ lw_tbl) (hs : Cond.sameField ref (T j).1 (T j).2.1 (T j).2.2.1 ∈ lw_tbl) (hc : Cl L f a (tg, .inr (ci, fs))) (hci : vwCl[ci]? = some (C, T, N)) (hj : j < N) (hv : fs[j]? = some v) (d : decode cc pc = .ok (.getfield i, 3)) (kk : k_G θ κ cc nL ret own R Q L f k n (pc + 3) lv (v :: st)) : k_G θ κ cc nL ret own R Q L f k n pc lv (.ref a :: st) := by
  intro E H locs ls hH hS hl
  obtain ⟨q0, hq0⟩ := k_pos hc
  exact va_get E.1 E.2.1 (E.cls ic) (fun _ h => h) E.2.2.2.1 E.K hH.1 q0 hq0 hci j hj (E.word hq rfl) (fun x h => u_same (E.word hs rfl) x h) hv d (kk E H locs ls hH hS hl)
theorem k_Hset {κ : Kx} {L : List Nat} {f : Nat → wE} {H : Heap} {a q0 tg : Nat} {x y : va_E} (hD : va_D (kA κ) (va_pl L (kf f))) (hc : Cl L f a (tg, x)) (hq0 : (va_pl L (kf f))[q0]? = some (a, x)) (p1 : va_P κ.1 vwCl ((va_pl L (kf f)).set q0 (a, y)) H) (p2 : va_D (kA κ) ((va_pl L (kf f)).set q0 (a, y))) :
    k_H κ L (va_up f a (tg, y)) H ∧ (∀ b, b ≠ a → va_up f a (tg, y) b = f b) ∧ Cl L (va_up f a (tg, y)) a (tg, y) := by
  rw [k_set (e := (tg, x)) (x := y) hD hc hq0] at p1 p2
  exact ⟨⟨p1, p2⟩, fun b hb => va_up_ne f _ hb, hc.1, va_up_self f a _⟩
theorem k_put {C : String} {T : u_T} {ty0 : Nat → FieldType} {N ci i : Nat} {fs : List Value} {v : Value} {ty : FieldType} (j : Nat) (fs' : List Value) (ic : ∀ w ∈ u_ws C T N, w ∈ lw_tbl) (ity : ∀ k, k < N → parseFieldDescriptor (T k).2.2.1 = some (ty0 k)) (inm : ∀ a, a < N → ∀ b, b < N → a ≠ b → (T a).2.1 ≠ (T b).2.1) (hq : Cond.fieldLink own i (T j).1 (T j).2.1 (T j).2.2.1 ∈ lw_tbl) (hc : Cl L f a (tg, .inr (ci, fs))) (hci : vwCl[ci]? = some (C, T, N)) (hj : j < N) (hfin : (T j).2.2.2 = false) (hty : ty0 j = ty) (hn : narrow ty v = v) (hfit : fits ty v = true) (hjl : j < fs.length) (hfs : fs.set j v = fs') (d : decode cc pc = .ok (.putfield i, 3))
    (kk : ∀ f' : Nat → wE, (∀ b, b ≠ a → f' b = f b) → Cl L f' a (tg, .inr (ci, fs')) → k_G θ κ cc nL ret own R Q L f' k n (pc + 3) lv st) : k_G θ κ cc nL ret own R Q L f k n pc lv (v :: .ref a :: st) := by
  intro E H locs ls hH hS hl
  obtain ⟨q0, hq0⟩ := k_pos hc
  refine va_put E.1 E.2.1 (E.cls ic) (fun _ h => h) ty0 ity inm E.2.2.2.1 E.K hH.1 hH.2 hS q0 hq0 hci j hj (E.word hq rfl) (fun _ h => h) hfin (by rw [ity j hj, hty]) hn hfit hjl d (fun H1 locs1 p1 p2 p3 => ?_)
  rw [hfs] at p1 p2
  obtain ⟨h1, h2, h3⟩ := k_Hset hH.2 hc hq0 p1 p2
  exact kk _ h2 h3 E H1 locs1 ls h1 p3 hl
theorem k_putN {C : String} {T : u_T} {ty0 : Nat → FieldType} {N ci i : Nat} {fs : List Value} {v : Value} {ty : FieldType} {host : String} (j : Nat) (fs' : List Value) (ic : ∀ w ∈ u_ws C T N, w ∈ lw_tbl) (ity : ∀ k, k < N → parseFieldDescriptor (T k).2.2.1 = some (ty0 k)) (inm : ∀ a, a < N → ∀ b, b < N → a ≠ b → (T a).2.1 ≠ (T b).2.1) (hq : Cond.fieldLinkNest own i (T j).1 (T j).2.1 (T j).2.2.1 host ∈ lw_tbl) (hc : Cl L f a (tg, .inr (ci, fs))) (hci : vwCl[ci]? = some (C, T, N)) (hj : j < N) (hfin : (T j).2.2.2 = false) (hty : ty0 j = ty) (hn : narrow ty v = v) (hfit : fits ty v = true) (hjl : j < fs.length) (hfs : fs.set j v = fs') (d : decode cc pc = .ok (.putfield i, 3))
    (kk : ∀ f' : Nat → wE, (∀ b, b ≠ a → f' b = f b) → Cl L f' a (tg, .inr (ci, fs')) → k_G θ κ cc nL ret own R Q L f' k n (pc + 3) lv st) : k_G θ κ cc nL ret own R Q L f k n pc lv (v :: .ref a :: st) := by
  intro E H locs ls hH hS hl
  obtain ⟨q0, hq0⟩ := k_pos hc
  refine va_putN E.1 E.2.1 (E.cls ic) (fun _ h => h) ty0 ity inm E.2.2.2.1 E.K hH.1 hH.2 hS q0 hq0 hci j hj (E.word hq rfl) (fun _ h => h) hfin (by rw [ity j hj, hty]) hn hfit hjl d (fun H1 locs1 p1 p2 p3 => ?_)
  rw [hfs] at p1 p2
  obtain ⟨h1, h2, h3⟩ := k_Hset hH.2 hc hq0 p1 p2
  exact kk _ h2 h3 E H1 locs1 ls h1 p3 hl
theorem k_putF {C : String} {T : u_T} {ty0 : Nat → FieldType} {N ci i : Nat} {fs : List Value} {v : Value} {ty : FieldType} (j : Nat) (fs' : List Value) (ic : ∀ w ∈ u_ws C T N, w ∈ lw_tbl) (ity : ∀ k, k < N → parseFieldDescriptor (T k).2.2.1 = some (ty0 k)) (inm : ∀ a, a < N → ∀ b, b < N → a ≠ b → (T a).2.1 ≠ (T b).2.1) (hq : Cond.fieldLink own i (T j).1 (T j).2.1 (T j).2.2.1 ∈ lw_tbl) (hc : Cl L f a (tg, .inr (ci, fs))) (hci : vwCl[ci]? = some (C, T, N)) (hj : j < N) (hfin : (T j).2.2.2 = true) (hin : θ.2.2.2.2.2.2.2.1.name = "<init>") (hdc : (T j).1 = own) (hty : ty0 j = ty) (hn : narrow ty v = v) (hfit : fits ty v = true) (hjl : j < fs.length) (hfs : fs.set j v = fs') (d : decode cc pc = .ok (.putfield i, 3))
    (kk : ∀ f' : Nat → wE, (∀ b, b ≠ a → f' b = f b) → Cl L f' a (tg, .inr (ci, fs')) → k_G θ κ cc nL ret own R Q L f' k n (pc + 3) lv st) : k_G θ κ cc nL ret own R Q L f k n pc lv (v :: .ref a :: st) := by
  intro E H locs ls hH hS hl
  obtain ⟨q0, hq0⟩ := k_pos hc
  refine va_putF E.1 E.2.1 (E.cls ic) (fun _ h => h) ty0 ity inm E.2.2.2.1 E.K hH.1 hH.2 hS q0 hq0 hci j hj (E.word hq rfl) (fun _ h => h) hfin hin hdc (by rw [ity j hj, hty]) hn hfit hjl d (fun H1 locs1 p1 p2 p3 => ?_)
  rw [hfs] at p1 p2
  obtain ⟨h1, h2, h3⟩ := k_Hset hH.2 hc hq0 p1 p2
  exact kk _ h2 h3 E H1 locs1 ls h1 p3 hl
theorem k_putS {C : String} {T : u_T} {ty0 : Nat → FieldType} {N ci i : Nat} {fs : List Value} {v : Value} {ty : FieldType} {ref : String} (j : Nat) (fs' : List Value) (ic : ∀ w ∈ u_ws C T N, w ∈ lw_tbl) (ity : ∀ k, k < N → parseFieldDescriptor (T k).2.2.1 = some (ty0 k)) (inm : ∀ a, a < N → ∀ b, b < N → a ≠ b → (T a).2.1 ≠ (T b).2.1) (hq : Cond.fieldLink own i ref (T j).2.1 (T j).2.2.1 ∈ lw_tbl) (hs : Cond.sameField ref (T j).1 (T j).2.1 (T j).2.2.1 ∈ lw_tbl) (hc : Cl L f a (tg, .inr (ci, fs))) (hci : vwCl[ci]? = some (C, T, N)) (hj : j < N) (hfin : (T j).2.2.2 = false) (hty : ty0 j = ty) (hn : narrow ty v = v) (hfit : fits ty v = true) (hjl : j < fs.length) (hfs : fs.set j v = fs') (d : decode cc pc = .ok (.putfield i, 3))
    (kk : ∀ f' : Nat → wE, (∀ b, b ≠ a → f' b = f b) → Cl L f' a (tg, .inr (ci, fs')) → k_G θ κ cc nL ret own R Q L f' k n (pc + 3) lv st) : k_G θ κ cc nL ret own R Q L f k n pc lv (v :: .ref a :: st) := by
  intro E H locs ls hH hS hl
  obtain ⟨q0, hq0⟩ := k_pos hc
  refine va_put E.1 E.2.1 (E.cls ic) (fun _ h => h) ty0 ity inm E.2.2.2.1 E.K hH.1 hH.2 hS q0 hq0 hci j hj (E.word hq rfl) (fun x h => u_same (E.word hs rfl) x h) hfin (by rw [ity j hj, hty]) hn hfit hjl d (fun H1 locs1 p1 p2 p3 => ?_)
  rw [hfs] at p1 p2
  obtain ⟨h1, h2, h3⟩ := k_Hset hH.2 hc hq0 p1 p2
  exact kk _ h2 h3 E H1 locs1 ls h1 p3 hl
theorem k_iald {N : Nat} {G : Nat → Int} {x : Int} (j : Nat) (hc : Cl L f a (tg, .inl (κ.2.2.1 0, N, .inl (fun i => iI (G i))))) (hx : x = (j : Int)) (hj : j < N) (hN : N < 2147483648) (d : decode cc pc = .ok (.iaload, 1)) (kk : k_G θ κ cc nL ret own R Q L f k n (pc + 1) lv (.int (iI (G j)) :: st)) : k_G θ κ cc nL ret own R Q L f k n pc lv (.int (iI x) :: .ref a :: st) := by
  intro E H locs ls hH hS hl
  obtain ⟨q0, hq0⟩ := k_pos hc
  refine va_iald E.1 E.2.1 E.K hH.1 q0 0 hq0 rfl (iI_in hx hj hN) d ?_
  rw [iI_cl hx (Nat.lt_trans hj hN)]
  exact kk E H locs ls hH hS hl
theorem k_iast {N : Nat} {G : Nat → Int} {x : Int} {z : Int} (j : Nat) (hc : Cl L f a (tg, .inl (κ.2.2.1 0, N, .inl (fun i => iI (G i))))) (hx : x = (j : Int)) (hj : j < N) (hN : N < 2147483648) (d : decode cc pc = .ok (.iastore, 1))
    (kk : ∀ f' : Nat → wE, (∀ b, b ≠ a → f' b = f b) → Cl L f' a (tg, .inl (κ.2.2.1 0, N, .inl (fun i => iI (va_up G j z i)))) → k_G θ κ cc nL ret own R Q L f' k n (pc + 1) lv st) : k_G θ κ cc nL ret own R Q L f k n pc lv (.int (iI z) :: .int (iI x) :: .ref a :: st) := by
  intro E H locs ls hH hS hl
  obtain ⟨q0, hq0⟩ := k_pos hc
  refine va_iast E.1 E.2.1 E.K hH.1 hH.2 hS q0 0 hq0 rfl (iI_in hx hj hN) d (fun H1 locs1 p1 p2 p3 => ?_)
  rw [iI_cl hx (Nat.lt_trans hj hN)] at p1 p2
  have e : upd (fun i => iI (G i)) j (iI z) = fun i => iI (va_up G j z i) := by
    funext i
    unfold upd va_up
    split
    · rfl
    · rfl
  rw [e] at p1 p2
  obtain ⟨h1, h2, h3⟩ := k_Hset hH.2 hc hq0 p1 p2
  exact kk _ h2 h3 E H1 locs1 ls h1 p3 hl
theorem k_zald {N : Nat} {G : Nat → Bool} {x : Int} (j : Nat) (hc : Cl L f a (tg, .inl (κ.2.2.1 2, N, .inl (fun i => iI (bI (G i)))))) (hx : x = (j : Int)) (hj : j < N) (hN : N < 2147483648) (d : decode cc pc = .ok (.baload, 1)) (kk : k_G θ κ cc nL ret own R Q L f k n (pc + 1) lv (.int (iI (bI (G j))) :: st)) : k_G θ κ cc nL ret own R Q L f k n pc lv (.int (iI x) :: .ref a :: st) := by
  intro E H locs ls hH hS hl
  obtain ⟨q0, hq0⟩ := k_pos hc
  refine va_zald E.1 E.2.1 E.K hH.1 q0 2 hq0 rfl (iI_in hx hj hN) d ?_
  rw [iI_cl hx (Nat.lt_trans hj hN)]
  exact kk E H locs ls hH hS hl
theorem k_zast {N : Nat} {G : Nat → Bool} {x : Int} {z : Bool} (j : Nat) (hc : Cl L f a (tg, .inl (κ.2.2.1 2, N, .inl (fun i => iI (bI (G i)))))) (hx : x = (j : Int)) (hj : j < N) (hN : N < 2147483648) (d : decode cc pc = .ok (.bastore, 1))
    (kk : ∀ f' : Nat → wE, (∀ b, b ≠ a → f' b = f b) → Cl L f' a (tg, .inl (κ.2.2.1 2, N, .inl (fun i => iI (bI (va_up G j z i))))) → k_G θ κ cc nL ret own R Q L f' k n (pc + 1) lv st) : k_G θ κ cc nL ret own R Q L f k n pc lv (.int (iI (bI z)) :: .int (iI x) :: .ref a :: st) := by
  intro E H locs ls hH hS hl
  obtain ⟨q0, hq0⟩ := k_pos hc
  refine va_zast E.1 E.2.1 E.K hH.1 hH.2 hS q0 2 hq0 rfl (iI_in hx hj hN) d (fun H1 locs1 p1 p2 p3 => ?_)
  rw [iI_cl hx (Nat.lt_trans hj hN)] at p1 p2
  have e : upd (fun i => iI (bI (G i))) j (vp_nar .boolean (iI (bI z))) = fun i => iI (bI (va_up G j z i)) := by
    funext i
    unfold upd va_up
    split
    · cases z <;> decide
    · rfl
  rw [e] at p1 p2
  obtain ⟨h1, h2, h3⟩ := k_Hset hH.2 hc hq0 p1 p2
  exact kk _ h2 h3 E H1 locs1 ls h1 p3 hl
theorem k_aald {N : Nat} {G : Nat → Option Nat} {x : Int} {y : Nat} (j : Nat) (hc : Cl L f a (tg, .inl (κ.2.2.1 3, N, .inr (.inr (.inr (.inr G)))))) (hx : x = (j : Int)) (hj : j < N) (hN : N < 2147483648) (hy : G j = some y) (d : decode cc pc = .ok (.aaload, 1)) (kk : k_G θ κ cc nL ret own R Q L f k n (pc + 1) lv (.ref y :: st)) : k_G θ κ cc nL ret own R Q L f k n pc lv (.int (iI x) :: .ref a :: st) := by
  intro E H locs ls hH hS hl
  obtain ⟨q0, hq0⟩ := k_pos hc
  refine va_aldq E.1 E.2.1 E.K hH.1 q0 3 hq0 rfl (iI_in hx hj hN) d ?_
  rw [iI_cl hx (Nat.lt_trans hj hN), hy]
  exact kk E H locs ls hH hS hl
theorem k_aast {N ci tv v : Nat} {G : Nat → Option Nat} {x : Int} {vs : List Value} {r : vw_C} (j : Nat) (hc : Cl L f a (tg, .inl (κ.2.2.1 3, N, .inr (.inr (.inr (.inr G)))))) (hv : Cl L f v (tv, .inr (ci, vs))) (hci : vwCl[ci]? = some r) (hq : Cond.castable r.1 "java/lang/Object" ∈ lw_tbl) (hx : x = (j : Int)) (hj : j < N) (hN : N < 2147483648) (d : decode cc pc = .ok (.aastore, 1))
    (kk : ∀ f' : Nat → wE, (∀ b, b ≠ a → f' b = f b) → Cl L f' a (tg, .inl (κ.2.2.1 3, N, .inr (.inr (.inr (.inr (va_up G j (some v))))))) → k_G θ κ cc nL ret own R Q L f' k n (pc + 1) lv st) : k_G θ κ cc nL ret own R Q L f k n pc lv (.ref v :: .int (iI x) :: .ref a :: st) := by
  intro E H locs ls hH hS hl
  obtain ⟨q0, hq0⟩ := k_pos hc
  obtain ⟨q1, hq1⟩ := k_pos hv
  refine va_astqO E.1 E.2.1 E.K hH.1 hH.2 hS q0 3 q1 ci hq0 rfl (E.2.2.2.2.1.2.1 _ hq rfl) hq1 hci (iI_in hx hj hN) d (fun H1 locs1 p1 p2 p3 => ?_)
  rw [iI_cl hx (Nat.lt_trans hj hN)] at p1 p2
  obtain ⟨h1, h2, h3⟩ := k_Hset hH.2 hc hq0 p1 p2
  exact kk _ h2 h3 E H1 locs1 ls h1 p3 hl
theorem k_aastN {N : Nat} {G : Nat → Option Nat} {x : Int} (j : Nat) (hc : Cl L f a (tg, .inl (κ.2.2.1 3, N, .inr (.inr (.inr (.inr G)))))) (hx : x = (j : Int)) (hj : j < N) (hN : N < 2147483648) (d : decode cc pc = .ok (.aastore, 1))
    (kk : ∀ f' : Nat → wE, (∀ b, b ≠ a → f' b = f b) → Cl L f' a (tg, .inl (κ.2.2.1 3, N, .inr (.inr (.inr (.inr (va_up G j none)))))) → k_G θ κ cc nL ret own R Q L f' k n (pc + 1) lv st) : k_G θ κ cc nL ret own R Q L f k n pc lv (.null :: .int (iI x) :: .ref a :: st) := by
  intro E H locs ls hH hS hl
  obtain ⟨q0, hq0⟩ := k_pos hc
  refine va_astqN E.1 E.2.1 E.K hH.1 hH.2 hS q0 3 hq0 rfl (iI_in hx hj hN) d (fun H1 locs1 p1 p2 p3 => ?_)
  rw [iI_cl hx (Nat.lt_trans hj hN)] at p1 p2
  obtain ⟨h1, h2, h3⟩ := k_Hset hH.2 hc hq0 p1 p2
  exact kk _ h2 h3 E H1 locs1 ls h1 p3 hl
theorem k_alen {N t0 : Nat} {cA : ClassId} {x : (Nat → Int32) ⊕ (Nat → Int64) ⊕ (Nat → UInt32) ⊕ (Nat → UInt64) ⊕ (Nat → Option Nat)} {ty : FieldType} (hc : Cl L f a (tg, .inl (cA, N, x))) (ht : (k_tys κ)[t0]? = some (cA, ty)) (d : decode cc pc = .ok (.arraylength, 1)) (kk : k_G θ κ cc nL ret own R Q L f k n (pc + 1) lv (.int (iI (N : Int)) :: st)) : k_G θ κ cc nL ret own R Q L f k n pc lv (.ref a :: st) := by
  intro E H locs ls hH hS hl
  obtain ⟨q0, hq0⟩ := k_pos hc
  exact va_alen E.1 E.2.1 E.K hH.1 q0 t0 hq0 ht (iI_nI N).symm d (kk E H locs ls hH hS hl)
theorem k_new {C : String} {T : u_T} {ty0 : Nat → FieldType} {N ci i : Nat} (tg : Nat) (fs : List Value) (ic : ∀ w ∈ u_ws C T N, w ∈ lw_tbl) (ity : ∀ k, k < N → parseFieldDescriptor (T k).2.2.1 = some (ty0 k)) (h1 : Cond.classLink own i C ∈ lw_tbl) (h2 : Cond.instantiable C N ∈ lw_tbl) (h3 : Cond.initialized C ∈ lw_tbl) (hci : vwCl[ci]? = some (C, T, N)) (hfs : ∀ j, j < N → defaultValue (ty0 j) = vp_V fs j) (hk : k + 1 ≤ R.cells) (hn : n + N ≤ R.slots) (d : decode cc pc = .ok (.new i, 3))
    (kk : ∀ (q : Nat) (L' : List Nat) (f' : Nat → wE), (∀ z ∈ L, z ∈ L' ∧ f' z = f z) → q ∉ L → Cl L' f' q (tg, .inr (ci, fs)) → k_G θ κ cc nL ret own R Q L' f' (k + 1) (n + N) (pc + 3) lv (.ref q :: st)) : k_G θ κ cc nL ret own R Q L f k n pc lv st := by
  intro E H locs ls hH hS hl
  refine va_new E.1 E.2.1 (E.cls ic) (fun _ h => h) ty0 ity E.2.2.2.1 (E.word h1 rfl) (E.word h2 rfl) (E.word h3 rfl) E.K hH.1 hH.2 hS (fun q hq => Nat.le_trans E.2.2.2.2.2.2.1 hq) hci hfs hk hn d (fun q H1 p1 p2 p3 => ?_)
  obtain ⟨g1, g2⟩ := k_push tg p2
  rw [g2] at p1 p2
  exact kk q _ _ (fun z hz => ⟨List.mem_append_left _ hz, va_up_ne f _ (fun e => g1 (by rw [← e]; exact hz))⟩) g1 ⟨List.mem_append_right _ (List.mem_singleton.mpr rfl), va_up_self f q _⟩ E H1 locs ls ⟨p1, p2⟩ p3 hl
theorem k_newai {x : Int} (tg N : Nat) (h1 : Cond.arrayClass .int ∈ lw_tbl) (hx : x = (N : Int)) (hN : N ≤ 60000) (hk : k + 1 ≤ R.cells) (hn : n + N ≤ R.slots) (d : decode cc pc = .ok (.newarray .int, 2))
    (kk : ∀ (q : Nat) (L' : List Nat) (f' : Nat → wE), (∀ z ∈ L, z ∈ L' ∧ f' z = f z) → q ∉ L → Cl L' f' q (tg, .inl (κ.2.2.1 0, N, .inl (fun _ => iI 0))) → k_G θ κ cc nL ret own R Q L' f' (k + 1) (n + N) (pc + 2) lv (.ref q :: st)) : k_G θ κ cc nL ret own R Q L f k n pc lv (.int (iI x) :: st) := by
  intro E H locs ls hH hS hl
  refine va_newa (atype := .int) (ty := .int) (N' := N) (a0 := (N, .inl (fun _ => iI 0))) E.1 E.2.1 (E.word h1 rfl) rfl E.K hH.1 hH.2 hS (fun q hq => Nat.le_trans E.2.2.2.2.2.2.1 hq) (fun cA => rfl) (by rw [hx, iI_nI]; exact nI_pos (by omega)) (iI_cl hx (by omega)) (by show N * 4 ≤ 536870912; omega) hk hn d (fun q cA H1 p0 p1 p2 p3 => ?_)
  have e : cA = κ.2.2.1 0 := by
    have e1 := va_nm_int (p0.2 4 (cA, .int) rfl).2
    have e2 := va_nm_int (E.K.2 0 (κ.2.2.1 0, .int) rfl).2
    exact Option.some.inj (e1.symm.trans e2)
  subst e
  obtain ⟨g1, g2⟩ := k_push tg p2
  rw [g2] at p1 p2
  exact kk q _ _ (fun z hz => ⟨List.mem_append_left _ hz, va_up_ne f _ (fun e => g1 (by rw [← e]; exact hz))⟩) g1 ⟨List.mem_append_right _ (List.mem_singleton.mpr rfl), va_up_self f q _⟩ E H1 locs ls ⟨p1, p2⟩ p3 hl
theorem k_newaz {x : Int} (tg N : Nat) (h1 : Cond.arrayClass .boolean ∈ lw_tbl) (hx : x = (N : Int)) (hN : N ≤ 60000) (hk : k + 1 ≤ R.cells) (hn : n + N ≤ R.slots) (d : decode cc pc = .ok (.newarray .boolean, 2))
    (kk : ∀ (q : Nat) (L' : List Nat) (f' : Nat → wE), (∀ z ∈ L, z ∈ L' ∧ f' z = f z) → q ∉ L → Cl L' f' q (tg, .inl (κ.2.2.1 2, N, .inl (fun _ => iI (bI false)))) → k_G θ κ cc nL ret own R Q L' f' (k + 1) (n + N) (pc + 2) lv (.ref q :: st)) : k_G θ κ cc nL ret own R Q L f k n pc lv (.int (iI x) :: st) := by
  intro E H locs ls hH hS hl
  refine va_newa (atype := .boolean) (ty := .boolean) (N' := N) (a0 := (N, .inl (fun _ => iI (bI false)))) E.1 E.2.1 (E.word h1 rfl) rfl E.K hH.1 hH.2 hS (fun q hq => Nat.le_trans E.2.2.2.2.2.2.1 hq) (fun cA => rfl) (by rw [hx, iI_nI]; exact nI_pos (by omega)) (iI_cl hx (by omega)) (by show N * 1 ≤ 536870912; omega) hk hn d (fun q cA H1 p0 p1 p2 p3 => ?_)
  have e : cA = κ.2.2.1 2 := by
    have e1 := va_nm_boolean (p0.2 4 (cA, .boolean) rfl).2
    have e2 := va_nm_boolean (E.K.2 2 (κ.2.2.1 2, .boolean) rfl).2
    exact Option.some.inj (e1.symm.trans e2)
  subst e
  obtain ⟨g1, g2⟩ := k_push tg p2
  rw [g2] at p1 p2
  exact kk q _ _ (fun z hz => ⟨List.mem_append_left _ hz, va_up_ne f _ (fun e => g1 (by rw [← e]; exact hz))⟩) g1 ⟨List.mem_append_right _ (List.mem_singleton.mpr rfl), va_up_self f q _⟩ E H1 locs ls ⟨p1, p2⟩ p3 hl
theorem k_newq {x : Int} {i : Nat} (tg N : Nat) (h1 : Cond.classLink own i "java/lang/Object" ∈ lw_tbl) (hx : x = (N : Int)) (hN : N ≤ 60000) (hk : k + 1 ≤ R.cells) (hn : n + N ≤ R.slots) (d : decode cc pc = .ok (.anewarray i, 3))
    (kk : ∀ (q : Nat) (L' : List Nat) (f' : Nat → wE), (∀ z ∈ L, z ∈ L' ∧ f' z = f z) → q ∉ L → Cl L' f' q (tg, .inl (κ.2.2.1 3, N, .inr (.inr (.inr (.inr (fun _ => none)))))) → k_G θ κ cc nL ret own R Q L' f' (k + 1) (n + N) (pc + 3) lv (.ref q :: st)) : k_G θ κ cc nL ret own R Q L f k n pc lv (.int (iI x) :: st) := by
  intro E H locs ls hH hS hl
  refine va_newq (N' := N) E.1 E.2.1 E.2.2.2.1 (E.word h1 rfl) E.2.2.2.2.1.2.2.2.1 E.K hH.1 hH.2 hS (fun q hq => Nat.le_trans E.2.2.2.2.2.2.1 hq) (by rw [hx, iI_nI]; exact nI_pos (by omega)) (iI_cl hx (by omega)) (by omega) hk hn d (fun q cA H1 p0 p1 p2 p3 => ?_)
  have e : cA = κ.2.2.1 3 := by
    have e1 := va_nmO (p0.2 4 (cA, .object "java/lang/Object") rfl).2 rfl
    have e2 := va_nmO (E.K.2 3 (κ.2.2.1 3, .object "java/lang/Object") rfl).2 rfl
    exact Option.some.inj (e1.symm.trans e2)
  subst e
  obtain ⟨g1, g2⟩ := k_push tg p2
  rw [g2] at p1 p2
  exact kk q _ _ (fun z hz => ⟨List.mem_append_left _ hz, va_up_ne f _ (fun e => g1 (by rw [← e]; exact hz))⟩) g1 ⟨List.mem_append_right _ (List.mem_singleton.mpr rfl), va_up_self f q _⟩ E H1 locs ls ⟨p1, p2⟩ p3 hl
theorem k_castS {nm : String} {T : u_T} {N ci i : Nat} {fs : List Value} (h1 : Cond.classLink own i nm ∈ lw_tbl) (hc : Cl L f a (tg, .inr (ci, fs))) (hci : vwCl[ci]? = some (nm, T, N)) (d : decode cc pc = .ok (.checkcast i, 3)) (kk : k_G θ κ cc nL ret own R Q L f k n (pc + 3) lv (.ref a :: st)) : k_G θ κ cc nL ret own R Q L f k n pc lv (.ref a :: st) := by
  intro E H locs ls hH hS hl
  obtain ⟨q0, hq0⟩ := k_pos hc
  exact va_castS E.1 E.2.1 E.2.2.2.1 (E.word h1 rfl) (E.K.1 ci _ hci).2 (va_recv E.K hH.1 hci hq0) d (kk E H locs ls hH hS hl)
end Memory
end
section
/-! ===== calls and ends ===== -/
def k_ro (L : List Nat) (f : Nat → wE) (w : Value) : Option Value → List Nat → (Nat → wE) → Prop := fun v L' f' => v = some w ∧ L' = L ∧ f' = f
def k_rn (p : Value → List Nat → (Nat → wE) → Prop) : Option Value → List Nat → (Nat → wE) → Prop := fun v L' f' => ∃ w, v = some w ∧ p w L' f'
def k_ru (p : List Nat → (Nat → wE) → Prop) : Option Value → List Nat → (Nat → wE) → Prop := fun v L' f' => v = none ∧ p L' f'
/-- what a call links -/
def k_wB (own : String) (idx : Nat) (y : MethodName) (bytes : ByteArray) (maxL : Nat) (ret : Option FieldType) (nA : Nat) : Prop :=
  (Cond.methodLink own idx y ∈ lw_tbl ∧ Cond.initialized y.cls ∈ lw_tbl ∧ Cond.code y bytes maxL ret ∈ lw_tbl) ∧ (y.cls ≠ "java/lang/invoke/MethodHandle" ∧ y.cls ≠ "java/lang/invoke/VarHandle") ∧ (parseMethodDescriptor y.desc).map (fun d => d.parameters.length) = some nA
def k_wBN (own : String) (idx : Nat) (y : MethodName) (host : String) (bytes : ByteArray) (maxL : Nat) (ret : Option FieldType) (nA : Nat) : Prop :=
  (Cond.methodLinkNest own idx y host ∈ lw_tbl ∧ Cond.initialized y.cls ∈ lw_tbl ∧ Cond.code y bytes maxL ret ∈ lw_tbl) ∧ (y.cls ≠ "java/lang/invoke/MethodHandle" ∧ y.cls ≠ "java/lang/invoke/VarHandle") ∧ (parseMethodDescriptor y.desc).map (fun d => d.parameters.length) = some nA
def k_rm (d mc ms : Nat) : Room := { frames := d, cells := mc, slots := ms, locals := 30 * d }
/-- the contract: from the pool (L, f), with As for arguments, method y comes back with post -/
def k_M (l : Launch) (κ : Kx) (y : MethodName) (bytes : ByteArray) (maxL : Nat) (ret : Option FieldType) (d mc ms : Nat) (As : List Value) (L : List Nat) (f : Nat → wE) (post : Option Value → List Nat → (Nat → wE) → Prop) : Prop :=
  Met l y [Cond.code y bytes maxL ret] (k_rm d mc ms) (va_Pc As (k_I κ L f)) (k_Q κ post) mc ms (kA κ)
def k_C (θ : Kt) (κ : Kx) (cc : ByteArray) (nL : Nat) (ret : Option FieldType) (own : String) (R : Room) (L : List Nat) (f : Nat → wE) (mc ms pc : Nat) (lv : List (Nat × Value)) (st0 st : List Value) (post : Option Value → List Nat → (Nat → wE) → Prop) : Prop :=
  k_E θ κ cc nL ret own → ∀ (H : Heap) (locs : List Loc) (ls : Array Slot) (k n : Nat), k_H κ L f H → va_S (kA κ) θ.2.2.2.1.heap H locs → lv_has ls nL lv → (k + mc ≤ R.cells ∧ n + ms ≤ R.slots) →
    ∃ a : Array Value, va_Run θ.1 θ.2.1 θ.2.2.1 R θ.2.2.2.1 θ.2.2.2.2.1 θ.2.2.2.2.2.1 θ.2.2.2.2.2.2.1 θ.2.2.2.2.2.2.2.1 θ.2.2.2.2.2.2.2.2 H locs k n mc ms (F0 θ.2.2.2.2.1 pc ls st0) st (k_Q κ post a) (kA κ)
section Calls
variable {θ : Kt} {κ : Kx} {cc : ByteArray} {nL : Nat} {ret : Option FieldType} {own : String} {R : Room} {Q : State → Prop} {L : List Nat} {f : Nat → wE} {k n pc : Nat} {lv : List (Nat × Value)} {st st0 : List Value}
variable {y : MethodName} {bytes : ByteArray} {maxL d mc ms idx nA : Nat} {ret' : Option FieldType} {post : Option Value → List Nat → (Nat → wE) → Prop} {As : List Value} {b tg ci : Nat} {fs : List Value} {C : String} {T : u_T} {N : Nat}
theorem k_E.start (E : k_E θ κ cc nL ret own) {H : Heap} {locs : List Loc} (hH : k_H κ L f H) (hS : va_S (kA κ) θ.2.2.2.1.heap H locs) {U : State} (hU : U.heap = H) (hW : θ.2.2.2.1.WarmedH U.vm) : k_I κ L f U := by
  obtain ⟨-, -, -, -, hV, hZ, hb, -⟩ := E
  subst hU
  exact ⟨hH, k_V.warm hW hV, k_Z.moved hW.alike (hZ.kept hS.2.1), Nat.le_trans hb hS.1⟩
theorem k_E.fix (E : k_E θ κ cc nL ret own) : CallFix θ.1 θ.2.2.2.2.1 θ.2.2.2.2.2.2.2.2 cc nL θ.2.2.2.1 θ.2.2.2.2.2.1 [] own := ⟨E.1, E.2.1, E.2.2.1, E.2.2.2.1, fun _ h => nomatch h⟩
theorem k_wB.cb (w : k_wB own idx y bytes maxL ret' nA) (E : k_E θ κ cc nL ret own) (hR : d + 1 ≤ R.frames ∧ 8 + (maxL + 11) + 30 * d ≤ R.locals) : CallB R θ.2.2.2.1 θ.2.2.2.2.2.1 own idx y bytes maxL ret' [Cond.code y bytes maxL ret'] (k_rm d mc ms) mc ms nA := by
  obtain ⟨⟨w1, w2, w3⟩, w4, w5⟩ := w
  have hcode := E.word w3 rfl
  refine ⟨rfl, rfl, hR.1, hR.2, fun w hw a' U hW => ?_, List.mem_singleton.mpr rfl, hcode, E.word w2 rfl, w4, fun sig h => ?_, E.word w1 rfl⟩
  · rw [List.mem_singleton.mp hw]
    exact word_at hW (Or.inl rfl) hcode
  · rw [h] at w5
    exact (Option.some.inj w5).symm
theorem k_wBN.cb {host : String} (w : k_wBN own idx y host bytes maxL ret' nA) (E : k_E θ κ cc nL ret own) (hR : d + 1 ≤ R.frames ∧ 8 + (maxL + 11) + 30 * d ≤ R.locals) : va_CN R θ.2.2.2.1 θ.2.2.2.2.2.1 own idx y host bytes maxL ret' [Cond.code y bytes maxL ret'] (k_rm d mc ms) mc ms nA := by
  obtain ⟨⟨w1, w2, w3⟩, w4, w5⟩ := w
  have hcode := E.word w3 rfl
  refine ⟨⟨rfl, rfl, hR.1, hR.2, fun w hw a' U hW => ?_, List.mem_singleton.mpr rfl⟩, hcode, E.word w2 rfl, w4, fun sig h => ?_, E.word w1 rfl⟩
  · rw [List.mem_singleton.mp hw]
    exact word_at hW (Or.inl rfl) hcode
  · rw [h] at w5
    exact (Option.some.inj w5).symm
theorem k_recv (E : k_E θ κ cc nL ret own) {H : Heap} (hH : k_H κ L f H) (hc : Cl L f b (tg, .inr (ci, fs))) (hci : vwCl[ci]? = some (C, T, N)) : ∃ cell : Cell, H[b]? = some cell ∧ cell.vm.isStatics = false ∧ θ.2.2.2.1.vm.findClass C = some cell.cls := by
  obtain ⟨q0, hq0⟩ := k_pos hc
  exact va_recv E.K hH.1 hci hq0
theorem k_runV (M : k_M θ.2.1 κ y bytes maxL ret' d mc ms (.ref b :: As) L f post) (w : k_wB own idx y bytes maxL ret' nA) (w2 : Cond.instanceMethod y ∈ lw_tbl ∧ Cond.selects C y y ∈ lw_tbl) (hn : As.length = nA) (hst : st0 = As.reverse ++ .ref b :: st) (hc : Cl L f b (tg, .inr (ci, fs))) (hci : vwCl[ci]? = some (C, T, N)) (hR : d + 1 ≤ R.frames ∧ 8 + (maxL + 11) + 30 * d ≤ R.locals) (hcat : (st.map fun v => v.category).sum ≤ 8) (dc : decode cc pc = .ok (.invokevirtual idx, 3)) : k_C θ κ cc nL ret own R L f mc ms pc lv st0 st post := by
  intro E H locs ls k n hH hS hl hf
  exact ⟨_, va_runV (C := C) E.fix M ⟨w.cb E hR, E.word w2.1 rfl, E.word w2.2 rfl⟩ ⟨k_blind, k_recv E hH hc hci, fun U hU hW => ⟨rfl, E.start hH hS hU hW⟩⟩ rfl hn hl.1 hst (lv_room hcat) dc hf⟩
theorem k_runS (M : k_M θ.2.1 κ y bytes maxL ret' d mc ms As L f post) (w : k_wB own idx y bytes maxL ret' nA) (w2 : Cond.static y ∈ lw_tbl) (hn : As.length = nA) (hst : st0 = As.reverse ++ st) (hR : d + 1 ≤ R.frames ∧ 8 + (maxL + 11) + 30 * d ≤ R.locals) (hcat : (st.map fun v => v.category).sum ≤ 8) (dc : decode cc pc = .ok (.invokestatic idx, 3)) : k_C θ κ cc nL ret own R L f mc ms pc lv st0 st post := by
  intro E H locs ls k n hH hS hl hf
  exact ⟨_, va_runS E.fix M ⟨w.cb E hR, E.word w2 rfl⟩ ⟨k_blind, fun U hU hW => ⟨rfl, E.start hH hS hU hW⟩⟩ rfl hn hl.1 hst (lv_room hcat) dc hf⟩
theorem k_runI (M : k_M θ.2.1 κ y bytes maxL none d mc ms (.ref b :: As) L f post) (w : k_wB own idx y bytes maxL none nA) (w2 : Cond.instanceMethod y ∈ lw_tbl) (hy : y.name = "<init>") (hn : As.length = nA) (hst : st0 = As.reverse ++ .ref b :: st) (hR : d + 1 ≤ R.frames ∧ 8 + (maxL + 11) + 30 * d ≤ R.locals) (hcat : (st.map fun v => v.category).sum ≤ 8) (dc : decode cc pc = .ok (.invokespecial idx, 3)) : k_C θ κ cc nL ret own R L f mc ms pc lv st0 st post := by
  intro E H locs ls k n hH hS hl hf
  exact ⟨_, va_runI E.fix M ⟨w.cb E hR, hy, E.word w2 rfl⟩ ⟨k_blind, fun U hU hW => ⟨rfl, E.start hH hS hU hW⟩⟩ rfl hn hl.1 hst (lv_room hcat) dc hf⟩
theorem k_runSN {host : String} (M : k_M θ.2.1 κ y bytes maxL ret' d mc ms As L f post) (w : k_wBN own idx y host bytes maxL ret' nA) (w2 : Cond.static y ∈ lw_tbl) (hn : As.length = nA) (hst : st0 = As.reverse ++ st) (hR : d + 1 ≤ R.frames ∧ 8 + (maxL + 11) + 30 * d ≤ R.locals) (hcat : (st.map fun v => v.category).sum ≤ 8) (dc : decode cc pc = .ok (.invokestatic idx, 3)) : k_C θ κ cc nL ret own R L f mc ms pc lv st0 st post := by
  intro E H locs ls k n hH hS hl hf
  exact ⟨_, va_runSN (host := host) E.fix M ⟨w.cb E hR, E.word w2 rfl, trivial⟩ ⟨k_blind, fun U hU hW => ⟨rfl, E.start hH hS hU hW⟩⟩ rfl hn hl.1 hst (lv_room hcat) dc hf⟩
theorem k_runIN {host : String} (M : k_M θ.2.1 κ y bytes maxL none d mc ms (.ref b :: As) L f post) (w : k_wBN own idx y host bytes maxL none nA) (w2 : Cond.instanceMethod y ∈ lw_tbl) (hy : y.name = "<init>") (hn : As.length = nA) (hst : st0 = As.reverse ++ .ref b :: st) (hR : d + 1 ≤ R.frames ∧ 8 + (maxL + 11) + 30 * d ≤ R.locals) (hcat : (st.map fun v => v.category).sum ≤ 8) (dc : decode cc pc = .ok (.invokespecial idx, 3)) : k_C θ κ cc nL ret own R L f mc ms pc lv st0 st post := by
  intro E H locs ls k n hH hS hl hf
  exact ⟨_, va_runIN (host := host) E.fix M ⟨w.cb E hR, hy, E.word w2 rfl⟩ ⟨k_blind, fun U hU hW => ⟨rfl, E.start hH hS hU hW⟩⟩ rfl hn hl.1 hst (lv_room hcat) dc hf⟩
theorem k_use (hr : k_C θ κ cc nL ret own R L f mc ms pc lv st0 st post) (hf : k + mc ≤ R.cells ∧ n + ms ≤ R.slots) (kk : ∀ (v : Option Value) (L' : List Nat) (f' : Nat → wE), post v L' f' → k_G θ κ cc nL ret own R Q L' f' (k + mc) (n + ms) (pc + 3) lv (v.toList ++ st)) : k_G θ κ cc nL ret own R Q L f k n pc lv st0 := by
  intro E H locs ls hH hS hl
  obtain ⟨a, hrun⟩ := hr E H locs ls k n hH hS hl hf
  intro T hT X
  obtain ⟨v, s0, t, T', L9, h0, X', hL, e1, e2, ⟨⟨v', L', f', hv, hp, hH'⟩, hz, hkp⟩, stp⟩ := hrun T hT X
  cases hv
  rw [h0] at hz hkp
  have hS' : va_S (kA κ) θ.2.2.2.1.heap T'.heap (locs ++ L9) := ⟨Nat.le_trans hS.1 (by rw [e1]; exact hz), fun q h1 h2 => by rw [e1, hkp q (Nat.lt_of_lt_of_le h1 hS.1) h2]; exact hS.2.1 q h1 h2, fun q hq => by
    rcases List.mem_append.mp hq with h | h
    · exact hS.2.2 q h
    · exact hL q h⟩
  obtain ⟨t2, a1, b1⟩ := kk v L' f' hp E T'.heap (locs ++ L9) ls (by rw [e1]; exact hH') hS' hl T' rfl X'
  exact ⟨t2, stp t2 a1, b1⟩
/-- a call that only reads: its answer is the value w -/
theorem k_useR {w : Value} (hr : k_C θ κ cc nL ret own R L f 0 0 pc lv st0 st (k_ro L f w)) (hf : k ≤ R.cells ∧ n ≤ R.slots) (kk : k_G θ κ cc nL ret own R Q L f k n (pc + 3) lv (w :: st)) : k_G θ κ cc nL ret own R Q L f k n pc lv st0 := by
  refine k_use hr hf (fun v L' f' h => ?_)
  obtain ⟨rfl, rfl, rfl⟩ := h
  exact kk
theorem k_useV {p : Value → List Nat → (Nat → wE) → Prop} (hr : k_C θ κ cc nL ret own R L f mc ms pc lv st0 st (k_rn p)) (hf : k + mc ≤ R.cells ∧ n + ms ≤ R.slots) (kk : ∀ (w : Value) (L' : List Nat) (f' : Nat → wE), p w L' f' → k_G θ κ cc nL ret own R Q L' f' (k + mc) (n + ms) (pc + 3) lv (w :: st)) : k_G θ κ cc nL ret own R Q L f k n pc lv st0 := by
  refine k_use hr hf (fun v L' f' h => ?_)
  obtain ⟨w, rfl, hp⟩ := h
  exact kk w L' f' hp
theorem k_useU {p : List Nat → (Nat → wE) → Prop} (hr : k_C θ κ cc nL ret own R L f mc ms pc lv st0 st (k_ru p)) (hf : k + mc ≤ R.cells ∧ n + ms ≤ R.slots) (kk : ∀ (L' : List Nat) (f' : Nat → wE), p L' f' → k_G θ κ cc nL ret own R Q L' f' (k + mc) (n + ms) (pc + 3) lv st) : k_G θ κ cc nL ret own R Q L f k n pc lv st0 := by
  refine k_use hr hf (fun v L' f' h => ?_)
  obtain ⟨rfl, hp⟩ := h
  exact kk L' f' hp
theorem k_objInit {a i : Nat} (h1 : Cond.methodLink own i Lib.objectInit ∈ lw_tbl) (h2 : Cond.instanceMethod Lib.objectInit ∈ lw_tbl) (h3 : Cond.code Lib.objectInit ⟨#[0xb1]⟩ 1 none ∈ lw_tbl) (hf : 1 ≤ R.frames) (hlo : (st.map fun v => v.category).sum + 12 ≤ R.locals) (dc : decode cc pc = .ok (.invokespecial i, 3)) (kk : k_G θ κ cc nL ret own R Q L f k n (pc + 3) lv st) : k_G θ κ cc nL ret own R Q L f k n pc lv (.ref a :: st) :=
  fun E H locs ls hH hS hl => W.objInit E.1 E.2.1 E.2.2.2.1 (E.word h1 rfl) (E.word h2 rfl) (E.word h3 rfl) rfl (by rw [E.2.2.1]; exact hl.1) rfl dc hf (by show 2 * 0 + _ + 12 ≤ _; omega) (kk E H locs ls hH hS hl)
end Calls
section Math
variable {θ : Kt} {κ : Kx} {cc : ByteArray} {nL : Nat} {ret : Option FieldType} {own : String} {R : Room} {Q : State → Prop} {L : List Nat} {f : Nat → wE} {k n pc : Nat} {lv : List (Nat × Value)} {st : List Value}
theorem k_max {x y : Int} {i : Nat} (h1 : Cond.methodLink own i Lib.Math.max.name ∈ lw_tbl) (h2 : Cond.static Lib.Math.max.name ∈ lw_tbl) (h3 : Cond.initialized "java/lang/Math" ∈ lw_tbl) (h4 : Cond.code Lib.Math.max.name Lib.Math.max.code 2 (some .int) ∈ lw_tbl) (hx : inI x) (hy : inI y) (hf : 1 ≤ R.frames) (hlo : (st.map fun v => v.category).sum + 13 ≤ R.locals) (hk : k ≤ R.cells ∧ n ≤ R.slots) (dc : decode cc pc = .ok (.invokestatic i, 3)) (kk : k_G θ κ cc nL ret own R Q L f k n (pc + 3) lv (.int (iI (max x y)) :: st)) : k_G θ κ cc nL ret own R Q L f k n pc lv (.int (iI y) :: .int (iI x) :: st) :=
  fun E H locs ls hH hS hl => va_mmax E.1 E.2.1 (by rw [E.2.2.1]; exact hl.1.symm) E.2.2.2.1 (E.word h1 rfl) (E.word h2 rfl) (E.word h3 rfl) (E.word h4 rfl) hf hlo hk.1 hk.2 dc (by rw [iI_mx hx hy]; exact kk E H locs ls hH hS hl)
theorem k_min {x y : Int} {i : Nat} (h1 : Cond.methodLink own i Lib.Math.min.name ∈ lw_tbl) (h2 : Cond.static Lib.Math.min.name ∈ lw_tbl) (h3 : Cond.initialized "java/lang/Math" ∈ lw_tbl) (h4 : Cond.code Lib.Math.min.name Lib.Math.min.code 2 (some .int) ∈ lw_tbl) (hx : inI x) (hy : inI y) (hf : 1 ≤ R.frames) (hlo : (st.map fun v => v.category).sum + 13 ≤ R.locals) (hk : k ≤ R.cells ∧ n ≤ R.slots) (dc : decode cc pc = .ok (.invokestatic i, 3)) (kk : k_G θ κ cc nL ret own R Q L f k n (pc + 3) lv (.int (iI (min x y)) :: st)) : k_G θ κ cc nL ret own R Q L f k n pc lv (.int (iI y) :: .int (iI x) :: st) :=
  fun E H locs ls hH hS hl => va_mmin E.1 E.2.1 (by rw [E.2.2.1]; exact hl.1.symm) E.2.2.2.1 (E.word h1 rfl) (E.word h2 rfl) (E.word h3 rfl) (E.word h4 rfl) hf hlo hk.1 hk.2 dc (by rw [iI_mn hx hy]; exact kk E H locs ls hH hS hl)
theorem k_abs {x : Int} {i : Nat} (h1 : Cond.methodLink own i Lib.Math.abs.name ∈ lw_tbl) (h2 : Cond.static Lib.Math.abs.name ∈ lw_tbl) (h3 : Cond.initialized "java/lang/Math" ∈ lw_tbl) (h4 : Cond.code Lib.Math.abs.name Lib.Math.abs.code 1 (some .int) ∈ lw_tbl) (hx : inI x) (hf : 1 ≤ R.frames) (hlo : (st.map fun v => v.category).sum + 13 ≤ R.locals) (hk : k ≤ R.cells ∧ n ≤ R.slots) (dc : decode cc pc = .ok (.invokestatic i, 3)) (kk : k_G θ κ cc nL ret own R Q L f k n (pc + 3) lv (.int (iI (x.natAbs : Int)) :: st)) : k_G θ κ cc nL ret own R Q L f k n pc lv (.int (iI x) :: st) :=
  fun E H locs ls hH hS hl => va_mabs E.1 E.2.1 (by rw [E.2.2.1]; exact hl.1.symm) E.2.2.2.1 (E.word h1 rfl) (E.word h2 rfl) (E.word h3 rfl) (E.word h4 rfl) hf hlo hk.1 hk.2 dc (by rw [iI_ab hx]; exact kk E H locs ls hH hS hl)
theorem k_maxl {x y : Int} {i : Nat} (h1 : Cond.methodLink own i Lib.MathLoose.max_long.x ∈ lw_tbl) (h2 : Cond.static Lib.MathLoose.max_long.x ∈ lw_tbl) (h3 : Cond.initialized "java/lang/Math" ∈ lw_tbl) (h4 : Cond.code Lib.MathLoose.max_long.x Lib.MathLoose.max_long.code 4 (some .long) ∈ lw_tbl) (hx : inL x) (hy : inL y) (hf : 1 ≤ R.frames) (hlo : (st.map fun v => v.category).sum + 15 ≤ R.locals) (hk : k ≤ R.cells ∧ n ≤ R.slots) (dc : decode cc pc = .ok (.invokestatic i, 3)) (kk : k_G θ κ cc nL ret own R Q L f k n (pc + 3) lv (.long (lI (max x y)) :: st)) : k_G θ κ cc nL ret own R Q L f k n pc lv (.long (lI y) :: .long (lI x) :: st) :=
  fun E H locs ls hH hS hl => va_mmax_long E.1 E.2.1 (by rw [E.2.2.1]; exact hl.1.symm) E.2.2.2.1 (E.word h1 rfl) (E.word h2 rfl) (E.word h3 rfl) (E.word h4 rfl) hf hlo hk.1 hk.2 dc (by rw [lI_mx hx hy]; exact kk E H locs ls hH hS hl)
theorem k_absl {x : Int} {i : Nat} (h1 : Cond.methodLink own i Lib.MathLoose.abs_long.x ∈ lw_tbl) (h2 : Cond.static Lib.MathLoose.abs_long.x ∈ lw_tbl) (h3 : Cond.initialized "java/lang/Math" ∈ lw_tbl) (h4 : Cond.code Lib.MathLoose.abs_long.x Lib.MathLoose.abs_long.code 2 (some .long) ∈ lw_tbl) (hx : inL x) (hf : 1 ≤ R.frames) (hlo : (st.map fun v => v.category).sum + 13 ≤ R.locals) (hk : k ≤ R.cells ∧ n ≤ R.slots) (dc : decode cc pc = .ok (.invokestatic i, 3)) (kk : k_G θ κ cc nL ret own R Q L f k n (pc + 3) lv (.long (lI (x.natAbs : Int)) :: st)) : k_G θ κ cc nL ret own R Q L f k n pc lv (.long (lI x) :: st) :=
  fun E H locs ls hH hS hl => va_mabs_long E.1 E.2.1 (by rw [E.2.2.1]; exact hl.1.symm) E.2.2.2.1 (E.word h1 rfl) (E.word h2 rfl) (E.word h3 rfl) (E.word h4 rfl) hf hlo hk.1 hk.2 dc (by rw [lI_ab hx]; exact kk E H locs ls hH hS hl)
end Math
section Statics
variable {θ : Kt} {κ : Kx} {cc : ByteArray} {nL : Nat} {ret : Option FieldType} {own : String} {R : Room} {Q : State → Prop} {L : List Nat} {f : Nat → wE} {k n pc : Nat} {lv : List (Nat × Value)} {st : List Value}
/-- a static array of ours: place j of the list -/
def k_Zs (κ : Kx) (j : Nat) (C nm : String) (l : List Int) : Prop := l.length = 6 ∧ ∀ (U : State) (H : Heap), k_Z κ U H → va_Z C nm "[I" (.ref (κ.2.2.2 j)) (kA κ) U H ∧ va_T .int (κ.2.2.2 j) 6 (k_arr l) (kA κ) U H
theorem k_Zs0 {κ : Kx} : k_Zs κ 0 "TideTable" "TWELFTHS_OF_SIXTH" [1, 2, 3, 3, 2, 1] := ⟨rfl, fun _ _ h => h.1⟩
theorem k_Zs1 {κ : Kx} : k_Zs κ 1 "TideTable" "TWELFTHS_AHEAD_OF_SIXTH" [0, 1, 3, 6, 9, 11] := ⟨rfl, fun _ _ h => h.2.1⟩
theorem k_gets {C nm : String} {j i : Nat} {l : List Int} (hz : k_Zs κ j C nm l) (hq : Cond.fieldLink own i C nm "[I" ∈ lw_tbl) (dc : decode cc pc = .ok (.getstatic i, 3)) (kk : k_G θ κ cc nL ret own R Q L f k n (pc + 3) lv (.ref (κ.2.2.2 j) :: st)) : k_G θ κ cc nL ret own R Q L f k n pc lv st :=
  fun E H locs ls hH hS hl => va_gets E.1 E.2.1 (hz.2 _ _ E.2.2.2.2.2.1).1 hS E.2.2.2.1 (E.word hq rfl) (fun _ h => h) dc (kk E H locs ls hH hS hl)
theorem k_getsN {C nm host : String} {j i : Nat} {l : List Int} (hz : k_Zs κ j C nm l) (hq : Cond.fieldLinkNest own i C nm "[I" host ∈ lw_tbl) (dc : decode cc pc = .ok (.getstatic i, 3)) (kk : k_G θ κ cc nL ret own R Q L f k n (pc + 3) lv (.ref (κ.2.2.2 j) :: st)) : k_G θ κ cc nL ret own R Q L f k n pc lv st :=
  fun E H locs ls hH hS hl => va_getsN E.1 E.2.1 (hz.2 _ _ E.2.2.2.2.2.1).1 hS E.2.2.2.1 (E.word hq rfl) (fun _ h => h) dc (kk E H locs ls hH hS hl)
theorem k_ti {C nm : String} {j : Nat} {l : List Int} {x : Int} (hz : k_Zs κ j C nm l) (m : Nat) (hx : x = (m : Int)) (hm : m < 6) (dc : decode cc pc = .ok (.iaload, 1)) (kk : k_G θ κ cc nL ret own R Q L f k n (pc + 1) lv (.int (iI (l.getD m 0)) :: st)) : k_G θ κ cc nL ret own R Q L f k n pc lv (.int (iI x) :: .ref (κ.2.2.2 j) :: st) :=
  fun E H locs ls hH hS hl => va_ti E.1 E.2.1 (hz.2 _ _ E.2.2.2.2.2.1).2 hS (iI_in hx hm (by omega)) (by rw [iI_cl hx (by omega)]; rfl) dc (kk E H locs ls hH hS hl)
theorem k_tlen {C nm : String} {j : Nat} {l : List Int} (hz : k_Zs κ j C nm l) (dc : decode cc pc = .ok (.arraylength, 1)) (kk : k_G θ κ cc nL ret own R Q L f k n (pc + 1) lv (.int (iI 6) :: st)) : k_G θ κ cc nL ret own R Q L f k n pc lv (.ref (κ.2.2.2 j) :: st) :=
  fun E H locs ls hH hS hl => va_tlen E.1 E.2.1 (hz.2 _ _ E.2.2.2.2.2.1).2 hS (by decide) dc (kk E H locs ls hH hS hl)
end Statics
/-! ===== a method's head and its ends ===== -/
def k_MQ (θ : Kt) (κ : Kx) (post : Option Value → List Nat → (Nat → wE) → Prop) (mc ms : Nat) : State → Prop := MQ θ.2.2.2.2.2.2.1 (k_Q κ post) θ.2.2.2.2.2.1 θ.2.2.2.1 mc ms (kA κ)
theorem k_head {l : Launch} {κ : Kx} {y : MethodName} {cc : ByteArray} {nL : Nat} {ret : Option FieldType} {d mc ms : Nat} {As : List Value} {L : List Nat} {f : Nat → wE} {post : Option Value → List Nat → (Nat → wE) → Prop} (own : String) (lv : List (Nat × Value)) (ho : y.cls = own) (hy : plainName own = true) (hsl : (lg_sl As).length ≤ nL) (hlv : lv_args 0 As = lv)
    (body : ∀ θ : Kt, θ.2.1 = l → (y.name = "<init>" → θ.2.2.2.2.2.2.2.1.name = "<init>") → k_G θ κ cc nL ret own (k_rm d mc ms) (k_MQ θ κ post mc ms) L f 0 0 0 lv []) : k_M l κ y cc nL ret d mc ms As L f post := by
  subst ho
  refine Met.ofW (cc := cc) (maxL := nL) (ret := ret) hy rfl ?_
  intro p e s m args below meth c s₁ B hml hv
  obtain ⟨rfl, hH, hV, hZ, hb⟩ := hv
  have hE : k_E (p, l, e, s, m, As.toArray, below, meth, c) κ cc nL ret y.cls := ⟨B.exec, B.bytes, hml, findClass_of_methodNamed B.named, hV, hZ, hb, B.returns, B.notSynchronized⟩
  have hl := lv_entry As (n := nL) hsl
  rw [lg_entry_eq]
  rw [hlv] at hl
  exact body (p, l, e, s, m, As.toArray, below, meth, c) rfl (fun h => (name_of_methodNamed B.named B.method).1.trans h) hE s.heap [] _ hH va_S.rf hl
section Ends
variable {θ : Kt} {κ : Kx} {cc : ByteArray} {nL : Nat} {ret : Option FieldType} {own : String} {R : Room} {L : List Nat} {f : Nat → wE} {k n pc mc ms : Nat} {lv : List (Nat × Value)} {post : Option Value → List Nat → (Nat → wE) → Prop}
theorem k_iret {x : Int32} (d : decode cc pc = .ok (.ireturn, 1)) (hr : ret = some .int) (hk : k ≤ mc) (hn : n ≤ ms) (hp : post (some (.int x)) L f) : k_G θ κ cc nL ret own R (k_MQ θ κ post mc ms) L f k n pc lv [.int x] := by
  intro E H locs ls hH hS hl
  refine W.widen hk hn ?_
  exact W.iret E.1 E.2.1 (E.2.2.2.2.2.2.2.1.trans hr) (fun t ht hW => ⟨⟨_, L, f, rfl, hp, by rw [ht]; exact hH⟩, hS.F ht⟩) hS.2.2 d E.2.2.2.2.2.2.2.2
theorem k_zret {b : Bool} (d : decode cc pc = .ok (.ireturn, 1)) (hr : ret = some .boolean) (hk : k ≤ mc) (hn : n ≤ ms) (hp : post (some (.int (iI (bI b)))) L f) : k_G θ κ cc nL ret own R (k_MQ θ κ post mc ms) L f k n pc lv [.int (iI (bI b))] := by
  intro E H locs ls hH hS hl
  refine W.widen hk hn ?_
  exact W.zret E.1 E.2.1 (E.2.2.2.2.2.2.2.1.trans hr) (by cases b <;> rfl) (fun t ht hW => ⟨⟨_, L, f, rfl, hp, by rw [ht]; exact hH⟩, hS.F ht⟩) hS.2.2 d E.2.2.2.2.2.2.2.2
theorem k_lret {x : Int64} (d : decode cc pc = .ok (.lreturn, 1)) (hr : ret = some .long) (hk : k ≤ mc) (hn : n ≤ ms) (hp : post (some (.long x)) L f) : k_G θ κ cc nL ret own R (k_MQ θ κ post mc ms) L f k n pc lv [.long x] := by
  intro E H locs ls hH hS hl
  refine W.widen hk hn ?_
  exact W.lret E.1 E.2.1 (E.2.2.2.2.2.2.2.1.trans hr) (fun t ht hW => ⟨⟨_, L, f, rfl, hp, by rw [ht]; exact hH⟩, hS.F ht⟩) hS.2.2 d E.2.2.2.2.2.2.2.2
theorem k_vret (d : decode cc pc = .ok (.return_, 1)) (hr : ret = none) (hk : k ≤ mc) (hn : n ≤ ms) (hp : post none L f) : k_G θ κ cc nL ret own R (k_MQ θ κ post mc ms) L f k n pc lv [] := by
  intro E H locs ls hH hS hl
  refine W.widen hk hn ?_
  exact W.vret E.1 E.2.1 (E.2.2.2.2.2.2.2.1.trans hr) (fun t ht hW => ⟨⟨_, L, f, rfl, hp, by rw [ht]; exact hH⟩, hS.F ht⟩) hS.2.2 d E.2.2.2.2.2.2.2.2
theorem k_aret {x : Nat} {rt : FieldType} (d : decode cc pc = .ok (.areturn, 1)) (hr : ret = some rt) (hrt : (∃ n, rt = .object n) ∨ ∃ t, rt = .array t) (hk : k ≤ mc) (hn : n ≤ ms) (hp : post (some (.ref x)) L f) : k_G θ κ cc nL ret own R (k_MQ θ κ post mc ms) L f k n pc lv [.ref x] := by
  intro E H locs ls hH hS hl
  refine W.widen hk hn ?_
  exact W.aret E.1 E.2.1 (E.2.2.2.2.2.2.2.1.trans hr) hrt (Or.inr ⟨x, rfl⟩) (fun t ht hW => ⟨⟨_, L, f, rfl, hp, by rw [ht]; exact hH⟩, hS.F ht⟩) hS.2.2 d E.2.2.2.2.2.2.2.2
end Ends
/-! ===== small things for the walks ===== -/
theorem inL_mk {z : Int} (h1 : -9223372036854775808 ≤ z) (h2 : z < 9223372036854775808) : inL z := ⟨h1, h2⟩
theorem k_nar_b (b : Bool) : narrow .boolean (.int (iI (bI b))) = .int (iI (bI b)) := by cases b <;> rfl
theorem k_fit_b (b : Bool) : fits .boolean (.int (iI (bI b))) = true := by cases b <;> rfl
theorem k_oki {L : List Nat} {f : Nat → wE} {a b : Int} (h : a = b) : k_ro L f (.int (iI b)) (some (.int (iI a))) L f := ⟨by rw [h], rfl, rfl⟩
theorem k_okb {L : List Nat} {f : Nat → wE} {a b : Bool} (h : a = b) : k_ro L f (.int (iI (bI b))) (some (.int (iI (bI a)))) L f := ⟨by rw [h], rfl, rfl⟩
theorem k_okl {L : List Nat} {f : Nat → wE} {a b : Int} (h : a = b) : k_ro L f (.long (lI b)) (some (.long (lI a))) L f := ⟨by rw [h], rfl, rfl⟩
theorem k_fr.put {L : List Nat} {f f' : Nat → wE} {a t : Nat} {x : va_E} (hne : ∀ z, z ≠ a → f' z = f z) (ha : Cl L f a (t, x)) : k_fr (fun u => u == t) L f L f' := fun z hz => ⟨hz, fun h => hne z (fun e => by subst e; rw [ha.2] at h; simp at h)⟩
theorem k_fr.new {L L' : List Nat} {f f' : Nat → wE} (hz : ∀ z ∈ L, z ∈ L' ∧ f' z = f z) : k_fr (fun _ => false) L f L' f' := fun z h => ⟨(hz z h).1, fun _ => (hz z h).2⟩
theorem k_fr.refl {S : Nat → Bool} {L : List Nat} {f : Nat → wE} : k_fr S L f L f := fun z hz => ⟨hz, fun _ => rfl⟩
theorem k_fr.trans {S1 S2 S : Nat → Bool} {L L1 L2 : List Nat} {f f1 f2 : Nat → wE} (h1 : k_fr S1 L f L1 f1) (h2 : k_fr S2 L1 f1 L2 f2) (hS1 : ∀ t, S t = false → S1 t = false) (hS2 : ∀ t, S t = false → S2 t = false) : k_fr S L f L2 f2 := by
  intro z hz
  obtain ⟨a1, b1⟩ := h1 z hz
  obtain ⟨a2, b2⟩ := h2 z a1
  refine ⟨a2, fun h => ?_⟩
  have e1 := b1 (hS1 _ h)
  have e2 := b2 (by rw [e1]; exact hS2 _ h)
  exact e2.trans e1
theorem k_fr.mono {S1 S : Nat → Bool} {L L1 : List Nat} {f f1 : Nat → wE} (h1 : k_fr S1 L f L1 f1) (hS1 : ∀ t, S t = false → S1 t = false) : k_fr S L f L1 f1 := fun z hz => ⟨(h1 z hz).1, fun h => (h1 z hz).2 (hS1 _ h)⟩
end
section
theorem q_0 : Cond.selects "java/lang/Throwable" ⟨"java/lang/Throwable", "fillInStackTrace", "(I)Ljava/lang/Throwable;"⟩ ⟨"java/lang/Throwable", "fillInStackTrace", "(I)Ljava/lang/Throwable;"⟩ ∈ lw_tbl := List.mem_of_getElem? (i := 0) (by decide +kernel)
theorem q_1 : Cond.selects RX7 yX7_numberOf yX7_numberOf ∈ lw_tbl := List.mem_of_getElem? (i := 1) (by decide +kernel)
theorem q_2 : Cond.selects RX7 yX7_currentTable yX7_currentTable ∈ lw_tbl := List.mem_of_getElem? (i := 2) (by decide +kernel)
theorem q_3 : Cond.selects RX3 yX3_findWaters yX3_findWaters ∈ lw_tbl := List.mem_of_getElem? (i := 3) (by decide +kernel)
theorem q_4 : Cond.selects RX3 yX3_noteWater yX3_noteWater ∈ lw_tbl := List.mem_of_getElem? (i := 4) (by decide +kernel)
theorem q_5 : Cond.selects RX3 yX3_greatestHeight yX3_greatestHeight ∈ lw_tbl := List.mem_of_getElem? (i := 5) (by decide +kernel)
theorem q_6 : Cond.selects RX3 yX3_leastHeight yX3_leastHeight ∈ lw_tbl := List.mem_of_getElem? (i := 6) (by decide +kernel)
theorem q_7 : Cond.selects RX3 yX3_meanOfWaters yX3_meanOfWaters ∈ lw_tbl := List.mem_of_getElem? (i := 7) (by decide +kernel)
theorem q_8 : Cond.selects RX3 yX3_greatestDifference yX3_greatestDifference ∈ lw_tbl := List.mem_of_getElem? (i := 8) (by decide +kernel)
theorem q_9 : Cond.selects RJx4a65c yJx4a65c_add_72be8 yJx4a65c_add_72be8 ∈ lw_tbl := List.mem_of_getElem? (i := 9) (by decide +kernel)
theorem q_10 : Cond.selects RJx4a65c yJx4a65c_grow_d5877 yJx4a65c_grow_d5877 ∈ lw_tbl := List.mem_of_getElem? (i := 10) (by decide +kernel)
theorem q_11 : Cond.selects RJx4a65c yJx4a65c_grow_92f84 yJx4a65c_grow_92f84 ∈ lw_tbl := List.mem_of_getElem? (i := 11) (by decide +kernel)
theorem q_12 : Cond.selects RX7 yX7_hasPort yX7_hasPort ∈ lw_tbl := List.mem_of_getElem? (i := 12) (by decide +kernel)
theorem q_13 : Cond.initialized RL ∈ lw_tbl := List.mem_of_getElem? (i := 13) (by decide +kernel)
theorem q_14 : Cond.initialized RX7 ∈ lw_tbl := List.mem_of_getElem? (i := 14) (by decide +kernel)
theorem q_15 : Cond.initialized RX5 ∈ lw_tbl := List.mem_of_getElem? (i := 15) (by decide +kernel)
theorem q_16 : Cond.initialized RJxa1e45 ∈ lw_tbl := List.mem_of_getElem? (i := 16) (by decide +kernel)
theorem q_17 : Cond.initialized RJxc12de ∈ lw_tbl := List.mem_of_getElem? (i := 17) (by decide +kernel)
theorem q_18 : Cond.initialized RJx4a65c ∈ lw_tbl := List.mem_of_getElem? (i := 18) (by decide +kernel)
theorem q_19 : Cond.initialized RX3 ∈ lw_tbl := List.mem_of_getElem? (i := 19) (by decide +kernel)
theorem q_20 : Cond.initialized "java/lang/Throwable" ∈ lw_tbl := List.mem_of_getElem? (i := 20) (by decide +kernel)
theorem q_21 : Cond.initialized "java/lang/Exception" ∈ lw_tbl := List.mem_of_getElem? (i := 21) (by decide +kernel)
theorem q_22 : Cond.initialized "java/lang/RuntimeException" ∈ lw_tbl := List.mem_of_getElem? (i := 22) (by decide +kernel)
theorem q_23 : Cond.initialized "java/lang/IllegalArgumentException" ∈ lw_tbl := List.mem_of_getElem? (i := 23) (by decide +kernel)
theorem q_24 : Cond.initialized "java/lang/IllegalStateException" ∈ lw_tbl := List.mem_of_getElem? (i := 24) (by decide +kernel)
theorem q_25 : Cond.initialized RX6 ∈ lw_tbl := List.mem_of_getElem? (i := 25) (by decide +kernel)
theorem q_26 : Cond.initialized RJ8 ∈ lw_tbl := List.mem_of_getElem? (i := 26) (by decide +kernel)
theorem q_27 : Cond.initialized RJ9 ∈ lw_tbl := List.mem_of_getElem? (i := 27) (by decide +kernel)
theorem q_28 : Cond.initialized RJ7 ∈ lw_tbl := List.mem_of_getElem? (i := 28) (by decide +kernel)
theorem q_29 : Cond.initialized RJ10 ∈ lw_tbl := List.mem_of_getElem? (i := 29) (by decide +kernel)
theorem q_30 : Cond.initialized RX1 ∈ lw_tbl := List.mem_of_getElem? (i := 30) (by decide +kernel)
theorem q_31 : Cond.initialized RX0 ∈ lw_tbl := List.mem_of_getElem? (i := 31) (by decide +kernel)
theorem q_32 : Cond.initialized "java/lang/IndexOutOfBoundsException" ∈ lw_tbl := List.mem_of_getElem? (i := 32) (by decide +kernel)
theorem q_33 : Cond.initialized RJ15 ∈ lw_tbl := List.mem_of_getElem? (i := 33) (by decide +kernel)
theorem q_34 : Cond.initialized RJ3 ∈ lw_tbl := List.mem_of_getElem? (i := 34) (by decide +kernel)
theorem q_35 : Cond.initialized RJ6 ∈ lw_tbl := List.mem_of_getElem? (i := 35) (by decide +kernel)
theorem q_36 : Cond.classLink RL 20 RX7 ∈ lw_tbl := List.mem_of_getElem? (i := 36) (by decide +kernel)
theorem q_37 : Cond.instantiable RX7 5 ∈ lw_tbl := List.mem_of_getElem? (i := 37) (by decide +kernel)
theorem q_38 : Cond.methodLink RL 41 yX7_init ∈ lw_tbl := List.mem_of_getElem? (i := 38) (by decide +kernel)
theorem q_39 : Cond.instanceMethod yX7_init ∈ lw_tbl := List.mem_of_getElem? (i := 39) (by decide +kernel)
theorem q_40 : Cond.code yX7_init cX7_init 1 none ∈ lw_tbl := List.mem_of_getElem? (i := 40) (by decide +kernel)
theorem q_41 : Cond.methodLink RX7 1 Lib.objectInit ∈ lw_tbl := List.mem_of_getElem? (i := 41) (by decide +kernel)
theorem q_42 : Cond.instanceMethod Lib.objectInit ∈ lw_tbl := List.mem_of_getElem? (i := 42) (by decide +kernel)
theorem q_43 : Cond.code Lib.objectInit ⟨#[0xb1]⟩ 1 none ∈ lw_tbl := List.mem_of_getElem? (i := 43) (by decide +kernel)
theorem q_44 : Cond.classLink RX7 7 RX5 ∈ lw_tbl := List.mem_of_getElem? (i := 44) (by decide +kernel)
theorem q_45 : Cond.instantiable RX5 2 ∈ lw_tbl := List.mem_of_getElem? (i := 45) (by decide +kernel)
theorem q_46 : Cond.methodLinkNest RX7 9 yX5_init RX7 ∈ lw_tbl := List.mem_of_getElem? (i := 46) (by decide +kernel)
theorem q_47 : Cond.instanceMethod yX5_init ∈ lw_tbl := List.mem_of_getElem? (i := 47) (by decide +kernel)
theorem q_48 : Cond.code yX5_init cX5_init 1 none ∈ lw_tbl := List.mem_of_getElem? (i := 48) (by decide +kernel)
theorem q_49 : Cond.methodLink RX5 1 Lib.objectInit ∈ lw_tbl := List.mem_of_getElem? (i := 49) (by decide +kernel)
theorem q_50 : Cond.classLink RX5 7 RJx4a65c ∈ lw_tbl := List.mem_of_getElem? (i := 50) (by decide +kernel)
theorem q_51 : Cond.instantiable RJx4a65c 3 ∈ lw_tbl := List.mem_of_getElem? (i := 51) (by decide +kernel)
theorem q_52 : Cond.methodLink RX5 9 yJx4a65c_init_da8c8 ∈ lw_tbl := List.mem_of_getElem? (i := 52) (by decide +kernel)
theorem q_53 : Cond.instanceMethod yJx4a65c_init_da8c8 ∈ lw_tbl := List.mem_of_getElem? (i := 53) (by decide +kernel)
theorem q_54 : Cond.code yJx4a65c_init_da8c8 cJx4a65c_init_da8c8 1 none ∈ lw_tbl := List.mem_of_getElem? (i := 54) (by decide +kernel)
theorem q_55 : Cond.methodLink RJx4a65c 1 yJxc12de_init_da8c8 ∈ lw_tbl := List.mem_of_getElem? (i := 55) (by decide +kernel)
theorem q_56 : Cond.instanceMethod yJxc12de_init_da8c8 ∈ lw_tbl := List.mem_of_getElem? (i := 56) (by decide +kernel)
theorem q_57 : Cond.code yJxc12de_init_da8c8 cJxc12de_init_da8c8 1 none ∈ lw_tbl := List.mem_of_getElem? (i := 57) (by decide +kernel)
theorem q_58 : Cond.methodLink RJxc12de 1 yJxa1e45_init_da8c8 ∈ lw_tbl := List.mem_of_getElem? (i := 58) (by decide +kernel)
theorem q_59 : Cond.instanceMethod yJxa1e45_init_da8c8 ∈ lw_tbl := List.mem_of_getElem? (i := 59) (by decide +kernel)
theorem q_60 : Cond.code yJxa1e45_init_da8c8 cJxa1e45_init_da8c8 1 none ∈ lw_tbl := List.mem_of_getElem? (i := 60) (by decide +kernel)
theorem q_61 : Cond.methodLink RJxa1e45 1 Lib.objectInit ∈ lw_tbl := List.mem_of_getElem? (i := 61) (by decide +kernel)
theorem q_62 : Cond.fieldLink RJx4a65c 39 RJx4a65c "DEFAULTCAPACITY_EMPTY_ELEMENTDATA" "[Ljava/lang/Object;" ∈ lw_tbl := List.mem_of_getElem? (i := 62) (by decide +kernel)
theorem q_64 : Cond.fieldLink RJx4a65c 9 RJx4a65c "elementData" "[Ljava/lang/Object;" ∈ lw_tbl := List.mem_of_getElem? (i := 64) (by decide +kernel)
theorem q_65 : Cond.fieldLink RJx4a65c 48 RJx4a65c "size" "I" ∈ lw_tbl := List.mem_of_getElem? (i := 65) (by decide +kernel)
theorem q_66 : Cond.fieldLink RJxc12de 7 RJxc12de "modCount" "I" ∈ lw_tbl := List.mem_of_getElem? (i := 66) (by decide +kernel)
theorem q_67 : Cond.fieldLink RJx4a65c 63 RJx4a65c "modCount" "I" ∈ lw_tbl := List.mem_of_getElem? (i := 67) (by decide +kernel)
theorem q_68 : Cond.sameField RJx4a65c "java/util/AbstractList" "modCount" "I" ∈ lw_tbl := List.mem_of_getElem? (i := 68) (by decide +kernel)
theorem q_76 : Cond.fieldLink RX5 10 RX5 "waves" "Ljava/util/ArrayList;" ∈ lw_tbl := List.mem_of_getElem? (i := 76) (by decide +kernel)
theorem q_77 : Cond.fieldLinkNest RX7 52 RX5 "waves" "Ljava/util/ArrayList;" RX7 ∈ lw_tbl := List.mem_of_getElem? (i := 77) (by decide +kernel)
theorem q_78 : Cond.fieldLink RX5 16 RX5 "level" "I" ∈ lw_tbl := List.mem_of_getElem? (i := 78) (by decide +kernel)
theorem q_84 : Cond.classLink RX7 16 RX3 ∈ lw_tbl := List.mem_of_getElem? (i := 84) (by decide +kernel)
theorem q_85 : Cond.instantiable RX3 5 ∈ lw_tbl := List.mem_of_getElem? (i := 85) (by decide +kernel)
theorem q_86 : Cond.methodLinkNest RX7 18 yX3_init RX7 ∈ lw_tbl := List.mem_of_getElem? (i := 86) (by decide +kernel)
theorem q_87 : Cond.instanceMethod yX3_init ∈ lw_tbl := List.mem_of_getElem? (i := 87) (by decide +kernel)
theorem q_88 : Cond.code yX3_init cX3_init 1 none ∈ lw_tbl := List.mem_of_getElem? (i := 88) (by decide +kernel)
theorem q_89 : Cond.methodLink RX3 3 Lib.objectInit ∈ lw_tbl := List.mem_of_getElem? (i := 89) (by decide +kernel)
theorem q_90 : Cond.fieldLink RX3 9 RX3 "heights" "[I" ∈ lw_tbl := List.mem_of_getElem? (i := 90) (by decide +kernel)
theorem q_91 : Cond.fieldLink RX3 15 RX3 "waterTimes" "[I" ∈ lw_tbl := List.mem_of_getElem? (i := 91) (by decide +kernel)
theorem q_92 : Cond.fieldLink RX3 18 RX3 "waterHeights" "[I" ∈ lw_tbl := List.mem_of_getElem? (i := 92) (by decide +kernel)
theorem q_93 : Cond.fieldLink RX3 21 RX3 "waterHighs" "[Z" ∈ lw_tbl := List.mem_of_getElem? (i := 93) (by decide +kernel)
theorem q_94 : Cond.fieldLink RX3 34 RX3 "waters" "I" ∈ lw_tbl := List.mem_of_getElem? (i := 94) (by decide +kernel)
theorem q_95 : Cond.fieldLinkNest RX1 48 RX3 "waters" "I" RX7 ∈ lw_tbl := List.mem_of_getElem? (i := 95) (by decide +kernel)
theorem q_96 : Cond.fieldLinkNest RX7 130 RX3 "waters" "I" RX7 ∈ lw_tbl := List.mem_of_getElem? (i := 96) (by decide +kernel)
theorem q_108 : Cond.arrayClass .int ∈ lw_tbl := List.mem_of_getElem? (i := 108) (by decide +kernel)
theorem q_109 : Cond.arrayClass .boolean ∈ lw_tbl := List.mem_of_getElem? (i := 109) (by decide +kernel)
theorem q_110 : Cond.classLink RX7 23 RJx4a65c ∈ lw_tbl := List.mem_of_getElem? (i := 110) (by decide +kernel)
theorem q_111 : Cond.methodLink RX7 25 yJx4a65c_init_da8c8 ∈ lw_tbl := List.mem_of_getElem? (i := 111) (by decide +kernel)
theorem q_112 : Cond.fieldLink RX7 10 RX7 "tide" "LTideTable$Tide;" ∈ lw_tbl := List.mem_of_getElem? (i := 112) (by decide +kernel)
theorem q_113 : Cond.fieldLink RX7 19 RX7 "table" "LTideTable$Table;" ∈ lw_tbl := List.mem_of_getElem? (i := 113) (by decide +kernel)
theorem q_114 : Cond.fieldLink RX7 26 RX7 "ports" "Ljava/util/ArrayList;" ∈ lw_tbl := List.mem_of_getElem? (i := 114) (by decide +kernel)
theorem q_115 : Cond.fieldLink RX7 30 RX7 "readings" "Ljava/util/ArrayList;" ∈ lw_tbl := List.mem_of_getElem? (i := 115) (by decide +kernel)
theorem q_116 : Cond.fieldLink RX7 33 RX7 "isTableOld" "Z" ∈ lw_tbl := List.mem_of_getElem? (i := 116) (by decide +kernel)
theorem q_128 : Cond.methodLink RL 64 yX7_height ∈ lw_tbl := List.mem_of_getElem? (i := 128) (by decide +kernel)
theorem q_129 : Cond.instanceMethod yX7_height ∈ lw_tbl := List.mem_of_getElem? (i := 129) (by decide +kernel)
theorem q_130 : Cond.selects RX7 yX7_height yX7_height ∈ lw_tbl := List.mem_of_getElem? (i := 130) (by decide +kernel)
theorem q_131 : Cond.code yX7_height cX7_height 2 (some .int) ∈ lw_tbl := List.mem_of_getElem? (i := 131) (by decide +kernel)
theorem q_132 : Cond.methodLink RX7 95 yX7_isMinute ∈ lw_tbl := List.mem_of_getElem? (i := 132) (by decide +kernel)
theorem q_133 : Cond.static yX7_isMinute ∈ lw_tbl := List.mem_of_getElem? (i := 133) (by decide +kernel)
theorem q_134 : Cond.code yX7_isMinute cX7_isMinute 1 (some .boolean) ∈ lw_tbl := List.mem_of_getElem? (i := 134) (by decide +kernel)
theorem q_135 : Cond.methodLink RX7 37 yX7_isWithin ∈ lw_tbl := List.mem_of_getElem? (i := 135) (by decide +kernel)
theorem q_136 : Cond.static yX7_isWithin ∈ lw_tbl := List.mem_of_getElem? (i := 136) (by decide +kernel)
theorem q_137 : Cond.code yX7_isWithin cX7_isWithin 3 (some .boolean) ∈ lw_tbl := List.mem_of_getElem? (i := 137) (by decide +kernel)
theorem q_138 : Cond.classLink RX7 41 "java/lang/IllegalArgumentException" ∈ lw_tbl := List.mem_of_getElem? (i := 138) (by decide +kernel)
theorem q_139 : Cond.instantiable "java/lang/IllegalArgumentException" 6 ∈ lw_tbl := List.mem_of_getElem? (i := 139) (by decide +kernel)
theorem q_140 : Cond.castable "java/lang/IllegalArgumentException" "java/lang/IllegalArgumentException" ∈ lw_tbl := List.mem_of_getElem? (i := 140) (by decide +kernel)
theorem q_141 : Cond.declares ⟨"java/lang/RuntimeException", "<init>", "()V"⟩ ∈ lw_tbl := List.mem_of_getElem? (i := 141) (by decide +kernel)
theorem q_142 : Cond.declares ⟨"java/lang/RuntimeException", "<init>", "(Ljava/lang/String;)V"⟩ ∈ lw_tbl := List.mem_of_getElem? (i := 142) (by decide +kernel)
theorem q_143 : Cond.declares ⟨"java/lang/Exception", "<init>", "()V"⟩ ∈ lw_tbl := List.mem_of_getElem? (i := 143) (by decide +kernel)
theorem q_144 : Cond.declares ⟨"java/lang/Exception", "<init>", "(Ljava/lang/String;)V"⟩ ∈ lw_tbl := List.mem_of_getElem? (i := 144) (by decide +kernel)
theorem q_145 : Cond.declares ⟨"java/lang/Throwable", "<init>", "()V"⟩ ∈ lw_tbl := List.mem_of_getElem? (i := 145) (by decide +kernel)
theorem q_146 : Cond.declares ⟨"java/lang/Throwable", "<init>", "(Ljava/lang/String;)V"⟩ ∈ lw_tbl := List.mem_of_getElem? (i := 146) (by decide +kernel)
theorem q_147 : Cond.selects "java/lang/IllegalArgumentException" ⟨"java/lang/Throwable", "fillInStackTrace", "(I)Ljava/lang/Throwable;"⟩ ⟨"java/lang/Throwable", "fillInStackTrace", "(I)Ljava/lang/Throwable;"⟩ ∈ lw_tbl := List.mem_of_getElem? (i := 147) (by decide +kernel)
theorem q_148 : Cond.selects "java/lang/IllegalArgumentException" ⟨"java/lang/Throwable", "fillInStackTrace", "()Ljava/lang/Throwable;"⟩ ⟨"java/lang/Throwable", "fillInStackTrace", "()Ljava/lang/Throwable;"⟩ ∈ lw_tbl := List.mem_of_getElem? (i := 148) (by decide +kernel)
theorem q_159 : Cond.fieldLink "java/lang/Throwable" 198 "java/lang/Throwable" "backtrace" "Ljava/lang/Object;" ∈ lw_tbl := List.mem_of_getElem? (i := 159) (by decide +kernel)
theorem q_161 : Cond.instanceMethod ⟨"java/lang/Throwable", "<init>", "()V"⟩ ∈ lw_tbl := List.mem_of_getElem? (i := 161) (by decide +kernel)
theorem q_162 : Cond.code ⟨"java/lang/Throwable", "<init>", "()V"⟩ prog_23_method_1_code 1 none ∈ lw_tbl := List.mem_of_getElem? (i := 162) (by decide +kernel)
theorem q_163 : Cond.methodLink "java/lang/Throwable" 1 Lib.objectInit ∈ lw_tbl := List.mem_of_getElem? (i := 163) (by decide +kernel)
theorem q_164 : Cond.fieldLink "java/lang/Throwable" 13 "java/lang/Throwable" "UNASSIGNED_STACK" "[Ljava/lang/StackTraceElement;" ∈ lw_tbl := List.mem_of_getElem? (i := 164) (by decide +kernel)
theorem q_166 : Cond.fieldLink "java/lang/Throwable" 20 "java/lang/Throwable" "SUPPRESSED_SENTINEL" "Ljava/util/List;" ∈ lw_tbl := List.mem_of_getElem? (i := 166) (by decide +kernel)
theorem q_168 : Cond.methodLink "java/lang/Throwable" 27 ⟨"java/lang/Throwable", "fillInStackTrace", "()Ljava/lang/Throwable;"⟩ ∈ lw_tbl := List.mem_of_getElem? (i := 168) (by decide +kernel)
theorem q_169 : Cond.instanceMethod ⟨"java/lang/Throwable", "fillInStackTrace", "()Ljava/lang/Throwable;"⟩ ∈ lw_tbl := List.mem_of_getElem? (i := 169) (by decide +kernel)
theorem q_170 : Cond.sameMethod "java/lang/Throwable" "java/lang/Throwable" "fillInStackTrace" "()Ljava/lang/Throwable;" ∈ lw_tbl := List.mem_of_getElem? (i := 170) (by decide +kernel)
theorem q_171 : Cond.selects "java/lang/IllegalStateException" ⟨"java/lang/Throwable", "fillInStackTrace", "()Ljava/lang/Throwable;"⟩ ⟨"java/lang/Throwable", "fillInStackTrace", "()Ljava/lang/Throwable;"⟩ ∈ lw_tbl := List.mem_of_getElem? (i := 171) (by decide +kernel)
theorem q_172 : Cond.selects "java/lang/IndexOutOfBoundsException" ⟨"java/lang/Throwable", "fillInStackTrace", "()Ljava/lang/Throwable;"⟩ ⟨"java/lang/Throwable", "fillInStackTrace", "()Ljava/lang/Throwable;"⟩ ∈ lw_tbl := List.mem_of_getElem? (i := 172) (by decide +kernel)
theorem q_174 : Cond.methodLink "java/lang/Throwable" 202 ⟨"java/lang/Throwable", "fillInStackTrace", "(I)Ljava/lang/Throwable;"⟩ ∈ lw_tbl := List.mem_of_getElem? (i := 174) (by decide +kernel)
theorem q_176 : Cond.instanceMethod ⟨"java/lang/Throwable", "fillInStackTrace", "(I)Ljava/lang/Throwable;"⟩ ∈ lw_tbl := List.mem_of_getElem? (i := 176) (by decide +kernel)
theorem q_177 : Cond.instantiable "java/lang/Throwable" 6 ∈ lw_tbl := List.mem_of_getElem? (i := 177) (by decide +kernel)
theorem q_178 : Cond.native ⟨"java/lang/Throwable", "fillInStackTrace", "(I)Ljava/lang/Throwable;"⟩ ∈ lw_tbl := List.mem_of_getElem? (i := 178) (by decide +kernel)
theorem q_180 : Cond.methodLink RX7 45 ⟨"java/lang/IllegalArgumentException", "<init>", "(Ljava/lang/String;)V"⟩ ∈ lw_tbl := List.mem_of_getElem? (i := 180) (by decide +kernel)
theorem q_181 : Cond.instanceMethod ⟨"java/lang/IllegalArgumentException", "<init>", "(Ljava/lang/String;)V"⟩ ∈ lw_tbl := List.mem_of_getElem? (i := 181) (by decide +kernel)
theorem q_182 : Cond.code ⟨"java/lang/IllegalArgumentException", "<init>", "(Ljava/lang/String;)V"⟩ prog_14_method_2_code 2 none ∈ lw_tbl := List.mem_of_getElem? (i := 182) (by decide +kernel)
theorem q_183 : Cond.methodLink "java/lang/IllegalArgumentException" 7 ⟨"java/lang/RuntimeException", "<init>", "(Ljava/lang/String;)V"⟩ ∈ lw_tbl := List.mem_of_getElem? (i := 183) (by decide +kernel)
theorem q_184 : Cond.instanceMethod ⟨"java/lang/RuntimeException", "<init>", "(Ljava/lang/String;)V"⟩ ∈ lw_tbl := List.mem_of_getElem? (i := 184) (by decide +kernel)
theorem q_185 : Cond.code ⟨"java/lang/RuntimeException", "<init>", "(Ljava/lang/String;)V"⟩ prog_20_method_2_code 2 none ∈ lw_tbl := List.mem_of_getElem? (i := 185) (by decide +kernel)
theorem q_186 : Cond.methodLink "java/lang/RuntimeException" 7 ⟨"java/lang/Exception", "<init>", "(Ljava/lang/String;)V"⟩ ∈ lw_tbl := List.mem_of_getElem? (i := 186) (by decide +kernel)
theorem q_187 : Cond.instanceMethod ⟨"java/lang/Exception", "<init>", "(Ljava/lang/String;)V"⟩ ∈ lw_tbl := List.mem_of_getElem? (i := 187) (by decide +kernel)
theorem q_188 : Cond.code ⟨"java/lang/Exception", "<init>", "(Ljava/lang/String;)V"⟩ prog_13_method_2_code 2 none ∈ lw_tbl := List.mem_of_getElem? (i := 188) (by decide +kernel)
theorem q_189 : Cond.methodLink "java/lang/Exception" 7 ⟨"java/lang/Throwable", "<init>", "(Ljava/lang/String;)V"⟩ ∈ lw_tbl := List.mem_of_getElem? (i := 189) (by decide +kernel)
theorem q_190 : Cond.instanceMethod ⟨"java/lang/Throwable", "<init>", "(Ljava/lang/String;)V"⟩ ∈ lw_tbl := List.mem_of_getElem? (i := 190) (by decide +kernel)
theorem q_191 : Cond.code ⟨"java/lang/Throwable", "<init>", "(Ljava/lang/String;)V"⟩ prog_23_method_2_code 2 none ∈ lw_tbl := List.mem_of_getElem? (i := 191) (by decide +kernel)
theorem q_192 : Cond.fieldLink "java/lang/Throwable" 198 "java/lang/Throwable" "backtrace" "Ljava/lang/Object;" ∈ lw_tbl := List.mem_of_getElem? (i := 192) (by decide +kernel)
theorem q_193 : Cond.fieldLink "java/lang/Throwable" 31 "java/lang/Throwable" "detailMessage" "Ljava/lang/String;" ∈ lw_tbl := List.mem_of_getElem? (i := 193) (by decide +kernel)
theorem q_194 : Cond.fieldLink "java/lang/Throwable" 7 "java/lang/Throwable" "cause" "Ljava/lang/Throwable;" ∈ lw_tbl := List.mem_of_getElem? (i := 194) (by decide +kernel)
theorem q_195 : Cond.fieldLink "java/lang/Throwable" 17 "java/lang/Throwable" "stackTrace" "[Ljava/lang/StackTraceElement;" ∈ lw_tbl := List.mem_of_getElem? (i := 195) (by decide +kernel)
theorem q_196 : Cond.fieldLink "java/lang/Throwable" 24 "java/lang/Throwable" "suppressedExceptions" "Ljava/util/List;" ∈ lw_tbl := List.mem_of_getElem? (i := 196) (by decide +kernel)
theorem q_205 : Cond.arrayClass .byte ∈ lw_tbl := List.mem_of_getElem? (i := 205) (by decide +kernel)
theorem q_206 : Cond.methodLink RX7 100 yX5_heightAt ∈ lw_tbl := List.mem_of_getElem? (i := 206) (by decide +kernel)
theorem q_207 : Cond.instanceMethod yX5_heightAt ∈ lw_tbl := List.mem_of_getElem? (i := 207) (by decide +kernel)
theorem q_208 : Cond.selects RX5 yX5_heightAt yX5_heightAt ∈ lw_tbl := List.mem_of_getElem? (i := 208) (by decide +kernel)
theorem q_209 : Cond.code yX5_heightAt cX5_heightAt 4 (some .int) ∈ lw_tbl := List.mem_of_getElem? (i := 209) (by decide +kernel)
theorem q_210 : Cond.methodLink RX5 20 yJx4a65c_size_8abf5 ∈ lw_tbl := List.mem_of_getElem? (i := 210) (by decide +kernel)
theorem q_211 : Cond.instanceMethod yJx4a65c_size_8abf5 ∈ lw_tbl := List.mem_of_getElem? (i := 211) (by decide +kernel)
theorem q_212 : Cond.selects RJx4a65c yJx4a65c_size_8abf5 yJx4a65c_size_8abf5 ∈ lw_tbl := List.mem_of_getElem? (i := 212) (by decide +kernel)
theorem q_213 : Cond.code yJx4a65c_size_8abf5 cJx4a65c_size_8abf5 1 (some .int) ∈ lw_tbl := List.mem_of_getElem? (i := 213) (by decide +kernel)
theorem q_214 : Cond.methodLink RX5 24 yJx4a65c_get_915e3 ∈ lw_tbl := List.mem_of_getElem? (i := 214) (by decide +kernel)
theorem q_215 : Cond.instanceMethod yJx4a65c_get_915e3 ∈ lw_tbl := List.mem_of_getElem? (i := 215) (by decide +kernel)
theorem q_216 : Cond.selects RJx4a65c yJx4a65c_get_915e3 yJx4a65c_get_915e3 ∈ lw_tbl := List.mem_of_getElem? (i := 216) (by decide +kernel)
theorem q_217 : Cond.code yJx4a65c_get_915e3 cJx4a65c_get_915e3 2 (some (.object "java/lang/Object")) ∈ lw_tbl := List.mem_of_getElem? (i := 217) (by decide +kernel)
theorem q_218 : Cond.methodLink RJx4a65c 118 yJ15_checkIndex_7cf53 ∈ lw_tbl := List.mem_of_getElem? (i := 218) (by decide +kernel)
theorem q_219 : Cond.static yJ15_checkIndex_7cf53 ∈ lw_tbl := List.mem_of_getElem? (i := 219) (by decide +kernel)
theorem q_220 : Cond.code yJ15_checkIndex_7cf53 cJ15_checkIndex_7cf53 2 (some .int) ∈ lw_tbl := List.mem_of_getElem? (i := 220) (by decide +kernel)
theorem q_221 : Cond.methodLink RJ15 105 yJ3_checkIndex_8e157 ∈ lw_tbl := List.mem_of_getElem? (i := 221) (by decide +kernel)
theorem q_222 : Cond.static yJ3_checkIndex_8e157 ∈ lw_tbl := List.mem_of_getElem? (i := 222) (by decide +kernel)
theorem q_223 : Cond.code yJ3_checkIndex_8e157 cJ3_checkIndex_8e157 3 (some .int) ∈ lw_tbl := List.mem_of_getElem? (i := 223) (by decide +kernel)
theorem q_224 : Cond.methodLink RJx4a65c 123 yJx4a65c_elementData_915e3 ∈ lw_tbl := List.mem_of_getElem? (i := 224) (by decide +kernel)
theorem q_225 : Cond.instanceMethod yJx4a65c_elementData_915e3 ∈ lw_tbl := List.mem_of_getElem? (i := 225) (by decide +kernel)
theorem q_226 : Cond.selects RJx4a65c yJx4a65c_elementData_915e3 yJx4a65c_elementData_915e3 ∈ lw_tbl := List.mem_of_getElem? (i := 226) (by decide +kernel)
theorem q_227 : Cond.code yJx4a65c_elementData_915e3 cJx4a65c_elementData_915e3 2 (some (.object "java/lang/Object")) ∈ lw_tbl := List.mem_of_getElem? (i := 227) (by decide +kernel)
theorem q_228 : Cond.classLink RX5 28 RX6 ∈ lw_tbl := List.mem_of_getElem? (i := 228) (by decide +kernel)
theorem q_229 : Cond.methodLink RX5 30 yX6_heightAt ∈ lw_tbl := List.mem_of_getElem? (i := 229) (by decide +kernel)
theorem q_230 : Cond.instanceMethod yX6_heightAt ∈ lw_tbl := List.mem_of_getElem? (i := 230) (by decide +kernel)
theorem q_231 : Cond.selects RX6 yX6_heightAt yX6_heightAt ∈ lw_tbl := List.mem_of_getElem? (i := 231) (by decide +kernel)
theorem q_232 : Cond.code yX6_heightAt cX6_heightAt 8 (some .int) ∈ lw_tbl := List.mem_of_getElem? (i := 232) (by decide +kernel)
theorem q_233 : Cond.constantLong RX6 19 (4) ∈ lw_tbl := List.mem_of_getElem? (i := 233) (by decide +kernel)
theorem q_234 : Cond.methodLink RL 57 yX7_count ∈ lw_tbl := List.mem_of_getElem? (i := 234) (by decide +kernel)
theorem q_235 : Cond.instanceMethod yX7_count ∈ lw_tbl := List.mem_of_getElem? (i := 235) (by decide +kernel)
theorem q_236 : Cond.selects RX7 yX7_count yX7_count ∈ lw_tbl := List.mem_of_getElem? (i := 236) (by decide +kernel)
theorem q_237 : Cond.code yX7_count cX7_count 2 (some .int) ∈ lw_tbl := List.mem_of_getElem? (i := 237) (by decide +kernel)
theorem q_238 : Cond.classLink RX7 77 "java/lang/IndexOutOfBoundsException" ∈ lw_tbl := List.mem_of_getElem? (i := 238) (by decide +kernel)
theorem q_239 : Cond.instantiable "java/lang/IndexOutOfBoundsException" 6 ∈ lw_tbl := List.mem_of_getElem? (i := 239) (by decide +kernel)
theorem q_240 : Cond.castable "java/lang/IndexOutOfBoundsException" "java/lang/IndexOutOfBoundsException" ∈ lw_tbl := List.mem_of_getElem? (i := 240) (by decide +kernel)
theorem q_241 : Cond.selects "java/lang/IndexOutOfBoundsException" ⟨"java/lang/Throwable", "fillInStackTrace", "(I)Ljava/lang/Throwable;"⟩ ⟨"java/lang/Throwable", "fillInStackTrace", "(I)Ljava/lang/Throwable;"⟩ ∈ lw_tbl := List.mem_of_getElem? (i := 241) (by decide +kernel)
theorem q_248 : Cond.methodLink RX7 81 ⟨"java/lang/IndexOutOfBoundsException", "<init>", "(Ljava/lang/String;)V"⟩ ∈ lw_tbl := List.mem_of_getElem? (i := 248) (by decide +kernel)
theorem q_249 : Cond.instanceMethod ⟨"java/lang/IndexOutOfBoundsException", "<init>", "(Ljava/lang/String;)V"⟩ ∈ lw_tbl := List.mem_of_getElem? (i := 249) (by decide +kernel)
theorem q_250 : Cond.code ⟨"java/lang/IndexOutOfBoundsException", "<init>", "(Ljava/lang/String;)V"⟩ prog_16_method_2_code 2 none ∈ lw_tbl := List.mem_of_getElem? (i := 250) (by decide +kernel)
theorem q_251 : Cond.methodLink "java/lang/IndexOutOfBoundsException" 7 ⟨"java/lang/RuntimeException", "<init>", "(Ljava/lang/String;)V"⟩ ∈ lw_tbl := List.mem_of_getElem? (i := 251) (by decide +kernel)
theorem q_254 : Cond.methodLink RX7 107 yX7_numberOf ∈ lw_tbl := List.mem_of_getElem? (i := 254) (by decide +kernel)
theorem q_256 : Cond.instanceMethod yX7_numberOf ∈ lw_tbl := List.mem_of_getElem? (i := 256) (by decide +kernel)
theorem q_257 : Cond.code yX7_numberOf cX7_numberOf 2 (some .int) ∈ lw_tbl := List.mem_of_getElem? (i := 257) (by decide +kernel)
theorem q_258 : Cond.methodLink RX7 55 yJx4a65c_size_8abf5 ∈ lw_tbl := List.mem_of_getElem? (i := 258) (by decide +kernel)
theorem q_259 : Cond.methodLink RX7 110 yX7_currentTable ∈ lw_tbl := List.mem_of_getElem? (i := 259) (by decide +kernel)
theorem q_261 : Cond.instanceMethod yX7_currentTable ∈ lw_tbl := List.mem_of_getElem? (i := 261) (by decide +kernel)
theorem q_262 : Cond.code yX7_currentTable cX7_currentTable 1 (some (.object "TideTable$Table")) ∈ lw_tbl := List.mem_of_getElem? (i := 262) (by decide +kernel)
theorem q_263 : Cond.methodLink RX7 263 yX3_fill ∈ lw_tbl := List.mem_of_getElem? (i := 263) (by decide +kernel)
theorem q_264 : Cond.instanceMethod yX3_fill ∈ lw_tbl := List.mem_of_getElem? (i := 264) (by decide +kernel)
theorem q_265 : Cond.selects RX3 yX3_fill yX3_fill ∈ lw_tbl := List.mem_of_getElem? (i := 265) (by decide +kernel)
theorem q_266 : Cond.code yX3_fill cX3_fill 3 none ∈ lw_tbl := List.mem_of_getElem? (i := 266) (by decide +kernel)
theorem q_267 : Cond.methodLink RX3 25 yX5_heightAt ∈ lw_tbl := List.mem_of_getElem? (i := 267) (by decide +kernel)
theorem q_268 : Cond.methodLink RX3 31 yX3_findWaters ∈ lw_tbl := List.mem_of_getElem? (i := 268) (by decide +kernel)
theorem q_270 : Cond.instanceMethod yX3_findWaters ∈ lw_tbl := List.mem_of_getElem? (i := 270) (by decide +kernel)
theorem q_271 : Cond.code yX3_findWaters cX3_findWaters 5 none ∈ lw_tbl := List.mem_of_getElem? (i := 271) (by decide +kernel)
theorem q_272 : Cond.methodLink RX3 38 yX3_noteWater ∈ lw_tbl := List.mem_of_getElem? (i := 272) (by decide +kernel)
theorem q_274 : Cond.instanceMethod yX3_noteWater ∈ lw_tbl := List.mem_of_getElem? (i := 274) (by decide +kernel)
theorem q_275 : Cond.code yX3_noteWater cX3_noteWater 4 none ∈ lw_tbl := List.mem_of_getElem? (i := 275) (by decide +kernel)
theorem q_276 : Cond.methodLink RL 61 yX7_water ∈ lw_tbl := List.mem_of_getElem? (i := 276) (by decide +kernel)
theorem q_277 : Cond.instanceMethod yX7_water ∈ lw_tbl := List.mem_of_getElem? (i := 277) (by decide +kernel)
theorem q_278 : Cond.selects RX7 yX7_water yX7_water ∈ lw_tbl := List.mem_of_getElem? (i := 278) (by decide +kernel)
theorem q_279 : Cond.code yX7_water cX7_water 4 (some .int) ∈ lw_tbl := List.mem_of_getElem? (i := 279) (by decide +kernel)
theorem q_280 : Cond.methodLink RX7 114 yX3_hasWater ∈ lw_tbl := List.mem_of_getElem? (i := 280) (by decide +kernel)
theorem q_281 : Cond.instanceMethod yX3_hasWater ∈ lw_tbl := List.mem_of_getElem? (i := 281) (by decide +kernel)
theorem q_282 : Cond.selects RX3 yX3_hasWater yX3_hasWater ∈ lw_tbl := List.mem_of_getElem? (i := 282) (by decide +kernel)
theorem q_283 : Cond.code yX3_hasWater cX3_hasWater 2 (some .boolean) ∈ lw_tbl := List.mem_of_getElem? (i := 283) (by decide +kernel)
theorem q_285 : Cond.methodLink RX7 119 yX3_timeOf ∈ lw_tbl := List.mem_of_getElem? (i := 285) (by decide +kernel)
theorem q_286 : Cond.instanceMethod yX3_timeOf ∈ lw_tbl := List.mem_of_getElem? (i := 286) (by decide +kernel)
theorem q_287 : Cond.selects RX3 yX3_timeOf yX3_timeOf ∈ lw_tbl := List.mem_of_getElem? (i := 287) (by decide +kernel)
theorem q_288 : Cond.code yX3_timeOf cX3_timeOf 2 (some .int) ∈ lw_tbl := List.mem_of_getElem? (i := 288) (by decide +kernel)
theorem q_289 : Cond.methodLink RX3 46 yX3_hasWater ∈ lw_tbl := List.mem_of_getElem? (i := 289) (by decide +kernel)
theorem q_290 : Cond.methodLink RX7 122 yX3_heightOf ∈ lw_tbl := List.mem_of_getElem? (i := 290) (by decide +kernel)
theorem q_291 : Cond.instanceMethod yX3_heightOf ∈ lw_tbl := List.mem_of_getElem? (i := 291) (by decide +kernel)
theorem q_292 : Cond.selects RX3 yX3_heightOf yX3_heightOf ∈ lw_tbl := List.mem_of_getElem? (i := 292) (by decide +kernel)
theorem q_293 : Cond.code yX3_heightOf cX3_heightOf 2 (some .int) ∈ lw_tbl := List.mem_of_getElem? (i := 293) (by decide +kernel)
theorem q_294 : Cond.methodLink RX7 125 yX3_isHigh ∈ lw_tbl := List.mem_of_getElem? (i := 294) (by decide +kernel)
theorem q_295 : Cond.instanceMethod yX3_isHigh ∈ lw_tbl := List.mem_of_getElem? (i := 295) (by decide +kernel)
theorem q_296 : Cond.selects RX3 yX3_isHigh yX3_isHigh ∈ lw_tbl := List.mem_of_getElem? (i := 296) (by decide +kernel)
theorem q_297 : Cond.code yX3_isHigh cX3_isHigh 2 (some .boolean) ∈ lw_tbl := List.mem_of_getElem? (i := 297) (by decide +kernel)
theorem q_299 : Cond.methodLink RL 67 yX7_next ∈ lw_tbl := List.mem_of_getElem? (i := 299) (by decide +kernel)
theorem q_300 : Cond.instanceMethod yX7_next ∈ lw_tbl := List.mem_of_getElem? (i := 300) (by decide +kernel)
theorem q_301 : Cond.selects RX7 yX7_next yX7_next ∈ lw_tbl := List.mem_of_getElem? (i := 301) (by decide +kernel)
theorem q_302 : Cond.code yX7_next cX7_next 5 (some .int) ∈ lw_tbl := List.mem_of_getElem? (i := 302) (by decide +kernel)
theorem q_303 : Cond.methodLink RL 94 yX7_datum ∈ lw_tbl := List.mem_of_getElem? (i := 303) (by decide +kernel)
theorem q_304 : Cond.instanceMethod yX7_datum ∈ lw_tbl := List.mem_of_getElem? (i := 304) (by decide +kernel)
theorem q_305 : Cond.selects RX7 yX7_datum yX7_datum ∈ lw_tbl := List.mem_of_getElem? (i := 305) (by decide +kernel)
theorem q_306 : Cond.code yX7_datum cX7_datum 2 (some .int) ∈ lw_tbl := List.mem_of_getElem? (i := 306) (by decide +kernel)
theorem q_308 : Cond.methodLink RX7 135 yX3_datumOf ∈ lw_tbl := List.mem_of_getElem? (i := 308) (by decide +kernel)
theorem q_309 : Cond.instanceMethod yX3_datumOf ∈ lw_tbl := List.mem_of_getElem? (i := 309) (by decide +kernel)
theorem q_310 : Cond.selects RX3 yX3_datumOf yX3_datumOf ∈ lw_tbl := List.mem_of_getElem? (i := 310) (by decide +kernel)
theorem q_311 : Cond.code yX3_datumOf cX3_datumOf 2 (some .int) ∈ lw_tbl := List.mem_of_getElem? (i := 311) (by decide +kernel)
theorem q_312 : Cond.methodLink RX3 49 yX3_greatestHeight ∈ lw_tbl := List.mem_of_getElem? (i := 312) (by decide +kernel)
theorem q_314 : Cond.instanceMethod yX3_greatestHeight ∈ lw_tbl := List.mem_of_getElem? (i := 314) (by decide +kernel)
theorem q_315 : Cond.code yX3_greatestHeight cX3_greatestHeight 6 (some .int) ∈ lw_tbl := List.mem_of_getElem? (i := 315) (by decide +kernel)
theorem q_316 : Cond.methodLink RX3 63 yX3_heightAt ∈ lw_tbl := List.mem_of_getElem? (i := 316) (by decide +kernel)
theorem q_317 : Cond.instanceMethod yX3_heightAt ∈ lw_tbl := List.mem_of_getElem? (i := 317) (by decide +kernel)
theorem q_318 : Cond.selects RX3 yX3_heightAt yX3_heightAt ∈ lw_tbl := List.mem_of_getElem? (i := 318) (by decide +kernel)
theorem q_319 : Cond.code yX3_heightAt cX3_heightAt 2 (some .int) ∈ lw_tbl := List.mem_of_getElem? (i := 319) (by decide +kernel)
theorem q_320 : Cond.methodLinkNest RX3 42 yX7_isMinute RX7 ∈ lw_tbl := List.mem_of_getElem? (i := 320) (by decide +kernel)
theorem q_321 : Cond.methodLink RX3 64 Lib.Math.max.name ∈ lw_tbl := List.mem_of_getElem? (i := 321) (by decide +kernel)
theorem q_322 : Cond.static Lib.Math.max.name ∈ lw_tbl := List.mem_of_getElem? (i := 322) (by decide +kernel)
theorem q_323 : Cond.code Lib.Math.max.name Lib.Math.max.code 2 (some .int) ∈ lw_tbl := List.mem_of_getElem? (i := 323) (by decide +kernel)
theorem q_324 : Cond.methodLink RX3 53 yX3_leastHeight ∈ lw_tbl := List.mem_of_getElem? (i := 324) (by decide +kernel)
theorem q_326 : Cond.instanceMethod yX3_leastHeight ∈ lw_tbl := List.mem_of_getElem? (i := 326) (by decide +kernel)
theorem q_327 : Cond.code yX3_leastHeight cX3_leastHeight 6 (some .int) ∈ lw_tbl := List.mem_of_getElem? (i := 327) (by decide +kernel)
theorem q_328 : Cond.methodLink RX3 70 Lib.Math.min.name ∈ lw_tbl := List.mem_of_getElem? (i := 328) (by decide +kernel)
theorem q_329 : Cond.static Lib.Math.min.name ∈ lw_tbl := List.mem_of_getElem? (i := 329) (by decide +kernel)
theorem q_330 : Cond.code Lib.Math.min.name Lib.Math.min.code 2 (some .int) ∈ lw_tbl := List.mem_of_getElem? (i := 330) (by decide +kernel)
theorem q_331 : Cond.methodLink RX3 56 yX3_meanOfWaters ∈ lw_tbl := List.mem_of_getElem? (i := 331) (by decide +kernel)
theorem q_333 : Cond.instanceMethod yX3_meanOfWaters ∈ lw_tbl := List.mem_of_getElem? (i := 333) (by decide +kernel)
theorem q_334 : Cond.code yX3_meanOfWaters cX3_meanOfWaters 6 (some .int) ∈ lw_tbl := List.mem_of_getElem? (i := 334) (by decide +kernel)
theorem q_335 : Cond.methodLink RX3 73 yX3_isHigh ∈ lw_tbl := List.mem_of_getElem? (i := 335) (by decide +kernel)
theorem q_336 : Cond.methodLink RX3 76 yX3_heightOf ∈ lw_tbl := List.mem_of_getElem? (i := 336) (by decide +kernel)
theorem q_337 : Cond.methodLinkNest RX3 79 yX7_quotient RX7 ∈ lw_tbl := List.mem_of_getElem? (i := 337) (by decide +kernel)
theorem q_338 : Cond.static yX7_quotient ∈ lw_tbl := List.mem_of_getElem? (i := 338) (by decide +kernel)
theorem q_339 : Cond.code yX7_quotient cX7_quotient 4 (some .long) ∈ lw_tbl := List.mem_of_getElem? (i := 339) (by decide +kernel)
theorem q_340 : Cond.methodLink RX3 60 yX3_greatestDifference ∈ lw_tbl := List.mem_of_getElem? (i := 340) (by decide +kernel)
theorem q_342 : Cond.instanceMethod yX3_greatestDifference ∈ lw_tbl := List.mem_of_getElem? (i := 342) (by decide +kernel)
theorem q_343 : Cond.code yX3_greatestDifference cX3_greatestDifference 4 (some .int) ∈ lw_tbl := List.mem_of_getElem? (i := 343) (by decide +kernel)
theorem q_344 : Cond.methodLink RX3 83 Lib.Math.abs.name ∈ lw_tbl := List.mem_of_getElem? (i := 344) (by decide +kernel)
theorem q_345 : Cond.static Lib.Math.abs.name ∈ lw_tbl := List.mem_of_getElem? (i := 345) (by decide +kernel)
theorem q_346 : Cond.code Lib.Math.abs.name Lib.Math.abs.code 1 (some .int) ∈ lw_tbl := List.mem_of_getElem? (i := 346) (by decide +kernel)
theorem q_347 : Cond.methodLink RL 46 yX7_addPort ∈ lw_tbl := List.mem_of_getElem? (i := 347) (by decide +kernel)
theorem q_348 : Cond.instanceMethod yX7_addPort ∈ lw_tbl := List.mem_of_getElem? (i := 348) (by decide +kernel)
theorem q_349 : Cond.selects RX7 yX7_addPort yX7_addPort ∈ lw_tbl := List.mem_of_getElem? (i := 349) (by decide +kernel)
theorem q_350 : Cond.code yX7_addPort cX7_addPort 1 (some .int) ∈ lw_tbl := List.mem_of_getElem? (i := 350) (by decide +kernel)
theorem q_351 : Cond.classLink RX7 59 "java/lang/IllegalStateException" ∈ lw_tbl := List.mem_of_getElem? (i := 351) (by decide +kernel)
theorem q_352 : Cond.instantiable "java/lang/IllegalStateException" 6 ∈ lw_tbl := List.mem_of_getElem? (i := 352) (by decide +kernel)
theorem q_353 : Cond.castable "java/lang/IllegalStateException" "java/lang/IllegalStateException" ∈ lw_tbl := List.mem_of_getElem? (i := 353) (by decide +kernel)
theorem q_354 : Cond.selects "java/lang/IllegalStateException" ⟨"java/lang/Throwable", "fillInStackTrace", "(I)Ljava/lang/Throwable;"⟩ ⟨"java/lang/Throwable", "fillInStackTrace", "(I)Ljava/lang/Throwable;"⟩ ∈ lw_tbl := List.mem_of_getElem? (i := 354) (by decide +kernel)
theorem q_361 : Cond.methodLink RX7 63 ⟨"java/lang/IllegalStateException", "<init>", "(Ljava/lang/String;)V"⟩ ∈ lw_tbl := List.mem_of_getElem? (i := 361) (by decide +kernel)
theorem q_362 : Cond.instanceMethod ⟨"java/lang/IllegalStateException", "<init>", "(Ljava/lang/String;)V"⟩ ∈ lw_tbl := List.mem_of_getElem? (i := 362) (by decide +kernel)
theorem q_363 : Cond.code ⟨"java/lang/IllegalStateException", "<init>", "(Ljava/lang/String;)V"⟩ prog_15_method_2_code 2 none ∈ lw_tbl := List.mem_of_getElem? (i := 363) (by decide +kernel)
theorem q_364 : Cond.methodLink "java/lang/IllegalStateException" 7 ⟨"java/lang/RuntimeException", "<init>", "(Ljava/lang/String;)V"⟩ ∈ lw_tbl := List.mem_of_getElem? (i := 364) (by decide +kernel)
theorem q_367 : Cond.classLink RX7 140 RX1 ∈ lw_tbl := List.mem_of_getElem? (i := 367) (by decide +kernel)
theorem q_368 : Cond.instantiable RX1 3 ∈ lw_tbl := List.mem_of_getElem? (i := 368) (by decide +kernel)
theorem q_369 : Cond.methodLinkNest RX7 142 yX1_init RX7 ∈ lw_tbl := List.mem_of_getElem? (i := 369) (by decide +kernel)
theorem q_370 : Cond.instanceMethod yX1_init ∈ lw_tbl := List.mem_of_getElem? (i := 370) (by decide +kernel)
theorem q_371 : Cond.code yX1_init cX1_init 1 none ∈ lw_tbl := List.mem_of_getElem? (i := 371) (by decide +kernel)
theorem q_372 : Cond.methodLink RX1 3 Lib.objectInit ∈ lw_tbl := List.mem_of_getElem? (i := 372) (by decide +kernel)
theorem q_373 : Cond.classLink RX1 9 RX0 ∈ lw_tbl := List.mem_of_getElem? (i := 373) (by decide +kernel)
theorem q_374 : Cond.instantiable RX0 2 ∈ lw_tbl := List.mem_of_getElem? (i := 374) (by decide +kernel)
theorem q_375 : Cond.methodLinkNest RX1 11 yX0_init RX7 ∈ lw_tbl := List.mem_of_getElem? (i := 375) (by decide +kernel)
theorem q_376 : Cond.instanceMethod yX0_init ∈ lw_tbl := List.mem_of_getElem? (i := 376) (by decide +kernel)
theorem q_377 : Cond.code yX0_init cX0_init 1 none ∈ lw_tbl := List.mem_of_getElem? (i := 377) (by decide +kernel)
theorem q_378 : Cond.methodLink RX0 3 Lib.objectInit ∈ lw_tbl := List.mem_of_getElem? (i := 378) (by decide +kernel)
theorem q_379 : Cond.fieldLinkNest RX1 35 RX0 "shift" "I" RX7 ∈ lw_tbl := List.mem_of_getElem? (i := 379) (by decide +kernel)
theorem q_380 : Cond.fieldLinkNest RX7 161 RX0 "shift" "I" RX7 ∈ lw_tbl := List.mem_of_getElem? (i := 380) (by decide +kernel)
theorem q_381 : Cond.fieldLink RX0 9 RX0 "factor" "I" ∈ lw_tbl := List.mem_of_getElem? (i := 381) (by decide +kernel)
theorem q_382 : Cond.fieldLinkNest RX1 39 RX0 "factor" "I" RX7 ∈ lw_tbl := List.mem_of_getElem? (i := 382) (by decide +kernel)
theorem q_383 : Cond.fieldLinkNest RX7 156 RX0 "factor" "I" RX7 ∈ lw_tbl := List.mem_of_getElem? (i := 383) (by decide +kernel)
theorem q_389 : Cond.fieldLink RX1 12 RX1 "highs" "LTideTable$Follow;" ∈ lw_tbl := List.mem_of_getElem? (i := 389) (by decide +kernel)
theorem q_390 : Cond.fieldLink RX1 18 RX1 "lows" "LTideTable$Follow;" ∈ lw_tbl := List.mem_of_getElem? (i := 390) (by decide +kernel)
theorem q_391 : Cond.fieldLink RX1 45 RX1 "addition" "I" ∈ lw_tbl := List.mem_of_getElem? (i := 391) (by decide +kernel)
theorem q_392 : Cond.fieldLinkNest RX7 166 RX1 "addition" "I" RX7 ∈ lw_tbl := List.mem_of_getElem? (i := 392) (by decide +kernel)
theorem q_400 : Cond.methodLink RX7 69 yJx4a65c_add_9ea2d ∈ lw_tbl := List.mem_of_getElem? (i := 400) (by decide +kernel)
theorem q_401 : Cond.instanceMethod yJx4a65c_add_9ea2d ∈ lw_tbl := List.mem_of_getElem? (i := 401) (by decide +kernel)
theorem q_402 : Cond.selects RJx4a65c yJx4a65c_add_9ea2d yJx4a65c_add_9ea2d ∈ lw_tbl := List.mem_of_getElem? (i := 402) (by decide +kernel)
theorem q_403 : Cond.code yJx4a65c_add_9ea2d cJx4a65c_add_9ea2d 2 (some .boolean) ∈ lw_tbl := List.mem_of_getElem? (i := 403) (by decide +kernel)
theorem q_404 : Cond.methodLink RJx4a65c 131 yJx4a65c_add_72be8 ∈ lw_tbl := List.mem_of_getElem? (i := 404) (by decide +kernel)
theorem q_406 : Cond.instanceMethod yJx4a65c_add_72be8 ∈ lw_tbl := List.mem_of_getElem? (i := 406) (by decide +kernel)
theorem q_407 : Cond.code yJx4a65c_add_72be8 cJx4a65c_add_72be8 4 none ∈ lw_tbl := List.mem_of_getElem? (i := 407) (by decide +kernel)
theorem q_408 : Cond.methodLink RJx4a65c 129 yJx4a65c_grow_d5877 ∈ lw_tbl := List.mem_of_getElem? (i := 408) (by decide +kernel)
theorem q_410 : Cond.instanceMethod yJx4a65c_grow_d5877 ∈ lw_tbl := List.mem_of_getElem? (i := 410) (by decide +kernel)
theorem q_411 : Cond.code yJx4a65c_grow_d5877 cJx4a65c_grow_d5877 1 (some (.array (.object "java/lang/Object"))) ∈ lw_tbl := List.mem_of_getElem? (i := 411) (by decide +kernel)
theorem q_412 : Cond.methodLink RJx4a65c 69 yJx4a65c_grow_92f84 ∈ lw_tbl := List.mem_of_getElem? (i := 412) (by decide +kernel)
theorem q_414 : Cond.instanceMethod yJx4a65c_grow_92f84 ∈ lw_tbl := List.mem_of_getElem? (i := 414) (by decide +kernel)
theorem q_415 : Cond.code yJx4a65c_grow_92f84 cJx4a65c_grow_92f84 4 (some (.array (.object "java/lang/Object"))) ∈ lw_tbl := List.mem_of_getElem? (i := 415) (by decide +kernel)
theorem q_416 : Cond.methodLink RJx4a65c 73 yJ8_newLength_cabcc ∈ lw_tbl := List.mem_of_getElem? (i := 416) (by decide +kernel)
theorem q_417 : Cond.static yJ8_newLength_cabcc ∈ lw_tbl := List.mem_of_getElem? (i := 417) (by decide +kernel)
theorem q_418 : Cond.code yJ8_newLength_cabcc cJ8_newLength_cabcc 4 (some .int) ∈ lw_tbl := List.mem_of_getElem? (i := 418) (by decide +kernel)
theorem q_419 : Cond.methodLink RJ8 194 Lib.Math.max.name ∈ lw_tbl := List.mem_of_getElem? (i := 419) (by decide +kernel)
theorem q_420 : Cond.constant RJ8 200 (2147483639) ∈ lw_tbl := List.mem_of_getElem? (i := 420) (by decide +kernel)
theorem q_421 : Cond.methodLink RJ8 201 yJ8_hugeLength_7cf53 ∈ lw_tbl := List.mem_of_getElem? (i := 421) (by decide +kernel)
theorem q_422 : Cond.static yJ8_hugeLength_7cf53 ∈ lw_tbl := List.mem_of_getElem? (i := 422) (by decide +kernel)
theorem q_423 : Cond.code yJ8_hugeLength_7cf53 cJ8_hugeLength_7cf53 3 (some .int) ∈ lw_tbl := List.mem_of_getElem? (i := 423) (by decide +kernel)
theorem q_424 : Cond.methodLink RJx4a65c 66 yJ7_copyOf_1904c ∈ lw_tbl := List.mem_of_getElem? (i := 424) (by decide +kernel)
theorem q_425 : Cond.static yJ7_copyOf_1904c ∈ lw_tbl := List.mem_of_getElem? (i := 425) (by decide +kernel)
theorem q_426 : Cond.code yJ7_copyOf_1904c cJ7_copyOf_1904c 2 (some (.array (.object "java/lang/Object"))) ∈ lw_tbl := List.mem_of_getElem? (i := 426) (by decide +kernel)
theorem q_427 : Cond.methodLink RJ7 86 ⟨"java/lang/Object", "getClass", "()Ljava/lang/Class;"⟩ ∈ lw_tbl := List.mem_of_getElem? (i := 427) (by decide +kernel)
theorem q_428 : Cond.instanceMethod ⟨"java/lang/Object", "getClass", "()Ljava/lang/Class;"⟩ ∈ lw_tbl := List.mem_of_getElem? (i := 428) (by decide +kernel)
theorem q_429 : Cond.sameMethod "java/lang/Object" "java/lang/Object" "getClass" "()Ljava/lang/Class;" ∈ lw_tbl := List.mem_of_getElem? (i := 429) (by decide +kernel)
theorem q_430 : Cond.selects RX7 ⟨"java/lang/Object", "getClass", "()Ljava/lang/Class;"⟩ ⟨"java/lang/Object", "getClass", "()Ljava/lang/Class;"⟩ ∈ lw_tbl := List.mem_of_getElem? (i := 430) (by decide +kernel)
theorem q_431 : Cond.selects RX0 ⟨"java/lang/Object", "getClass", "()Ljava/lang/Class;"⟩ ⟨"java/lang/Object", "getClass", "()Ljava/lang/Class;"⟩ ∈ lw_tbl := List.mem_of_getElem? (i := 431) (by decide +kernel)
theorem q_432 : Cond.selects RX1 ⟨"java/lang/Object", "getClass", "()Ljava/lang/Class;"⟩ ⟨"java/lang/Object", "getClass", "()Ljava/lang/Class;"⟩ ∈ lw_tbl := List.mem_of_getElem? (i := 432) (by decide +kernel)
theorem q_433 : Cond.selects RX3 ⟨"java/lang/Object", "getClass", "()Ljava/lang/Class;"⟩ ⟨"java/lang/Object", "getClass", "()Ljava/lang/Class;"⟩ ∈ lw_tbl := List.mem_of_getElem? (i := 433) (by decide +kernel)
theorem q_434 : Cond.selects RX5 ⟨"java/lang/Object", "getClass", "()Ljava/lang/Class;"⟩ ⟨"java/lang/Object", "getClass", "()Ljava/lang/Class;"⟩ ∈ lw_tbl := List.mem_of_getElem? (i := 434) (by decide +kernel)
theorem q_435 : Cond.selects RX6 ⟨"java/lang/Object", "getClass", "()Ljava/lang/Class;"⟩ ⟨"java/lang/Object", "getClass", "()Ljava/lang/Class;"⟩ ∈ lw_tbl := List.mem_of_getElem? (i := 435) (by decide +kernel)
theorem q_436 : Cond.selects "java/lang/IllegalArgumentException" ⟨"java/lang/Object", "getClass", "()Ljava/lang/Class;"⟩ ⟨"java/lang/Object", "getClass", "()Ljava/lang/Class;"⟩ ∈ lw_tbl := List.mem_of_getElem? (i := 436) (by decide +kernel)
theorem q_437 : Cond.selects "java/lang/IllegalStateException" ⟨"java/lang/Object", "getClass", "()Ljava/lang/Class;"⟩ ⟨"java/lang/Object", "getClass", "()Ljava/lang/Class;"⟩ ∈ lw_tbl := List.mem_of_getElem? (i := 437) (by decide +kernel)
theorem q_438 : Cond.selects "java/lang/IndexOutOfBoundsException" ⟨"java/lang/Object", "getClass", "()Ljava/lang/Class;"⟩ ⟨"java/lang/Object", "getClass", "()Ljava/lang/Class;"⟩ ∈ lw_tbl := List.mem_of_getElem? (i := 438) (by decide +kernel)
theorem q_439 : Cond.selects RJx4a65c ⟨"java/lang/Object", "getClass", "()Ljava/lang/Class;"⟩ ⟨"java/lang/Object", "getClass", "()Ljava/lang/Class;"⟩ ∈ lw_tbl := List.mem_of_getElem? (i := 439) (by decide +kernel)
theorem q_440 : Cond.native ⟨"java/lang/Object", "getClass", "()Ljava/lang/Class;"⟩ ∈ lw_tbl := List.mem_of_getElem? (i := 440) (by decide +kernel)
theorem q_441 : Cond.methodLink RJ7 300 yJ7_copyOf_6403c ∈ lw_tbl := List.mem_of_getElem? (i := 441) (by decide +kernel)
theorem q_442 : Cond.static yJ7_copyOf_6403c ∈ lw_tbl := List.mem_of_getElem? (i := 442) (by decide +kernel)
theorem q_443 : Cond.code yJ7_copyOf_6403c cJ7_copyOf_6403c 4 (some (.array (.object "java/lang/Object"))) ∈ lw_tbl := List.mem_of_getElem? (i := 443) (by decide +kernel)
theorem q_444 : Cond.classLink RJ7 110 "[Ljava/lang/Object;" ∈ lw_tbl := List.mem_of_getElem? (i := 444) (by decide +kernel)
theorem q_446 : Cond.classLink RJ7 2 "java/lang/Object" ∈ lw_tbl := List.mem_of_getElem? (i := 446) (by decide +kernel)
theorem q_447 : Cond.methodLink RJ7 304 Lib.Math.min.name ∈ lw_tbl := List.mem_of_getElem? (i := 447) (by decide +kernel)
theorem q_448 : Cond.methodLink RJ7 150 arraycopyName ∈ lw_tbl := List.mem_of_getElem? (i := 448) (by decide +kernel)
theorem q_449 : Cond.static arraycopyName ∈ lw_tbl := List.mem_of_getElem? (i := 449) (by decide +kernel)
theorem q_450 : Cond.native arraycopyName ∈ lw_tbl := List.mem_of_getElem? (i := 450) (by decide +kernel)
theorem q_451 : Cond.methodLink RJx4a65c 79 Lib.Math.max.name ∈ lw_tbl := List.mem_of_getElem? (i := 451) (by decide +kernel)
theorem q_452 : Cond.classLink RJx4a65c 7 "java/lang/Object" ∈ lw_tbl := List.mem_of_getElem? (i := 452) (by decide +kernel)
theorem q_453 : Cond.methodLink RL 50 yX7_setPort ∈ lw_tbl := List.mem_of_getElem? (i := 453) (by decide +kernel)
theorem q_454 : Cond.instanceMethod yX7_setPort ∈ lw_tbl := List.mem_of_getElem? (i := 454) (by decide +kernel)
theorem q_455 : Cond.selects RX7 yX7_setPort yX7_setPort ∈ lw_tbl := List.mem_of_getElem? (i := 455) (by decide +kernel)
theorem q_456 : Cond.code yX7_setPort cX7_setPort 7 (some .int) ∈ lw_tbl := List.mem_of_getElem? (i := 456) (by decide +kernel)
theorem q_457 : Cond.methodLink RX7 143 yX7_hasPort ∈ lw_tbl := List.mem_of_getElem? (i := 457) (by decide +kernel)
theorem q_459 : Cond.instanceMethod yX7_hasPort ∈ lw_tbl := List.mem_of_getElem? (i := 459) (by decide +kernel)
theorem q_460 : Cond.code yX7_hasPort cX7_hasPort 2 (some .boolean) ∈ lw_tbl := List.mem_of_getElem? (i := 460) (by decide +kernel)
theorem q_464 : Cond.methodLink RX7 82 yJx4a65c_get_915e3 ∈ lw_tbl := List.mem_of_getElem? (i := 464) (by decide +kernel)
theorem q_465 : Cond.methodLink RX7 152 yX1_followOf ∈ lw_tbl := List.mem_of_getElem? (i := 465) (by decide +kernel)
theorem q_466 : Cond.instanceMethod yX1_followOf ∈ lw_tbl := List.mem_of_getElem? (i := 466) (by decide +kernel)
theorem q_467 : Cond.selects RX1 yX1_followOf yX1_followOf ∈ lw_tbl := List.mem_of_getElem? (i := 467) (by decide +kernel)
theorem q_468 : Cond.code yX1_followOf cX1_followOf 2 (some (.object "TideTable$Follow")) ∈ lw_tbl := List.mem_of_getElem? (i := 468) (by decide +kernel)
theorem q_469 : Cond.methodLink RL 54 yX7_setAddition ∈ lw_tbl := List.mem_of_getElem? (i := 469) (by decide +kernel)
theorem q_470 : Cond.instanceMethod yX7_setAddition ∈ lw_tbl := List.mem_of_getElem? (i := 470) (by decide +kernel)
theorem q_471 : Cond.selects RX7 yX7_setAddition yX7_setAddition ∈ lw_tbl := List.mem_of_getElem? (i := 471) (by decide +kernel)
theorem q_472 : Cond.code yX7_setAddition cX7_setAddition 5 (some .int) ∈ lw_tbl := List.mem_of_getElem? (i := 472) (by decide +kernel)
theorem q_474 : Cond.methodLink RL 71 yX7_isInOrder ∈ lw_tbl := List.mem_of_getElem? (i := 474) (by decide +kernel)
theorem q_475 : Cond.instanceMethod yX7_isInOrder ∈ lw_tbl := List.mem_of_getElem? (i := 475) (by decide +kernel)
theorem q_476 : Cond.selects RX7 yX7_isInOrder yX7_isInOrder ∈ lw_tbl := List.mem_of_getElem? (i := 476) (by decide +kernel)
theorem q_477 : Cond.code yX7_isInOrder cX7_isInOrder 2 (some .boolean) ∈ lw_tbl := List.mem_of_getElem? (i := 477) (by decide +kernel)
theorem q_478 : Cond.methodLink RX7 169 yX1_isOrderly ∈ lw_tbl := List.mem_of_getElem? (i := 478) (by decide +kernel)
theorem q_479 : Cond.instanceMethod yX1_isOrderly ∈ lw_tbl := List.mem_of_getElem? (i := 479) (by decide +kernel)
theorem q_480 : Cond.selects RX1 yX1_isOrderly yX1_isOrderly ∈ lw_tbl := List.mem_of_getElem? (i := 480) (by decide +kernel)
theorem q_481 : Cond.code yX1_isOrderly cX1_isOrderly 3 (some .boolean) ∈ lw_tbl := List.mem_of_getElem? (i := 481) (by decide +kernel)
theorem q_482 : Cond.methodLink RX1 51 yX1_timeOf ∈ lw_tbl := List.mem_of_getElem? (i := 482) (by decide +kernel)
theorem q_483 : Cond.instanceMethod yX1_timeOf ∈ lw_tbl := List.mem_of_getElem? (i := 483) (by decide +kernel)
theorem q_484 : Cond.selects RX1 yX1_timeOf yX1_timeOf ∈ lw_tbl := List.mem_of_getElem? (i := 484) (by decide +kernel)
theorem q_485 : Cond.code yX1_timeOf cX1_timeOf 3 (some .int) ∈ lw_tbl := List.mem_of_getElem? (i := 485) (by decide +kernel)
theorem q_486 : Cond.methodLink RX1 21 yX3_timeOf ∈ lw_tbl := List.mem_of_getElem? (i := 486) (by decide +kernel)
theorem q_487 : Cond.methodLink RX1 27 yX3_isHigh ∈ lw_tbl := List.mem_of_getElem? (i := 487) (by decide +kernel)
theorem q_488 : Cond.methodLink RX1 31 yX1_followOf ∈ lw_tbl := List.mem_of_getElem? (i := 488) (by decide +kernel)
theorem q_489 : Cond.methodLink RL 75 yX7_portWater ∈ lw_tbl := List.mem_of_getElem? (i := 489) (by decide +kernel)
theorem q_490 : Cond.instanceMethod yX7_portWater ∈ lw_tbl := List.mem_of_getElem? (i := 490) (by decide +kernel)
theorem q_491 : Cond.selects RX7 yX7_portWater yX7_portWater ∈ lw_tbl := List.mem_of_getElem? (i := 491) (by decide +kernel)
theorem q_492 : Cond.code yX7_portWater cX7_portWater 6 (some .int) ∈ lw_tbl := List.mem_of_getElem? (i := 492) (by decide +kernel)
theorem q_493 : Cond.methodLink RX7 173 yX1_timeOf ∈ lw_tbl := List.mem_of_getElem? (i := 493) (by decide +kernel)
theorem q_494 : Cond.methodLink RX7 176 yX1_heightOf ∈ lw_tbl := List.mem_of_getElem? (i := 494) (by decide +kernel)
theorem q_495 : Cond.instanceMethod yX1_heightOf ∈ lw_tbl := List.mem_of_getElem? (i := 495) (by decide +kernel)
theorem q_496 : Cond.selects RX1 yX1_heightOf yX1_heightOf ∈ lw_tbl := List.mem_of_getElem? (i := 496) (by decide +kernel)
theorem q_497 : Cond.code yX1_heightOf cX1_heightOf 4 (some .int) ∈ lw_tbl := List.mem_of_getElem? (i := 497) (by decide +kernel)
theorem q_498 : Cond.methodLink RX1 42 yX3_heightOf ∈ lw_tbl := List.mem_of_getElem? (i := 498) (by decide +kernel)
theorem q_499 : Cond.methodLink RL 87 yX7_portHeight ∈ lw_tbl := List.mem_of_getElem? (i := 499) (by decide +kernel)
theorem q_500 : Cond.instanceMethod yX7_portHeight ∈ lw_tbl := List.mem_of_getElem? (i := 500) (by decide +kernel)
theorem q_501 : Cond.selects RX7 yX7_portHeight yX7_portHeight ∈ lw_tbl := List.mem_of_getElem? (i := 501) (by decide +kernel)
theorem q_502 : Cond.code yX7_portHeight cX7_portHeight 6 (some .int) ∈ lw_tbl := List.mem_of_getElem? (i := 502) (by decide +kernel)
theorem q_504 : Cond.methodLink RX7 180 yX1_latestWater ∈ lw_tbl := List.mem_of_getElem? (i := 504) (by decide +kernel)
theorem q_505 : Cond.instanceMethod yX1_latestWater ∈ lw_tbl := List.mem_of_getElem? (i := 505) (by decide +kernel)
theorem q_506 : Cond.selects RX1 yX1_latestWater yX1_latestWater ∈ lw_tbl := List.mem_of_getElem? (i := 506) (by decide +kernel)
theorem q_507 : Cond.code yX1_latestWater cX1_latestWater 6 (some .int) ∈ lw_tbl := List.mem_of_getElem? (i := 507) (by decide +kernel)
theorem q_508 : Cond.methodLink RX7 184 yX3_isBetweenWaters ∈ lw_tbl := List.mem_of_getElem? (i := 508) (by decide +kernel)
theorem q_509 : Cond.instanceMethod yX3_isBetweenWaters ∈ lw_tbl := List.mem_of_getElem? (i := 509) (by decide +kernel)
theorem q_510 : Cond.selects RX3 yX3_isBetweenWaters yX3_isBetweenWaters ∈ lw_tbl := List.mem_of_getElem? (i := 510) (by decide +kernel)
theorem q_511 : Cond.code yX3_isBetweenWaters cX3_isBetweenWaters 2 (some .boolean) ∈ lw_tbl := List.mem_of_getElem? (i := 511) (by decide +kernel)
theorem q_513 : Cond.methodLink RX7 189 yX1_heightBehind ∈ lw_tbl := List.mem_of_getElem? (i := 513) (by decide +kernel)
theorem q_514 : Cond.instanceMethod yX1_heightBehind ∈ lw_tbl := List.mem_of_getElem? (i := 514) (by decide +kernel)
theorem q_515 : Cond.selects RX1 yX1_heightBehind yX1_heightBehind ∈ lw_tbl := List.mem_of_getElem? (i := 515) (by decide +kernel)
theorem q_516 : Cond.code yX1_heightBehind cX1_heightBehind 14 (some .int) ∈ lw_tbl := List.mem_of_getElem? (i := 516) (by decide +kernel)
theorem q_517 : Cond.methodLink RX1 54 yX1_heightOf ∈ lw_tbl := List.mem_of_getElem? (i := 517) (by decide +kernel)
theorem q_518 : Cond.methodLink RX1 56 yX1_twelfthsGone ∈ lw_tbl := List.mem_of_getElem? (i := 518) (by decide +kernel)
theorem q_519 : Cond.static yX1_twelfthsGone ∈ lw_tbl := List.mem_of_getElem? (i := 519) (by decide +kernel)
theorem q_520 : Cond.code yX1_twelfthsGone cX1_twelfthsGone 5 (some .long) ∈ lw_tbl := List.mem_of_getElem? (i := 520) (by decide +kernel)
theorem q_521 : Cond.constantLong RX1 65 (6) ∈ lw_tbl := List.mem_of_getElem? (i := 521) (by decide +kernel)
theorem q_522 : Cond.methodLinkNest RX1 62 yX7_quotient RX7 ∈ lw_tbl := List.mem_of_getElem? (i := 522) (by decide +kernel)
theorem q_523 : Cond.fieldLinkNest RX1 67 RX7 "TWELFTHS_OF_SIXTH" "[I" RX7 ∈ lw_tbl := List.mem_of_getElem? (i := 523) (by decide +kernel)
theorem q_525 : Cond.fieldLinkNest RX1 71 RX7 "TWELFTHS_AHEAD_OF_SIXTH" "[I" RX7 ∈ lw_tbl := List.mem_of_getElem? (i := 525) (by decide +kernel)
theorem q_527 : Cond.constantLong RX1 60 (12) ∈ lw_tbl := List.mem_of_getElem? (i := 527) (by decide +kernel)
theorem q_528 : Cond.methodLink RL 15 yL_below ∈ lw_tbl := List.mem_of_getElem? (i := 528) (by decide +kernel)
theorem q_529 : Cond.static yL_below ∈ lw_tbl := List.mem_of_getElem? (i := 529) (by decide +kernel)
theorem q_530 : Cond.code yL_below cL_below 2 (some .int) ∈ lw_tbl := List.mem_of_getElem? (i := 530) (by decide +kernel)
theorem q_531 : Cond.constant RL 7 (2147483647) ∈ lw_tbl := List.mem_of_getElem? (i := 531) (by decide +kernel)
theorem q_532 : Cond.methodLink RL 9 yL_cell ∈ lw_tbl := List.mem_of_getElem? (i := 532) (by decide +kernel)
theorem q_533 : Cond.static yL_cell ∈ lw_tbl := List.mem_of_getElem? (i := 533) (by decide +kernel)
theorem q_534 : Cond.code yL_cell cL_cell 2 (some .int) ∈ lw_tbl := List.mem_of_getElem? (i := 534) (by decide +kernel)
theorem q_535 : Cond.constant RL 8 (790386105) ∈ lw_tbl := List.mem_of_getElem? (i := 535) (by decide +kernel)
theorem q_536 : Cond.methodLink RL 42 yL_waves ∈ lw_tbl := List.mem_of_getElem? (i := 536) (by decide +kernel)
theorem q_537 : Cond.static yL_waves ∈ lw_tbl := List.mem_of_getElem? (i := 537) (by decide +kernel)
theorem q_538 : Cond.code yL_waves cL_waves 8 (some .int) ∈ lw_tbl := List.mem_of_getElem? (i := 538) (by decide +kernel)
theorem q_539 : Cond.methodLink RL 19 yX7_addWave ∈ lw_tbl := List.mem_of_getElem? (i := 539) (by decide +kernel)
theorem q_540 : Cond.instanceMethod yX7_addWave ∈ lw_tbl := List.mem_of_getElem? (i := 540) (by decide +kernel)
theorem q_541 : Cond.selects RX7 yX7_addWave yX7_addWave ∈ lw_tbl := List.mem_of_getElem? (i := 541) (by decide +kernel)
theorem q_542 : Cond.code yX7_addWave cX7_addWave 4 (some .int) ∈ lw_tbl := List.mem_of_getElem? (i := 542) (by decide +kernel)
theorem q_547 : Cond.classLink RX7 64 RX6 ∈ lw_tbl := List.mem_of_getElem? (i := 547) (by decide +kernel)
theorem q_548 : Cond.instantiable RX6 3 ∈ lw_tbl := List.mem_of_getElem? (i := 548) (by decide +kernel)
theorem q_549 : Cond.methodLink RX7 66 yX6_init ∈ lw_tbl := List.mem_of_getElem? (i := 549) (by decide +kernel)
theorem q_550 : Cond.instanceMethod yX6_init ∈ lw_tbl := List.mem_of_getElem? (i := 550) (by decide +kernel)
theorem q_551 : Cond.code yX6_init cX6_init 4 none ∈ lw_tbl := List.mem_of_getElem? (i := 551) (by decide +kernel)
theorem q_552 : Cond.methodLink RX6 1 Lib.objectInit ∈ lw_tbl := List.mem_of_getElem? (i := 552) (by decide +kernel)
theorem q_553 : Cond.fieldLink RX6 7 RX6 "range" "I" ∈ lw_tbl := List.mem_of_getElem? (i := 553) (by decide +kernel)
theorem q_554 : Cond.fieldLink RX6 13 RX6 "period" "I" ∈ lw_tbl := List.mem_of_getElem? (i := 554) (by decide +kernel)
theorem q_555 : Cond.fieldLink RX6 16 RX6 "offset" "I" ∈ lw_tbl := List.mem_of_getElem? (i := 555) (by decide +kernel)
theorem q_563 : Cond.methodLink RL 90 yJ6_compare_7cf53 ∈ lw_tbl := List.mem_of_getElem? (i := 563) (by decide +kernel)
theorem q_564 : Cond.static yJ6_compare_7cf53 ∈ lw_tbl := List.mem_of_getElem? (i := 564) (by decide +kernel)
theorem q_565 : Cond.code yJ6_compare_7cf53 cJ6_compare_7cf53 2 (some .int) ∈ lw_tbl := List.mem_of_getElem? (i := 565) (by decide +kernel)
theorem q_566 : Cond.methodLink RL 79 Lib.Math.max.name ∈ lw_tbl := List.mem_of_getElem? (i := 566) (by decide +kernel)
theorem q_567 : Cond.methodLink RL 84 Lib.Math.min.name ∈ lw_tbl := List.mem_of_getElem? (i := 567) (by decide +kernel)
theorem q_568 : Cond.sameMethod "java/lang/Throwable" "java/lang/Throwable" "fillInStackTrace" "(I)Ljava/lang/Throwable;" ∈ lw_tbl := List.mem_of_getElem? (i := 568) (by decide +kernel)
theorem q_569 : Cond.castable RX7 "java/lang/Object" ∈ lw_tbl := List.mem_of_getElem? (i := 569) (by decide +kernel)
theorem q_570 : Cond.castable RX5 "java/lang/Object" ∈ lw_tbl := List.mem_of_getElem? (i := 570) (by decide +kernel)
theorem q_571 : Cond.castable RJx4a65c "java/lang/Object" ∈ lw_tbl := List.mem_of_getElem? (i := 571) (by decide +kernel)
theorem q_572 : Cond.castable RX3 "java/lang/Object" ∈ lw_tbl := List.mem_of_getElem? (i := 572) (by decide +kernel)
theorem q_573 : Cond.castable "java/lang/IllegalArgumentException" "java/lang/Object" ∈ lw_tbl := List.mem_of_getElem? (i := 573) (by decide +kernel)
theorem q_574 : Cond.castable "java/lang/IllegalStateException" "java/lang/Object" ∈ lw_tbl := List.mem_of_getElem? (i := 574) (by decide +kernel)
theorem q_575 : Cond.castable RX6 "java/lang/Object" ∈ lw_tbl := List.mem_of_getElem? (i := 575) (by decide +kernel)
theorem q_576 : Cond.castable RX1 "java/lang/Object" ∈ lw_tbl := List.mem_of_getElem? (i := 576) (by decide +kernel)
theorem q_577 : Cond.castable RX0 "java/lang/Object" ∈ lw_tbl := List.mem_of_getElem? (i := 577) (by decide +kernel)
theorem q_578 : Cond.castable "java/lang/IndexOutOfBoundsException" "java/lang/Object" ∈ lw_tbl := List.mem_of_getElem? (i := 578) (by decide +kernel)
theorem q_579 : Cond.castable "java/lang/Throwable" "java/lang/Object" ∈ lw_tbl := List.mem_of_getElem? (i := 579) (by decide +kernel)
theorem q_580 : Cond.castable RJ0 "java/lang/Object" ∈ lw_tbl := List.mem_of_getElem? (i := 580) (by decide +kernel)
theorem q_581 : Cond.sameMethod "[Ljava/lang/Object;" "java/lang/Object" "getClass" "()Ljava/lang/Class;" ∈ lw_tbl := List.mem_of_getElem? (i := 581) (by decide +kernel)
theorem q_582 : Cond.selects "[Ljava/lang/Object;" ⟨"java/lang/Object", "getClass", "()Ljava/lang/Class;"⟩ ⟨"java/lang/Object", "getClass", "()Ljava/lang/Class;"⟩ ∈ lw_tbl := List.mem_of_getElem? (i := 582) (by decide +kernel)
theorem q_583 : Cond.declares ⟨"java/lang/Object", "getClass", "()Ljava/lang/Class;"⟩ ∈ lw_tbl := List.mem_of_getElem? (i := 583) (by decide +kernel)
theorem q_584 : Cond.castable "[I" "java/lang/Object" ∈ lw_tbl := List.mem_of_getElem? (i := 584) (by decide +kernel)
theorem q_585 : Cond.castable "[Z" "java/lang/Object" ∈ lw_tbl := List.mem_of_getElem? (i := 585) (by decide +kernel)
theorem q_586 : Cond.castable "[B" "java/lang/Object" ∈ lw_tbl := List.mem_of_getElem? (i := 586) (by decide +kernel)
theorem q_587 : Cond.castable "[Ljava/lang/Object;" "java/lang/Object" ∈ lw_tbl := List.mem_of_getElem? (i := 587) (by decide +kernel)
theorem i_Jx4a65c : ∀ w ∈ u_ws RJx4a65c TJx4a65c 3, w ∈ lw_tbl := by decide +kernel
theorem i_X0 : ∀ w ∈ u_ws RX0 TX0 2, w ∈ lw_tbl := by decide +kernel
theorem i_X1 : ∀ w ∈ u_ws RX1 TX1 3, w ∈ lw_tbl := by decide +kernel
theorem i_X3 : ∀ w ∈ u_ws RX3 TX3 5, w ∈ lw_tbl := by decide +kernel
theorem i_X5 : ∀ w ∈ u_ws RX5 TX5 2, w ∈ lw_tbl := by decide +kernel
theorem i_X6 : ∀ w ∈ u_ws RX6 TX6 3, w ∈ lw_tbl := by decide +kernel
theorem i_X7 : ∀ w ∈ u_ws RX7 TX7 5, w ∈ lw_tbl := by decide +kernel
theorem dv_Jx4a65c : ∀ j, j < 3 → defaultValue (tyJx4a65c j) = vp_V [.int (iI 0), .null, .int (iI 0)] j := by
  intro j hj
  have : j = 0 ∨ j = 1 ∨ j = 2 := by omega
  rcases this with rfl | rfl | rfl <;> first | rfl | decide | exact congrArg Value.int (by decide)
theorem dv_X0 : ∀ j, j < 2 → defaultValue (tyX0 j) = vp_V [.int (iI 0), .int (iI 0)] j := by
  intro j hj
  have : j = 0 ∨ j = 1 := by omega
  rcases this with rfl | rfl <;> first | rfl | decide | exact congrArg Value.int (by decide)
theorem dv_X1 : ∀ j, j < 3 → defaultValue (tyX1 j) = vp_V [.null, .null, .int (iI 0)] j := by
  intro j hj
  have : j = 0 ∨ j = 1 ∨ j = 2 := by omega
  rcases this with rfl | rfl | rfl <;> first | rfl | decide | exact congrArg Value.int (by decide)
theorem dv_X3 : ∀ j, j < 5 → defaultValue (tyX3 j) = vp_V [.null, .null, .null, .null, .int (iI 0)] j := by
  intro j hj
  have : j = 0 ∨ j = 1 ∨ j = 2 ∨ j = 3 ∨ j = 4 := by omega
  rcases this with rfl | rfl | rfl | rfl | rfl <;> first | rfl | decide | exact congrArg Value.int (by decide)
theorem dv_X5 : ∀ j, j < 2 → defaultValue (tyX5 j) = vp_V [.null, .int (iI 0)] j := by
  intro j hj
  have : j = 0 ∨ j = 1 := by omega
  rcases this with rfl | rfl <;> first | rfl | decide | exact congrArg Value.int (by decide)
theorem dv_X6 : ∀ j, j < 3 → defaultValue (tyX6 j) = vp_V [.int (iI 0), .int (iI 0), .int (iI 0)] j := by
  intro j hj
  have : j = 0 ∨ j = 1 ∨ j = 2 := by omega
  rcases this with rfl | rfl | rfl <;> first | rfl | decide | exact congrArg Value.int (by decide)
theorem dv_X7 : ∀ j, j < 5 → defaultValue (tyX7 j) = vp_V [.null, .null, .null, .null, .int (iI (bI false))] j := by
  intro j hj
  have : j = 0 ∨ j = 1 ∨ j = 2 ∨ j = 3 ∨ j = 4 := by omega
  rcases this with rfl | rfl | rfl | rfl | rfl <;> first | rfl | decide | exact congrArg Value.int (by decide)
theorem w_L_41 : k_wB RL 41 yX7_init cX7_init 1 none 0 := ⟨⟨q_38, q_14, q_40⟩, ⟨by decide, by decide⟩, by decide +kernel⟩
theorem w_X7_9 : k_wBN RX7 9 yX5_init RX7 cX5_init 1 none 0 := ⟨⟨q_46, q_15, q_48⟩, ⟨by decide, by decide⟩, by decide +kernel⟩
theorem w_X5_9 : k_wB RX5 9 yJx4a65c_init_da8c8 cJx4a65c_init_da8c8 1 none 0 := ⟨⟨q_52, q_18, q_54⟩, ⟨by decide, by decide⟩, by decide +kernel⟩
theorem w_Jx4a65c_1 : k_wB RJx4a65c 1 yJxc12de_init_da8c8 cJxc12de_init_da8c8 1 none 0 := ⟨⟨q_55, q_17, q_57⟩, ⟨by decide, by decide⟩, by decide +kernel⟩
theorem w_Jxc12de_1 : k_wB RJxc12de 1 yJxa1e45_init_da8c8 cJxa1e45_init_da8c8 1 none 0 := ⟨⟨q_58, q_16, q_60⟩, ⟨by decide, by decide⟩, by decide +kernel⟩
theorem w_X7_18 : k_wBN RX7 18 yX3_init RX7 cX3_init 1 none 0 := ⟨⟨q_86, q_19, q_88⟩, ⟨by decide, by decide⟩, by decide +kernel⟩
theorem w_X7_25 : k_wB RX7 25 yJx4a65c_init_da8c8 cJx4a65c_init_da8c8 1 none 0 := ⟨⟨q_111, q_18, q_54⟩, ⟨by decide, by decide⟩, by decide +kernel⟩
theorem w_L_64 : k_wB RL 64 yX7_height cX7_height 2 (some .int) 1 := ⟨⟨q_128, q_14, q_131⟩, ⟨by decide, by decide⟩, by decide +kernel⟩
theorem w_X7_95 : k_wB RX7 95 yX7_isMinute cX7_isMinute 1 (some .boolean) 1 := ⟨⟨q_132, q_14, q_134⟩, ⟨by decide, by decide⟩, by decide +kernel⟩
theorem w_X7_37 : k_wB RX7 37 yX7_isWithin cX7_isWithin 3 (some .boolean) 3 := ⟨⟨q_135, q_14, q_137⟩, ⟨by decide, by decide⟩, by decide +kernel⟩
theorem w_X7_45 : k_wB RX7 45 ⟨"java/lang/IllegalArgumentException", "<init>", "(Ljava/lang/String;)V"⟩ prog_14_method_2_code 2 none 1 := ⟨⟨q_180, q_23, q_182⟩, ⟨by decide, by decide⟩, by decide +kernel⟩
theorem w_X7_100 : k_wB RX7 100 yX5_heightAt cX5_heightAt 4 (some .int) 1 := ⟨⟨q_206, q_15, q_209⟩, ⟨by decide, by decide⟩, by decide +kernel⟩
theorem w_X5_20 : k_wB RX5 20 yJx4a65c_size_8abf5 cJx4a65c_size_8abf5 1 (some .int) 0 := ⟨⟨q_210, q_18, q_213⟩, ⟨by decide, by decide⟩, by decide +kernel⟩
theorem w_X5_24 : k_wB RX5 24 yJx4a65c_get_915e3 cJx4a65c_get_915e3 2 (some (.object "java/lang/Object")) 1 := ⟨⟨q_214, q_18, q_217⟩, ⟨by decide, by decide⟩, by decide +kernel⟩
theorem w_Jx4a65c_118 : k_wB RJx4a65c 118 yJ15_checkIndex_7cf53 cJ15_checkIndex_7cf53 2 (some .int) 2 := ⟨⟨q_218, q_33, q_220⟩, ⟨by decide, by decide⟩, by decide +kernel⟩
theorem w_J15_105 : k_wB RJ15 105 yJ3_checkIndex_8e157 cJ3_checkIndex_8e157 3 (some .int) 3 := ⟨⟨q_221, q_34, q_223⟩, ⟨by decide, by decide⟩, by decide +kernel⟩
theorem w_Jx4a65c_123 : k_wB RJx4a65c 123 yJx4a65c_elementData_915e3 cJx4a65c_elementData_915e3 2 (some (.object "java/lang/Object")) 1 := ⟨⟨q_224, q_18, q_227⟩, ⟨by decide, by decide⟩, by decide +kernel⟩
theorem w_X5_30 : k_wB RX5 30 yX6_heightAt cX6_heightAt 8 (some .int) 1 := ⟨⟨q_229, q_25, q_232⟩, ⟨by decide, by decide⟩, by decide +kernel⟩
theorem w_L_57 : k_wB RL 57 yX7_count cX7_count 2 (some .int) 1 := ⟨⟨q_234, q_14, q_237⟩, ⟨by decide, by decide⟩, by decide +kernel⟩
theorem w_X7_81 : k_wB RX7 81 ⟨"java/lang/IndexOutOfBoundsException", "<init>", "(Ljava/lang/String;)V"⟩ prog_16_method_2_code 2 none 1 := ⟨⟨q_248, q_32, q_250⟩, ⟨by decide, by decide⟩, by decide +kernel⟩
theorem w_X7_107 : k_wB RX7 107 yX7_numberOf cX7_numberOf 2 (some .int) 1 := ⟨⟨q_254, q_14, q_257⟩, ⟨by decide, by decide⟩, by decide +kernel⟩
theorem w_X7_55 : k_wB RX7 55 yJx4a65c_size_8abf5 cJx4a65c_size_8abf5 1 (some .int) 0 := ⟨⟨q_258, q_18, q_213⟩, ⟨by decide, by decide⟩, by decide +kernel⟩
theorem w_X7_110 : k_wB RX7 110 yX7_currentTable cX7_currentTable 1 (some (.object "TideTable$Table")) 0 := ⟨⟨q_259, q_14, q_262⟩, ⟨by decide, by decide⟩, by decide +kernel⟩
theorem w_X7_263 : k_wB RX7 263 yX3_fill cX3_fill 3 none 1 := ⟨⟨q_263, q_19, q_266⟩, ⟨by decide, by decide⟩, by decide +kernel⟩
theorem w_X3_25 : k_wB RX3 25 yX5_heightAt cX5_heightAt 4 (some .int) 1 := ⟨⟨q_267, q_15, q_209⟩, ⟨by decide, by decide⟩, by decide +kernel⟩
theorem w_X3_31 : k_wB RX3 31 yX3_findWaters cX3_findWaters 5 none 0 := ⟨⟨q_268, q_19, q_271⟩, ⟨by decide, by decide⟩, by decide +kernel⟩
theorem w_X3_38 : k_wB RX3 38 yX3_noteWater cX3_noteWater 4 none 3 := ⟨⟨q_272, q_19, q_275⟩, ⟨by decide, by decide⟩, by decide +kernel⟩
theorem w_L_61 : k_wB RL 61 yX7_water cX7_water 4 (some .int) 2 := ⟨⟨q_276, q_14, q_279⟩, ⟨by decide, by decide⟩, by decide +kernel⟩
theorem w_X7_114 : k_wB RX7 114 yX3_hasWater cX3_hasWater 2 (some .boolean) 1 := ⟨⟨q_280, q_19, q_283⟩, ⟨by decide, by decide⟩, by decide +kernel⟩
theorem w_X7_119 : k_wB RX7 119 yX3_timeOf cX3_timeOf 2 (some .int) 1 := ⟨⟨q_285, q_19, q_288⟩, ⟨by decide, by decide⟩, by decide +kernel⟩
theorem w_X3_46 : k_wB RX3 46 yX3_hasWater cX3_hasWater 2 (some .boolean) 1 := ⟨⟨q_289, q_19, q_283⟩, ⟨by decide, by decide⟩, by decide +kernel⟩
theorem w_X7_122 : k_wB RX7 122 yX3_heightOf cX3_heightOf 2 (some .int) 1 := ⟨⟨q_290, q_19, q_293⟩, ⟨by decide, by decide⟩, by decide +kernel⟩
theorem w_X7_125 : k_wB RX7 125 yX3_isHigh cX3_isHigh 2 (some .boolean) 1 := ⟨⟨q_294, q_19, q_297⟩, ⟨by decide, by decide⟩, by decide +kernel⟩
theorem w_L_67 : k_wB RL 67 yX7_next cX7_next 5 (some .int) 2 := ⟨⟨q_299, q_14, q_302⟩, ⟨by decide, by decide⟩, by decide +kernel⟩
theorem w_L_94 : k_wB RL 94 yX7_datum cX7_datum 2 (some .int) 1 := ⟨⟨q_303, q_14, q_306⟩, ⟨by decide, by decide⟩, by decide +kernel⟩
theorem w_X7_135 : k_wB RX7 135 yX3_datumOf cX3_datumOf 2 (some .int) 1 := ⟨⟨q_308, q_19, q_311⟩, ⟨by decide, by decide⟩, by decide +kernel⟩
theorem w_X3_49 : k_wB RX3 49 yX3_greatestHeight cX3_greatestHeight 6 (some .int) 0 := ⟨⟨q_312, q_19, q_315⟩, ⟨by decide, by decide⟩, by decide +kernel⟩
theorem w_X3_63 : k_wB RX3 63 yX3_heightAt cX3_heightAt 2 (some .int) 1 := ⟨⟨q_316, q_19, q_319⟩, ⟨by decide, by decide⟩, by decide +kernel⟩
theorem w_X3_42 : k_wBN RX3 42 yX7_isMinute RX7 cX7_isMinute 1 (some .boolean) 1 := ⟨⟨q_320, q_14, q_134⟩, ⟨by decide, by decide⟩, by decide +kernel⟩
theorem w_X3_53 : k_wB RX3 53 yX3_leastHeight cX3_leastHeight 6 (some .int) 0 := ⟨⟨q_324, q_19, q_327⟩, ⟨by decide, by decide⟩, by decide +kernel⟩
theorem w_X3_56 : k_wB RX3 56 yX3_meanOfWaters cX3_meanOfWaters 6 (some .int) 1 := ⟨⟨q_331, q_19, q_334⟩, ⟨by decide, by decide⟩, by decide +kernel⟩
theorem w_X3_73 : k_wB RX3 73 yX3_isHigh cX3_isHigh 2 (some .boolean) 1 := ⟨⟨q_335, q_19, q_297⟩, ⟨by decide, by decide⟩, by decide +kernel⟩
theorem w_X3_76 : k_wB RX3 76 yX3_heightOf cX3_heightOf 2 (some .int) 1 := ⟨⟨q_336, q_19, q_293⟩, ⟨by decide, by decide⟩, by decide +kernel⟩
theorem w_X3_79 : k_wBN RX3 79 yX7_quotient RX7 cX7_quotient 4 (some .long) 2 := ⟨⟨q_337, q_14, q_339⟩, ⟨by decide, by decide⟩, by decide +kernel⟩
theorem w_X3_60 : k_wB RX3 60 yX3_greatestDifference cX3_greatestDifference 4 (some .int) 0 := ⟨⟨q_340, q_19, q_343⟩, ⟨by decide, by decide⟩, by decide +kernel⟩
theorem w_L_46 : k_wB RL 46 yX7_addPort cX7_addPort 1 (some .int) 0 := ⟨⟨q_347, q_14, q_350⟩, ⟨by decide, by decide⟩, by decide +kernel⟩
theorem w_X7_63 : k_wB RX7 63 ⟨"java/lang/IllegalStateException", "<init>", "(Ljava/lang/String;)V"⟩ prog_15_method_2_code 2 none 1 := ⟨⟨q_361, q_24, q_363⟩, ⟨by decide, by decide⟩, by decide +kernel⟩
theorem w_X7_142 : k_wBN RX7 142 yX1_init RX7 cX1_init 1 none 0 := ⟨⟨q_369, q_30, q_371⟩, ⟨by decide, by decide⟩, by decide +kernel⟩
theorem w_X1_11 : k_wBN RX1 11 yX0_init RX7 cX0_init 1 none 0 := ⟨⟨q_375, q_31, q_377⟩, ⟨by decide, by decide⟩, by decide +kernel⟩
theorem w_X7_69 : k_wB RX7 69 yJx4a65c_add_9ea2d cJx4a65c_add_9ea2d 2 (some .boolean) 1 := ⟨⟨q_400, q_18, q_403⟩, ⟨by decide, by decide⟩, by decide +kernel⟩
theorem w_Jx4a65c_131 : k_wB RJx4a65c 131 yJx4a65c_add_72be8 cJx4a65c_add_72be8 4 none 3 := ⟨⟨q_404, q_18, q_407⟩, ⟨by decide, by decide⟩, by decide +kernel⟩
theorem w_Jx4a65c_129 : k_wB RJx4a65c 129 yJx4a65c_grow_d5877 cJx4a65c_grow_d5877 1 (some (.array (.object "java/lang/Object"))) 0 := ⟨⟨q_408, q_18, q_411⟩, ⟨by decide, by decide⟩, by decide +kernel⟩
theorem w_Jx4a65c_69 : k_wB RJx4a65c 69 yJx4a65c_grow_92f84 cJx4a65c_grow_92f84 4 (some (.array (.object "java/lang/Object"))) 1 := ⟨⟨q_412, q_18, q_415⟩, ⟨by decide, by decide⟩, by decide +kernel⟩
theorem w_Jx4a65c_73 : k_wB RJx4a65c 73 yJ8_newLength_cabcc cJ8_newLength_cabcc 4 (some .int) 3 := ⟨⟨q_416, q_26, q_418⟩, ⟨by decide, by decide⟩, by decide +kernel⟩
theorem w_J8_201 : k_wB RJ8 201 yJ8_hugeLength_7cf53 cJ8_hugeLength_7cf53 3 (some .int) 2 := ⟨⟨q_421, q_26, q_423⟩, ⟨by decide, by decide⟩, by decide +kernel⟩
theorem w_Jx4a65c_66 : k_wB RJx4a65c 66 yJ7_copyOf_1904c cJ7_copyOf_1904c 2 (some (.array (.object "java/lang/Object"))) 2 := ⟨⟨q_424, q_28, q_426⟩, ⟨by decide, by decide⟩, by decide +kernel⟩
theorem w_J7_300 : k_wB RJ7 300 yJ7_copyOf_6403c cJ7_copyOf_6403c 4 (some (.array (.object "java/lang/Object"))) 3 := ⟨⟨q_441, q_28, q_443⟩, ⟨by decide, by decide⟩, by decide +kernel⟩
theorem w_L_50 : k_wB RL 50 yX7_setPort cX7_setPort 7 (some .int) 4 := ⟨⟨q_453, q_14, q_456⟩, ⟨by decide, by decide⟩, by decide +kernel⟩
theorem w_X7_143 : k_wB RX7 143 yX7_hasPort cX7_hasPort 2 (some .boolean) 1 := ⟨⟨q_457, q_14, q_460⟩, ⟨by decide, by decide⟩, by decide +kernel⟩
theorem w_X7_82 : k_wB RX7 82 yJx4a65c_get_915e3 cJx4a65c_get_915e3 2 (some (.object "java/lang/Object")) 1 := ⟨⟨q_464, q_18, q_217⟩, ⟨by decide, by decide⟩, by decide +kernel⟩
theorem w_X7_152 : k_wB RX7 152 yX1_followOf cX1_followOf 2 (some (.object "TideTable$Follow")) 1 := ⟨⟨q_465, q_30, q_468⟩, ⟨by decide, by decide⟩, by decide +kernel⟩
theorem w_L_54 : k_wB RL 54 yX7_setAddition cX7_setAddition 5 (some .int) 2 := ⟨⟨q_469, q_14, q_472⟩, ⟨by decide, by decide⟩, by decide +kernel⟩
theorem w_L_71 : k_wB RL 71 yX7_isInOrder cX7_isInOrder 2 (some .boolean) 1 := ⟨⟨q_474, q_14, q_477⟩, ⟨by decide, by decide⟩, by decide +kernel⟩
theorem w_X7_169 : k_wB RX7 169 yX1_isOrderly cX1_isOrderly 3 (some .boolean) 1 := ⟨⟨q_478, q_30, q_481⟩, ⟨by decide, by decide⟩, by decide +kernel⟩
theorem w_X1_51 : k_wB RX1 51 yX1_timeOf cX1_timeOf 3 (some .int) 2 := ⟨⟨q_482, q_30, q_485⟩, ⟨by decide, by decide⟩, by decide +kernel⟩
theorem w_X1_21 : k_wB RX1 21 yX3_timeOf cX3_timeOf 2 (some .int) 1 := ⟨⟨q_486, q_19, q_288⟩, ⟨by decide, by decide⟩, by decide +kernel⟩
theorem w_X1_27 : k_wB RX1 27 yX3_isHigh cX3_isHigh 2 (some .boolean) 1 := ⟨⟨q_487, q_19, q_297⟩, ⟨by decide, by decide⟩, by decide +kernel⟩
theorem w_X1_31 : k_wB RX1 31 yX1_followOf cX1_followOf 2 (some (.object "TideTable$Follow")) 1 := ⟨⟨q_488, q_30, q_468⟩, ⟨by decide, by decide⟩, by decide +kernel⟩
theorem w_L_75 : k_wB RL 75 yX7_portWater cX7_portWater 6 (some .int) 3 := ⟨⟨q_489, q_14, q_492⟩, ⟨by decide, by decide⟩, by decide +kernel⟩
theorem w_X7_173 : k_wB RX7 173 yX1_timeOf cX1_timeOf 3 (some .int) 2 := ⟨⟨q_493, q_30, q_485⟩, ⟨by decide, by decide⟩, by decide +kernel⟩
theorem w_X7_176 : k_wB RX7 176 yX1_heightOf cX1_heightOf 4 (some .int) 2 := ⟨⟨q_494, q_30, q_497⟩, ⟨by decide, by decide⟩, by decide +kernel⟩
theorem w_X1_42 : k_wB RX1 42 yX3_heightOf cX3_heightOf 2 (some .int) 1 := ⟨⟨q_498, q_19, q_293⟩, ⟨by decide, by decide⟩, by decide +kernel⟩
theorem w_L_87 : k_wB RL 87 yX7_portHeight cX7_portHeight 6 (some .int) 2 := ⟨⟨q_499, q_14, q_502⟩, ⟨by decide, by decide⟩, by decide +kernel⟩
theorem w_X7_180 : k_wB RX7 180 yX1_latestWater cX1_latestWater 6 (some .int) 3 := ⟨⟨q_504, q_30, q_507⟩, ⟨by decide, by decide⟩, by decide +kernel⟩
theorem w_X7_184 : k_wB RX7 184 yX3_isBetweenWaters cX3_isBetweenWaters 2 (some .boolean) 1 := ⟨⟨q_508, q_19, q_511⟩, ⟨by decide, by decide⟩, by decide +kernel⟩
theorem w_X7_189 : k_wB RX7 189 yX1_heightBehind cX1_heightBehind 14 (some .int) 3 := ⟨⟨q_513, q_30, q_516⟩, ⟨by decide, by decide⟩, by decide +kernel⟩
theorem w_X1_54 : k_wB RX1 54 yX1_heightOf cX1_heightOf 4 (some .int) 2 := ⟨⟨q_517, q_30, q_497⟩, ⟨by decide, by decide⟩, by decide +kernel⟩
theorem w_X1_56 : k_wB RX1 56 yX1_twelfthsGone cX1_twelfthsGone 5 (some .long) 2 := ⟨⟨q_518, q_30, q_520⟩, ⟨by decide, by decide⟩, by decide +kernel⟩
theorem w_X1_62 : k_wBN RX1 62 yX7_quotient RX7 cX7_quotient 4 (some .long) 2 := ⟨⟨q_522, q_14, q_339⟩, ⟨by decide, by decide⟩, by decide +kernel⟩
theorem w_L_15 : k_wB RL 15 yL_below cL_below 2 (some .int) 2 := ⟨⟨q_528, q_13, q_530⟩, ⟨by decide, by decide⟩, by decide +kernel⟩
theorem w_L_9 : k_wB RL 9 yL_cell cL_cell 2 (some .int) 2 := ⟨⟨q_532, q_13, q_534⟩, ⟨by decide, by decide⟩, by decide +kernel⟩
theorem w_L_42 : k_wB RL 42 yL_waves cL_waves 8 (some .int) 4 := ⟨⟨q_536, q_13, q_538⟩, ⟨by decide, by decide⟩, by decide +kernel⟩
theorem w_L_19 : k_wB RL 19 yX7_addWave cX7_addWave 4 (some .int) 3 := ⟨⟨q_539, q_14, q_542⟩, ⟨by decide, by decide⟩, by decide +kernel⟩
theorem w_X7_66 : k_wB RX7 66 yX6_init cX6_init 4 none 3 := ⟨⟨q_549, q_25, q_551⟩, ⟨by decide, by decide⟩, by decide +kernel⟩
theorem w_L_90 : k_wB RL 90 yJ6_compare_7cf53 cJ6_compare_7cf53 2 (some .int) 2 := ⟨⟨q_563, q_35, q_565⟩, ⟨by decide, by decide⟩, by decide +kernel⟩
end
section
/-! ===== what the document says, over integers ===== -/
def wvH (r p o t : Int) : Int :=
  if 2 * ((t + o).tmod p) < p then (4 * r * (2 * ((t + o).tmod p)) * (p - 2 * ((t + o).tmod p))).tdiv (p * p)
  else -((4 * r * (2 * ((t + o).tmod p) - p) * (p - (2 * ((t + o).tmod p) - p))).tdiv (p * p))
def wvOk (r p o : Int) : Prop := (0 ≤ r ∧ r ≤ 5000) ∧ (60 ≤ p ∧ p ≤ 20000) ∧ (0 ≤ o ∧ o < p)
theorem arch_pos {r p v : Int} (hr : 0 ≤ r) (hp : 0 < p) (h0 : 0 ≤ v) (h1 : v ≤ p) : 0 ≤ 4 * r * v * (p - v) ∧ 4 * r * v * (p - v) ≤ r * (p * p) := by
  have h2 : 0 ≤ p - v := by omega
  have h3 : 0 ≤ v * (p - v) := Int.mul_nonneg h0 h2
  have h4 : 4 * (v * (p - v)) ≤ p * p := by
    have h5 : 0 ≤ (p - 2 * v) * (p - 2 * v) := by
      rcases Int.le_total 0 (p - 2 * v) with h | h
      · exact Int.mul_nonneg h h
      · have := Int.mul_nonneg (Int.neg_nonneg.mpr h) (Int.neg_nonneg.mpr h)
        rwa [Int.neg_mul_neg] at this
    have e : (p - 2 * v) * (p - 2 * v) = p * p - 4 * (v * (p - v)) := by
      rw [Int.sub_mul, Int.mul_sub, Int.mul_sub, Int.mul_sub]
      have e1 : p * (2 * v) = 2 * (v * p) := by rw [Int.mul_left_comm, Int.mul_comm p v]
      have e2 : 2 * v * p = 2 * (v * p) := Int.mul_assoc 2 v p
      have e3 : 2 * v * (2 * v) = 4 * (v * v) := by rw [Int.mul_assoc, Int.mul_left_comm v 2 v, ← Int.mul_assoc]; rfl
      rw [e1, e2, e3]
      omega
    omega
  have e2 : 4 * r * v * (p - v) = r * (4 * (v * (p - v))) := by
    simp only [Int.mul_assoc, Int.mul_left_comm]
  rw [e2]
  exact ⟨Int.mul_nonneg hr (by omega), Int.mul_le_mul_of_nonneg_left h4 hr⟩
theorem arch_bd {r p v : Int} (hr : 0 ≤ r) (hp : 0 < p) (h0 : 0 ≤ v) (h1 : v ≤ p) : 0 ≤ (4 * r * v * (p - v)).tdiv (p * p) ∧ (4 * r * v * (p - v)).tdiv (p * p) ≤ r := by
  obtain ⟨h2, h3⟩ := arch_pos hr hp h0 h1
  have hpp : 0 < p * p := Int.mul_pos hp hp
  rw [Int.tdiv_eq_ediv_of_nonneg h2]
  refine ⟨Int.ediv_nonneg h2 (by omega), ?_⟩
  have h5 : (4 * r * v * (p - v)) / (p * p) ≤ (r * (p * p)) / (p * p) := Int.ediv_le_ediv hpp h3
  rwa [Int.mul_ediv_cancel r (by omega)] at h5
theorem tm_bd {a p : Int} (ha : 0 ≤ a) (hp : 0 < p) : 0 ≤ a.tmod p ∧ a.tmod p < p := by
  rw [Int.tmod_eq_emod_of_nonneg ha]
  exact ⟨Int.emod_nonneg a (by omega), Int.emod_lt_of_pos a hp⟩
theorem wvH_bd {r p o t : Int} (h : wvOk r p o) (ht : 0 ≤ t) : -5000 ≤ wvH r p o t ∧ wvH r p o t ≤ 5000 := by
  obtain ⟨⟨h1, h2⟩, ⟨h3, h4⟩, ⟨h5, h6⟩⟩ := h
  obtain ⟨h7, h8⟩ := tm_bd (a := t + o) (p := p) (by omega) (by omega)
  unfold wvH
  split
  · obtain ⟨a, b⟩ := arch_bd (v := 2 * ((t + o).tmod p)) h1 (show 0 < p by omega) (by omega) (by omega)
    omega
  · obtain ⟨a, b⟩ := arch_bd (v := 2 * ((t + o).tmod p) - p) h1 (show 0 < p by omega) (by omega) (by omega)
    omega
/-- the tide: mean level, number of waves, ranges, periods, offsets -/
abbrev Td : Type := Int × Nat × (Nat → Int) × (Nat → Int) × (Nat → Int)
def htw (τ : Td) (t : Int) : Nat → Int
  | 0 => τ.1
  | n + 1 => htw τ t n + wvH (τ.2.2.1 n) (τ.2.2.2.1 n) (τ.2.2.2.2 n) t
def hT (τ : Td) (t : Nat) : Int := htw τ (t : Int) τ.2.1
def TdOk (τ : Td) : Prop := (-10000 ≤ τ.1 ∧ τ.1 ≤ 10000) ∧ τ.2.1 ≤ 8 ∧ ∀ i, i < τ.2.1 → wvOk (τ.2.2.1 i) (τ.2.2.2.1 i) (τ.2.2.2.2 i)
theorem htw_bd {τ : Td} (h : TdOk τ) {t : Int} (ht : 0 ≤ t) : ∀ n : Nat, n ≤ τ.2.1 → -10000 - 5000 * (n : Int) ≤ htw τ t n ∧ htw τ t n ≤ 10000 + 5000 * (n : Int)
  | 0, _ => by
    have := h.1
    simp only [htw]
    omega
  | n + 1, hn => by
    have h1 := htw_bd h ht n (by omega)
    have h2 := wvH_bd (h.2.2 n (by omega)) ht
    simp only [htw]
    omega
theorem hT_bd {τ : Td} (h : TdOk τ) (t : Nat) : -50000 ≤ hT τ t ∧ hT τ t ≤ 50000 := by
  have h1 := htw_bd h (t := (t : Int)) (by omega) τ.2.1 (Nat.le_refl _)
  have h2 := h.2.1
  unfold hT
  omega
/-! waters: h is the height of each minute -/
def nxt (h : Nat → Int) (v : Int) : Nat → Nat → Nat
  | 0, j => j
  | m + 1, j => if j < 4320 ∧ h j = v then nxt h v m (j + 1) else j
def nx (h : Nat → Int) (t : Nat) : Nat := nxt h (h t) 4320 (t + 1)
def isW (h : Nat → Int) (t : Nat) : Bool := decide (1 ≤ t ∧ nx h t < 4320 ∧ ((h (t - 1) < h t ∧ h (nx h t) < h t) ∨ (h t < h (t - 1) ∧ h t < h (nx h t))))
def wc (h : Nat → Int) : Nat → Nat
  | 0 => 0
  | n + 1 => wc h n + (if isW h n = true then 1 else 0)
def tmF (h : Nat → Int) (k : Nat) : Nat → Nat
  | 0 => 0
  | n + 1 => if isW h n = true ∧ wc h n = k then n else tmF h k n
def tm (h : Nat → Int) (k : Nat) : Nat := tmF h k 4320
def nW (h : Nat → Int) : Nat := wc h 4320
def hi (h : Nat → Int) (k : Nat) : Bool := decide (h (tm h k - 1) < h (tm h k))
def nextW (h : Nat → Int) (t : Int) (b : Bool) : Nat → Nat → Int
  | 0, _ => -1
  | m + 1, k => if k < nW h then (if t ≤ (tm h k : Int) ∧ hi h k = b then (k : Int) else nextW h t b m (k + 1)) else -1
def mxh (h : Nat → Int) : Nat → Int
  | 0 => h 0
  | n + 1 => max (mxh h n) (h n)
def mnh (h : Nat → Int) : Nat → Int
  | 0 => h 0
  | n + 1 => min (mnh h n) (h n)
def sumW (h : Nat → Int) (b : Bool) : Nat → Int
  | 0 => 0
  | k + 1 => if hi h k = b then sumW h b k + h (tm h k) else sumW h b k
def cntW (h : Nat → Int) (b : Bool) : Nat → Int
  | 0 => 0
  | k + 1 => if hi h k = b then cntW h b k + 1 else cntW h b k
def meanW (h : Nat → Int) (b : Bool) : Int := if cntW h b (nW h) = 0 then 0 else (sumW h b (nW h)).tdiv (cntW h b (nW h))
def difW (h : Nat → Int) : Nat → Int
  | 0 => 0
  | k + 1 => max (difW h k) ((h (tm h (k + 1)) - h (tm h k)).natAbs : Int)
def dat (h : Nat → Int) (what : Int) : Int :=
  if what = 0 then mxh h 4320 else if what = 1 then mnh h 4320 else if what = 2 then meanW h true else if what = 3 then meanW h false else difW h (nW h - 1)
/-- a port: shift and factor for highs, for lows, the addition -/
abbrev Pt : Type := Int × Int × Int × Int × Int
def PtOk (q : Pt) : Prop := (-300 ≤ q.1 ∧ q.1 ≤ 300) ∧ (0 ≤ q.2.1 ∧ q.2.1 ≤ 300) ∧ (-300 ≤ q.2.2.1 ∧ q.2.2.1 ≤ 300) ∧ (0 ≤ q.2.2.2.1 ∧ q.2.2.2.1 ≤ 300) ∧ (-3000 ≤ q.2.2.2.2 ∧ q.2.2.2.2 ≤ 3000)
def pT (h : Nat → Int) (q : Pt) (k : Nat) : Int := (tm h k : Int) + (if hi h k = true then q.1 else q.2.2.1)
def pH (h : Nat → Int) (q : Pt) (k : Nat) : Int := (h (tm h k) * (if hi h k = true then q.2.1 else q.2.2.2.1)).tdiv 100 + q.2.2.2.2
def ordF (h : Nat → Int) (q : Pt) : Nat → Bool
  | 0 => true
  | k + 1 => ordF h q k && decide (pT h q k < pT h q (k + 1))
def ord (h : Nat → Int) (q : Pt) : Bool := ordF h q (nW h - 1)
/-- the first water, from w on, that is behind t -/
def latF (h : Nat → Int) (q : Pt) (t : Int) : Nat → Nat → Nat
  | 0, w => w
  | m + 1, w => if w < nW h ∧ pT h q w ≤ t then latF h q t m (w + 1) else w
def lat (h : Nat → Int) (q : Pt) (t : Int) (w : Nat) : Nat := latF h q t (nW h - w) w
def twI (s : Int) : Int := if s = 0 then 1 else if s = 1 then 2 else if s = 2 then 3 else if s = 3 then 3 else if s = 4 then 2 else 1
def twA (s : Int) : Int := if s = 0 then 0 else if s = 1 then 1 else if s = 2 then 3 else if s = 3 then 6 else if s = 4 then 9 else 11
def gone (e d : Int) : Int := twA ((6 * e).tdiv d) * d + twI ((6 * e).tdiv d) * (6 * e - (6 * e).tdiv d * d)
/-- the height at t, between the waters w - 1 and w -/
def btw (h : Nat → Int) (q : Pt) (w : Nat) (t : Int) : Int :=
  pH h q (w - 1) + ((pH h q w - pH h q (w - 1)) * gone (t - pT h q (w - 1)) (pT h q w - pT h q (w - 1))).tdiv (12 * (pT h q w - pT h q (w - 1)))
/-- windows: how many, minutes, first, longest, the run of now -/
abbrev Tl : Type := Int × Int × Int × Int × Int
def tl0 : Tl := (0, 0, -1, 0, 0)
def tlS (x : Tl) (m : Int) (b : Bool) : Tl :=
  if b = true then (if x.2.2.2.2 = 0 then x.1 + 1 else x.1, x.2.1 + 1, if x.2.2.1 < 0 then m else x.2.2.1, max x.2.2.2.1 (x.2.2.2.2 + 1), x.2.2.2.2 + 1) else (x.1, x.2.1, x.2.2.1, x.2.2.2.1, 0)
def tlA (x : Tl) (what : Int) : Int := if what = 0 then x.1 else if what = 1 then x.2.1 else if what = 2 then x.2.2.1 else x.2.2.2.1
def tlC (h : Nat → Int) (lev : Int) (a : Nat) : Nat → Tl
  | 0 => tl0
  | m + 1 => tlS (tlC h lev a m) ((a + m : Nat) : Int) (decide (lev ≤ h (a + m)))
/-- how many waters are at or ahead of the minute a + m - 1, taken one behind the other -/
def wAt (h : Nat → Int) (q : Pt) (a : Nat) : Nat → Nat
  | 0 => 0
  | m + 1 => lat h q ((a + m : Nat) : Int) (wAt h q a m)
def tlP (h : Nat → Int) (q : Pt) (lev : Int) (a : Nat) : Nat → Tl
  | 0 => tl0
  | m + 1 => tlS (tlP h q lev a m) ((a + m : Nat) : Int) (decide (1 ≤ wAt h q a (m + 1) ∧ wAt h q a (m + 1) < nW h ∧ lev ≤ btw h q (wAt h q a (m + 1)) ((a + m : Nat) : Int)))
/-- readings: how many, times, heights -/
abbrev Rd : Type := Nat × (Nat → Nat) × (Nat → Int)
def RdOk (ρ : Rd) : Prop := ρ.1 ≤ 40 ∧ ∀ i, i < ρ.1 → ρ.2.1 i < 4320 ∧ (-50000 ≤ ρ.2.2 i ∧ ρ.2.2 i ≤ 50000)
def dif (h : Nat → Int) (ρ : Rd) (i : Nat) : Int := ρ.2.2 i - h (ρ.2.1 i)
def sumD (h : Nat → Int) (ρ : Rd) : Nat → Int
  | 0 => 0
  | n + 1 => sumD h ρ n + dif h ρ n
def wst (h : Nat → Int) (ρ : Rd) : Nat → Int
  | 0 => -1
  | n + 1 => if wst h ρ n = -1 ∨ (dif h ρ (wst h ρ n).toNat).natAbs < (dif h ρ n).natAbs then (n : Int) else wst h ρ n
/-- the checksum -/
def mixW (h : Nat → Int) (d : Int) : Nat → Int
  | 0 => d
  | k + 1 => ((mixW h d k * 31 + (tm h k : Int)) * 31 + h (tm h k)) * 31 + bI (hi h k)
def mixQ (h : Nat → Int) (q : Pt) (d : Int) : Nat → Int
  | 0 => d * 31 + bI (ord h q)
  | k + 1 => (mixQ h q d k * 31 + pT h q k) * 31 + pH h q k
def mixP (h : Nat → Int) (qs : Nat → Pt) (d : Int) : Nat → Int
  | 0 => d
  | k + 1 => mixQ h (qs k) (mixP h qs d k) (nW h)
def mixD (h : Nat → Int) (d : Int) : Nat → Int
  | 0 => d
  | k + 1 => mixD h d k * 31 + dat h (k : Int)
end
section
/-! ===== more rows: the JDK's lists ===== -/
section More
variable {θ : Kt} {κ : Kx} {cc : ByteArray} {nL : Nat} {ret : Option FieldType} {own : String} {R : Room} {Q : State → Prop} {L : List Nat} {f : Nat → wE} {k n pc : Nat} {lv : List (Nat × Value)} {st : List Value}
theorem k_acmp_eq {a b : Nat} {off : Int} (tgt : Nat) (d : decode cc pc = .ok (.if_acmp .eq off, 3)) (ht : (pc : Int) + off = (tgt : Int)) (kt : a = b → k_G θ κ cc nL ret own R Q L f k n tgt lv st) (kf : a ≠ b → k_G θ κ cc nL ret own R Q L f k n (pc + 3) lv st) : k_G θ κ cc nL ret own R Q L f k n pc lv (.ref b :: .ref a :: st) :=
  fun E H locs ls hH hS hl => lv_acmp_eq (rx := some a) (ry := some b) E.1 E.2.1 d ht (fun h => kt (Option.some.inj h) E H locs ls hH hS hl) (fun h => kf (fun z => h (congrArg some z)) E H locs ls hH hS hl)
theorem k_acmp_ne {a b : Nat} {off : Int} (tgt : Nat) (d : decode cc pc = .ok (.if_acmp .ne off, 3)) (ht : (pc : Int) + off = (tgt : Int)) (kt : a ≠ b → k_G θ κ cc nL ret own R Q L f k n tgt lv st) (kf : a = b → k_G θ κ cc nL ret own R Q L f k n (pc + 3) lv st) : k_G θ κ cc nL ret own R Q L f k n pc lv (.ref b :: .ref a :: st) :=
  fun E H locs ls hH hS hl => lv_acmp_ne (rx := some a) (ry := some b) E.1 E.2.1 d ht (fun h => kt (fun z => h (congrArg some z)) E H locs ls hH hS hl) (fun h => kf (Option.some.inj h) E H locs ls hH hS hl)
theorem k_ishr1 {x : Int} (j : Nat) (hx : x = (j : Int)) (hj : j < 2147483648) (d : decode cc pc = .ok (.ishr, 1)) (kk : k_G θ κ cc nL ret own R Q L f k n (pc + 1) lv (.int (iI ((j / 2 : Nat) : Int)) :: st)) : k_G θ κ cc nL ret own R Q L f k n pc lv (.int (iI 1) :: .int (iI x) :: st) :=
  fun E H locs ls hH hS hl => lv_ishr E.1 E.2.1 d (by
    have e : iI x >>> (iI 1 &&& 31) = iI ((j / 2 : Nat) : Int) := by
      subst hx
      rw [iI_nI, iI_nI]
      have h := pk_shrN (n := j) hj (iI 1 &&& 31) 1 (by decide)
      rw [Nat.pow_one] at h
      exact h
    rw [e]
    exact kk E H locs ls hH hS hl)
theorem k_getsD {i : Nat} (hq : Cond.fieldLink own i "java/util/ArrayList" "DEFAULTCAPACITY_EMPTY_ELEMENTDATA" "[Ljava/lang/Object;" ∈ lw_tbl) (dc : decode cc pc = .ok (.getstatic i, 3)) (kk : k_G θ κ cc nL ret own R Q L f k n (pc + 3) lv (.ref (κ.2.2.2 4) :: st)) : k_G θ κ cc nL ret own R Q L f k n pc lv st :=
  fun E H locs ls hH hS hl => va_gets E.1 E.2.1 E.2.2.2.2.2.1.2.2.2.2.1.1 hS E.2.2.2.1 (E.word hq rfl) (fun _ h => h) dc (kk E H locs ls hH hS hl)
theorem k_tlenD (dc : decode cc pc = .ok (.arraylength, 1)) (kk : k_G θ κ cc nL ret own R Q L f k n (pc + 1) lv (.int (iI 0) :: st)) : k_G θ κ cc nL ret own R Q L f k n pc lv (.ref (κ.2.2.2 4) :: st) :=
  fun E H locs ls hH hS hl => va_tlen E.1 E.2.1 E.2.2.2.2.2.1.2.2.2.2.1.2 hS (by decide) dc (kk E H locs ls hH hS hl)
theorem k_ldcM {i : Nat} (hq : Cond.classLink own i "[Ljava/lang/Object;" ∈ lw_tbl) (d : decode cc pc = .ok (.ldc i, 2)) (kk : k_G θ κ cc nL ret own R Q L f k n (pc + 2) lv (.ref (κ.2.2.2 5) :: st)) : k_G θ κ cc nL ret own R Q L f k n pc lv st :=
  fun E H locs ls hH hS hl => va_ldcM E.1 E.2.1 E.2.2.2.1 (E.word hq rfl) E.2.2.2.2.1.2.2.2.2 d (kk E H locs ls hH hS hl)
theorem k_oName {s : State} {cA : ClassId} (h : va_RA s cA (.object "java/lang/Object")) : s.vm.findClass "[Ljava/lang/Object;" = some cA := va_nmO h rfl
theorem k_orecv {a tg N : Nat} {G : Nat → Option Nat} (E : k_E θ κ cc nL ret own) {H : Heap} (hH : k_H κ L f H) (hc : Cl L f a (tg, .inl (κ.2.2.1 3, N, .inr (.inr (.inr (.inr G)))))) : ∃ cell : Cell, H[a]? = some cell ∧ cell.vm.isStatics = false ∧ θ.2.2.2.1.vm.findClass "[Ljava/lang/Object;" = some cell.cls := by
  obtain ⟨q0, hq0⟩ := k_pos hc
  refine ⟨_, hH.1 q0 _ hq0, rfl, ?_⟩
  exact k_oName (E.K.2 3 (κ.2.2.1 3, .object "java/lang/Object") rfl).2
theorem k_getC {a tg N i : Nat} {G : Nat → Option Nat} (h1 : Cond.methodLink own i ⟨"java/lang/Object", "getClass", "()Ljava/lang/Class;"⟩ ∈ lw_tbl) (h2 : Cond.declares ⟨"java/lang/Object", "getClass", "()Ljava/lang/Class;"⟩ ∈ lw_tbl) (h3 : Cond.selects "[Ljava/lang/Object;" ⟨"java/lang/Object", "getClass", "()Ljava/lang/Class;"⟩ ⟨"java/lang/Object", "getClass", "()Ljava/lang/Class;"⟩ ∈ lw_tbl) (h4 : Cond.instanceMethod ⟨"java/lang/Object", "getClass", "()Ljava/lang/Class;"⟩ ∈ lw_tbl) (h5 : Cond.native ⟨"java/lang/Object", "getClass", "()Ljava/lang/Class;"⟩ ∈ lw_tbl)
    (hc : Cl L f a (tg, .inl (κ.2.2.1 3, N, .inr (.inr (.inr (.inr G)))))) (hf : 1 ≤ R.frames) (hlo : (st.map fun v => v.category).sum + 14 ≤ R.locals) (d : decode cc pc = .ok (.invokevirtual i, 3)) (kk : k_G θ κ cc nL ret own R Q L f k n (pc + 3) lv (.ref (κ.2.2.2 5) :: st)) : k_G θ κ cc nL ret own R Q L f k n pc lv (.ref a :: st) :=
  fun E H locs ls hH hS hl => va_getC E.1 E.2.1 (by rw [E.2.2.1]; exact hl.1.symm) E.2.2.2.1 (E.word h1 rfl) (E.word h2 rfl) (E.word h3 rfl) (E.word h4 rfl) (E.word h5 rfl) E.2.2.2.2.1.2.2.2.2 (k_orecv E hH hc) hf hlo d (kk E H locs ls hH hS hl)
theorem k_castA {a tg N i : Nat} {G : Nat → Option Nat} (h1 : Cond.classLink own i "[Ljava/lang/Object;" ∈ lw_tbl) (hc : Cl L f a (tg, .inl (κ.2.2.1 3, N, .inr (.inr (.inr (.inr G)))))) (d : decode cc pc = .ok (.checkcast i, 3)) (kk : k_G θ κ cc nL ret own R Q L f k n (pc + 3) lv (.ref a :: st)) : k_G θ κ cc nL ret own R Q L f k n pc lv (.ref a :: st) := by
  intro E H locs ls hH hS hl
  obtain ⟨q0, hq0⟩ := k_pos hc
  exact va_castA E.1 E.2.1 E.2.2.2.1 (E.word h1 rfl) hH.1 q0 hq0 (k_oName (E.K.2 3 (κ.2.2.1 3, .object "java/lang/Object") rfl).2) d (kk E H locs ls hH hS hl)
/-- System.arraycopy(a0, 0, a, 0, j): the first j elements, objects of one class -/
theorem k_copyq {a0 a t0 t1 n0 n1 i ci : Nat} {g0 g1 : Nat → Option Nat} {r : vw_C} {x : Int} (j : Nat) (h1 : Cond.methodLink own i arraycopyName ∈ lw_tbl) (h2 : Cond.native arraycopyName ∈ lw_tbl) (h3 : Cond.static arraycopyName ∈ lw_tbl) (h4 : Cond.initialized "java/lang/System" ∈ lw_tbl)
    (hc0 : Cl L f a0 (t0, .inl (κ.2.2.1 3, n0, .inr (.inr (.inr (.inr g0)))))) (hc1 : Cl L f a (t1, .inl (κ.2.2.1 3, n1, .inr (.inr (.inr (.inr g1)))))) (hx : x = (j : Int)) (hj0 : j ≤ n0) (hj1 : j ≤ n1) (hjm : j < 2147483648) (hci : vwCl[ci]? = some r) (hq : Cond.castable r.1 "java/lang/Object" ∈ lw_tbl) (hel : ∀ m, m < j → ∀ y, g0 m = some y → ∃ (t : Nat) (fs : List Value), Cl L f y (t, .inr (ci, fs)))
    (hf : 1 ≤ R.frames) (hlo : (st.map fun v => v.category).sum + (nativeFrameWords "java/lang/System" "arraycopy" 5 + 11) ≤ R.locals) (d : decode cc pc = .ok (.invokestatic i, 3))
    (kk : ∀ (f' : Nat → wE) (g' : Nat → Option Nat), (∀ b, b ≠ a → f' b = f b) → Cl L f' a (t1, .inl (κ.2.2.1 3, n1, .inr (.inr (.inr (.inr g'))))) → (∀ m, m < j → g' m = g0 m) → k_G θ κ cc nL ret own R Q L f' k n (pc + 3) lv st) : k_G θ κ cc nL ret own R Q L f k n pc lv (.int (iI x) :: .int (iI 0) :: .ref a :: .int (iI 0) :: .ref a0 :: st) := by
  intro E H locs ls hH hS hl
  obtain ⟨p0, hp0⟩ := k_pos hc0
  obtain ⟨p1, hp1⟩ := k_pos hc1
  have e0 : (iI 0).toNatClampNeg = 0 := by decide
  have ej : (iI x).toNatClampNeg = j := iI_cl hx hjm
  have hnn : ¬ iI x < 0 := by rw [hx, iI_nI]; exact nI_pos hjm
  have h00 : ¬ iI 0 < 0 := by decide
  refine va_copyq (C := r.1) (E1 := "java/lang/Object") E.1 E.2.1 (by rw [E.2.2.1]; exact hl.1.symm) E.2.2.2.1 (E.word h1 rfl) (E.word h2 rfl) (E.word h3 rfl) (E.word h4 rfl) E.K hH.1 hH.2 hS p0 p1 3 3 hp0 hp1 rfl rfl h00 h00 hnn (by rw [e0, ej]; omega) (by rw [e0, ej]; omega) ?_ (fun comp c0 q1 q2 => vb_asgC (E.2.2.2.2.1.2.1 _ hq rfl) comp c0 q1 q2) hf hlo d (fun H1 locs1 q1 q2 q3 => ?_)
  · intro m hm y hy
    rw [ej] at hm
    rw [e0, Nat.zero_add] at hy
    obtain ⟨t, fs, hcy⟩ := hel m hm y hy
    obtain ⟨qy, hqy⟩ := k_pos hcy
    exact va_recv E.K hH.1 hci hqy
  · rw [e0, ej] at q1 q2
    obtain ⟨z1, z2, z3⟩ := k_Hset hH.2 hc1 hp1 q1 q2
    refine kk _ _ z2 z3 (fun m hm => ?_) E H1 locs1 ls z1 q3 hl
    rw [pk_cpy_in (by omega) (by omega)]
    rw [Nat.zero_add, Nat.sub_zero]
end More
/-! ===== an ArrayList: l with tag tl, its array with tag ta, n elements g ===== -/
def ListR (κ : Kx) (L : List Nat) (f : Nat → wE) (l tl ta n : Nat) (g : Nat → Nat) : Prop :=
  ∃ (md : Int) (E cap : Nat) (row : Nat → Option Nat), Cl L f l (tl, .inr (0, [.int (iI md), .ref E, .int (iI (n : Int))])) ∧
    ((E = κ.2.2.2 4 ∧ n = 0) ∨ (Cl L f E (ta, .inl (κ.2.2.1 3, cap, .inr (.inr (.inr (.inr row))))) ∧ n ≤ cap ∧ (10 ≤ cap ∧ cap ≤ 60) ∧ ∀ i, i < n → row i = some (g i)))
theorem ListR.fr {κ : Kx} {L L' : List Nat} {f f' : Nat → wE} {l tl ta n : Nat} {g : Nat → Nat} {S : Nat → Bool} (h : ListR κ L f l tl ta n g) (hf : k_fr S L f L' f') (hS : (S tl || S ta) = false) : ListR κ L' f' l tl ta n g := by
  obtain ⟨md, E, cap, row, h1, h2⟩ := h
  rw [Bool.or_eq_false_iff] at hS
  refine ⟨md, E, cap, row, h1.fr hf hS.1, ?_⟩
  rcases h2 with h2 | ⟨h2, h3⟩
  · exact Or.inl h2
  · exact Or.inr ⟨h2.fr hf hS.2, h3⟩
theorem ListR.le {κ : Kx} {L : List Nat} {f : Nat → wE} {l tl ta n : Nat} {g : Nat → Nat} (h : ListR κ L f l tl ta n g) : n ≤ 60 := by
  obtain ⟨md, E, cap, row, h1, h2⟩ := h
  rcases h2 with h2 | ⟨h2, h3⟩ <;> omega
theorem ListR.cl {κ : Kx} {L : List Nat} {f : Nat → wE} {l tl ta n : Nat} {g : Nat → Nat} (h : ListR κ L f l tl ta n g) : ∃ (md : Int) (E : Nat), Cl L f l (tl, .inr (0, [.int (iI md), .ref E, .int (iI (n : Int))])) := by
  obtain ⟨md, E, cap, row, h1, h2⟩ := h
  exact ⟨md, E, h1⟩
theorem k_widen {θ : Kt} {κ : Kx} {cc : ByteArray} {nL : Nat} {ret : Option FieldType} {own : String} {R : Room} {Q : State → Prop} {L : List Nat} {f : Nat → wE} {k n pc : Nat} {lv : List (Nat × Value)} {st : List Value} (k' n' : Nat) (hk : k ≤ k') (hn : n ≤ n') (kk : k_G θ κ cc nL ret own R Q L f k' n' pc lv st) : k_G θ κ cc nL ret own R Q L f k n pc lv st :=
  fun E H locs ls hH hS hl => W.widen hk hn (kk E H locs ls hH hS hl)
section Tops
variable {θ : Kt} {κ : Kx} {cc : ByteArray} {nL : Nat} {ret : Option FieldType} {own : String} {R : Room} {Q : State → Prop} {L : List Nat} {f : Nat → wE} {k n pc : Nat} {lv : List (Nat × Value)} {st : List Value}
theorem k_topi {x : Int} (y : Int) (h : x = y) (kk : k_G θ κ cc nL ret own R Q L f k n pc lv (.int (iI y) :: st)) : k_G θ κ cc nL ret own R Q L f k n pc lv (.int (iI x) :: st) := by rw [h]; exact kk
theorem k_topl {x : Int} (y : Int) (h : x = y) (kk : k_G θ κ cc nL ret own R Q L f k n pc lv (.long (lI y) :: st)) : k_G θ κ cc nL ret own R Q L f k n pc lv (.long (lI x) :: st) := by rw [h]; exact kk
theorem k_topb {x : Bool} (y : Bool) (h : x = y) (kk : k_G θ κ cc nL ret own R Q L f k n pc lv (.int (iI (bI y)) :: st)) : k_G θ κ cc nL ret own R Q L f k n pc lv (.int (iI (bI x)) :: st) := by rw [h]; exact kk
end Tops
theorem row_add {n v : Nat} {row : Nat → Option Nat} {g : Nat → Nat} (h : ∀ i, i < n → row i = some (g i)) : ∀ i, i < n + 1 → va_up row n (some v) i = some (va_up g n v i) := by
  intro i hi
  unfold va_up
  by_cases e : i = n
  · rw [if_pos e, if_pos e]
  · rw [if_neg e, if_neg e]
    exact h i (by omega)
theorem tag_ne {t u : Nat} (h : t ≠ u) : (fun v => v == u) t = false := beq_false_of_ne h
def S2 (t u : Nat) : Nat → Bool := fun v => v == t || v == u
theorem S2_l {t u : Nat} : ∀ v, S2 t u v = false → (v == t) = false := fun v h => (Bool.or_eq_false_iff.mp h).1
theorem S2_r {t u : Nat} : ∀ v, S2 t u v = false → (v == u) = false := fun v h => (Bool.or_eq_false_iff.mp h).2
end
section
/-! ===== waters: counting and finding ===== -/
theorem wc_le (h : Nat → Int) : ∀ n, wc h n ≤ n
  | 0 => Nat.le_refl 0
  | n + 1 => by
    have := wc_le h n
    simp only [wc]
    split <;> omega
theorem wc_mono (h : Nat → Int) {n : Nat} : ∀ {m : Nat}, n ≤ m → wc h n ≤ wc h m
  | 0, hm => by
    have : n = 0 := by omega
    subst this
    exact Nat.le_refl _
  | m + 1, hm => by
    rcases Nat.lt_or_ge m n with q | q
    · have : n = m + 1 := by omega
      subst this
      exact Nat.le_refl _
    · have := wc_mono h q
      simp only [wc]
      omega
theorem wc_yes {h : Nat → Int} {n : Nat} (hn : isW h n = true) : wc h (n + 1) = wc h n + 1 := by simp only [wc, if_pos hn]
theorem wc_no {h : Nat → Int} {n : Nat} (hn : ¬ isW h n = true) : wc h (n + 1) = wc h n := by simp only [wc, if_neg hn, Nat.add_zero]
theorem wc_kth {h : Nat → Int} {k : Nat} : ∀ {n : Nat}, k < wc h n → ∃ t, t < n ∧ isW h t = true ∧ wc h t = k
  | 0, hk => absurd hk (Nat.not_lt_zero _)
  | n + 1, hk => by
    by_cases hn : isW h n = true
    · rw [wc_yes hn] at hk
      rcases Nat.lt_or_ge k (wc h n) with q | q
      · obtain ⟨t, h1, h2⟩ := wc_kth q
        exact ⟨t, by omega, h2⟩
      · exact ⟨n, by omega, hn, by omega⟩
    · rw [wc_no hn] at hk
      obtain ⟨t, h1, h2⟩ := wc_kth hk
      exact ⟨t, by omega, h2⟩
theorem tmF_of {h : Nat → Int} {t : Nat} (ht : isW h t = true) : ∀ {n : Nat}, t < n → tmF h (wc h t) n = t
  | 0, hn => absurd hn (Nat.not_lt_zero _)
  | n + 1, hn => by
    simp only [tmF]
    by_cases e : t = n
    · subst e
      rw [if_pos ⟨ht, rfl⟩]
    · have h1 : wc h (t + 1) ≤ wc h n := wc_mono h (by omega)
      rw [wc_yes ht] at h1
      rw [if_neg (fun q => by have := q.2; omega)]
      exact tmF_of ht (by omega)
theorem tm_of {h : Nat → Int} {t : Nat} (ht : isW h t = true) (h1 : t < 4320) : tm h (wc h t) = t := tmF_of ht h1
theorem isW_pos {h : Nat → Int} {t : Nat} (ht : isW h t = true) : 1 ≤ t := (of_decide_eq_true ht).1
theorem tm_spec {h : Nat → Int} {k : Nat} (hk : k < nW h) : tm h k < 4320 ∧ isW h (tm h k) = true ∧ wc h (tm h k) = k ∧ 1 ≤ tm h k := by
  obtain ⟨t, h1, h2, h3⟩ := wc_kth hk
  have e : tm h k = t := by rw [← h3]; exact tm_of h2 h1
  rw [e]
  exact ⟨h1, h2, h3, isW_pos h2⟩
theorem nW_le (h : Nat → Int) : nW h ≤ 4320 := wc_le h 4320
/-! ===== what the objects of the class hold ===== -/
def TideR (κ : Kx) (L : List Nat) (f : Nat → wE) (td : Nat) (τ : Td) : Prop := ∃ (wl : Nat) (wv : Nat → Nat), Cl L f td (2, .inr (6, [.ref wl, .int (iI τ.1)])) ∧ ListR κ L f wl 6 11 τ.2.1 wv ∧ (∀ i, i < τ.2.1 → Cl L f (wv i) (14, .inr (7, [.int (iI (τ.2.2.1 i)), .int (iI (τ.2.2.2.1 i)), .int (iI (τ.2.2.2.2 i))]))) ∧ (∀ i j, i < τ.2.1 → j < τ.2.1 → wv i = wv j → i = j)
theorem TideR.fr {κ : Kx} {L L' : List Nat} {f f' : Nat → wE} {td : Nat} {τ : Td} {S : Nat → Bool} (h : TideR κ L f td τ) (hf : k_fr S L f L' f') (hS : (S 2 || (S 6 || S 11) || S 14) = false) : TideR κ L' f' td τ := by
  obtain ⟨wl, wv, h1, h2, h3, h4⟩ := h
  rw [Bool.or_eq_false_iff, Bool.or_eq_false_iff] at hS
  exact ⟨wl, wv, h1.fr hf hS.1.1, h2.fr hf hS.1.2, fun i hi => (h3 i hi).fr hf hS.2, h4⟩
/-- the table's cells, whatever they hold -/
def TblA (κ : Kx) (L : List Nat) (f : Nat → wE) (tb hs wt wh wi : Nat) (n : Int) (HH WT WH : Nat → Int) (WI : Nat → Bool) : Prop :=
  Cl L f tb (3, .inr (4, [.ref hs, .ref wt, .ref wh, .ref wi, .int (iI n)])) ∧ Cl L f hs (7, .inl (κ.2.2.1 0, 4320, .inl (fun i => iI (HH i)))) ∧ Cl L f wt (8, .inl (κ.2.2.1 0, 4320, .inl (fun i => iI (WT i)))) ∧ Cl L f wh (9, .inl (κ.2.2.1 0, 4320, .inl (fun i => iI (WH i)))) ∧ Cl L f wi (10, .inl (κ.2.2.1 2, 4320, .inl (fun i => iI (bI (WI i)))))
theorem TblA.fr {κ : Kx} {L L' : List Nat} {f f' : Nat → wE} {tb hs wt wh wi : Nat} {n : Int} {HH WT WH : Nat → Int} {WI : Nat → Bool} {S : Nat → Bool} (h : TblA κ L f tb hs wt wh wi n HH WT WH WI) (hf : k_fr S L f L' f') (hS : (S 3 || S 7 || S 8 || S 9 || S 10) = false) : TblA κ L' f' tb hs wt wh wi n HH WT WH WI := by
  obtain ⟨h1, h2, h3, h4, h5⟩ := h
  simp only [Bool.or_eq_false_iff] at hS
  exact ⟨h1.fr hf hS.1.1.1.1, h2.fr hf hS.1.1.1.2, h3.fr hf hS.1.1.2, h4.fr hf hS.1.2, h5.fr hf hS.2⟩
def TblX (κ : Kx) (L : List Nat) (f : Nat → wE) (tb : Nat) : Prop := ∃ (hs wt wh wi : Nat) (n : Int) (HH WT WH : Nat → Int) (WI : Nat → Bool), TblA κ L f tb hs wt wh wi n HH WT WH WI
theorem TblX.fr {κ : Kx} {L L' : List Nat} {f f' : Nat → wE} {tb : Nat} {S : Nat → Bool} (h : TblX κ L f tb) (hf : k_fr S L f L' f') (hS : (S 3 || S 7 || S 8 || S 9 || S 10) = false) : TblX κ L' f' tb := by
  obtain ⟨hs, wt, wh, wi, n, HH, WT, WH, WI, h1⟩ := h
  exact ⟨hs, wt, wh, wi, n, HH, WT, WH, WI, h1.fr hf hS⟩
/-- the arrays hold the heights h and their waters -/
def TblOk (h : Nat → Int) (HH WT WH : Nat → Int) (WI : Nat → Bool) : Prop := (∀ t, t < 4320 → HH t = h t) ∧ ∀ k, k < nW h → WT k = (tm h k : Int) ∧ WH k = h (tm h k) ∧ WI k = hi h k
def TblR (κ : Kx) (L : List Nat) (f : Nat → wE) (tb : Nat) (h : Nat → Int) : Prop := ∃ (hs wt wh wi : Nat) (HH WT WH : Nat → Int) (WI : Nat → Bool), TblA κ L f tb hs wt wh wi (nW h : Int) HH WT WH WI ∧ TblOk h HH WT WH WI
theorem TblR.fr {κ : Kx} {L L' : List Nat} {f f' : Nat → wE} {tb : Nat} {h : Nat → Int} {S : Nat → Bool} (hT : TblR κ L f tb h) (hf : k_fr S L f L' f') (hS : (S 3 || S 7 || S 8 || S 9 || S 10) = false) : TblR κ L' f' tb h := by
  obtain ⟨hs, wt, wh, wi, HH, WT, WH, WI, h1, h2⟩ := hT
  exact ⟨hs, wt, wh, wi, HH, WT, WH, WI, h1.fr hf hS, h2⟩
theorem TblR.x {κ : Kx} {L : List Nat} {f : Nat → wE} {tb : Nat} {h : Nat → Int} (hT : TblR κ L f tb h) : TblX κ L f tb := by
  obtain ⟨hs, wt, wh, wi, HH, WT, WH, WI, h1, h2⟩ := hT
  exact ⟨hs, wt, wh, wi, _, HH, WT, WH, WI, h1⟩
theorem TblR.cl {κ : Kx} {L : List Nat} {f : Nat → wE} {tb : Nat} {h : Nat → Int} (hT : TblR κ L f tb h) : ∃ hs wt wh wi : Nat, Cl L f tb (3, .inr (4, [.ref hs, .ref wt, .ref wh, .ref wi, .int (iI (nW h : Int))])) := by
  obtain ⟨hs, wt, wh, wi, HH, WT, WH, WI, h1, h2⟩ := hT
  exact ⟨hs, wt, wh, wi, h1.1⟩
/-- a port: pt, with its two follows -/
def PortR (L : List Nat) (f : Nat → wE) (pt : Nat) (q : Pt) : Prop := ∃ ph po : Nat, Cl L f pt (15, .inr (2, [.ref ph, .ref po, .int (iI q.2.2.2.2)])) ∧ Cl L f ph (16, .inr (1, [.int (iI q.1), .int (iI q.2.1)])) ∧ Cl L f po (17, .inr (1, [.int (iI q.2.2.1), .int (iI q.2.2.2.1)]))
theorem PortR.fr {L L' : List Nat} {f f' : Nat → wE} {pt : Nat} {q : Pt} {S : Nat → Bool} (h : PortR L f pt q) (hf : k_fr S L f L' f') (hS : (S 15 || S 16 || S 17) = false) : PortR L' f' pt q := by
  obtain ⟨ph, po, h1, h2, h3⟩ := h
  simp only [Bool.or_eq_false_iff] at hS
  exact ⟨ph, po, h1.fr hf hS.1.1, h2.fr hf hS.1.2, h3.fr hf hS.2⟩
theorem PortR.cl {L : List Nat} {f : Nat → wE} {pt : Nat} {q : Pt} (h : PortR L f pt q) : ∃ ph po : Nat, Cl L f pt (15, .inr (2, [.ref ph, .ref po, .int (iI q.2.2.2.2)])) := by
  obtain ⟨ph, po, h1, h2, h3⟩ := h
  exact ⟨ph, po, h1⟩
end
section
set_option maxHeartbeats 4000000 in
set_option maxRecDepth 100000 in
theorem c_J3_checkIndex_8e157 (la : Launch) (κ : Kx) {L : List Nat} {f : Nat → wE} {i n : Int}   (h0 : 0 ≤ i) (h1 : i < n) (h2 : n < 2147483648) : k_M la κ yJ3_checkIndex_8e157 cJ3_checkIndex_8e157 3 (some .int) 1 0 0 [.int (iI i), .int (iI n), .null] L f (k_ro L f (.int (iI i))) := by
  refine k_head RJ3 [(0, .int (iI i)), (1, .int (iI n)), (2, .null)] rfl (by decide) (Nat.le_of_ble_eq_true rfl) rfl (fun θ hθ hin => ?_)
  refine k_iload_n 0 0 dJ3_checkIndex_8e157_0 rfl rfl ?_
  refine k_if_lt 9 dJ3_checkIndex_8e157_1 (by decide) (inI_mk (by omega) (by omega)) (fun h1 => ?_) (fun h1 => ?_)
  · omega
  · refine k_iload_n 0 0 dJ3_checkIndex_8e157_4 rfl rfl ?_
    refine k_iload_n 1 1 dJ3_checkIndex_8e157_5 rfl rfl ?_
    refine k_icmp_lt 16 dJ3_checkIndex_8e157_6 (by decide) (inI_mk (by omega) (by omega)) (inI_mk (by omega) (by omega)) (fun h6 => ?_) (fun h6 => ?_)
    · refine k_iload_n 0 0 dJ3_checkIndex_8e157_16 rfl rfl ?_
      exact k_iret dJ3_checkIndex_8e157_17 rfl (Nat.le_of_ble_eq_true rfl) (Nat.le_of_ble_eq_true rfl) (k_oki rfl)
    · omega
set_option maxHeartbeats 4000000 in
set_option maxRecDepth 100000 in
theorem c_J15_checkIndex_7cf53 (la : Launch) (κ : Kx) {L : List Nat} {f : Nat → wE} {i n : Int}   (h0 : 0 ≤ i) (h1 : i < n) (h2 : n < 2147483648) : k_M la κ yJ15_checkIndex_7cf53 cJ15_checkIndex_7cf53 2 (some .int) 2 0 0 [.int (iI i), .int (iI n)] L f (k_ro L f (.int (iI i))) := by
  refine k_head RJ15 [(0, .int (iI i)), (1, .int (iI n))] rfl (by decide) (Nat.le_of_ble_eq_true rfl) rfl (fun θ hθ hin => ?_)
  refine k_iload_n 0 0 dJ15_checkIndex_7cf53_0 rfl rfl ?_
  refine k_iload_n 1 1 dJ15_checkIndex_7cf53_1 rfl rfl ?_
  refine k_null dJ15_checkIndex_7cf53_2 ?_
  refine k_useR (k_runS (c_J3_checkIndex_8e157 θ.2.1 κ (i := i) (n := n) (by omega) (by omega) (by omega)) w_J15_105 q_222 rfl rfl ⟨(Nat.le_of_ble_eq_true rfl), (Nat.le_of_ble_eq_true rfl)⟩ (Nat.le_of_ble_eq_true rfl) dJ15_checkIndex_7cf53_3) ⟨(Nat.le_of_ble_eq_true rfl), (Nat.le_of_ble_eq_true rfl)⟩ ?_
  exact k_iret dJ15_checkIndex_7cf53_6 rfl (Nat.le_of_ble_eq_true rfl) (Nat.le_of_ble_eq_true rfl) (k_oki rfl)
set_option maxHeartbeats 4000000 in
set_option maxRecDepth 100000 in
theorem c_Jx4a65c_size_8abf5 (la : Launch) (κ : Kx) {L : List Nat} {f : Nat → wE} {l tl ta n : Nat} {g : Nat → Nat}  (hL : ListR κ L f l tl ta n g)  : k_M la κ yJx4a65c_size_8abf5 cJx4a65c_size_8abf5 1 (some .int) 1 0 0 [.ref l] L f (k_ro L f (.int (iI (n : Int)))) := by
  refine k_head RJx4a65c [(0, .ref l)] rfl (by decide) (Nat.le_of_ble_eq_true rfl) rfl (fun θ hθ hin => ?_)
  obtain ⟨md, E, cap, row, cl, hE⟩ := hL
  refine k_aload_n 0 0 dJx4a65c_size_8abf5_0 rfl rfl ?_
  refine k_get 2 i_Jx4a65c q_65 cl rfl (by decide) rfl dJx4a65c_size_8abf5_1 ?_
  exact k_iret dJx4a65c_size_8abf5_4 rfl (Nat.le_of_ble_eq_true rfl) (Nat.le_of_ble_eq_true rfl) (k_oki rfl)
set_option maxHeartbeats 4000000 in
set_option maxRecDepth 100000 in
theorem c_Jx4a65c_elementData_915e3 (la : Launch) (κ : Kx) {L : List Nat} {f : Nat → wE} {l tl ta n : Nat} {g : Nat → Nat} {i : Nat}  (hL : ListR κ L f l tl ta n g) (hi : i < n) : k_M la κ yJx4a65c_elementData_915e3 cJx4a65c_elementData_915e3 2 (some (.object "java/lang/Object")) 1 0 0 [.ref l, .int (iI (i : Int))] L f (k_ro L f (.ref (g i))) := by
  refine k_head RJx4a65c [(0, .ref l), (1, .int (iI (i : Int)))] rfl (by decide) (Nat.le_of_ble_eq_true rfl) rfl (fun θ hθ hin => ?_)
  have hle := hL.le
  obtain ⟨md, E, cap, row, cl, hE⟩ := hL
  obtain ⟨cE, hnc, hcap, hrow⟩ := hE.resolve_left (fun q => by omega)
  refine k_aload_n 0 0 dJx4a65c_elementData_915e3_0 rfl rfl ?_
  refine k_get 1 i_Jx4a65c q_64 cl rfl (by decide) rfl dJx4a65c_elementData_915e3_1 ?_
  refine k_iload_n 1 1 dJx4a65c_elementData_915e3_4 rfl rfl ?_
  refine k_aald i cE rfl (by omega) (by omega) (hrow i hi) dJx4a65c_elementData_915e3_5 ?_
  exact k_aret dJx4a65c_elementData_915e3_6 rfl (Or.inl ⟨_, rfl⟩) (Nat.le_of_ble_eq_true rfl) (Nat.le_of_ble_eq_true rfl) ⟨rfl, rfl, rfl⟩
set_option maxHeartbeats 4000000 in
set_option maxRecDepth 100000 in
theorem c_Jx4a65c_get_915e3 (la : Launch) (κ : Kx) {L : List Nat} {f : Nat → wE} {l tl ta n : Nat} {g : Nat → Nat} {i : Nat}  (hL : ListR κ L f l tl ta n g) (hi : i < n) : k_M la κ yJx4a65c_get_915e3 cJx4a65c_get_915e3 2 (some (.object "java/lang/Object")) 3 0 0 [.ref l, .int (iI (i : Int))] L f (k_ro L f (.ref (g i))) := by
  refine k_head RJx4a65c [(0, .ref l), (1, .int (iI (i : Int)))] rfl (by decide) (Nat.le_of_ble_eq_true rfl) rfl (fun θ hθ hin => ?_)
  have hle := hL.le
  obtain ⟨md, E, cl⟩ := hL.cl
  refine k_iload_n 1 1 dJx4a65c_get_915e3_0 rfl rfl ?_
  refine k_aload_n 0 0 dJx4a65c_get_915e3_1 rfl rfl ?_
  refine k_get 2 i_Jx4a65c q_65 cl rfl (by decide) rfl dJx4a65c_get_915e3_2 ?_
  refine k_useR (k_runS (c_J15_checkIndex_7cf53 θ.2.1 κ (i := (i : Int)) (n := (n : Int)) (by omega) (by omega) (by omega)) w_Jx4a65c_118 q_219 rfl rfl ⟨(Nat.le_of_ble_eq_true rfl), (Nat.le_of_ble_eq_true rfl)⟩ (Nat.le_of_ble_eq_true rfl) dJx4a65c_get_915e3_5) ⟨(Nat.le_of_ble_eq_true rfl), (Nat.le_of_ble_eq_true rfl)⟩ ?_
  refine k_pop dJx4a65c_get_915e3_8 rfl ?_
  refine k_aload_n 0 0 dJx4a65c_get_915e3_9 rfl rfl ?_
  refine k_iload_n 1 1 dJx4a65c_get_915e3_10 rfl rfl ?_
  refine k_useR (k_runV (c_Jx4a65c_elementData_915e3 θ.2.1 κ (l := l) (i := i) hL hi) w_Jx4a65c_123 ⟨q_225, q_226⟩ rfl rfl cl rfl ⟨(Nat.le_of_ble_eq_true rfl), (Nat.le_of_ble_eq_true rfl)⟩ (Nat.le_of_ble_eq_true rfl) dJx4a65c_get_915e3_11) ⟨(Nat.le_of_ble_eq_true rfl), (Nat.le_of_ble_eq_true rfl)⟩ ?_
  exact k_aret dJx4a65c_get_915e3_14 rfl (Or.inl ⟨_, rfl⟩) (Nat.le_of_ble_eq_true rfl) (Nat.le_of_ble_eq_true rfl) ⟨rfl, rfl, rfl⟩
set_option maxHeartbeats 4000000 in
set_option maxRecDepth 100000 in
theorem c_J8_newLength_cabcc (la : Launch) (κ : Kx) {L : List Nat} {f : Nat → wE} {o a b : Int}   (h1 : 0 ≤ o ∧ o ≤ 1000) (h2 : 0 ≤ a ∧ a ≤ 1000) (h3 : 0 ≤ b ∧ b ≤ 1000) (h4 : 0 < o + max a b) : k_M la κ yJ8_newLength_cabcc cJ8_newLength_cabcc 4 (some .int) 2 0 0 [.int (iI o), .int (iI a), .int (iI b)] L f (k_ro L f (.int (iI (o + max a b)))) := by
  refine k_head RJ8 [(0, .int (iI o)), (1, .int (iI a)), (2, .int (iI b))] rfl (by decide) (Nat.le_of_ble_eq_true rfl) rfl (fun θ hθ hin => ?_)
  refine k_iload_n 0 0 dJ8_newLength_cabcc_0 rfl rfl ?_
  refine k_iload_n 1 1 dJ8_newLength_cabcc_1 rfl rfl ?_
  refine k_iload_n 2 2 dJ8_newLength_cabcc_2 rfl rfl ?_
  refine k_max q_419 q_322 q_27 q_323 (inI_mk (by omega) (by omega)) (inI_mk (by omega) (by omega)) (Nat.le_of_ble_eq_true rfl) (Nat.le_of_ble_eq_true rfl) ⟨(Nat.le_of_ble_eq_true rfl), (Nat.le_of_ble_eq_true rfl)⟩ dJ8_newLength_cabcc_3 ?_
  refine k_iadd dJ8_newLength_cabcc_6 ?_
  refine k_istore_n 3 [(3, .int (iI (o + (max a b)))), (0, .int (iI o)), (1, .int (iI a)), (2, .int (iI b))] dJ8_newLength_cabcc_7 rfl (by decide) rfl ?_
  refine k_iconst dJ8_newLength_cabcc_8 ?_
  refine k_iload_n 0 3 dJ8_newLength_cabcc_9 rfl rfl ?_
  refine k_icmp_ge 21 dJ8_newLength_cabcc_10 (by decide) (inI_mk (by omega) (by omega)) (inI_mk (by omega) (by omega)) (fun h10 => ?_) (fun h10 => ?_)
  · omega
  · refine k_iload_n 0 3 dJ8_newLength_cabcc_13 rfl rfl ?_
    refine k_ldc 2147483639 q_420 (by decide) dJ8_newLength_cabcc_14 ?_
    refine k_icmp_gt 21 dJ8_newLength_cabcc_16 (by decide) (inI_mk (by omega) (by omega)) (inI_mk (by omega) (by omega)) (fun h16 => ?_) (fun h16 => ?_)
    · omega
    · refine k_iload_n 0 3 dJ8_newLength_cabcc_19 rfl rfl ?_
      exact k_iret dJ8_newLength_cabcc_20 rfl (Nat.le_of_ble_eq_true rfl) (Nat.le_of_ble_eq_true rfl) (k_oki rfl)
set_option maxHeartbeats 4000000 in
set_option maxRecDepth 100000 in
theorem c_J7_copyOf_6403c (la : Launch) (κ : Kx) {L : List Nat} {f : Nat → wE} {a n ta ci : Nat} {row : Nat → Option Nat} {g : Nat → Nat} {r : vw_C} {m : Nat} (ca : Cl L f a (ta, .inl (κ.2.2.1 3, n, .inr (.inr (.inr (.inr row))))))  (hnm : n ≤ m ∧ m ≤ 60) (hci : vwCl[ci]? = some r) (hq : Cond.castable r.1 "java/lang/Object" ∈ lw_tbl) (hrow : ∀ i, i < n → row i = some (g i)) (hel : ∀ i, i < n → ∃ (t : Nat) (fs : List Value), Cl L f (g i) (t, .inr (ci, fs))) : k_M la κ yJ7_copyOf_6403c cJ7_copyOf_6403c 4 (some (.array (.object "java/lang/Object"))) 2 1 60 [.ref a, .int (iI (m : Int)), .ref (κ.2.2.2 5)] L f (k_rn (fun w L' f' => ∃ (q9 : Nat) (row9 : Nat → Option Nat), w = .ref q9 ∧ (∀ z ∈ L, z ∈ L' ∧ f' z = f z) ∧ Cl L' f' q9 (ta, .inl (κ.2.2.1 3, m, .inr (.inr (.inr (.inr row9))))) ∧ ∀ i, i < n → row9 i = some (g i))) := by
  refine k_head RJ7 [(0, .ref a), (1, .int (iI (m : Int))), (2, .ref (κ.2.2.2 5))] rfl (by decide) (Nat.le_of_ble_eq_true rfl) rfl (fun θ hθ hin => ?_)
  have ca0 := ca.1
  refine k_aload_n 2 2 dJ7_copyOf_6403c_0 rfl rfl ?_
  refine k_ldcM q_444 dJ7_copyOf_6403c_1 ?_
  refine k_acmp_ne 13 dJ7_copyOf_6403c_3 (by decide) (fun h3 => ?_) (fun h3 => ?_)
  · exact absurd rfl h3
  · refine k_iload_n 1 1 dJ7_copyOf_6403c_6 rfl rfl ?_
    refine k_newq ta m q_446 rfl (by omega) (Nat.le_of_ble_eq_true rfl) (by show 0 + m ≤ 60; omega) dJ7_copyOf_6403c_7 (fun q9 L1 f1 hz1 hn1 hc1 => ?_)
    have hr1 := k_fr.new hz1
    replace ca := ca.fr hr1 rfl
    have cQ9 : Cl L1 f1 q9 (ta, .inl (κ.2.2.1 3, m, .inr (.inr (.inr (.inr (fun _ => none)))))) := hc1
    refine k_widen 1 60 (by omega) (by omega) ?_
    refine k_goto 24 dJ7_copyOf_6403c_10 (by decide) ?_
    refine k_astore_n 3 [(3, .ref q9), (0, .ref a), (1, .int (iI (m : Int))), (2, .ref (κ.2.2.2 5))] dJ7_copyOf_6403c_24 rfl (by decide) rfl ?_
    refine k_aload_n 1 0 dJ7_copyOf_6403c_25 rfl rfl ?_
    refine k_iconst dJ7_copyOf_6403c_26 ?_
    refine k_aload_n 0 3 dJ7_copyOf_6403c_27 rfl rfl ?_
    refine k_iconst dJ7_copyOf_6403c_28 ?_
    refine k_aload_n 1 0 dJ7_copyOf_6403c_29 rfl rfl ?_
    refine k_alen (t0 := 3) ca rfl dJ7_copyOf_6403c_30 ?_
    refine k_iload_n 2 1 dJ7_copyOf_6403c_31 rfl rfl ?_
    refine k_min q_447 q_329 q_27 q_330 (inI_mk (by omega) (by omega)) (inI_mk (by omega) (by omega)) (Nat.le_of_ble_eq_true rfl) (Nat.le_of_ble_eq_true rfl) ⟨(Nat.le_of_ble_eq_true rfl), (Nat.le_of_ble_eq_true rfl)⟩ dJ7_copyOf_6403c_32 ?_
    have hel9 : ∀ j, j < n → ∀ y, row j = some y → ∃ (t : Nat) (fs : List Value), Cl L1 f1 y (t, .inr (ci, fs)) := fun j hj y hy => by
      have e := (hrow j hj).symm.trans hy
      obtain ⟨t, fs, hc⟩ := hel j hj
      rw [Option.some.inj e] at hc
      exact ⟨t, fs, hc.new hz1⟩
    have hmin : min (n : Int) (m : Int) = (n : Int) := by omega
    refine k_copyq n q_448 q_450 q_449 q_29 ca cQ9 hmin (Nat.le_refl _) hnm.1 (by omega) hci hq hel9 (Nat.le_of_ble_eq_true rfl) (Nat.le_of_ble_eq_true rfl) dJ7_copyOf_6403c_35 (fun f2 g2 hf2 hc2 hg2 => ?_)
    have hr2 := k_fr.put hf2 cQ9
    replace ca := Cl.put2 hf2 ca (fun e => hn1 (by rw [← e]; exact ca0))
    replace cQ9 : Cl L1 f2 q9 (ta, .inl (κ.2.2.1 3, m, .inr (.inr (.inr (.inr g2))))) := hc2
    have hfin : ∀ z ∈ L, z ∈ L1 ∧ f2 z = f z := fun z hz => ⟨(hz1 z hz).1, (hf2 z (fun e => hn1 (by rw [← e]; exact hz))).trans (hz1 z hz).2⟩
    refine k_aload_n 0 3 dJ7_copyOf_6403c_38 rfl rfl ?_
    exact k_aret dJ7_copyOf_6403c_39 rfl (Or.inr ⟨_, rfl⟩) (Nat.le_of_ble_eq_true rfl) (Nat.le_of_ble_eq_true rfl) (⟨.ref q9, rfl, q9, g2, rfl, hfin, cQ9, fun i hi => (hg2 i hi).trans (hrow i hi)⟩)
set_option maxHeartbeats 4000000 in
set_option maxRecDepth 100000 in
theorem c_J7_copyOf_1904c (la : Launch) (κ : Kx) {L : List Nat} {f : Nat → wE} {a n ta ci : Nat} {row : Nat → Option Nat} {g : Nat → Nat} {r : vw_C} {m : Nat} (ca : Cl L f a (ta, .inl (κ.2.2.1 3, n, .inr (.inr (.inr (.inr row))))))  (hnm : n ≤ m ∧ m ≤ 60) (hci : vwCl[ci]? = some r) (hq : Cond.castable r.1 "java/lang/Object" ∈ lw_tbl) (hrow : ∀ i, i < n → row i = some (g i)) (hel : ∀ i, i < n → ∃ (t : Nat) (fs : List Value), Cl L f (g i) (t, .inr (ci, fs))) : k_M la κ yJ7_copyOf_1904c cJ7_copyOf_1904c 2 (some (.array (.object "java/lang/Object"))) 3 1 60 [.ref a, .int (iI (m : Int))] L f (k_rn (fun w L' f' => ∃ (q9 : Nat) (row9 : Nat → Option Nat), w = .ref q9 ∧ (∀ z ∈ L, z ∈ L' ∧ f' z = f z) ∧ Cl L' f' q9 (ta, .inl (κ.2.2.1 3, m, .inr (.inr (.inr (.inr row9))))) ∧ ∀ i, i < n → row9 i = some (g i))) := by
  refine k_head RJ7 [(0, .ref a), (1, .int (iI (m : Int)))] rfl (by decide) (Nat.le_of_ble_eq_true rfl) rfl (fun θ hθ hin => ?_)
  refine k_aload_n 0 0 dJ7_copyOf_1904c_0 rfl rfl ?_
  refine k_iload_n 1 1 dJ7_copyOf_1904c_1 rfl rfl ?_
  refine k_aload_n 0 0 dJ7_copyOf_1904c_2 rfl rfl ?_
  refine k_getC q_427 q_583 q_582 q_428 q_440 ca (Nat.le_of_ble_eq_true rfl) (Nat.le_of_ble_eq_true rfl) dJ7_copyOf_1904c_3 ?_
  refine k_useV (k_runS (c_J7_copyOf_6403c θ.2.1 κ (a := a) (m := m) ca hnm hci hq hrow hel) w_J7_300 q_442 rfl rfl ⟨(Nat.le_of_ble_eq_true rfl), (Nat.le_of_ble_eq_true rfl)⟩ (Nat.le_of_ble_eq_true rfl) dJ7_copyOf_1904c_6) ⟨(Nat.le_of_ble_eq_true rfl), (Nat.le_of_ble_eq_true rfl)⟩ (fun w L1 f1 hw => ?_)
  obtain ⟨q9, row9, rfl, hz1, cQ9, hr9⟩ := hw
  have hr1 := k_fr.new hz1
  replace ca := ca.fr hr1 rfl
  exact k_aret dJ7_copyOf_1904c_9 rfl (Or.inr ⟨_, rfl⟩) (Nat.le_of_ble_eq_true rfl) (Nat.le_of_ble_eq_true rfl) (⟨.ref q9, rfl, q9, row9, rfl, hz1, cQ9, hr9⟩)
set_option maxHeartbeats 4000000 in
set_option maxRecDepth 100000 in
theorem c_Jx4a65c_grow_92f84 (la : Launch) (κ : Kx) {L : List Nat} {f : Nat → wE} {l tl ta n ci E : Nat} {md : Int} {row : Nat → Option Nat} {g : Nat → Nat} {r : vw_C} (cl : Cl L f l (tl, .inr (0, [.int (iI md), .ref E, .int (iI (n : Int))])))  (htg : ta ≠ tl) (hE : (E = κ.2.2.2 4 ∧ n = 0) ∨ (Cl L f E (ta, .inl (κ.2.2.1 3, n, .inr (.inr (.inr (.inr row))))) ∧ (10 ≤ n ∧ n ≤ 39) ∧ ∀ i, i < n → row i = some (g i))) (hci : vwCl[ci]? = some r) (hq : Cond.castable r.1 "java/lang/Object" ∈ lw_tbl) (hel : ∀ i, i < n → ∃ (t : Nat) (fs : List Value), Cl L f (g i) (t, .inr (ci, fs))) : k_M la κ yJx4a65c_grow_92f84 cJx4a65c_grow_92f84 4 (some (.array (.object "java/lang/Object"))) 4 1 60 [.ref l, .int (iI ((n : Int) + 1))] L f (k_rn (fun w L' f' => ∃ (q9 cap9 : Nat) (row9 : Nat → Option Nat), w = .ref q9 ∧ k_fr (fun u => u == tl) L f L' f' ∧ Cl L' f' l (tl, .inr (0, [.int (iI md), .ref q9, .int (iI (n : Int))])) ∧ Cl L' f' q9 (ta, .inl (κ.2.2.1 3, cap9, .inr (.inr (.inr (.inr row9))))) ∧ n < cap9 ∧ (10 ≤ cap9 ∧ cap9 ≤ 60) ∧ ∀ i, i < n → row9 i = some (g i))) := by
  refine k_head RJx4a65c [(0, .ref l), (1, .int (iI ((n : Int) + 1)))] rfl (by decide) (Nat.le_of_ble_eq_true rfl) rfl (fun θ hθ hin => ?_)
  rcases hE with ⟨hE0, hn0⟩ | ⟨cE, hcap, hrow⟩
  · subst hE0
    have hn1 : (n : Int) = 0 := by omega
    refine k_aload_n 0 0 dJx4a65c_grow_92f84_0 rfl rfl ?_
    refine k_get 1 i_Jx4a65c q_64 cl rfl (by decide) rfl dJx4a65c_grow_92f84_1 ?_
    refine k_tlenD dJx4a65c_grow_92f84_4 ?_
    refine k_istore_n 2 [(2, .int (iI 0)), (0, .ref l), (1, .int (iI ((n : Int) + 1)))] dJx4a65c_grow_92f84_5 rfl (by decide) rfl ?_
    refine k_iload_n 0 2 dJx4a65c_grow_92f84_6 rfl rfl ?_
    refine k_if_gt 20 dJx4a65c_grow_92f84_7 (by decide) (inI_mk (by omega) (by omega)) (fun h7 => ?_) (fun h7 => ?_)
    · omega
    · refine k_aload_n 1 0 dJx4a65c_grow_92f84_10 rfl rfl ?_
      refine k_get 1 i_Jx4a65c q_64 cl rfl (by decide) rfl dJx4a65c_grow_92f84_11 ?_
      refine k_getsD q_62 dJx4a65c_grow_92f84_14 ?_
      refine k_acmp_eq 45 dJx4a65c_grow_92f84_17 (by decide) (fun h17 => ?_) (fun h17 => ?_)
      · refine k_aload_n 1 0 dJx4a65c_grow_92f84_45 rfl rfl ?_
        refine k_bipush dJx4a65c_grow_92f84_46 (by decide) ?_
        refine k_iload_n 2 1 dJx4a65c_grow_92f84_48 rfl rfl ?_
        refine k_max q_451 q_322 q_27 q_323 (inI_mk (by omega) (by omega)) (inI_mk (by omega) (by omega)) (Nat.le_of_ble_eq_true rfl) (Nat.le_of_ble_eq_true rfl) ⟨(Nat.le_of_ble_eq_true rfl), (Nat.le_of_ble_eq_true rfl)⟩ dJx4a65c_grow_92f84_49 ?_
        refine k_newq ta 10 q_452 (by omega) (by omega) (Nat.le_of_ble_eq_true rfl) (Nat.le_of_ble_eq_true rfl) dJx4a65c_grow_92f84_52 (fun q9 L1 f1 hz1 hn1 hc1 => ?_)
        have hr1 := k_fr.new hz1
        replace cl := cl.fr hr1 rfl
        have cQ9 : Cl L1 f1 q9 (ta, .inl (κ.2.2.1 3, 10, .inr (.inr (.inr (.inr (fun _ => none)))))) := hc1
        refine k_dup_x1 dJx4a65c_grow_92f84_55 rfl rfl ?_
        refine k_put 1 [.int (iI md), .ref q9, .int (iI (n : Int))] i_Jx4a65c tyJx4a65c_ok nmJx4a65c q_64 cl rfl (by decide) rfl rfl rfl rfl (Nat.le_of_ble_eq_true rfl) rfl dJx4a65c_grow_92f84_56 (fun f2 hf2 hc2 => ?_)
        have hr2 := k_fr.put hf2 cl
        replace cQ9 := cQ9.fr hr2 (tag_ne htg)
        replace cl : Cl L1 f2 l (tl, .inr (0, [.int (iI md), .ref q9, .int (iI (n : Int))])) := hc2
        refine k_widen 1 60 (by omega) (by omega) ?_
        exact k_aret dJx4a65c_grow_92f84_59 rfl (Or.inr ⟨_, rfl⟩) (Nat.le_of_ble_eq_true rfl) (Nat.le_of_ble_eq_true rfl) (⟨_, rfl, q9, 10, (fun _ => none), rfl, k_fr.trans hr1 hr2 (fun _ _ => rfl) (fun _ h => h), cl, cQ9, by omega, by omega, fun i hi => absurd hi (by omega)⟩)
      · exact absurd rfl h17
  · have hnn : 10 ≤ n ∧ n ≤ 39 := hcap
    refine k_aload_n 0 0 dJx4a65c_grow_92f84_0 rfl rfl ?_
    refine k_get 1 i_Jx4a65c q_64 cl rfl (by decide) rfl dJx4a65c_grow_92f84_1 ?_
    refine k_alen (t0 := 3) cE rfl dJx4a65c_grow_92f84_4 ?_
    refine k_istore_n 2 [(2, .int (iI (n : Int))), (0, .ref l), (1, .int (iI ((n : Int) + 1)))] dJx4a65c_grow_92f84_5 rfl (by decide) rfl ?_
    refine k_iload_n 0 2 dJx4a65c_grow_92f84_6 rfl rfl ?_
    refine k_if_gt 20 dJx4a65c_grow_92f84_7 (by decide) (inI_mk (by omega) (by omega)) (fun h7 => ?_) (fun h7 => ?_)
    · refine k_iload_n 0 2 dJx4a65c_grow_92f84_20 rfl rfl ?_
      refine k_iload_n 2 1 dJx4a65c_grow_92f84_21 rfl rfl ?_
      refine k_iload_n 0 2 dJx4a65c_grow_92f84_22 rfl rfl ?_
      refine k_isub dJx4a65c_grow_92f84_23 ?_
      refine k_iload_n 0 2 dJx4a65c_grow_92f84_24 rfl rfl ?_
      refine k_iconst dJx4a65c_grow_92f84_25 ?_
      refine k_ishr1 n rfl (by omega) dJx4a65c_grow_92f84_26 ?_
      refine k_useR (k_runS (c_J8_newLength_cabcc θ.2.1 κ (o := (n : Int)) (a := (((n : Int) + 1) - (n : Int))) (b := ((n / 2 : Nat) : Int)) (by omega) (by omega) (by omega) (by omega)) w_Jx4a65c_73 q_417 rfl rfl ⟨(Nat.le_of_ble_eq_true rfl), (Nat.le_of_ble_eq_true rfl)⟩ (Nat.le_of_ble_eq_true rfl) dJx4a65c_grow_92f84_27) ⟨(Nat.le_of_ble_eq_true rfl), (Nat.le_of_ble_eq_true rfl)⟩ ?_
      obtain ⟨m9, hm9⟩ : ∃ m9 : Nat, m9 = n + n / 2 := ⟨_, rfl⟩
      refine k_topi (m9 : Int) (by omega) ?_
      refine k_istore_n 3 [(3, .int (iI (m9 : Int))), (2, .int (iI (n : Int))), (0, .ref l), (1, .int (iI ((n : Int) + 1)))] dJx4a65c_grow_92f84_30 rfl (by decide) rfl ?_
      refine k_aload_n 2 0 dJx4a65c_grow_92f84_31 rfl rfl ?_
      refine k_aload_n 2 0 dJx4a65c_grow_92f84_32 rfl rfl ?_
      refine k_get 1 i_Jx4a65c q_64 cl rfl (by decide) rfl dJx4a65c_grow_92f84_33 ?_
      refine k_iload_n 0 3 dJx4a65c_grow_92f84_36 rfl rfl ?_
      refine k_useV (k_runS (c_J7_copyOf_1904c θ.2.1 κ (m := m9) (a := E) cE ⟨by omega, by omega⟩ hci hq hrow hel) w_Jx4a65c_66 q_425 rfl rfl ⟨(Nat.le_of_ble_eq_true rfl), (Nat.le_of_ble_eq_true rfl)⟩ (Nat.le_of_ble_eq_true rfl) dJx4a65c_grow_92f84_37) ⟨(Nat.le_of_ble_eq_true rfl), (Nat.le_of_ble_eq_true rfl)⟩ (fun w L1 f1 hw => ?_)
      obtain ⟨q9, row9, rfl, hz1, cQ9, hr9⟩ := hw
      have hr1 := k_fr.new hz1
      replace cl := cl.fr hr1 rfl
      replace cE := cE.fr hr1 rfl
      refine k_dup_x1 dJx4a65c_grow_92f84_40 rfl rfl ?_
      refine k_put 1 [.int (iI md), .ref q9, .int (iI (n : Int))] i_Jx4a65c tyJx4a65c_ok nmJx4a65c q_64 cl rfl (by decide) rfl rfl rfl rfl (Nat.le_of_ble_eq_true rfl) rfl dJx4a65c_grow_92f84_41 (fun f3 hf3 hc3 => ?_)
      have hr3 := k_fr.put hf3 cl
      replace cE := cE.fr hr3 (tag_ne htg)
      replace cQ9 := cQ9.fr hr3 (tag_ne htg)
      replace cl : Cl L1 f3 l (tl, .inr (0, [.int (iI md), .ref q9, .int (iI (n : Int))])) := hc3
      refine k_widen 1 60 (by omega) (by omega) ?_
      exact k_aret dJx4a65c_grow_92f84_44 rfl (Or.inr ⟨_, rfl⟩) (Nat.le_of_ble_eq_true rfl) (Nat.le_of_ble_eq_true rfl) (⟨_, rfl, q9, m9, row9, rfl, k_fr.trans hr1 hr3 (fun _ _ => rfl) (fun _ h => h), cl, cQ9, by omega, by omega, hr9⟩)
    · omega
set_option maxHeartbeats 4000000 in
set_option maxRecDepth 100000 in
theorem c_Jx4a65c_grow_d5877 (la : Launch) (κ : Kx) {L : List Nat} {f : Nat → wE} {l tl ta n ci E : Nat} {md : Int} {row : Nat → Option Nat} {g : Nat → Nat} {r : vw_C} (cl : Cl L f l (tl, .inr (0, [.int (iI md), .ref E, .int (iI (n : Int))])))  (htg : ta ≠ tl) (hE : (E = κ.2.2.2 4 ∧ n = 0) ∨ (Cl L f E (ta, .inl (κ.2.2.1 3, n, .inr (.inr (.inr (.inr row))))) ∧ (10 ≤ n ∧ n ≤ 39) ∧ ∀ i, i < n → row i = some (g i))) (hci : vwCl[ci]? = some r) (hq : Cond.castable r.1 "java/lang/Object" ∈ lw_tbl) (hel : ∀ i, i < n → ∃ (t : Nat) (fs : List Value), Cl L f (g i) (t, .inr (ci, fs))) : k_M la κ yJx4a65c_grow_d5877 cJx4a65c_grow_d5877 1 (some (.array (.object "java/lang/Object"))) 5 1 60 [.ref l] L f (k_rn (fun w L' f' => ∃ (q9 cap9 : Nat) (row9 : Nat → Option Nat), w = .ref q9 ∧ k_fr (fun u => u == tl) L f L' f' ∧ Cl L' f' l (tl, .inr (0, [.int (iI md), .ref q9, .int (iI (n : Int))])) ∧ Cl L' f' q9 (ta, .inl (κ.2.2.1 3, cap9, .inr (.inr (.inr (.inr row9))))) ∧ n < cap9 ∧ (10 ≤ cap9 ∧ cap9 ≤ 60) ∧ ∀ i, i < n → row9 i = some (g i))) := by
  refine k_head RJx4a65c [(0, .ref l)] rfl (by decide) (Nat.le_of_ble_eq_true rfl) rfl (fun θ hθ hin => ?_)
  refine k_aload_n 0 0 dJx4a65c_grow_d5877_0 rfl rfl ?_
  refine k_aload_n 0 0 dJx4a65c_grow_d5877_1 rfl rfl ?_
  refine k_get 2 i_Jx4a65c q_65 cl rfl (by decide) rfl dJx4a65c_grow_d5877_2 ?_
  refine k_iconst dJx4a65c_grow_d5877_5 ?_
  refine k_iadd dJx4a65c_grow_d5877_6 ?_
  refine k_useV (k_runV (c_Jx4a65c_grow_92f84 θ.2.1 κ (l := l) cl htg hE hci hq hel) w_Jx4a65c_69 ⟨q_414, q_11⟩ rfl rfl cl rfl ⟨(Nat.le_of_ble_eq_true rfl), (Nat.le_of_ble_eq_true rfl)⟩ (Nat.le_of_ble_eq_true rfl) dJx4a65c_grow_d5877_7) ⟨(Nat.le_of_ble_eq_true rfl), (Nat.le_of_ble_eq_true rfl)⟩ (fun w Lg fg hw => ?_)
  obtain ⟨q9, cap9, row9, rfl, hrg, cl1, cQ9, hnc9, hcc, hr9⟩ := hw
  replace cl := cl1
  exact k_aret dJx4a65c_grow_d5877_10 rfl (Or.inr ⟨_, rfl⟩) (Nat.le_of_ble_eq_true rfl) (Nat.le_of_ble_eq_true rfl) (⟨_, rfl, q9, cap9, row9, rfl, hrg, cl, cQ9, hnc9, hcc, hr9⟩)
set_option maxHeartbeats 4000000 in
set_option maxRecDepth 100000 in
theorem c_Jx4a65c_add_72be8 (la : Launch) (κ : Kx) {L : List Nat} {f : Nat → wE} {l tl ta tv n ci E v cap : Nat} {md : Int} {row : Nat → Option Nat} {g : Nat → Nat} {r : vw_C} {vs : List Value} (cl : Cl L f l (tl, .inr (0, [.int (iI md), .ref E, .int (iI (n : Int))])))  (hvv : Cl L f v (tv, .inr (ci, vs))) (htg : ta ≠ tl) (htv : tv ≠ tl ∧ tv ≠ ta) (hE : (E = κ.2.2.2 4 ∧ n = 0) ∨ (Cl L f E (ta, .inl (κ.2.2.1 3, cap, .inr (.inr (.inr (.inr row))))) ∧ n ≤ cap ∧ (10 ≤ cap ∧ cap ≤ 60) ∧ ∀ i, i < n → row i = some (g i))) (hn : n ≤ 39) (hci : vwCl[ci]? = some r) (hq : Cond.castable r.1 "java/lang/Object" ∈ lw_tbl) (hel : ∀ i, i < n → ∃ (t : Nat) (fs : List Value), Cl L f (g i) (t, .inr (ci, fs))) : k_M la κ yJx4a65c_add_72be8 cJx4a65c_add_72be8 4 none 6 1 60 [.ref l, .ref v, .ref E, .int (iI (n : Int))] L f (k_ru (fun L' f' => ListR κ L' f' l tl ta (n + 1) (va_up g n v) ∧ k_fr (S2 tl ta) L f L' f')) := by
  refine k_head RJx4a65c [(0, .ref l), (1, .ref v), (2, .ref E), (3, .int (iI (n : Int)))] rfl (by decide) (Nat.le_of_ble_eq_true rfl) rfl (fun θ hθ hin => ?_)
  have hv := hvv
  rcases hE with ⟨hE0, hn0⟩ | ⟨cE, hnc, hcap, hrow⟩
  · subst hE0
    have hn1 : (n : Int) = 0 := by omega
    refine k_iload_n 3 3 dJx4a65c_add_72be8_0 rfl rfl ?_
    refine k_aload_n 2 2 dJx4a65c_add_72be8_1 rfl rfl ?_
    refine k_tlenD dJx4a65c_add_72be8_2 ?_
    refine k_icmp_ne 11 dJx4a65c_add_72be8_3 (by decide) (inI_mk (by omega) (by omega)) (inI_mk (by omega) (by omega)) (fun h3 => ?_) (fun h3 => ?_)
    · omega
    · refine k_aload_n 0 0 dJx4a65c_add_72be8_6 rfl rfl ?_
      refine k_useV (k_runV (c_Jx4a65c_grow_d5877 θ.2.1 κ (l := l) cl htg (Or.inl ⟨rfl, hn0⟩ : (κ.2.2.2 4 = κ.2.2.2 4 ∧ n = 0) ∨ (Cl L f (κ.2.2.2 4) (ta, .inl (κ.2.2.1 3, n, .inr (.inr (.inr (.inr row))))) ∧ (10 ≤ n ∧ n ≤ 39) ∧ ∀ i, i < n → row i = some (g i))) hci hq hel) w_Jx4a65c_129 ⟨q_410, q_10⟩ rfl rfl cl rfl ⟨(Nat.le_of_ble_eq_true rfl), (Nat.le_of_ble_eq_true rfl)⟩ (Nat.le_of_ble_eq_true rfl) dJx4a65c_add_72be8_7) ⟨(Nat.le_of_ble_eq_true rfl), (Nat.le_of_ble_eq_true rfl)⟩ (fun w Lg fg hw => ?_)
      obtain ⟨q9, cap9, row9, rfl, hrg, cl1, cQ9, hnc9, hcc, hr9⟩ := hw
      replace cl := cl1
      replace hv := hv.fr hrg (tag_ne htv.1)
      refine k_astore_n 2 [(2, .ref q9), (0, .ref l), (1, .ref v), (3, .int (iI (n : Int)))] dJx4a65c_add_72be8_10 rfl (by decide) rfl ?_
      refine k_aload_n 0 2 dJx4a65c_add_72be8_11 rfl rfl ?_
      refine k_iload_n 3 3 dJx4a65c_add_72be8_12 rfl rfl ?_
      refine k_aload_n 2 1 dJx4a65c_add_72be8_13 rfl rfl ?_
      refine k_aast n cQ9 hv hci hq rfl (by omega) (by omega) dJx4a65c_add_72be8_14 (fun f1 hf1 hc1 => ?_)
      have hr1 := k_fr.put hf1 cQ9
      replace cl := cl.fr hr1 (tag_ne (Ne.symm htg))
      replace hv := hv.fr hr1 (tag_ne htv.2)
      replace cQ9 : Cl Lg f1 q9 (ta, .inl (κ.2.2.1 3, cap9, .inr (.inr (.inr (.inr (va_up row9 n (some v))))))) := hc1
      refine k_aload_n 1 0 dJx4a65c_add_72be8_15 rfl rfl ?_
      refine k_iload_n 3 3 dJx4a65c_add_72be8_16 rfl rfl ?_
      refine k_iconst dJx4a65c_add_72be8_17 ?_
      refine k_iadd dJx4a65c_add_72be8_18 ?_
      refine k_topi ((n + 1 : Nat) : Int) (by omega) ?_
      refine k_put 2 [.int (iI md), .ref q9, .int (iI ((n + 1 : Nat) : Int))] i_Jx4a65c tyJx4a65c_ok nmJx4a65c q_65 cl rfl (by decide) rfl rfl rfl rfl (Nat.le_of_ble_eq_true rfl) rfl dJx4a65c_add_72be8_19 (fun f2 hf2 hc2 => ?_)
      have hr2 := k_fr.put hf2 cl
      replace hv := hv.fr hr2 (tag_ne htv.1)
      replace cQ9 := cQ9.fr hr2 (tag_ne htg)
      replace cl : Cl Lg f2 l (tl, .inr (0, [.int (iI md), .ref q9, .int (iI ((n + 1 : Nat) : Int))])) := hc2
      exact k_vret dJx4a65c_add_72be8_22 rfl (Nat.le_of_ble_eq_true rfl) (Nat.le_of_ble_eq_true rfl) (⟨rfl, ⟨md, q9, cap9, _, cl, Or.inr ⟨cQ9, by omega, hcc, row_add hr9⟩⟩, k_fr.trans (k_fr.trans hrg hr1 S2_l S2_r) hr2 (fun _ h => h) S2_l⟩)
  · refine k_iload_n 3 3 dJx4a65c_add_72be8_0 rfl rfl ?_
    refine k_aload_n 2 2 dJx4a65c_add_72be8_1 rfl rfl ?_
    refine k_alen (t0 := 3) cE rfl dJx4a65c_add_72be8_2 ?_
    refine k_icmp_ne 11 dJx4a65c_add_72be8_3 (by decide) (inI_mk (by omega) (by omega)) (inI_mk (by omega) (by omega)) (fun h3 => ?_) (fun h3 => ?_)
    · refine k_aload_n 2 2 dJx4a65c_add_72be8_11 rfl rfl ?_
      refine k_iload_n 3 3 dJx4a65c_add_72be8_12 rfl rfl ?_
      refine k_aload_n 1 1 dJx4a65c_add_72be8_13 rfl rfl ?_
      refine k_aast n cE hv hci hq rfl (by omega) (by omega) dJx4a65c_add_72be8_14 (fun f3 hf3 hc3 => ?_)
      have hr3 := k_fr.put hf3 cE
      replace cl := cl.fr hr3 (tag_ne (Ne.symm htg))
      replace hv := hv.fr hr3 (tag_ne htv.2)
      replace cE : Cl L f3 E (ta, .inl (κ.2.2.1 3, cap, .inr (.inr (.inr (.inr (va_up row n (some v))))))) := hc3
      refine k_aload_n 0 0 dJx4a65c_add_72be8_15 rfl rfl ?_
      refine k_iload_n 3 3 dJx4a65c_add_72be8_16 rfl rfl ?_
      refine k_iconst dJx4a65c_add_72be8_17 ?_
      refine k_iadd dJx4a65c_add_72be8_18 ?_
      refine k_topi ((n + 1 : Nat) : Int) (by omega) ?_
      refine k_put 2 [.int (iI md), .ref E, .int (iI ((n + 1 : Nat) : Int))] i_Jx4a65c tyJx4a65c_ok nmJx4a65c q_65 cl rfl (by decide) rfl rfl rfl rfl (Nat.le_of_ble_eq_true rfl) rfl dJx4a65c_add_72be8_19 (fun f4 hf4 hc4 => ?_)
      have hr4 := k_fr.put hf4 cl
      replace hv := hv.fr hr4 (tag_ne htv.1)
      replace cE := cE.fr hr4 (tag_ne htg)
      replace cl : Cl L f4 l (tl, .inr (0, [.int (iI md), .ref E, .int (iI ((n + 1 : Nat) : Int))])) := hc4
      exact k_vret dJx4a65c_add_72be8_22 rfl (Nat.le_of_ble_eq_true rfl) (Nat.le_of_ble_eq_true rfl) (⟨rfl, ⟨md, E, cap, _, cl, Or.inr ⟨cE, by omega, hcap, row_add hrow⟩⟩, k_fr.trans hr3 hr4 S2_r S2_l⟩)
    · refine k_aload_n 0 0 dJx4a65c_add_72be8_6 rfl rfl ?_
      have hcn : n = cap := by omega
      subst hcn
      refine k_useV (k_runV (c_Jx4a65c_grow_d5877 θ.2.1 κ (l := l) cl htg (Or.inr ⟨cE, by omega, hrow⟩) hci hq hel) w_Jx4a65c_129 ⟨q_410, q_10⟩ rfl rfl cl rfl ⟨(Nat.le_of_ble_eq_true rfl), (Nat.le_of_ble_eq_true rfl)⟩ (Nat.le_of_ble_eq_true rfl) dJx4a65c_add_72be8_7) ⟨(Nat.le_of_ble_eq_true rfl), (Nat.le_of_ble_eq_true rfl)⟩ (fun w Lg fg hw => ?_)
      obtain ⟨q9, cap9, row9, rfl, hrg, cl1, cQ9, hnc9, hcc, hr9⟩ := hw
      replace cl := cl1
      replace hv := hv.fr hrg (tag_ne htv.1)
      refine k_astore_n 2 [(2, .ref q9), (0, .ref l), (1, .ref v), (3, .int (iI (n : Int)))] dJx4a65c_add_72be8_10 rfl (by decide) rfl ?_
      refine k_aload_n 0 2 dJx4a65c_add_72be8_11 rfl rfl ?_
      refine k_iload_n 3 3 dJx4a65c_add_72be8_12 rfl rfl ?_
      refine k_aload_n 2 1 dJx4a65c_add_72be8_13 rfl rfl ?_
      refine k_aast n cQ9 hv hci hq rfl (by omega) (by omega) dJx4a65c_add_72be8_14 (fun f5 hf5 hc5 => ?_)
      have hr5 := k_fr.put hf5 cQ9
      replace cl := cl.fr hr5 (tag_ne (Ne.symm htg))
      replace hv := hv.fr hr5 (tag_ne htv.2)
      replace cQ9 : Cl Lg f5 q9 (ta, .inl (κ.2.2.1 3, cap9, .inr (.inr (.inr (.inr (va_up row9 n (some v))))))) := hc5
      refine k_aload_n 1 0 dJx4a65c_add_72be8_15 rfl rfl ?_
      refine k_iload_n 3 3 dJx4a65c_add_72be8_16 rfl rfl ?_
      refine k_iconst dJx4a65c_add_72be8_17 ?_
      refine k_iadd dJx4a65c_add_72be8_18 ?_
      refine k_topi ((n + 1 : Nat) : Int) (by omega) ?_
      refine k_put 2 [.int (iI md), .ref q9, .int (iI ((n + 1 : Nat) : Int))] i_Jx4a65c tyJx4a65c_ok nmJx4a65c q_65 cl rfl (by decide) rfl rfl rfl rfl (Nat.le_of_ble_eq_true rfl) rfl dJx4a65c_add_72be8_19 (fun f6 hf6 hc6 => ?_)
      have hr6 := k_fr.put hf6 cl
      replace hv := hv.fr hr6 (tag_ne htv.1)
      replace cQ9 := cQ9.fr hr6 (tag_ne htg)
      replace cl : Cl Lg f6 l (tl, .inr (0, [.int (iI md), .ref q9, .int (iI ((n + 1 : Nat) : Int))])) := hc6
      exact k_vret dJx4a65c_add_72be8_22 rfl (Nat.le_of_ble_eq_true rfl) (Nat.le_of_ble_eq_true rfl) (⟨rfl, ⟨md, q9, cap9, _, cl, Or.inr ⟨cQ9, by omega, hcc, row_add hr9⟩⟩, k_fr.trans (k_fr.trans hrg hr5 S2_l S2_r) hr6 (fun _ h => h) S2_l⟩)
set_option maxHeartbeats 4000000 in
set_option maxRecDepth 100000 in
theorem c_Jx4a65c_add_9ea2d (la : Launch) (κ : Kx) {L : List Nat} {f : Nat → wE} {l tl ta tv n ci v : Nat} {g : Nat → Nat} {r : vw_C} {vs : List Value}  (hL : ListR κ L f l tl ta n g) (hvv : Cl L f v (tv, .inr (ci, vs))) (htg : ta ≠ tl) (htv : tv ≠ tl ∧ tv ≠ ta) (hn : n ≤ 39) (hci : vwCl[ci]? = some r) (hq : Cond.castable r.1 "java/lang/Object" ∈ lw_tbl) (hel : ∀ i, i < n → ∃ (t : Nat) (fs : List Value), Cl L f (g i) (t, .inr (ci, fs)) ∧ t ≠ tl ∧ t ≠ ta) : k_M la κ yJx4a65c_add_9ea2d cJx4a65c_add_9ea2d 2 (some .boolean) 7 1 60 [.ref l, .ref v] L f (k_rn (fun w L' f' => w = .int (iI 1) ∧ ListR κ L' f' l tl ta (n + 1) (va_up g n v) ∧ k_fr (S2 tl ta) L f L' f')) := by
  refine k_head RJx4a65c [(0, .ref l), (1, .ref v)] rfl (by decide) (Nat.le_of_ble_eq_true rfl) rfl (fun θ hθ hin => ?_)
  obtain ⟨md, E, cap, row, cl, hE⟩ := hL
  have hv := hvv
  refine k_aload_n 0 0 dJx4a65c_add_9ea2d_0 rfl rfl ?_
  refine k_dup dJx4a65c_add_9ea2d_1 rfl ?_
  refine k_getS 0 i_Jx4a65c q_67 q_68 cl rfl (by decide) rfl dJx4a65c_add_9ea2d_2 ?_
  refine k_iconst dJx4a65c_add_9ea2d_5 ?_
  refine k_iadd dJx4a65c_add_9ea2d_6 ?_
  refine k_putS 0 [.int (iI (md + 1)), .ref E, .int (iI (n : Int))] i_Jx4a65c tyJx4a65c_ok nmJx4a65c q_67 q_68 cl rfl (by decide) rfl rfl rfl rfl (Nat.le_of_ble_eq_true rfl) rfl dJx4a65c_add_9ea2d_7 (fun f1 hf1 hc1 => ?_)
  have hr1 := k_fr.put hf1 cl
  replace hv := hv.fr hr1 (tag_ne htv.1)
  replace cl : Cl L f1 l (tl, .inr (0, [.int (iI (md + 1)), .ref E, .int (iI (n : Int))])) := hc1
  have hE1 : (E = κ.2.2.2 4 ∧ n = 0) ∨ (Cl L f1 E (ta, .inl (κ.2.2.1 3, cap, .inr (.inr (.inr (.inr row))))) ∧ n ≤ cap ∧ (10 ≤ cap ∧ cap ≤ 60) ∧ ∀ i, i < n → row i = some (g i)) := hE.imp id (fun h => ⟨h.1.fr hr1 (tag_ne htg), h.2⟩)
  have hel1 : ∀ i, i < n → ∃ (t : Nat) (fs : List Value), Cl L f1 (g i) (t, .inr (ci, fs)) := fun i hi => by
    obtain ⟨t, fs, h, ht⟩ := hel i hi
    exact ⟨t, fs, h.fr hr1 (tag_ne ht.1)⟩
  refine k_aload_n 0 0 dJx4a65c_add_9ea2d_10 rfl rfl ?_
  refine k_aload_n 1 1 dJx4a65c_add_9ea2d_11 rfl rfl ?_
  refine k_aload_n 0 0 dJx4a65c_add_9ea2d_12 rfl rfl ?_
  refine k_get 1 i_Jx4a65c q_64 cl rfl (by decide) rfl dJx4a65c_add_9ea2d_13 ?_
  refine k_aload_n 0 0 dJx4a65c_add_9ea2d_16 rfl rfl ?_
  refine k_get 2 i_Jx4a65c q_65 cl rfl (by decide) rfl dJx4a65c_add_9ea2d_17 ?_
  refine k_useU (k_runV (c_Jx4a65c_add_72be8 θ.2.1 κ (E := E) (l := l) (v := v) (n := n) cl hv htg htv hE1 hn hci hq hel1) w_Jx4a65c_131 ⟨q_406, q_9⟩ rfl rfl cl rfl ⟨(Nat.le_of_ble_eq_true rfl), (Nat.le_of_ble_eq_true rfl)⟩ (Nat.le_of_ble_eq_true rfl) dJx4a65c_add_9ea2d_20) ⟨(Nat.le_of_ble_eq_true rfl), (Nat.le_of_ble_eq_true rfl)⟩ (fun La fa hw => ?_)
  obtain ⟨hLa, hra⟩ := hw
  refine k_iconst dJx4a65c_add_9ea2d_23 ?_
  exact k_zret (b := true) dJx4a65c_add_9ea2d_24 rfl (Nat.le_of_ble_eq_true rfl) (Nat.le_of_ble_eq_true rfl) (⟨_, rfl, rfl, hLa, k_fr.trans hr1 hra S2_l (fun _ h => h)⟩)
set_option maxHeartbeats 4000000 in
set_option maxRecDepth 100000 in
theorem c_Jxa1e45_init_da8c8 (la : Launch) (κ : Kx) {L : List Nat} {f : Nat → wE} {a : Nat}    : k_M la κ yJxa1e45_init_da8c8 cJxa1e45_init_da8c8 1 none 1 0 0 [.ref a] L f (k_ru (fun L' f' => L' = L ∧ f' = f)) := by
  refine k_head RJxa1e45 [(0, .ref a)] rfl (by decide) (Nat.le_of_ble_eq_true rfl) rfl (fun θ hθ hin => ?_)
  refine k_aload_n 0 0 dJxa1e45_init_da8c8_0 rfl rfl ?_
  refine k_objInit q_61 q_42 q_43 (Nat.le_of_ble_eq_true rfl) (Nat.le_of_ble_eq_true rfl) dJxa1e45_init_da8c8_1 ?_
  exact k_vret dJxa1e45_init_da8c8_4 rfl (Nat.le_of_ble_eq_true rfl) (Nat.le_of_ble_eq_true rfl) (⟨rfl, rfl, rfl⟩)
set_option maxHeartbeats 4000000 in
set_option maxRecDepth 100000 in
theorem c_Jxc12de_init_da8c8 (la : Launch) (κ : Kx) {L : List Nat} {f : Nat → wE} {l tl : Nat} (cl : Cl L f l (tl, .inr (0, [.int (iI 0), .null, .int (iI 0)])))   : k_M la κ yJxc12de_init_da8c8 cJxc12de_init_da8c8 1 none 2 0 0 [.ref l] L f (k_ru (fun L' f' => L' = L ∧ (∀ z, z ≠ l → f' z = f z) ∧ Cl L f' l (tl, .inr (0, [.int (iI 0), .null, .int (iI 0)])))) := by
  refine k_head RJxc12de [(0, .ref l)] rfl (by decide) (Nat.le_of_ble_eq_true rfl) rfl (fun θ hθ hin => ?_)
  refine k_aload_n 0 0 dJxc12de_init_da8c8_0 rfl rfl ?_
  refine k_useU (k_runI (c_Jxa1e45_init_da8c8 θ.2.1 κ (a := l) ) w_Jxc12de_1 q_59 rfl rfl rfl ⟨(Nat.le_of_ble_eq_true rfl), (Nat.le_of_ble_eq_true rfl)⟩ (Nat.le_of_ble_eq_true rfl) dJxc12de_init_da8c8_1) ⟨(Nat.le_of_ble_eq_true rfl), (Nat.le_of_ble_eq_true rfl)⟩ (fun L9 f9 hw => ?_)
  obtain ⟨e9, e8⟩ := hw
  replace e9 := e9.symm
  replace e8 := e8.symm
  subst e9
  subst e8
  refine k_aload_n 0 0 dJxc12de_init_da8c8_4 rfl rfl ?_
  refine k_iconst dJxc12de_init_da8c8_5 ?_
  refine k_put 0 [.int (iI 0), .null, .int (iI 0)] i_Jx4a65c tyJx4a65c_ok nmJx4a65c q_66 cl rfl (by decide) rfl rfl rfl rfl (Nat.le_of_ble_eq_true rfl) rfl dJxc12de_init_da8c8_6 (fun f1 hf1 hc1 => ?_)
  have hr1 := k_fr.put hf1 cl
  replace cl : Cl L f1 l (tl, .inr (0, [.int (iI 0), .null, .int (iI 0)])) := hc1
  exact k_vret dJxc12de_init_da8c8_9 rfl (Nat.le_of_ble_eq_true rfl) (Nat.le_of_ble_eq_true rfl) (⟨rfl, rfl, hf1, cl⟩)
set_option maxHeartbeats 4000000 in
set_option maxRecDepth 100000 in
theorem c_Jx4a65c_init_da8c8 (la : Launch) (κ : Kx) {L : List Nat} {f : Nat → wE} {l tl : Nat} (cl : Cl L f l (tl, .inr (0, [.int (iI 0), .null, .int (iI 0)])))   : k_M la κ yJx4a65c_init_da8c8 cJx4a65c_init_da8c8 1 none 3 0 0 [.ref l] L f (k_ru (fun L' f' => L' = L ∧ (∀ z, z ≠ l → f' z = f z) ∧ Cl L f' l (tl, .inr (0, [.int (iI 0), .ref (κ.2.2.2 4), .int (iI 0)])))) := by
  refine k_head RJx4a65c [(0, .ref l)] rfl (by decide) (Nat.le_of_ble_eq_true rfl) rfl (fun θ hθ hin => ?_)
  refine k_aload_n 0 0 dJx4a65c_init_da8c8_0 rfl rfl ?_
  refine k_useU (k_runI (c_Jxc12de_init_da8c8 θ.2.1 κ (l := l) cl) w_Jx4a65c_1 q_56 rfl rfl rfl ⟨(Nat.le_of_ble_eq_true rfl), (Nat.le_of_ble_eq_true rfl)⟩ (Nat.le_of_ble_eq_true rfl) dJx4a65c_init_da8c8_1) ⟨(Nat.le_of_ble_eq_true rfl), (Nat.le_of_ble_eq_true rfl)⟩ (fun L9 f9 hw => ?_)
  obtain ⟨e9, hf9, cl9⟩ := hw
  replace e9 := e9.symm
  subst e9
  replace cl := cl9
  refine k_aload_n 0 0 dJx4a65c_init_da8c8_4 rfl rfl ?_
  refine k_getsD q_62 dJx4a65c_init_da8c8_5 ?_
  refine k_put 1 [.int (iI 0), .ref (κ.2.2.2 4), .int (iI 0)] i_Jx4a65c tyJx4a65c_ok nmJx4a65c q_64 cl rfl (by decide) rfl rfl rfl rfl (Nat.le_of_ble_eq_true rfl) rfl dJx4a65c_init_da8c8_8 (fun f1 hf1 hc1 => ?_)
  have hr1 := k_fr.put hf1 cl
  replace cl : Cl L f1 l (tl, .inr (0, [.int (iI 0), .ref (κ.2.2.2 4), .int (iI 0)])) := hc1
  exact k_vret dJx4a65c_init_da8c8_11 rfl (Nat.le_of_ble_eq_true rfl) (Nat.le_of_ble_eq_true rfl) (⟨rfl, rfl, fun z hz => (hf1 z hz).trans (hf9 z hz), cl⟩)
end
section
set_option maxHeartbeats 4000000 in
set_option maxRecDepth 100000 in
theorem c_X7_isWithin (la : Launch) (κ : Kx) {L : List Nat} {f : Nat → wE} {z a b : Int}   (hz : inI z) (ha : inI a) (hb : inI b) : k_M la κ yX7_isWithin cX7_isWithin 3 (some .boolean) 1 0 0 [.int (iI z), .int (iI a), .int (iI b)] L f (k_ro L f (.int (iI (bI (decide (a ≤ z ∧ z ≤ b)))))) := by
  refine k_head RX7 [(0, .int (iI z)), (1, .int (iI a)), (2, .int (iI b))] rfl (by decide) (Nat.le_of_ble_eq_true rfl) rfl (fun θ hθ hin => ?_)
  refine k_iload_n 0 0 dX7_isWithin_0 rfl rfl ?_
  refine k_iload_n 1 1 dX7_isWithin_1 rfl rfl ?_
  refine k_icmp_lt 14 dX7_isWithin_2 (by decide) hz ha (fun h2 => ?_) (fun h2 => ?_)
  · refine k_iconst dX7_isWithin_14 ?_
    exact k_zret (b := false) dX7_isWithin_15 rfl (Nat.le_of_ble_eq_true rfl) (Nat.le_of_ble_eq_true rfl) (k_okb ((decide_eq_false (by omega)).symm))
  · refine k_iload_n 0 0 dX7_isWithin_5 rfl rfl ?_
    refine k_iload_n 2 2 dX7_isWithin_6 rfl rfl ?_
    refine k_icmp_gt 14 dX7_isWithin_7 (by decide) hz hb (fun h7 => ?_) (fun h7 => ?_)
    · refine k_iconst dX7_isWithin_14 ?_
      exact k_zret (b := false) dX7_isWithin_15 rfl (Nat.le_of_ble_eq_true rfl) (Nat.le_of_ble_eq_true rfl) (k_okb ((decide_eq_false (by omega)).symm))
    · refine k_iconst dX7_isWithin_10 ?_
      refine k_goto 15 dX7_isWithin_11 (by decide) ?_
      exact k_zret (b := true) dX7_isWithin_15 rfl (Nat.le_of_ble_eq_true rfl) (Nat.le_of_ble_eq_true rfl) (k_okb ((decide_eq_true (by omega)).symm))
set_option maxHeartbeats 4000000 in
set_option maxRecDepth 100000 in
theorem c_X7_isMinute (la : Launch) (κ : Kx) {L : List Nat} {f : Nat → wE} {z : Int}   (hz : inI z) : k_M la κ yX7_isMinute cX7_isMinute 1 (some .boolean) 2 0 0 [.int (iI z)] L f (k_ro L f (.int (iI (bI (decide (0 ≤ z ∧ z ≤ 4319)))))) := by
  refine k_head RX7 [(0, .int (iI z))] rfl (by decide) (Nat.le_of_ble_eq_true rfl) rfl (fun θ hθ hin => ?_)
  refine k_iload_n 0 0 dX7_isMinute_0 rfl rfl ?_
  refine k_iconst dX7_isMinute_1 ?_
  refine k_sipush dX7_isMinute_2 (by decide) ?_
  refine k_useR (k_runS (c_X7_isWithin θ.2.1 κ (z := z) (a := 0) (b := 4319) hz (inI_mk (by omega) (by omega)) (inI_mk (by omega) (by omega))) w_X7_37 q_136 rfl rfl ⟨(Nat.le_of_ble_eq_true rfl), (Nat.le_of_ble_eq_true rfl)⟩ (Nat.le_of_ble_eq_true rfl) dX7_isMinute_5) ⟨(Nat.le_of_ble_eq_true rfl), (Nat.le_of_ble_eq_true rfl)⟩ ?_
  exact k_zret (b := decide (0 ≤ z ∧ z ≤ 4319)) dX7_isMinute_8 rfl (Nat.le_of_ble_eq_true rfl) (Nat.le_of_ble_eq_true rfl) (k_okb rfl)
set_option maxHeartbeats 4000000 in
set_option maxRecDepth 100000 in
theorem c_X7_quotient (la : Launch) (κ : Kx) {L : List Nat} {f : Nat → wE} {a b : Int}   (ha : inL a) (hb : inL b) : k_M la κ yX7_quotient cX7_quotient 4 (some .long) 1 0 0 [.long (lI a), .long (lI b)] L f (k_ro L f (.long (lI (if b = 0 then 0 else a.tdiv b)))) := by
  refine k_head RX7 [(0, .long (lI a)), (2, .long (lI b))] rfl (by decide) (Nat.le_of_ble_eq_true rfl) rfl (fun θ hθ hin => ?_)
  refine k_lload_n 1 2 dX7_quotient_0 rfl rfl ?_
  refine k_lconst 0 dX7_quotient_1 (by decide) ?_
  refine k_lcmp_ne 10 dX7_quotient_2 dX7_quotient_3 (by decide) hb inL_0 (fun h2 => ?_) (fun h2 => ?_)
  · refine k_lload_n 0 0 dX7_quotient_10 rfl rfl ?_
    refine k_lload_n 1 2 dX7_quotient_11 rfl rfl ?_
    refine k_ldiv dX7_quotient_12 ha hb h2 ?_
    exact k_lret dX7_quotient_13 rfl (Nat.le_of_ble_eq_true rfl) (Nat.le_of_ble_eq_true rfl) (k_okl ((if_neg h2).symm))
  · refine k_lconst 0 dX7_quotient_6 (by decide) ?_
    refine k_goto 13 dX7_quotient_7 (by decide) ?_
    exact k_lret dX7_quotient_13 rfl (Nat.le_of_ble_eq_true rfl) (Nat.le_of_ble_eq_true rfl) (k_okl ((if_pos h2).symm))
set_option maxHeartbeats 4000000 in
set_option maxRecDepth 100000 in
theorem c_X6_init (la : Launch) (κ : Kx) {L : List Nat} {f : Nat → wE} {w : Nat} {r p o : Int} (cw : Cl L f w (14, .inr (7, [.int (iI 0), .int (iI 0), .int (iI 0)])))   : k_M la κ yX6_init cX6_init 4 none 2 0 0 [.ref w, .int (iI r), .int (iI p), .int (iI o)] L f (k_ru (fun L' f' => L' = L ∧ (∀ z, z ≠ w → f' z = f z) ∧ Cl L f' w (14, .inr (7, [.int (iI r), .int (iI p), .int (iI o)])))) := by
  refine k_head RX6 [(0, .ref w), (1, .int (iI r)), (2, .int (iI p)), (3, .int (iI o))] rfl (by decide) (Nat.le_of_ble_eq_true rfl) rfl (fun θ hθ hin => ?_)
  refine k_aload_n 0 0 dX6_init_0 rfl rfl ?_
  refine k_objInit q_552 q_42 q_43 (Nat.le_of_ble_eq_true rfl) (Nat.le_of_ble_eq_true rfl) dX6_init_1 ?_
  refine k_aload_n 0 0 dX6_init_4 rfl rfl ?_
  refine k_iload_n 1 1 dX6_init_5 rfl rfl ?_
  refine k_put 0 [.int (iI r), .int (iI 0), .int (iI 0)] i_X6 tyX6_ok nmX6 q_553 cw rfl (by decide) rfl rfl rfl rfl (Nat.le_of_ble_eq_true rfl) rfl dX6_init_6 (fun f1 hf1 hc1 => ?_)
  have hr1 := k_fr.put hf1 cw
  replace cw : Cl L f1 w (14, .inr (7, [.int (iI r), .int (iI 0), .int (iI 0)])) := hc1
  refine k_aload_n 0 0 dX6_init_9 rfl rfl ?_
  refine k_iload_n 2 2 dX6_init_10 rfl rfl ?_
  refine k_putF 1 [.int (iI r), .int (iI p), .int (iI 0)] i_X6 tyX6_ok nmX6 q_554 cw rfl (by decide) rfl (hin rfl) rfl rfl rfl rfl (Nat.le_of_ble_eq_true rfl) rfl dX6_init_11 (fun f2 hf2 hc2 => ?_)
  have hr2 := k_fr.put hf2 cw
  replace cw : Cl L f2 w (14, .inr (7, [.int (iI r), .int (iI p), .int (iI 0)])) := hc2
  refine k_aload_n 0 0 dX6_init_14 rfl rfl ?_
  refine k_iload_n 3 3 dX6_init_15 rfl rfl ?_
  refine k_putF 2 [.int (iI r), .int (iI p), .int (iI o)] i_X6 tyX6_ok nmX6 q_555 cw rfl (by decide) rfl (hin rfl) rfl rfl rfl rfl (Nat.le_of_ble_eq_true rfl) rfl dX6_init_16 (fun f3 hf3 hc3 => ?_)
  have hr3 := k_fr.put hf3 cw
  replace cw : Cl L f3 w (14, .inr (7, [.int (iI r), .int (iI p), .int (iI o)])) := hc3
  exact k_vret dX6_init_19 rfl (Nat.le_of_ble_eq_true rfl) (Nat.le_of_ble_eq_true rfl) (⟨rfl, rfl, fun z hz => ((hf3 z hz).trans (hf2 z hz)).trans (hf1 z hz), cw⟩)
set_option maxHeartbeats 4000000 in
set_option maxRecDepth 100000 in
theorem c_X6_heightAt (la : Launch) (κ : Kx) {L : List Nat} {f : Nat → wE} {w t : Nat} {r p o : Int} (cw : Cl L f w (14, .inr (7, [.int (iI r), .int (iI p), .int (iI o)])))  (hok : wvOk r p o) (ht : t < 4320) : k_M la κ yX6_heightAt cX6_heightAt 8 (some .int) 1 0 0 [.ref w, .int (iI (t : Int))] L f (k_ro L f (.int (iI (wvH r p o (t : Int))))) := by
  refine k_head RX6 [(0, .ref w), (1, .int (iI (t : Int)))] rfl (by decide) (Nat.le_of_ble_eq_true rfl) rfl (fun θ hθ hin => ?_)
  obtain ⟨⟨hr0, hr1⟩, ⟨hp0, hp1⟩, ⟨ho0, ho1⟩⟩ := id hok
  obtain ⟨hm0, hm1⟩ := tm_bd (a := (t : Int) + o) (p := p) (by omega) (by omega)
  have hpp : 3600 ≤ p * p ∧ p * p ≤ 400000000 := ⟨Int.mul_le_mul hp0 hp0 (by omega) (by omega), Int.mul_le_mul hp1 hp1 (by omega) (by omega)⟩
  refine k_aload_n 0 0 dX6_heightAt_0 rfl rfl ?_
  refine k_get 1 i_X6 q_554 cw rfl (by decide) rfl dX6_heightAt_1 ?_
  refine k_if_gt 9 dX6_heightAt_4 (by decide) (inI_mk (by omega) (by omega)) (fun h4 => ?_) (fun h4 => ?_)
  · refine k_iconst dX6_heightAt_9 ?_
    refine k_iload_n 1 1 dX6_heightAt_10 rfl rfl ?_
    refine k_aload_n 0 0 dX6_heightAt_11 rfl rfl ?_
    refine k_get 2 i_X6 q_555 cw rfl (by decide) rfl dX6_heightAt_12 ?_
    refine k_iadd dX6_heightAt_15 ?_
    refine k_aload_n 0 0 dX6_heightAt_16 rfl rfl ?_
    refine k_get 1 i_X6 q_554 cw rfl (by decide) rfl dX6_heightAt_17 ?_
    refine k_irem dX6_heightAt_20 (inI_mk (by omega) (by omega)) (inI_mk (by omega) (by omega)) (by omega) ?_
    refine k_imul dX6_heightAt_21 ?_
    refine k_istore_n 2 [(2, .int (iI (2 * (((t : Int) + o).tmod p)))), (0, .ref w), (1, .int (iI (t : Int)))] dX6_heightAt_22 rfl (by decide) rfl ?_
    refine k_iload_n 0 2 dX6_heightAt_23 rfl rfl ?_
    refine k_aload_n 1 0 dX6_heightAt_24 rfl rfl ?_
    refine k_get 1 i_X6 q_554 cw rfl (by decide) rfl dX6_heightAt_25 ?_
    refine k_icmp_ge 35 dX6_heightAt_28 (by decide) (inI_mk (by omega) (by omega)) (inI_mk (by omega) (by omega)) (fun h28 => ?_) (fun h28 => ?_)
    · refine k_iconst dX6_heightAt_35 ?_
      refine k_istore_n 3 [(3, .int (iI 0)), (2, .int (iI (2 * (((t : Int) + o).tmod p)))), (0, .ref w), (1, .int (iI (t : Int)))] dX6_heightAt_36 rfl (by decide) rfl ?_
      refine k_iload_n 0 3 dX6_heightAt_37 rfl rfl ?_
      refine k_if_eq 46 dX6_heightAt_38 (by decide) (inI_mk (by omega) (by omega)) (fun h38 => ?_) (fun h38 => ?_)
      · refine k_iload_n 1 2 dX6_heightAt_46 rfl rfl ?_
        refine k_aload_n 2 0 dX6_heightAt_47 rfl rfl ?_
        refine k_get 1 i_X6 q_554 cw rfl (by decide) rfl dX6_heightAt_48 ?_
        refine k_isub dX6_heightAt_51 ?_
        refine k_i2l dX6_heightAt_52 (inI_mk (by omega) (by omega)) ?_
        refine k_lstore [(4, .long (lI ((2 * (((t : Int) + o).tmod p)) - p))), (3, .int (iI 0)), (2, .int (iI (2 * (((t : Int) + o).tmod p)))), (0, .ref w), (1, .int (iI (t : Int)))] dX6_heightAt_53 (by decide) rfl ?_
        refine k_ldc2 4 q_233 (by decide) dX6_heightAt_55 ?_
        refine k_aload_n 3 0 dX6_heightAt_58 rfl rfl ?_
        refine k_get 0 i_X6 q_553 cw rfl (by decide) rfl dX6_heightAt_59 ?_
        refine k_i2l dX6_heightAt_62 (inI_mk (by omega) (by omega)) ?_
        refine k_lmul dX6_heightAt_63 ?_
        refine k_lload 0 dX6_heightAt_64 rfl ?_
        refine k_lmul dX6_heightAt_66 ?_
        refine k_aload_n 3 0 dX6_heightAt_67 rfl rfl ?_
        refine k_get 1 i_X6 q_554 cw rfl (by decide) rfl dX6_heightAt_68 ?_
        refine k_i2l dX6_heightAt_71 (inI_mk (by omega) (by omega)) ?_
        refine k_lload 0 dX6_heightAt_72 rfl ?_
        refine k_lsub dX6_heightAt_74 ?_
        refine k_lmul dX6_heightAt_75 ?_
        refine k_aload_n 3 0 dX6_heightAt_76 rfl rfl ?_
        refine k_get 1 i_X6 q_554 cw rfl (by decide) rfl dX6_heightAt_77 ?_
        refine k_i2l dX6_heightAt_80 (inI_mk (by omega) (by omega)) ?_
        refine k_aload_n 3 0 dX6_heightAt_81 rfl rfl ?_
        refine k_get 1 i_X6 q_554 cw rfl (by decide) rfl dX6_heightAt_82 ?_
        refine k_i2l dX6_heightAt_85 (inI_mk (by omega) (by omega)) ?_
        refine k_lmul dX6_heightAt_86 ?_
        have hav := arch_pos (r := r) (p := p) (v := ((2 * (((t : Int) + o).tmod p)) - p)) hr0 (by omega) (by omega) (by omega)
        have hrp : r * (p * p) ≤ 5000 * 400000000 := Int.mul_le_mul hr1 hpp.2 (by omega) (by omega)
        refine k_ldiv dX6_heightAt_87 (inL_mk (by omega) (by omega)) (inL_mk (by omega) (by omega)) (by omega) ?_
        refine k_lstore [(6, .long (lI ((((4 * r) * ((2 * (((t : Int) + o).tmod p)) - p)) * (p - ((2 * (((t : Int) + o).tmod p)) - p))).tdiv (p * p)))), (4, .long (lI ((2 * (((t : Int) + o).tmod p)) - p))), (3, .int (iI 0)), (2, .int (iI (2 * (((t : Int) + o).tmod p)))), (0, .ref w), (1, .int (iI (t : Int)))] dX6_heightAt_88 (by decide) rfl ?_
        refine k_iload_n 2 3 dX6_heightAt_90 rfl rfl ?_
        refine k_if_eq 99 dX6_heightAt_91 (by decide) (inI_mk (by omega) (by omega)) (fun h91 => ?_) (fun h91 => ?_)
        · refine k_lload 0 dX6_heightAt_99 rfl ?_
          refine k_lneg dX6_heightAt_101 ?_
          refine k_l2i dX6_heightAt_102 ?_
          exact k_iret dX6_heightAt_103 rfl (Nat.le_of_ble_eq_true rfl) (Nat.le_of_ble_eq_true rfl) (k_oki (by unfold wvH; rw [if_neg (by omega)]))
        · omega
      · omega
    · refine k_iconst dX6_heightAt_31 ?_
      refine k_goto 36 dX6_heightAt_32 (by decide) ?_
      refine k_istore_n 3 [(3, .int (iI 1)), (2, .int (iI (2 * (((t : Int) + o).tmod p)))), (0, .ref w), (1, .int (iI (t : Int)))] dX6_heightAt_36 rfl (by decide) rfl ?_
      refine k_iload_n 0 3 dX6_heightAt_37 rfl rfl ?_
      refine k_if_eq 46 dX6_heightAt_38 (by decide) (inI_mk (by omega) (by omega)) (fun h38 => ?_) (fun h38 => ?_)
      · omega
      · refine k_iload_n 1 2 dX6_heightAt_41 rfl rfl ?_
        refine k_i2l dX6_heightAt_42 (inI_mk (by omega) (by omega)) ?_
        refine k_goto 53 dX6_heightAt_43 (by decide) ?_
        refine k_lstore [(4, .long (lI (2 * (((t : Int) + o).tmod p)))), (3, .int (iI 1)), (2, .int (iI (2 * (((t : Int) + o).tmod p)))), (0, .ref w), (1, .int (iI (t : Int)))] dX6_heightAt_53 (by decide) rfl ?_
        refine k_ldc2 4 q_233 (by decide) dX6_heightAt_55 ?_
        refine k_aload_n 3 0 dX6_heightAt_58 rfl rfl ?_
        refine k_get 0 i_X6 q_553 cw rfl (by decide) rfl dX6_heightAt_59 ?_
        refine k_i2l dX6_heightAt_62 (inI_mk (by omega) (by omega)) ?_
        refine k_lmul dX6_heightAt_63 ?_
        refine k_lload 0 dX6_heightAt_64 rfl ?_
        refine k_lmul dX6_heightAt_66 ?_
        refine k_aload_n 3 0 dX6_heightAt_67 rfl rfl ?_
        refine k_get 1 i_X6 q_554 cw rfl (by decide) rfl dX6_heightAt_68 ?_
        refine k_i2l dX6_heightAt_71 (inI_mk (by omega) (by omega)) ?_
        refine k_lload 0 dX6_heightAt_72 rfl ?_
        refine k_lsub dX6_heightAt_74 ?_
        refine k_lmul dX6_heightAt_75 ?_
        refine k_aload_n 3 0 dX6_heightAt_76 rfl rfl ?_
        refine k_get 1 i_X6 q_554 cw rfl (by decide) rfl dX6_heightAt_77 ?_
        refine k_i2l dX6_heightAt_80 (inI_mk (by omega) (by omega)) ?_
        refine k_aload_n 3 0 dX6_heightAt_81 rfl rfl ?_
        refine k_get 1 i_X6 q_554 cw rfl (by decide) rfl dX6_heightAt_82 ?_
        refine k_i2l dX6_heightAt_85 (inI_mk (by omega) (by omega)) ?_
        refine k_lmul dX6_heightAt_86 ?_
        have hav := arch_pos (r := r) (p := p) (v := (2 * (((t : Int) + o).tmod p))) hr0 (by omega) (by omega) (by omega)
        have hrp : r * (p * p) ≤ 5000 * 400000000 := Int.mul_le_mul hr1 hpp.2 (by omega) (by omega)
        refine k_ldiv dX6_heightAt_87 (inL_mk (by omega) (by omega)) (inL_mk (by omega) (by omega)) (by omega) ?_
        refine k_lstore [(6, .long (lI ((((4 * r) * (2 * (((t : Int) + o).tmod p))) * (p - (2 * (((t : Int) + o).tmod p)))).tdiv (p * p)))), (4, .long (lI (2 * (((t : Int) + o).tmod p)))), (3, .int (iI 1)), (2, .int (iI (2 * (((t : Int) + o).tmod p)))), (0, .ref w), (1, .int (iI (t : Int)))] dX6_heightAt_88 (by decide) rfl ?_
        refine k_iload_n 2 3 dX6_heightAt_90 rfl rfl ?_
        refine k_if_eq 99 dX6_heightAt_91 (by decide) (inI_mk (by omega) (by omega)) (fun h91 => ?_) (fun h91 => ?_)
        · omega
        · refine k_lload 0 dX6_heightAt_94 rfl ?_
          refine k_goto 102 dX6_heightAt_96 (by decide) ?_
          refine k_l2i dX6_heightAt_102 ?_
          exact k_iret dX6_heightAt_103 rfl (Nat.le_of_ble_eq_true rfl) (Nat.le_of_ble_eq_true rfl) (k_oki (by unfold wvH; rw [if_pos (by omega)]))
  · omega
set_option maxHeartbeats 4000000 in
set_option maxRecDepth 100000 in
theorem c_X5_heightAt (la : Launch) (κ : Kx) {L : List Nat} {f : Nat → wE} {td t : Nat} {τ : Td}  (hTd : TideR κ L f td τ) (hok : TdOk τ) (ht : t < 4320) : k_M la κ yX5_heightAt cX5_heightAt 4 (some .int) 4 0 0 [.ref td, .int (iI (t : Int))] L f (k_ro L f (.int (iI (hT τ t)))) := by
  refine k_head RX5 [(0, .ref td), (1, .int (iI (t : Int)))] rfl (by decide) (Nat.le_of_ble_eq_true rfl) rfl (fun θ hθ hin => ?_)
  obtain ⟨wl, wv, ctd, hL, hW, hinj⟩ := hTd
  obtain ⟨md1, E1, cwl⟩ := hL.cl
  have hn8 := hok.2.1
  refine k_aload_n 0 0 dX5_heightAt_0 rfl rfl ?_
  refine k_get 1 i_X5 q_78 ctd rfl (by decide) rfl dX5_heightAt_1 ?_
  refine k_istore_n 2 [(2, .int (iI τ.1)), (0, .ref td), (1, .int (iI (t : Int)))] dX5_heightAt_4 rfl (by decide) rfl ?_
  refine k_iconst dX5_heightAt_5 ?_
  refine k_istore_n 3 [(3, .int (iI 0)), (2, .int (iI τ.1)), (0, .ref td), (1, .int (iI (t : Int)))] dX5_heightAt_6 rfl (by decide) rfl ?_
  have lp7 : ∀ (fuel : Nat) (i : Nat), (i ≤ τ.2.1) → τ.2.1 - i < fuel → k_G θ κ cX5_heightAt 4 (some .int) RX5 (k_rm 4 0 0) (k_MQ θ κ (k_ro L f (.int (iI (hT τ t)))) 0 0) L f 0 0 7 [(0, .ref td), (1, .int (iI (t : Int))), (2, .int (iI (htw τ (t : Int) i))), (3, .int (iI (i : Int)))] [] := by
    intro fuel
    induction fuel with
    | zero =>
      intro i hi hfu
      exact absurd hfu (Nat.not_lt_zero _)
    | succ fuel ih7 =>
      intro i hi hfu
      refine k_iload_n 3 3 dX5_heightAt_7 rfl rfl ?_
      refine k_aload_n 0 0 dX5_heightAt_8 rfl rfl ?_
      refine k_get 0 i_X5 q_76 ctd rfl (by decide) rfl dX5_heightAt_9 ?_
      refine k_useR (k_runV (c_Jx4a65c_size_8abf5 θ.2.1 κ (n := τ.2.1) (l := wl) hL) w_X5_20 ⟨q_211, q_212⟩ rfl rfl cwl rfl ⟨(Nat.le_of_ble_eq_true rfl), (Nat.le_of_ble_eq_true rfl)⟩ (Nat.le_of_ble_eq_true rfl) dX5_heightAt_12) ⟨(Nat.le_of_ble_eq_true rfl), (Nat.le_of_ble_eq_true rfl)⟩ ?_
      refine k_icmp_ge 42 dX5_heightAt_15 (by decide) (inI_mk (by omega) (by omega)) (inI_mk (by omega) (by omega)) (fun h15 => ?_) (fun h15 => ?_)
      · refine k_iload_n 2 2 dX5_heightAt_42 rfl rfl ?_
        exact k_iret dX5_heightAt_43 rfl (Nat.le_of_ble_eq_true rfl) (Nat.le_of_ble_eq_true rfl) (k_oki (by rw [show i = τ.2.1 by omega, hT]))
      · have cw := hW i (by omega)
        refine k_iload_n 2 2 dX5_heightAt_18 rfl rfl ?_
        refine k_aload_n 0 0 dX5_heightAt_19 rfl rfl ?_
        refine k_get 0 i_X5 q_76 ctd rfl (by decide) rfl dX5_heightAt_20 ?_
        refine k_iload_n 3 3 dX5_heightAt_23 rfl rfl ?_
        refine k_useR (k_runV (c_Jx4a65c_get_915e3 θ.2.1 κ (n := τ.2.1) (g := wv) (l := wl) (i := i) hL (by omega)) w_X5_24 ⟨q_215, q_216⟩ rfl rfl cwl rfl ⟨(Nat.le_of_ble_eq_true rfl), (Nat.le_of_ble_eq_true rfl)⟩ (Nat.le_of_ble_eq_true rfl) dX5_heightAt_24) ⟨(Nat.le_of_ble_eq_true rfl), (Nat.le_of_ble_eq_true rfl)⟩ ?_
        refine k_castS q_228 cw rfl dX5_heightAt_27 ?_
        refine k_iload_n 1 1 dX5_heightAt_30 rfl rfl ?_
        refine k_useR (k_runV (c_X6_heightAt θ.2.1 κ (r := (τ.2.2.1 i)) (p := (τ.2.2.2.1 i)) (o := (τ.2.2.2.2 i)) (w := (wv i)) (t := t) cw (hok.2.2 i (by omega)) ht) w_X5_30 ⟨q_230, q_231⟩ rfl rfl cw rfl ⟨(Nat.le_of_ble_eq_true rfl), (Nat.le_of_ble_eq_true rfl)⟩ (Nat.le_of_ble_eq_true rfl) dX5_heightAt_31) ⟨(Nat.le_of_ble_eq_true rfl), (Nat.le_of_ble_eq_true rfl)⟩ ?_
        refine k_iadd dX5_heightAt_34 ?_
        refine k_istore_n 2 [(2, .int (iI ((htw τ (t : Int) i) + wvH (τ.2.2.1 i) (τ.2.2.2.1 i) (τ.2.2.2.2 i) (t : Int)))), (0, .ref td), (1, .int (iI (t : Int))), (3, .int (iI (i : Int)))] dX5_heightAt_35 rfl (by decide) rfl ?_
        refine k_iinc 3 [(3, .int (iI ((i : Int) + 1))), (2, .int (iI ((htw τ (t : Int) i) + wvH (τ.2.2.1 i) (τ.2.2.2.1 i) (τ.2.2.2.2 i) (t : Int)))), (0, .ref td), (1, .int (iI (t : Int)))] dX5_heightAt_36 rfl (by decide) rfl ?_
        refine k_goto 7 dX5_heightAt_39 (by decide) ?_
        refine k_perm [2, 3, 1, 0] [(0, .ref td), (1, .int (iI (t : Int))), (2, .int (iI ((htw τ (t : Int) i) + wvH (τ.2.2.1 i) (τ.2.2.2.1 i) (τ.2.2.2.2 i) (t : Int)))), (3, .int (iI ((i : Int) + 1)))] rfl ?_
        exact ih7 (i + 1) (by omega) (by omega)
  refine k_perm [2, 3, 1, 0] [(0, .ref td), (1, .int (iI (t : Int))), (2, .int (iI τ.1)), (3, .int (iI 0))] rfl ?_
  exact lp7 _ 0 (Nat.zero_le _) (Nat.lt_succ_self _)
end
section
/-! ===== finding the waters by the changes of the height ===== -/
theorem bI_inj {a b : Bool} (h : bI a = bI b) : a = b := by
  cases a <;> cases b <;> first | rfl | exact absurd h (by decide)
theorem nxt_run (h : Nat → Int) (v : Int) {e : Nat} (he : e ≤ 4320) (hend : e = 4320 ∨ h e ≠ v) : ∀ (m j : Nat), j ≤ e → e - j ≤ m → (∀ x, j ≤ x → x < e → h x = v) → nxt h v m j = e
  | 0, j, h1, h2, _ => by
    have : j = e := by omega
    subst this
    rfl
  | m + 1, j, h1, h2, h3 => by
    simp only [nxt]
    rcases Nat.lt_or_ge j e with q | q
    · rw [if_pos ⟨by omega, h3 j (Nat.le_refl _) q⟩]
      exact nxt_run h v he hend m (j + 1) (by omega) (by omega) (fun x hx1 hx2 => h3 x (by omega) hx2)
    · have : j = e := by omega
      subst this
      rw [if_neg]
      rintro ⟨q1, q2⟩
      rcases hend with e1 | e1
      · omega
      · exact e1 q2
theorem const_run {h : Nat → Int} {c i : Nat} (hc : ∀ j, c < j → j < i → h j = h (j - 1)) : ∀ d : Nat, c + d < i → h (c + d) = h c
  | 0, _ => rfl
  | d + 1, hd => by
    have h1 := hc (c + (d + 1)) (by omega) hd
    rw [show c + (d + 1) - 1 = c + d by omega] at h1
    rw [h1]
    exact const_run hc d (by omega)
theorem const_at {h : Nat → Int} {c i j : Nat} (hc : ∀ j, c < j → j < i → h j = h (j - 1)) (h1 : c ≤ j) (h2 : j < i) : h j = h c := by
  have := const_run hc (j - c) (by omega)
  rwa [show c + (j - c) = j by omega] at this
theorem isW_chg {h : Nat → Int} {t : Nat} (ht : isW h t = true) : h t ≠ h (t - 1) := by
  have := (of_decide_eq_true ht).2.2
  omega
theorem wc_run {h : Nat → Int} {a : Nat} : ∀ {b : Nat}, a ≤ b → (∀ j, a ≤ j → j < b → h j = h (j - 1)) → wc h b = wc h a
  | 0, hab, _ => by
    have : a = 0 := by omega
    subst this
    rfl
  | b + 1, hab, hn => by
    rcases Nat.lt_or_ge b a with q | q
    · have : a = b + 1 := by omega
      subst this
      rfl
    · rw [wc_no (fun e => isW_chg e (hn b q (by omega)))]
      exact wc_run q (fun j h1 h2 => hn j h1 (by omega))
def FW (h : Nat → Int) (i c n : Nat) (r : Bool) (WT WH : Nat → Int) (WI : Nat → Bool) : Prop := c < i ∧ (c = 0 ∨ (h c ≠ h (c - 1) ∧ r = decide (h (c - 1) < h c))) ∧ (∀ j, c < j → j < i → h j = h (j - 1)) ∧ n = wc h c ∧ ∀ k, k < n → WT k = (tm h k : Int) ∧ WH k = h (tm h k) ∧ WI k = hi h k
theorem FW.same {h : Nat → Int} {i c n : Nat} {r : Bool} {WT WH : Nat → Int} {WI : Nat → Bool} (F : FW h i c n r WT WH WI) (e : h i = h (i - 1)) : FW h (i + 1) c n r WT WH WI := by
  obtain ⟨h1, h2, h3, h4, h5⟩ := F
  refine ⟨by omega, h2, fun j hj1 hj2 => ?_, h4, h5⟩
  rcases Nat.lt_or_ge j i with q | q
  · exact h3 j hj1 q
  · have : j = i := by omega
    subst this
    exact e
theorem FW.nxc {h : Nat → Int} {i c n : Nat} {r : Bool} {WT WH : Nat → Int} {WI : Nat → Bool} (F : FW h i c n r WT WH WI) (hi4 : i ≤ 4320) (e : i = 4320 ∨ h i ≠ h (i - 1)) : nx h c = i := by
  obtain ⟨h1, h2, h3, h4, h5⟩ := F
  unfold nx
  refine nxt_run h (h c) hi4 (e.imp id (fun q q2 => q ?_)) 4320 (c + 1) (by omega) (by omega) (fun x hx1 hx2 => const_at h3 (by omega) hx2)
  rw [q2]
  exact (const_at h3 (by omega) (by omega)).symm
theorem FW.isw {h : Nat → Int} {i c n : Nat} {r : Bool} {WT WH : Nat → Int} {WI : Nat → Bool} (F : FW h i c n r WT WH WI) (hi4 : i < 4320) (e : h i ≠ h (i - 1)) : isW h c = true ↔ 0 < c ∧ r ≠ decide (h (i - 1) < h i) := by
  have hnx := F.nxc (Nat.le_of_lt hi4) (Or.inr e)
  obtain ⟨h1, h2, h3, h4, h5⟩ := F
  have hc : h (i - 1) = h c := const_at h3 (by omega) (by omega)
  unfold isW
  rw [decide_eq_true_iff, hnx, hc]
  rw [hc] at e
  constructor
  · rintro ⟨a1, a2, a3⟩
    refine ⟨by omega, ?_⟩
    rcases h2 with h2 | ⟨h2, hr⟩
    · omega
    · rw [hr]
      rcases a3 with ⟨b1, b2⟩ | ⟨b1, b2⟩
      · rw [decide_eq_true b1, decide_eq_false (by omega)]
        decide
      · rw [decide_eq_false (by omega), decide_eq_true (by omega)]
        decide
  · rintro ⟨a1, a2⟩
    refine ⟨by omega, hi4, ?_⟩
    rcases h2 with h2 | ⟨h2, hr⟩
    · omega
    · rw [hr] at a2
      rcases Int.lt_or_gt_of_ne h2 with q | q
      · refine Or.inr ⟨q, ?_⟩
        rw [decide_eq_false (by omega)] at a2
        have a3 := of_decide_eq_true ((Bool.not_eq_false _).mp (fun x => a2 x.symm))
        exact a3
      · refine Or.inl ⟨q, ?_⟩
        rw [decide_eq_true q] at a2
        have a3 := of_decide_eq_false ((Bool.not_eq_true _).mp (fun x => a2 x.symm))
        omega
theorem FW.no {h : Nat → Int} {i c n : Nat} {r : Bool} {WT WH : Nat → Int} {WI : Nat → Bool} (F : FW h i c n r WT WH WI) (hi4 : i < 4320) (e : h i ≠ h (i - 1)) (hno : ¬ (0 < c ∧ r ≠ decide (h (i - 1) < h i))) : FW h (i + 1) i n (decide (h (i - 1) < h i)) WT WH WI := by
  have hw := F.isw hi4 e
  obtain ⟨h1, h2, h3, h4, h5⟩ := F
  refine ⟨by omega, Or.inr ⟨e, rfl⟩, fun j hj1 hj2 => by omega, ?_, h5⟩
  rw [h4, wc_run (h := h) (a := c + 1) (b := i) (by omega) (fun j hj1 hj2 => h3 j (by omega) hj2), wc_no (fun q => hno (hw.mp q))]
theorem FW.yes {h : Nat → Int} {i c n : Nat} {r : Bool} {WT WH : Nat → Int} {WI : Nat → Bool} (F : FW h i c n r WT WH WI) (hi4 : i < 4320) (e : h i ≠ h (i - 1)) (hyes : 0 < c ∧ r ≠ decide (h (i - 1) < h i)) : FW h (i + 1) i (n + 1) (decide (h (i - 1) < h i)) (va_up WT n (c : Int)) (va_up WH n (h (i - 1))) (va_up WI n r) := by
  have hw := (F.isw hi4 e).mpr hyes
  obtain ⟨h1, h2, h3, h4, h5⟩ := F
  have hc : h (i - 1) = h c := const_at h3 (by omega) (by omega)
  have htm : tm h n = c := by
    rw [h4]
    exact tm_of hw (by omega)
  refine ⟨by omega, Or.inr ⟨e, rfl⟩, fun j hj1 hj2 => by omega, ?_, fun k hk => ?_⟩
  · rw [h4, wc_run (h := h) (a := c + 1) (b := i) (by omega) (fun j hj1 hj2 => h3 j (by omega) hj2), wc_yes hw]
  · by_cases q : k = n
    · subst q
      rw [va_up_self, va_up_self, va_up_self, htm]
      refine ⟨rfl, hc, ?_⟩
      unfold hi
      rw [htm]
      rcases h2 with h2 | ⟨h2, hr⟩
      · omega
      · exact hr
    · rw [va_up_ne WT _ q, va_up_ne WH _ q, va_up_ne WI _ q]
      exact h5 k (by omega)
theorem FW.fin {h : Nat → Int} {c n : Nat} {r : Bool} {WT WH : Nat → Int} {WI : Nat → Bool} (F : FW h 4320 c n r WT WH WI) : n = nW h ∧ ∀ k, k < nW h → WT k = (tm h k : Int) ∧ WH k = h (tm h k) ∧ WI k = hi h k := by
  have hnx := F.nxc (Nat.le_refl _) (Or.inl rfl)
  obtain ⟨h1, h2, h3, h4, h5⟩ := F
  have e : n = nW h := by
    unfold nW
    rw [h4, wc_run (h := h) (a := c + 1) (b := 4320) (by omega) (fun j hj1 hj2 => h3 j (by omega) hj2), wc_no]
    intro q
    have := (of_decide_eq_true q).2.1
    omega
  rw [← e]
  exact ⟨rfl, h5⟩
theorem mxh_bd {h : Nat → Int} (hb : ∀ t, -50000 ≤ h t ∧ h t ≤ 50000) : ∀ n, -50000 ≤ mxh h n ∧ mxh h n ≤ 50000
  | 0 => hb 0
  | n + 1 => by
    have h1 := mxh_bd hb n
    have h2 := hb n
    simp only [mxh]
    omega
theorem mnh_bd {h : Nat → Int} (hb : ∀ t, -50000 ≤ h t ∧ h t ≤ 50000) : ∀ n, -50000 ≤ mnh h n ∧ mnh h n ≤ 50000
  | 0 => hb 0
  | n + 1 => by
    have h1 := mnh_bd hb n
    have h2 := hb n
    simp only [mnh]
    omega
theorem sumW_bd {h : Nat → Int} (hb : ∀ t, -50000 ≤ h t ∧ h t ≤ 50000) (b : Bool) : ∀ n : Nat, -50000 * (n : Int) ≤ sumW h b n ∧ sumW h b n ≤ 50000 * (n : Int)
  | 0 => ⟨by simp only [sumW]; omega, by simp only [sumW]; omega⟩
  | n + 1 => by
    have h1 := sumW_bd hb b n
    have h2 := hb (tm h n)
    simp only [sumW]
    split <;> omega
theorem cntW_bd {h : Nat → Int} (b : Bool) : ∀ n : Nat, 0 ≤ cntW h b n ∧ cntW h b n ≤ (n : Int)
  | 0 => ⟨by simp only [cntW]; omega, by simp only [cntW]; omega⟩
  | n + 1 => by
    have h1 := cntW_bd (h := h) b n
    simp only [cntW]
    split <;> omega
theorem difW_bd {h : Nat → Int} (hb : ∀ t, -50000 ≤ h t ∧ h t ≤ 50000) : ∀ n : Nat, 0 ≤ difW h n ∧ difW h n ≤ 100000
  | 0 => ⟨by simp only [difW]; omega, by simp only [difW]; omega⟩
  | n + 1 => by
    have h1 := difW_bd hb n
    have h2 := hb (tm h n)
    have h3 := hb (tm h (n + 1))
    simp only [difW]
    omega
def ST (v : Nat) : Bool := v == 3 || (v == 7 || (v == 8 || (v == 9 || v == 10)))
theorem ST_3 : ∀ v, ST v = false → (v == 3) = false := fun v h => (Bool.or_eq_false_iff.mp h).1
theorem ST_7 : ∀ v, ST v = false → (v == 7) = false := fun v h => (Bool.or_eq_false_iff.mp (Bool.or_eq_false_iff.mp h).2).1
theorem ST_8 : ∀ v, ST v = false → (v == 8) = false := fun v h => (Bool.or_eq_false_iff.mp (Bool.or_eq_false_iff.mp (Bool.or_eq_false_iff.mp h).2).2).1
theorem ST_9 : ∀ v, ST v = false → (v == 9) = false := fun v h => (Bool.or_eq_false_iff.mp (Bool.or_eq_false_iff.mp (Bool.or_eq_false_iff.mp (Bool.or_eq_false_iff.mp h).2).2).2).1
theorem ST_10 : ∀ v, ST v = false → (v == 10) = false := fun v h => (Bool.or_eq_false_iff.mp (Bool.or_eq_false_iff.mp (Bool.or_eq_false_iff.mp (Bool.or_eq_false_iff.mp h).2).2).2).2
theorem TideR.cl {κ : Kx} {L : List Nat} {f : Nat → wE} {td : Nat} {τ : Td} (h : TideR κ L f td τ) : ∃ wl : Nat, Cl L f td (2, .inr (6, [.ref wl, .int (iI τ.1)])) := by
  obtain ⟨wl, wv, h1, h2⟩ := h
  exact ⟨wl, h1⟩
theorem idf : ∀ {S : Nat → Bool} v, S v = false → S v = false := fun _ h => h
end
section
set_option maxHeartbeats 4000000 in
set_option maxRecDepth 100000 in
theorem c_X3_hasWater (la : Launch) (κ : Kx) {L : List Nat} {f : Nat → wE} {tb : Nat} {h : Nat → Int} {z : Int}  (hTb : TblR κ L f tb h) (hz : inI z) : k_M la κ yX3_hasWater cX3_hasWater 2 (some .boolean) 1 0 0 [.ref tb, .int (iI z)] L f (k_ro L f (.int (iI (bI (decide (0 ≤ z ∧ z < (nW h : Int))))))) := by
  refine k_head RX3 [(0, .ref tb), (1, .int (iI z))] rfl (by decide) (Nat.le_of_ble_eq_true rfl) rfl (fun θ hθ hin => ?_)
  have hnn := nW_le h
  obtain ⟨hs, wt, wh, wi, ctb⟩ := hTb.cl
  refine k_iload_n 1 1 dX3_hasWater_0 rfl rfl ?_
  refine k_if_lt 16 dX3_hasWater_1 (by decide) hz (fun h1 => ?_) (fun h1 => ?_)
  · refine k_iconst dX3_hasWater_16 ?_
    exact k_zret (b := false) dX3_hasWater_17 rfl (Nat.le_of_ble_eq_true rfl) (Nat.le_of_ble_eq_true rfl) (k_okb ((decide_eq_false (by omega)).symm))
  · refine k_iload_n 1 1 dX3_hasWater_4 rfl rfl ?_
    refine k_aload_n 0 0 dX3_hasWater_5 rfl rfl ?_
    refine k_get 4 i_X3 q_94 ctb rfl (by decide) rfl dX3_hasWater_6 ?_
    refine k_icmp_ge 16 dX3_hasWater_9 (by decide) hz (inI_mk (by omega) (by omega)) (fun h9 => ?_) (fun h9 => ?_)
    · refine k_iconst dX3_hasWater_16 ?_
      exact k_zret (b := false) dX3_hasWater_17 rfl (Nat.le_of_ble_eq_true rfl) (Nat.le_of_ble_eq_true rfl) (k_okb ((decide_eq_false (by omega)).symm))
    · refine k_iconst dX3_hasWater_12 ?_
      refine k_goto 17 dX3_hasWater_13 (by decide) ?_
      exact k_zret (b := true) dX3_hasWater_17 rfl (Nat.le_of_ble_eq_true rfl) (Nat.le_of_ble_eq_true rfl) (k_okb ((decide_eq_true (by omega)).symm))
set_option maxHeartbeats 4000000 in
set_option maxRecDepth 100000 in
theorem c_X3_isBetweenWaters (la : Launch) (κ : Kx) {L : List Nat} {f : Nat → wE} {tb : Nat} {h : Nat → Int} {z : Int}  (hTb : TblR κ L f tb h) (hz : inI z) : k_M la κ yX3_isBetweenWaters cX3_isBetweenWaters 2 (some .boolean) 1 0 0 [.ref tb, .int (iI z)] L f (k_ro L f (.int (iI (bI (decide (0 ≤ z ∧ z < (nW h : Int) - 1)))))) := by
  refine k_head RX3 [(0, .ref tb), (1, .int (iI z))] rfl (by decide) (Nat.le_of_ble_eq_true rfl) rfl (fun θ hθ hin => ?_)
  have hnn := nW_le h
  obtain ⟨hs, wt, wh, wi, ctb⟩ := hTb.cl
  refine k_iload_n 1 1 dX3_isBetweenWaters_0 rfl rfl ?_
  refine k_if_lt 18 dX3_isBetweenWaters_1 (by decide) hz (fun h1 => ?_) (fun h1 => ?_)
  · refine k_iconst dX3_isBetweenWaters_18 ?_
    exact k_zret (b := false) dX3_isBetweenWaters_19 rfl (Nat.le_of_ble_eq_true rfl) (Nat.le_of_ble_eq_true rfl) (k_okb ((decide_eq_false (by omega)).symm))
  · refine k_iload_n 1 1 dX3_isBetweenWaters_4 rfl rfl ?_
    refine k_aload_n 0 0 dX3_isBetweenWaters_5 rfl rfl ?_
    refine k_get 4 i_X3 q_94 ctb rfl (by decide) rfl dX3_isBetweenWaters_6 ?_
    refine k_iconst dX3_isBetweenWaters_9 ?_
    refine k_isub dX3_isBetweenWaters_10 ?_
    refine k_icmp_ge 18 dX3_isBetweenWaters_11 (by decide) hz (inI_mk (by omega) (by omega)) (fun h11 => ?_) (fun h11 => ?_)
    · refine k_iconst dX3_isBetweenWaters_18 ?_
      exact k_zret (b := false) dX3_isBetweenWaters_19 rfl (Nat.le_of_ble_eq_true rfl) (Nat.le_of_ble_eq_true rfl) (k_okb ((decide_eq_false (by omega)).symm))
    · refine k_iconst dX3_isBetweenWaters_14 ?_
      refine k_goto 19 dX3_isBetweenWaters_15 (by decide) ?_
      exact k_zret (b := true) dX3_isBetweenWaters_19 rfl (Nat.le_of_ble_eq_true rfl) (Nat.le_of_ble_eq_true rfl) (k_okb ((decide_eq_true (by omega)).symm))
set_option maxHeartbeats 4000000 in
set_option maxRecDepth 100000 in
theorem c_X3_heightAt (la : Launch) (κ : Kx) {L : List Nat} {f : Nat → wE} {tb : Nat} {h : Nat → Int} {t : Nat}  (hTb : TblR κ L f tb h) (ht : t < 4320) : k_M la κ yX3_heightAt cX3_heightAt 2 (some .int) 3 0 0 [.ref tb, .int (iI (t : Int))] L f (k_ro L f (.int (iI (h t)))) := by
  refine k_head RX3 [(0, .ref tb), (1, .int (iI (t : Int)))] rfl (by decide) (Nat.le_of_ble_eq_true rfl) rfl (fun θ hθ hin => ?_)
  have hnn := nW_le h
  obtain ⟨hs, wt, wh, wi, HH, WT, WH, WI, ⟨ctb, chs, cwt, cwh, cwi⟩, hHH, hWW⟩ := id hTb
  refine k_iload_n 1 1 dX3_heightAt_0 rfl rfl ?_
  refine k_useR (k_runSN (c_X7_isMinute θ.2.1 κ (z := (t : Int)) (inI_mk (by omega) (by omega))) w_X3_42 q_133 rfl rfl ⟨(Nat.le_of_ble_eq_true rfl), (Nat.le_of_ble_eq_true rfl)⟩ (Nat.le_of_ble_eq_true rfl) dX3_heightAt_1) ⟨(Nat.le_of_ble_eq_true rfl), (Nat.le_of_ble_eq_true rfl)⟩ ?_
  refine k_ifb_eq 16 dX3_heightAt_4 (by decide) (fun h4 => ?_) (fun h4 => ?_)
  · exact (of_decide_eq_false h4 ⟨by omega, by omega⟩).elim
  · refine k_aload_n 0 0 dX3_heightAt_7 rfl rfl ?_
    refine k_get 0 i_X3 q_90 ctb rfl (by decide) rfl dX3_heightAt_8 ?_
    refine k_iload_n 1 1 dX3_heightAt_11 rfl rfl ?_
    refine k_iald t chs rfl (by omega) (by omega) dX3_heightAt_12 ?_
    refine k_goto 17 dX3_heightAt_13 (by decide) ?_
    exact k_iret dX3_heightAt_17 rfl (Nat.le_of_ble_eq_true rfl) (Nat.le_of_ble_eq_true rfl) (k_oki (hHH t ht))
set_option maxHeartbeats 4000000 in
set_option maxRecDepth 100000 in
theorem c_X3_timeOf (la : Launch) (κ : Kx) {L : List Nat} {f : Nat → wE} {tb : Nat} {h : Nat → Int} {k : Nat}  (hTb : TblR κ L f tb h) (hk : k < nW h) : k_M la κ yX3_timeOf cX3_timeOf 2 (some .int) 2 0 0 [.ref tb, .int (iI (k : Int))] L f (k_ro L f (.int (iI (tm h k : Int)))) := by
  refine k_head RX3 [(0, .ref tb), (1, .int (iI (k : Int)))] rfl (by decide) (Nat.le_of_ble_eq_true rfl) rfl (fun θ hθ hin => ?_)
  have hnn := nW_le h
  obtain ⟨hs, wt, wh, wi, HH, WT, WH, WI, ⟨ctb, chs, cwt, cwh, cwi⟩, hHH, hWW⟩ := id hTb
  refine k_aload_n 0 0 dX3_timeOf_0 rfl rfl ?_
  refine k_iload_n 1 1 dX3_timeOf_1 rfl rfl ?_
  refine k_useR (k_runV (c_X3_hasWater θ.2.1 κ (tb := tb) (z := (k : Int)) hTb (inI_mk (by omega) (by omega))) w_X3_46 ⟨q_281, q_282⟩ rfl rfl ctb rfl ⟨(Nat.le_of_ble_eq_true rfl), (Nat.le_of_ble_eq_true rfl)⟩ (Nat.le_of_ble_eq_true rfl) dX3_timeOf_2) ⟨(Nat.le_of_ble_eq_true rfl), (Nat.le_of_ble_eq_true rfl)⟩ ?_
  refine k_ifb_eq 17 dX3_timeOf_5 (by decide) (fun h5 => ?_) (fun h5 => ?_)
  · exact (of_decide_eq_false h5 ⟨by omega, by omega⟩).elim
  · refine k_aload_n 0 0 dX3_timeOf_8 rfl rfl ?_
    refine k_get 1 i_X3 q_91 ctb rfl (by decide) rfl dX3_timeOf_9 ?_
    refine k_iload_n 1 1 dX3_timeOf_12 rfl rfl ?_
    refine k_iald k cwt rfl (by omega) (by omega) dX3_timeOf_13 ?_
    refine k_goto 18 dX3_timeOf_14 (by decide) ?_
    exact k_iret dX3_timeOf_18 rfl (Nat.le_of_ble_eq_true rfl) (Nat.le_of_ble_eq_true rfl) (k_oki ((hWW k hk).1))
set_option maxHeartbeats 4000000 in
set_option maxRecDepth 100000 in
theorem c_X3_heightOf (la : Launch) (κ : Kx) {L : List Nat} {f : Nat → wE} {tb : Nat} {h : Nat → Int} {k : Nat}  (hTb : TblR κ L f tb h) (hk : k < nW h) : k_M la κ yX3_heightOf cX3_heightOf 2 (some .int) 2 0 0 [.ref tb, .int (iI (k : Int))] L f (k_ro L f (.int (iI (h (tm h k))))) := by
  refine k_head RX3 [(0, .ref tb), (1, .int (iI (k : Int)))] rfl (by decide) (Nat.le_of_ble_eq_true rfl) rfl (fun θ hθ hin => ?_)
  have hnn := nW_le h
  obtain ⟨hs, wt, wh, wi, HH, WT, WH, WI, ⟨ctb, chs, cwt, cwh, cwi⟩, hHH, hWW⟩ := id hTb
  refine k_aload_n 0 0 dX3_heightOf_0 rfl rfl ?_
  refine k_iload_n 1 1 dX3_heightOf_1 rfl rfl ?_
  refine k_useR (k_runV (c_X3_hasWater θ.2.1 κ (tb := tb) (z := (k : Int)) hTb (inI_mk (by omega) (by omega))) w_X3_46 ⟨q_281, q_282⟩ rfl rfl ctb rfl ⟨(Nat.le_of_ble_eq_true rfl), (Nat.le_of_ble_eq_true rfl)⟩ (Nat.le_of_ble_eq_true rfl) dX3_heightOf_2) ⟨(Nat.le_of_ble_eq_true rfl), (Nat.le_of_ble_eq_true rfl)⟩ ?_
  refine k_ifb_eq 17 dX3_heightOf_5 (by decide) (fun h5 => ?_) (fun h5 => ?_)
  · exact (of_decide_eq_false h5 ⟨by omega, by omega⟩).elim
  · refine k_aload_n 0 0 dX3_heightOf_8 rfl rfl ?_
    refine k_get 2 i_X3 q_92 ctb rfl (by decide) rfl dX3_heightOf_9 ?_
    refine k_iload_n 1 1 dX3_heightOf_12 rfl rfl ?_
    refine k_iald k cwh rfl (by omega) (by omega) dX3_heightOf_13 ?_
    refine k_goto 18 dX3_heightOf_14 (by decide) ?_
    exact k_iret dX3_heightOf_18 rfl (Nat.le_of_ble_eq_true rfl) (Nat.le_of_ble_eq_true rfl) (k_oki ((hWW k hk).2.1))
set_option maxHeartbeats 4000000 in
set_option maxRecDepth 100000 in
theorem c_X3_isHigh (la : Launch) (κ : Kx) {L : List Nat} {f : Nat → wE} {tb : Nat} {h : Nat → Int} {k : Nat}  (hTb : TblR κ L f tb h) (hk : k < nW h) : k_M la κ yX3_isHigh cX3_isHigh 2 (some .boolean) 2 0 0 [.ref tb, .int (iI (k : Int))] L f (k_ro L f (.int (iI (bI (hi h k))))) := by
  refine k_head RX3 [(0, .ref tb), (1, .int (iI (k : Int)))] rfl (by decide) (Nat.le_of_ble_eq_true rfl) rfl (fun θ hθ hin => ?_)
  have hnn := nW_le h
  obtain ⟨hs, wt, wh, wi, HH, WT, WH, WI, ⟨ctb, chs, cwt, cwh, cwi⟩, hHH, hWW⟩ := id hTb
  refine k_aload_n 0 0 dX3_isHigh_0 rfl rfl ?_
  refine k_iload_n 1 1 dX3_isHigh_1 rfl rfl ?_
  refine k_useR (k_runV (c_X3_hasWater θ.2.1 κ (tb := tb) (z := (k : Int)) hTb (inI_mk (by omega) (by omega))) w_X3_46 ⟨q_281, q_282⟩ rfl rfl ctb rfl ⟨(Nat.le_of_ble_eq_true rfl), (Nat.le_of_ble_eq_true rfl)⟩ (Nat.le_of_ble_eq_true rfl) dX3_isHigh_2) ⟨(Nat.le_of_ble_eq_true rfl), (Nat.le_of_ble_eq_true rfl)⟩ ?_
  refine k_ifb_eq 21 dX3_isHigh_5 (by decide) (fun h5 => ?_) (fun h5 => ?_)
  · exact (of_decide_eq_false h5 ⟨by omega, by omega⟩).elim
  · refine k_aload_n 0 0 dX3_isHigh_8 rfl rfl ?_
    refine k_get 3 i_X3 q_93 ctb rfl (by decide) rfl dX3_isHigh_9 ?_
    refine k_iload_n 1 1 dX3_isHigh_12 rfl rfl ?_
    refine k_zald k cwi rfl (by omega) (by omega) dX3_isHigh_13 ?_
    refine k_ifb_eq 21 dX3_isHigh_14 (by decide) (fun h14 => ?_) (fun h14 => ?_)
    · refine k_iconst dX3_isHigh_21 ?_
      exact k_zret (b := false) dX3_isHigh_22 rfl (Nat.le_of_ble_eq_true rfl) (Nat.le_of_ble_eq_true rfl) (k_okb (h14.symm.trans (hWW k hk).2.2))
    · refine k_iconst dX3_isHigh_17 ?_
      refine k_goto 22 dX3_isHigh_18 (by decide) ?_
      exact k_zret (b := true) dX3_isHigh_22 rfl (Nat.le_of_ble_eq_true rfl) (Nat.le_of_ble_eq_true rfl) (k_okb (h14.symm.trans (hWW k hk).2.2))
set_option maxHeartbeats 4000000 in
set_option maxRecDepth 100000 in
theorem c_X3_greatestHeight (la : Launch) (κ : Kx) {L : List Nat} {f : Nat → wE} {tb : Nat} {h : Nat → Int}   (hTb : TblR κ L f tb h) (hb : ∀ t, -50000 ≤ h t ∧ h t ≤ 50000) : k_M la κ yX3_greatestHeight cX3_greatestHeight 6 (some .int) 4 0 0 [.ref tb] L f (k_ro L f (.int (iI (mxh h 4320)))) := by
  refine k_head RX3 [(0, .ref tb)] rfl (by decide) (Nat.le_of_ble_eq_true rfl) rfl (fun θ hθ hin => ?_)
  have hnn := nW_le h
  obtain ⟨hs, wt, wh, wi, HH, WT, WH, WI, ⟨ctb, chs, cwt, cwh, cwi⟩, hHH, hWW⟩ := id hTb
  refine k_aload_n 0 0 dX3_greatestHeight_0 rfl rfl ?_
  refine k_iconst dX3_greatestHeight_1 ?_
  refine k_topi ((0 : Nat) : Int) rfl ?_
  refine k_useR (k_runV (c_X3_heightAt θ.2.1 κ (t := 0) (tb := tb) hTb (by omega)) w_X3_63 ⟨q_317, q_318⟩ rfl rfl ctb rfl ⟨(Nat.le_of_ble_eq_true rfl), (Nat.le_of_ble_eq_true rfl)⟩ (Nat.le_of_ble_eq_true rfl) dX3_greatestHeight_2) ⟨(Nat.le_of_ble_eq_true rfl), (Nat.le_of_ble_eq_true rfl)⟩ ?_
  refine k_istore_n 1 [(1, .int (iI (h 0))), (0, .ref tb)] dX3_greatestHeight_5 rfl (by decide) rfl ?_
  refine k_aload_n 1 0 dX3_greatestHeight_6 rfl rfl ?_
  refine k_get 0 i_X3 q_90 ctb rfl (by decide) rfl dX3_greatestHeight_7 ?_
  refine k_astore_n 2 [(2, .ref hs), (1, .int (iI (h 0))), (0, .ref tb)] dX3_greatestHeight_10 rfl (by decide) rfl ?_
  refine k_aload_n 0 2 dX3_greatestHeight_11 rfl rfl ?_
  refine k_alen (t0 := 0) chs rfl dX3_greatestHeight_12 ?_
  refine k_istore_n 3 [(3, .int (iI 4320)), (2, .ref hs), (1, .int (iI (h 0))), (0, .ref tb)] dX3_greatestHeight_13 rfl (by decide) rfl ?_
  refine k_iconst dX3_greatestHeight_14 ?_
  refine k_istore [(4, .int (iI 0)), (3, .int (iI 4320)), (2, .ref hs), (1, .int (iI (h 0))), (0, .ref tb)] dX3_greatestHeight_15 (by decide) rfl ?_
  have lp17 : ∀ (fuel : Nat) (j : Nat), (j ≤ 4320) → 4320 - j < fuel → k_G θ κ cX3_greatestHeight 6 (some .int) RX3 (k_rm 4 0 0) (k_MQ θ κ (k_ro L f (.int (iI (mxh h 4320)))) 0 0) L f 0 0 17 [(0, .ref tb), (1, .int (iI (mxh h j))), (2, .ref hs), (3, .int (iI 4320)), (4, .int (iI (j : Int)))] [] := by
    intro fuel
    induction fuel with
    | zero =>
      intro j hj hfu
      exact absurd hfu (Nat.not_lt_zero _)
    | succ fuel ih17 =>
      intro j hj hfu
      have hm := mxh_bd hb j
      have hh := hb j
      refine k_iload 4 dX3_greatestHeight_17 rfl ?_
      refine k_iload_n 3 3 dX3_greatestHeight_19 rfl rfl ?_
      refine k_icmp_ge 42 dX3_greatestHeight_20 (by decide) (inI_mk (by omega) (by omega)) (inI_mk (by omega) (by omega)) (fun h20 => ?_) (fun h20 => ?_)
      · have e43 : j = 4320 := by omega
        subst e43
        refine k_iload_n 1 1 dX3_greatestHeight_42 rfl rfl ?_
        exact k_iret dX3_greatestHeight_43 rfl (Nat.le_of_ble_eq_true rfl) (Nat.le_of_ble_eq_true rfl) (k_oki rfl)
      · refine k_aload_n 2 2 dX3_greatestHeight_23 rfl rfl ?_
        refine k_iload 4 dX3_greatestHeight_24 rfl ?_
        refine k_iald j chs rfl (by omega) (by omega) dX3_greatestHeight_26 ?_
        refine k_topi (h j) (hHH j (by omega)) ?_
        refine k_istore [(5, .int (iI (h j))), (0, .ref tb), (1, .int (iI (mxh h j))), (2, .ref hs), (3, .int (iI 4320)), (4, .int (iI (j : Int)))] dX3_greatestHeight_27 (by decide) rfl ?_
        refine k_iload_n 2 1 dX3_greatestHeight_29 rfl rfl ?_
        refine k_iload 0 dX3_greatestHeight_30 rfl ?_
        refine k_max q_321 q_322 q_27 q_323 (inI_mk (by omega) (by omega)) (inI_mk (by omega) (by omega)) (Nat.le_of_ble_eq_true rfl) (Nat.le_of_ble_eq_true rfl) ⟨(Nat.le_of_ble_eq_true rfl), (Nat.le_of_ble_eq_true rfl)⟩ dX3_greatestHeight_32 ?_
        refine k_istore_n 1 [(1, .int (iI (max (mxh h j) (h j)))), (5, .int (iI (h j))), (0, .ref tb), (2, .ref hs), (3, .int (iI 4320)), (4, .int (iI (j : Int)))] dX3_greatestHeight_35 rfl (by decide) rfl ?_
        refine k_iinc 5 [(4, .int (iI ((j : Int) + 1))), (1, .int (iI (max (mxh h j) (h j)))), (5, .int (iI (h j))), (0, .ref tb), (2, .ref hs), (3, .int (iI 4320))] dX3_greatestHeight_36 rfl (by decide) rfl ?_
        refine k_goto 17 dX3_greatestHeight_39 (by decide) ?_
        refine k_perm [3, 1, 4, 5, 0] [(0, .ref tb), (1, .int (iI (max (mxh h j) (h j)))), (2, .ref hs), (3, .int (iI 4320)), (4, .int (iI ((j : Int) + 1)))] rfl ?_
        exact ih17 (j + 1) (by omega) (by omega)
  refine k_perm [4, 3, 2, 1, 0] [(0, .ref tb), (1, .int (iI (h 0))), (2, .ref hs), (3, .int (iI 4320)), (4, .int (iI 0))] rfl ?_
  exact lp17 _ 0 (Nat.zero_le _) (Nat.lt_succ_self _)
set_option maxHeartbeats 4000000 in
set_option maxRecDepth 100000 in
theorem c_X3_leastHeight (la : Launch) (κ : Kx) {L : List Nat} {f : Nat → wE} {tb : Nat} {h : Nat → Int}   (hTb : TblR κ L f tb h) (hb : ∀ t, -50000 ≤ h t ∧ h t ≤ 50000) : k_M la κ yX3_leastHeight cX3_leastHeight 6 (some .int) 4 0 0 [.ref tb] L f (k_ro L f (.int (iI (mnh h 4320)))) := by
  refine k_head RX3 [(0, .ref tb)] rfl (by decide) (Nat.le_of_ble_eq_true rfl) rfl (fun θ hθ hin => ?_)
  have hnn := nW_le h
  obtain ⟨hs, wt, wh, wi, HH, WT, WH, WI, ⟨ctb, chs, cwt, cwh, cwi⟩, hHH, hWW⟩ := id hTb
  refine k_aload_n 0 0 dX3_leastHeight_0 rfl rfl ?_
  refine k_iconst dX3_leastHeight_1 ?_
  refine k_topi ((0 : Nat) : Int) rfl ?_
  refine k_useR (k_runV (c_X3_heightAt θ.2.1 κ (t := 0) (tb := tb) hTb (by omega)) w_X3_63 ⟨q_317, q_318⟩ rfl rfl ctb rfl ⟨(Nat.le_of_ble_eq_true rfl), (Nat.le_of_ble_eq_true rfl)⟩ (Nat.le_of_ble_eq_true rfl) dX3_leastHeight_2) ⟨(Nat.le_of_ble_eq_true rfl), (Nat.le_of_ble_eq_true rfl)⟩ ?_
  refine k_istore_n 1 [(1, .int (iI (h 0))), (0, .ref tb)] dX3_leastHeight_5 rfl (by decide) rfl ?_
  refine k_aload_n 1 0 dX3_leastHeight_6 rfl rfl ?_
  refine k_get 0 i_X3 q_90 ctb rfl (by decide) rfl dX3_leastHeight_7 ?_
  refine k_astore_n 2 [(2, .ref hs), (1, .int (iI (h 0))), (0, .ref tb)] dX3_leastHeight_10 rfl (by decide) rfl ?_
  refine k_aload_n 0 2 dX3_leastHeight_11 rfl rfl ?_
  refine k_alen (t0 := 0) chs rfl dX3_leastHeight_12 ?_
  refine k_istore_n 3 [(3, .int (iI 4320)), (2, .ref hs), (1, .int (iI (h 0))), (0, .ref tb)] dX3_leastHeight_13 rfl (by decide) rfl ?_
  refine k_iconst dX3_leastHeight_14 ?_
  refine k_istore [(4, .int (iI 0)), (3, .int (iI 4320)), (2, .ref hs), (1, .int (iI (h 0))), (0, .ref tb)] dX3_leastHeight_15 (by decide) rfl ?_
  have lp17 : ∀ (fuel : Nat) (j : Nat), (j ≤ 4320) → 4320 - j < fuel → k_G θ κ cX3_leastHeight 6 (some .int) RX3 (k_rm 4 0 0) (k_MQ θ κ (k_ro L f (.int (iI (mnh h 4320)))) 0 0) L f 0 0 17 [(0, .ref tb), (1, .int (iI (mnh h j))), (2, .ref hs), (3, .int (iI 4320)), (4, .int (iI (j : Int)))] [] := by
    intro fuel
    induction fuel with
    | zero =>
      intro j hj hfu
      exact absurd hfu (Nat.not_lt_zero _)
    | succ fuel ih17 =>
      intro j hj hfu
      have hm := mnh_bd hb j
      have hh := hb j
      refine k_iload 4 dX3_leastHeight_17 rfl ?_
      refine k_iload_n 3 3 dX3_leastHeight_19 rfl rfl ?_
      refine k_icmp_ge 42 dX3_leastHeight_20 (by decide) (inI_mk (by omega) (by omega)) (inI_mk (by omega) (by omega)) (fun h20 => ?_) (fun h20 => ?_)
      · have e43 : j = 4320 := by omega
        subst e43
        refine k_iload_n 1 1 dX3_leastHeight_42 rfl rfl ?_
        exact k_iret dX3_leastHeight_43 rfl (Nat.le_of_ble_eq_true rfl) (Nat.le_of_ble_eq_true rfl) (k_oki rfl)
      · refine k_aload_n 2 2 dX3_leastHeight_23 rfl rfl ?_
        refine k_iload 4 dX3_leastHeight_24 rfl ?_
        refine k_iald j chs rfl (by omega) (by omega) dX3_leastHeight_26 ?_
        refine k_topi (h j) (hHH j (by omega)) ?_
        refine k_istore [(5, .int (iI (h j))), (0, .ref tb), (1, .int (iI (mnh h j))), (2, .ref hs), (3, .int (iI 4320)), (4, .int (iI (j : Int)))] dX3_leastHeight_27 (by decide) rfl ?_
        refine k_iload_n 2 1 dX3_leastHeight_29 rfl rfl ?_
        refine k_iload 0 dX3_leastHeight_30 rfl ?_
        refine k_min q_328 q_329 q_27 q_330 (inI_mk (by omega) (by omega)) (inI_mk (by omega) (by omega)) (Nat.le_of_ble_eq_true rfl) (Nat.le_of_ble_eq_true rfl) ⟨(Nat.le_of_ble_eq_true rfl), (Nat.le_of_ble_eq_true rfl)⟩ dX3_leastHeight_32 ?_
        refine k_istore_n 1 [(1, .int (iI (min (mnh h j) (h j)))), (5, .int (iI (h j))), (0, .ref tb), (2, .ref hs), (3, .int (iI 4320)), (4, .int (iI (j : Int)))] dX3_leastHeight_35 rfl (by decide) rfl ?_
        refine k_iinc 5 [(4, .int (iI ((j : Int) + 1))), (1, .int (iI (min (mnh h j) (h j)))), (5, .int (iI (h j))), (0, .ref tb), (2, .ref hs), (3, .int (iI 4320))] dX3_leastHeight_36 rfl (by decide) rfl ?_
        refine k_goto 17 dX3_leastHeight_39 (by decide) ?_
        refine k_perm [3, 1, 4, 5, 0] [(0, .ref tb), (1, .int (iI (min (mnh h j) (h j)))), (2, .ref hs), (3, .int (iI 4320)), (4, .int (iI ((j : Int) + 1)))] rfl ?_
        exact ih17 (j + 1) (by omega) (by omega)
  refine k_perm [4, 3, 2, 1, 0] [(0, .ref tb), (1, .int (iI (h 0))), (2, .ref hs), (3, .int (iI 4320)), (4, .int (iI 0))] rfl ?_
  exact lp17 _ 0 (Nat.zero_le _) (Nat.lt_succ_self _)
set_option maxHeartbeats 4000000 in
set_option maxRecDepth 100000 in
theorem c_X3_meanOfWaters (la : Launch) (κ : Kx) {L : List Nat} {f : Nat → wE} {tb : Nat} {h : Nat → Int} {b : Bool}  (hTb : TblR κ L f tb h) (hb : ∀ t, -50000 ≤ h t ∧ h t ≤ 50000) : k_M la κ yX3_meanOfWaters cX3_meanOfWaters 6 (some .int) 3 0 0 [.ref tb, .int (iI (bI b))] L f (k_ro L f (.int (iI (meanW h b)))) := by
  refine k_head RX3 [(0, .ref tb), (1, .int (iI (bI b)))] rfl (by decide) (Nat.le_of_ble_eq_true rfl) rfl (fun θ hθ hin => ?_)
  have hnn := nW_le h
  obtain ⟨hs, wt, wh, wi, ctb⟩ := hTb.cl
  refine k_lconst 0 dX3_meanOfWaters_0 (by decide) ?_
  refine k_lstore_n 2 [(2, .long (lI 0)), (0, .ref tb), (1, .int (iI (bI b)))] dX3_meanOfWaters_1 rfl (by decide) rfl ?_
  refine k_iconst dX3_meanOfWaters_2 ?_
  refine k_istore [(4, .int (iI 0)), (2, .long (lI 0)), (0, .ref tb), (1, .int (iI (bI b)))] dX3_meanOfWaters_3 (by decide) rfl ?_
  refine k_iconst dX3_meanOfWaters_5 ?_
  refine k_istore [(5, .int (iI 0)), (4, .int (iI 0)), (2, .long (lI 0)), (0, .ref tb), (1, .int (iI (bI b)))] dX3_meanOfWaters_6 (by decide) rfl ?_
  have lp8 : ∀ (fuel : Nat) (k : Nat) (sm cn : Int), (k ≤ nW h) → (sm = sumW h b k) → (cn = cntW h b k) → nW h - k < fuel → k_G θ κ cX3_meanOfWaters 6 (some .int) RX3 (k_rm 3 0 0) (k_MQ θ κ (k_ro L f (.int (iI (meanW h b)))) 0 0) L f 0 0 8 [(0, .ref tb), (1, .int (iI (bI b))), (2, .long (lI sm)), (4, .int (iI cn)), (5, .int (iI (k : Int)))] [] := by
    intro fuel
    induction fuel with
    | zero =>
      intro k sm cn hk hsm hcn hfu
      exact absurd hfu (Nat.not_lt_zero _)
    | succ fuel ih8 =>
      intro k sm cn hk hsm hcn hfu
      have hs1 := sumW_bd hb b k
      have hc1 := cntW_bd (h := h) b k
      have hh := hb (tm h k)
      refine k_iload 4 dX3_meanOfWaters_8 rfl ?_
      refine k_aload_n 0 0 dX3_meanOfWaters_10 rfl rfl ?_
      refine k_get 4 i_X3 q_94 ctb rfl (by decide) rfl dX3_meanOfWaters_11 ?_
      refine k_icmp_ge 46 dX3_meanOfWaters_14 (by decide) (inI_mk (by omega) (by omega)) (inI_mk (by omega) (by omega)) (fun h14 => ?_) (fun h14 => ?_)
      · have e46 : k = nW h := by omega
        subst e46
        refine k_lload_n 2 2 dX3_meanOfWaters_46 rfl rfl ?_
        refine k_iload 3 dX3_meanOfWaters_47 rfl ?_
        refine k_i2l dX3_meanOfWaters_49 (inI_mk (by omega) (by omega)) ?_
        refine k_useR (k_runSN (c_X7_quotient θ.2.1 κ (a := sm) (b := cn) (inL_mk (by omega) (by omega)) (inL_mk (by omega) (by omega))) w_X3_79 q_338 rfl rfl ⟨(Nat.le_of_ble_eq_true rfl), (Nat.le_of_ble_eq_true rfl)⟩ (Nat.le_of_ble_eq_true rfl) dX3_meanOfWaters_50) ⟨(Nat.le_of_ble_eq_true rfl), (Nat.le_of_ble_eq_true rfl)⟩ ?_
        refine k_l2i dX3_meanOfWaters_53 ?_
        exact k_iret dX3_meanOfWaters_54 rfl (Nat.le_of_ble_eq_true rfl) (Nat.le_of_ble_eq_true rfl) (k_oki (by rw [meanW, ← hsm, ← hcn]))
      · refine k_aload_n 0 0 dX3_meanOfWaters_17 rfl rfl ?_
        refine k_iload 4 dX3_meanOfWaters_18 rfl ?_
        refine k_useR (k_runV (c_X3_isHigh θ.2.1 κ (tb := tb) (k := k) hTb (by omega)) w_X3_73 ⟨q_295, q_296⟩ rfl rfl ctb rfl ⟨(Nat.le_of_ble_eq_true rfl), (Nat.le_of_ble_eq_true rfl)⟩ (Nat.le_of_ble_eq_true rfl) dX3_meanOfWaters_20) ⟨(Nat.le_of_ble_eq_true rfl), (Nat.le_of_ble_eq_true rfl)⟩ ?_
        refine k_iload_n 1 1 dX3_meanOfWaters_23 rfl rfl ?_
        refine k_icmp_ne 40 dX3_meanOfWaters_24 (by decide) (bI_in _) (bI_in _) (fun h24 => ?_) (fun h24 => ?_)
        · refine k_iinc 4 [(5, .int (iI ((k : Int) + 1))), (0, .ref tb), (1, .int (iI (bI b))), (2, .long (lI sm)), (4, .int (iI cn))] dX3_meanOfWaters_40 rfl (by decide) rfl ?_
          refine k_goto 8 dX3_meanOfWaters_43 (by decide) ?_
          refine k_perm [1, 2, 3, 4, 0] [(0, .ref tb), (1, .int (iI (bI b))), (2, .long (lI sm)), (4, .int (iI cn)), (5, .int (iI ((k : Int) + 1)))] rfl ?_
          exact ih8 (k + 1) sm cn (by omega) (by rw [sumW, if_neg (fun q => h24 (congrArg bI q)), hsm]) (by rw [cntW, if_neg (fun q => h24 (congrArg bI q)), hcn]) (by omega)
        · refine k_lload_n 2 2 dX3_meanOfWaters_27 rfl rfl ?_
          refine k_aload_n 0 0 dX3_meanOfWaters_28 rfl rfl ?_
          refine k_iload 4 dX3_meanOfWaters_29 rfl ?_
          refine k_useR (k_runV (c_X3_heightOf θ.2.1 κ (tb := tb) (k := k) hTb (by omega)) w_X3_76 ⟨q_291, q_292⟩ rfl rfl ctb rfl ⟨(Nat.le_of_ble_eq_true rfl), (Nat.le_of_ble_eq_true rfl)⟩ (Nat.le_of_ble_eq_true rfl) dX3_meanOfWaters_31) ⟨(Nat.le_of_ble_eq_true rfl), (Nat.le_of_ble_eq_true rfl)⟩ ?_
          refine k_i2l dX3_meanOfWaters_34 (inI_mk (by omega) (by omega)) ?_
          refine k_ladd dX3_meanOfWaters_35 ?_
          refine k_lstore_n 2 [(2, .long (lI (sm + h (tm h k)))), (0, .ref tb), (1, .int (iI (bI b))), (4, .int (iI cn)), (5, .int (iI (k : Int)))] dX3_meanOfWaters_36 rfl (by decide) rfl ?_
          refine k_iinc 3 [(4, .int (iI (cn + 1))), (2, .long (lI (sm + h (tm h k)))), (0, .ref tb), (1, .int (iI (bI b))), (5, .int (iI (k : Int)))] dX3_meanOfWaters_37 rfl (by decide) rfl ?_
          refine k_iinc 4 [(5, .int (iI ((k : Int) + 1))), (4, .int (iI (cn + 1))), (2, .long (lI (sm + h (tm h k)))), (0, .ref tb), (1, .int (iI (bI b)))] dX3_meanOfWaters_40 rfl (by decide) rfl ?_
          refine k_goto 8 dX3_meanOfWaters_43 (by decide) ?_
          refine k_perm [3, 4, 2, 1, 0] [(0, .ref tb), (1, .int (iI (bI b))), (2, .long (lI (sm + h (tm h k)))), (4, .int (iI (cn + 1))), (5, .int (iI ((k : Int) + 1)))] rfl ?_
          exact ih8 (k + 1) (sm + h (tm h k)) (cn + 1) (by omega) (by rw [sumW, if_pos (bI_inj h24), hsm]) (by rw [cntW, if_pos (bI_inj h24), hcn]) (by omega)
  refine k_perm [3, 4, 2, 1, 0] [(0, .ref tb), (1, .int (iI (bI b))), (2, .long (lI 0)), (4, .int (iI 0)), (5, .int (iI 0))] rfl ?_
  exact lp8 _ 0 0 0 (Nat.zero_le _) rfl rfl (Nat.lt_succ_self _)
set_option maxHeartbeats 4000000 in
set_option maxRecDepth 100000 in
theorem c_X3_greatestDifference (la : Launch) (κ : Kx) {L : List Nat} {f : Nat → wE} {tb : Nat} {h : Nat → Int}   (hTb : TblR κ L f tb h) (hb : ∀ t, -50000 ≤ h t ∧ h t ≤ 50000) : k_M la κ yX3_greatestDifference cX3_greatestDifference 4 (some .int) 3 0 0 [.ref tb] L f (k_ro L f (.int (iI (difW h (nW h - 1))))) := by
  refine k_head RX3 [(0, .ref tb)] rfl (by decide) (Nat.le_of_ble_eq_true rfl) rfl (fun θ hθ hin => ?_)
  have hnn := nW_le h
  obtain ⟨hs, wt, wh, wi, ctb⟩ := hTb.cl
  refine k_iconst dX3_greatestDifference_0 ?_
  refine k_istore_n 1 [(1, .int (iI 0)), (0, .ref tb)] dX3_greatestDifference_1 rfl (by decide) rfl ?_
  refine k_iconst dX3_greatestDifference_2 ?_
  refine k_istore_n 2 [(2, .int (iI 1)), (1, .int (iI 0)), (0, .ref tb)] dX3_greatestDifference_3 rfl (by decide) rfl ?_
  have lp4 : ∀ (fuel : Nat) (j : Nat) (gd : Int), (j + 1 ≤ nW h ∨ j = 0) → (gd = difW h j) → nW h - j < fuel → k_G θ κ cX3_greatestDifference 4 (some .int) RX3 (k_rm 3 0 0) (k_MQ θ κ (k_ro L f (.int (iI (difW h (nW h - 1))))) 0 0) L f 0 0 4 [(0, .ref tb), (1, .int (iI gd)), (2, .int (iI ((j + 1 : Nat) : Int)))] [] := by
    intro fuel
    induction fuel with
    | zero =>
      intro j gd hj hgd hfu
      exact absurd hfu (Nat.not_lt_zero _)
    | succ fuel ih4 =>
      intro j gd hj hgd hfu
      have hd1 := difW_bd hb j
      have hh := hb (tm h j)
      have hh1 := hb (tm h (j + 1))
      refine k_iload_n 2 2 dX3_greatestDifference_4 rfl rfl ?_
      refine k_aload_n 0 0 dX3_greatestDifference_5 rfl rfl ?_
      refine k_get 4 i_X3 q_94 ctb rfl (by decide) rfl dX3_greatestDifference_6 ?_
      refine k_icmp_ge 41 dX3_greatestDifference_9 (by decide) (inI_mk (by omega) (by omega)) (inI_mk (by omega) (by omega)) (fun h9 => ?_) (fun h9 => ?_)
      · refine k_iload_n 1 1 dX3_greatestDifference_41 rfl rfl ?_
        exact k_iret dX3_greatestDifference_42 rfl (Nat.le_of_ble_eq_true rfl) (Nat.le_of_ble_eq_true rfl) (k_oki (by rw [hgd, show nW h - 1 = j by omega]))
      · refine k_aload_n 0 0 dX3_greatestDifference_12 rfl rfl ?_
        refine k_iload_n 2 2 dX3_greatestDifference_13 rfl rfl ?_
        refine k_useR (k_runV (c_X3_heightOf θ.2.1 κ (k := (j + 1)) (tb := tb) hTb (by omega)) w_X3_76 ⟨q_291, q_292⟩ rfl rfl ctb rfl ⟨(Nat.le_of_ble_eq_true rfl), (Nat.le_of_ble_eq_true rfl)⟩ (Nat.le_of_ble_eq_true rfl) dX3_greatestDifference_14) ⟨(Nat.le_of_ble_eq_true rfl), (Nat.le_of_ble_eq_true rfl)⟩ ?_
        refine k_aload_n 0 0 dX3_greatestDifference_17 rfl rfl ?_
        refine k_iload_n 2 2 dX3_greatestDifference_18 rfl rfl ?_
        refine k_iconst dX3_greatestDifference_19 ?_
        refine k_isub dX3_greatestDifference_20 ?_
        refine k_topi (j : Int) (by omega) ?_
        refine k_useR (k_runV (c_X3_heightOf θ.2.1 κ (k := j) (tb := tb) hTb (by omega)) w_X3_76 ⟨q_291, q_292⟩ rfl rfl ctb rfl ⟨(Nat.le_of_ble_eq_true rfl), (Nat.le_of_ble_eq_true rfl)⟩ (Nat.le_of_ble_eq_true rfl) dX3_greatestDifference_21) ⟨(Nat.le_of_ble_eq_true rfl), (Nat.le_of_ble_eq_true rfl)⟩ ?_
        refine k_isub dX3_greatestDifference_24 ?_
        refine k_abs q_344 q_345 q_27 q_346 (inI_mk (by omega) (by omega)) (Nat.le_of_ble_eq_true rfl) (Nat.le_of_ble_eq_true rfl) ⟨(Nat.le_of_ble_eq_true rfl), (Nat.le_of_ble_eq_true rfl)⟩ dX3_greatestDifference_25 ?_
        refine k_istore_n 3 [(3, .int (iI ((Int.natAbs (h (tm h (j + 1)) - h (tm h j)) : Nat) : Int))), (0, .ref tb), (1, .int (iI gd)), (2, .int (iI ((j + 1 : Nat) : Int)))] dX3_greatestDifference_28 rfl (by decide) rfl ?_
        refine k_iload_n 2 1 dX3_greatestDifference_29 rfl rfl ?_
        refine k_iload_n 0 3 dX3_greatestDifference_30 rfl rfl ?_
        refine k_max q_321 q_322 q_27 q_323 (inI_mk (by omega) (by omega)) (inI_mk (by omega) (by omega)) (Nat.le_of_ble_eq_true rfl) (Nat.le_of_ble_eq_true rfl) ⟨(Nat.le_of_ble_eq_true rfl), (Nat.le_of_ble_eq_true rfl)⟩ dX3_greatestDifference_31 ?_
        refine k_istore_n 1 [(1, .int (iI (max gd ((Int.natAbs (h (tm h (j + 1)) - h (tm h j)) : Nat) : Int)))), (3, .int (iI ((Int.natAbs (h (tm h (j + 1)) - h (tm h j)) : Nat) : Int))), (0, .ref tb), (2, .int (iI ((j + 1 : Nat) : Int)))] dX3_greatestDifference_34 rfl (by decide) rfl ?_
        refine k_iinc 3 [(2, .int (iI (((j + 1 : Nat) : Int) + 1))), (1, .int (iI (max gd ((Int.natAbs (h (tm h (j + 1)) - h (tm h j)) : Nat) : Int)))), (3, .int (iI ((Int.natAbs (h (tm h (j + 1)) - h (tm h j)) : Nat) : Int))), (0, .ref tb)] dX3_greatestDifference_35 rfl (by decide) rfl ?_
        refine k_goto 4 dX3_greatestDifference_38 (by decide) ?_
        refine k_perm [3, 1, 0] [(0, .ref tb), (1, .int (iI (max gd ((Int.natAbs (h (tm h (j + 1)) - h (tm h j)) : Nat) : Int)))), (2, .int (iI (((j + 1 : Nat) : Int) + 1)))] rfl ?_
        exact ih4 (j + 1) (max gd ((Int.natAbs (h (tm h (j + 1)) - h (tm h j)) : Nat) : Int)) (Or.inl (by omega)) (by rw [difW, hgd]) (by omega)
  refine k_perm [2, 1, 0] [(0, .ref tb), (1, .int (iI 0)), (2, .int (iI 1))] rfl ?_
  exact lp4 _ 0 0 (Or.inr rfl) rfl (Nat.lt_succ_self _)
set_option maxHeartbeats 4000000 in
set_option maxRecDepth 100000 in
theorem c_X3_datumOf (la : Launch) (κ : Kx) {L : List Nat} {f : Nat → wE} {tb : Nat} {h : Nat → Int} {what : Int}  (hTb : TblR κ L f tb h) (hb : ∀ t, -50000 ≤ h t ∧ h t ≤ 50000) (hwh : 0 ≤ what ∧ what ≤ 4) : k_M la κ yX3_datumOf cX3_datumOf 2 (some .int) 5 0 0 [.ref tb, .int (iI what)] L f (k_ro L f (.int (iI (dat h what)))) := by
  refine k_head RX3 [(0, .ref tb), (1, .int (iI what))] rfl (by decide) (Nat.le_of_ble_eq_true rfl) rfl (fun θ hθ hin => ?_)
  have hnn := nW_le h
  obtain ⟨hs, wt, wh, wi, ctb⟩ := hTb.cl
  refine k_iload_n 1 1 dX3_datumOf_0 rfl rfl ?_
  rcases (by omega : what = 0 ∨ what = 1 ∨ what = 2 ∨ what = 3 ∨ (what < 0 ∨ 3 < what)) with h1 | h1 | h1 | h1 | h1
  · refine k_swIn 0 32 dX3_datumOf_1 (inI_mk (by omega) (by omega)) h1 (by decide) (by decide) rfl (by decide) ?_
    refine k_aload_n 0 0 dX3_datumOf_32 rfl rfl ?_
    refine k_useR (k_runV (c_X3_greatestHeight θ.2.1 κ (tb := tb) hTb hb) w_X3_49 ⟨q_314, q_5⟩ rfl rfl ctb rfl ⟨(Nat.le_of_ble_eq_true rfl), (Nat.le_of_ble_eq_true rfl)⟩ (Nat.le_of_ble_eq_true rfl) dX3_datumOf_33) ⟨(Nat.le_of_ble_eq_true rfl), (Nat.le_of_ble_eq_true rfl)⟩ ?_
    exact k_iret dX3_datumOf_36 rfl (Nat.le_of_ble_eq_true rfl) (Nat.le_of_ble_eq_true rfl) (k_oki (by rw [h1, dat, if_pos rfl]))
  · refine k_swIn 1 37 dX3_datumOf_1 (inI_mk (by omega) (by omega)) h1 (by decide) (by decide) rfl (by decide) ?_
    refine k_aload_n 0 0 dX3_datumOf_37 rfl rfl ?_
    refine k_useR (k_runV (c_X3_leastHeight θ.2.1 κ (tb := tb) hTb hb) w_X3_53 ⟨q_326, q_6⟩ rfl rfl ctb rfl ⟨(Nat.le_of_ble_eq_true rfl), (Nat.le_of_ble_eq_true rfl)⟩ (Nat.le_of_ble_eq_true rfl) dX3_datumOf_38) ⟨(Nat.le_of_ble_eq_true rfl), (Nat.le_of_ble_eq_true rfl)⟩ ?_
    exact k_iret dX3_datumOf_41 rfl (Nat.le_of_ble_eq_true rfl) (Nat.le_of_ble_eq_true rfl) (k_oki (by rw [h1, dat, if_neg (by decide), if_pos rfl]))
  · refine k_swIn 2 42 dX3_datumOf_1 (inI_mk (by omega) (by omega)) h1 (by decide) (by decide) rfl (by decide) ?_
    refine k_aload_n 0 0 dX3_datumOf_42 rfl rfl ?_
    refine k_iconst dX3_datumOf_43 ?_
    refine k_useR (k_runV (c_X3_meanOfWaters θ.2.1 κ (b := true) (tb := tb) hTb hb) w_X3_56 ⟨q_333, q_7⟩ rfl rfl ctb rfl ⟨(Nat.le_of_ble_eq_true rfl), (Nat.le_of_ble_eq_true rfl)⟩ (Nat.le_of_ble_eq_true rfl) dX3_datumOf_44) ⟨(Nat.le_of_ble_eq_true rfl), (Nat.le_of_ble_eq_true rfl)⟩ ?_
    exact k_iret dX3_datumOf_47 rfl (Nat.le_of_ble_eq_true rfl) (Nat.le_of_ble_eq_true rfl) (k_oki (by rw [h1, dat, if_neg (by decide), if_neg (by decide), if_pos rfl]))
  · refine k_swIn 3 48 dX3_datumOf_1 (inI_mk (by omega) (by omega)) h1 (by decide) (by decide) rfl (by decide) ?_
    refine k_aload_n 0 0 dX3_datumOf_48 rfl rfl ?_
    refine k_iconst dX3_datumOf_49 ?_
    refine k_useR (k_runV (c_X3_meanOfWaters θ.2.1 κ (b := false) (tb := tb) hTb hb) w_X3_56 ⟨q_333, q_7⟩ rfl rfl ctb rfl ⟨(Nat.le_of_ble_eq_true rfl), (Nat.le_of_ble_eq_true rfl)⟩ (Nat.le_of_ble_eq_true rfl) dX3_datumOf_50) ⟨(Nat.le_of_ble_eq_true rfl), (Nat.le_of_ble_eq_true rfl)⟩ ?_
    exact k_iret dX3_datumOf_53 rfl (Nat.le_of_ble_eq_true rfl) (Nat.le_of_ble_eq_true rfl) (k_oki (by rw [h1, dat, if_neg (by decide), if_neg (by decide), if_neg (by decide), if_pos rfl]))
  · refine k_swOut 54 dX3_datumOf_1 (inI_mk (by omega) (by omega)) h1 (by decide) ?_
    refine k_aload_n 0 0 dX3_datumOf_54 rfl rfl ?_
    refine k_useR (k_runV (c_X3_greatestDifference θ.2.1 κ (tb := tb) hTb hb) w_X3_60 ⟨q_342, q_8⟩ rfl rfl ctb rfl ⟨(Nat.le_of_ble_eq_true rfl), (Nat.le_of_ble_eq_true rfl)⟩ (Nat.le_of_ble_eq_true rfl) dX3_datumOf_55) ⟨(Nat.le_of_ble_eq_true rfl), (Nat.le_of_ble_eq_true rfl)⟩ ?_
    exact k_iret dX3_datumOf_58 rfl (Nat.le_of_ble_eq_true rfl) (Nat.le_of_ble_eq_true rfl) (k_oki (by rw [dat, if_neg (by omega), if_neg (by omega), if_neg (by omega), if_neg (by omega)]))
set_option maxHeartbeats 4000000 in
set_option maxRecDepth 100000 in
theorem c_X3_noteWater (la : Launch) (κ : Kx) {L : List Nat} {f : Nat → wE} {tb hs wt wh wi : Nat} {HH WT WH : Nat → Int} {WI : Nat → Bool} {n : Nat} {t v : Int} {r : Bool} (ctb : Cl L f tb (3, .inr (4, [.ref hs, .ref wt, .ref wh, .ref wi, .int (iI (n : Int))]))) (chs : Cl L f hs (7, .inl (κ.2.2.1 0, 4320, .inl (fun u9 => iI (HH u9))))) (cwt : Cl L f wt (8, .inl (κ.2.2.1 0, 4320, .inl (fun u9 => iI (WT u9))))) (cwh : Cl L f wh (9, .inl (κ.2.2.1 0, 4320, .inl (fun u9 => iI (WH u9))))) (cwi : Cl L f wi (10, .inl (κ.2.2.1 2, 4320, .inl (fun u9 => iI (bI (WI u9))))))  (hn : n < 4320) : k_M la κ yX3_noteWater cX3_noteWater 4 none 1 0 0 [.ref tb, .int (iI t), .int (iI v), .int (iI (bI r))] L f (k_ru (fun L' f' => L' = L ∧ k_fr ST L f L f' ∧ TblA κ L' f' tb hs wt wh wi ((n + 1 : Nat) : Int) HH (va_up WT n t) (va_up WH n v) (va_up WI n r))) := by
  refine k_head RX3 [(0, .ref tb), (1, .int (iI t)), (2, .int (iI v)), (3, .int (iI (bI r)))] rfl (by decide) (Nat.le_of_ble_eq_true rfl) rfl (fun θ hθ hin => ?_)
  refine k_aload_n 0 0 dX3_noteWater_0 rfl rfl ?_
  refine k_get 4 i_X3 q_94 ctb rfl (by decide) rfl dX3_noteWater_1 ?_
  refine k_sipush dX3_noteWater_4 (by decide) ?_
  refine k_icmp_ge 50 dX3_noteWater_7 (by decide) (inI_mk (by omega) (by omega)) (inI_mk (by omega) (by omega)) (fun h7 => ?_) (fun h7 => ?_)
  · omega
  · refine k_aload_n 0 0 dX3_noteWater_10 rfl rfl ?_
    refine k_get 1 i_X3 q_91 ctb rfl (by decide) rfl dX3_noteWater_11 ?_
    refine k_aload_n 0 0 dX3_noteWater_14 rfl rfl ?_
    refine k_get 4 i_X3 q_94 ctb rfl (by decide) rfl dX3_noteWater_15 ?_
    refine k_iload_n 1 1 dX3_noteWater_18 rfl rfl ?_
    refine k_iast n cwt rfl (by omega) (by omega) dX3_noteWater_19 (fun f1 hf1 hc1 => ?_)
    have hr1 := k_fr.put hf1 cwt
    replace ctb := ctb.fr hr1 rfl
    replace chs := chs.fr hr1 rfl
    replace cwh := cwh.fr hr1 rfl
    replace cwi := cwi.fr hr1 rfl
    replace cwt : Cl L f1 wt (8, .inl (κ.2.2.1 0, 4320, .inl (fun u9 => iI ((va_up WT n t) u9)))) := hc1
    refine k_aload_n 0 0 dX3_noteWater_20 rfl rfl ?_
    refine k_get 2 i_X3 q_92 ctb rfl (by decide) rfl dX3_noteWater_21 ?_
    refine k_aload_n 0 0 dX3_noteWater_24 rfl rfl ?_
    refine k_get 4 i_X3 q_94 ctb rfl (by decide) rfl dX3_noteWater_25 ?_
    refine k_iload_n 2 2 dX3_noteWater_28 rfl rfl ?_
    refine k_iast n cwh rfl (by omega) (by omega) dX3_noteWater_29 (fun f2 hf2 hc2 => ?_)
    have hr2 := k_fr.put hf2 cwh
    replace ctb := ctb.fr hr2 rfl
    replace chs := chs.fr hr2 rfl
    replace cwt := cwt.fr hr2 rfl
    replace cwi := cwi.fr hr2 rfl
    replace cwh : Cl L f2 wh (9, .inl (κ.2.2.1 0, 4320, .inl (fun u9 => iI ((va_up WH n v) u9)))) := hc2
    refine k_aload_n 0 0 dX3_noteWater_30 rfl rfl ?_
    refine k_get 3 i_X3 q_93 ctb rfl (by decide) rfl dX3_noteWater_31 ?_
    refine k_aload_n 0 0 dX3_noteWater_34 rfl rfl ?_
    refine k_get 4 i_X3 q_94 ctb rfl (by decide) rfl dX3_noteWater_35 ?_
    refine k_iload_n 3 3 dX3_noteWater_38 rfl rfl ?_
    refine k_zast n cwi rfl (by omega) (by omega) dX3_noteWater_39 (fun f3 hf3 hc3 => ?_)
    have hr3 := k_fr.put hf3 cwi
    replace ctb := ctb.fr hr3 rfl
    replace chs := chs.fr hr3 rfl
    replace cwt := cwt.fr hr3 rfl
    replace cwh := cwh.fr hr3 rfl
    replace cwi : Cl L f3 wi (10, .inl (κ.2.2.1 2, 4320, .inl (fun u9 => iI (bI ((va_up WI n r) u9))))) := hc3
    refine k_aload_n 0 0 dX3_noteWater_40 rfl rfl ?_
    refine k_dup dX3_noteWater_41 rfl ?_
    refine k_get 4 i_X3 q_94 ctb rfl (by decide) rfl dX3_noteWater_42 ?_
    refine k_iconst dX3_noteWater_45 ?_
    refine k_iadd dX3_noteWater_46 ?_
    refine k_put 4 [.ref hs, .ref wt, .ref wh, .ref wi, .int (iI ((n : Int) + 1))] i_X3 tyX3_ok nmX3 q_94 ctb rfl (by decide) rfl rfl rfl rfl (Nat.le_of_ble_eq_true rfl) rfl dX3_noteWater_47 (fun f4 hf4 hc4 => ?_)
    have hr4 := k_fr.put hf4 ctb
    replace chs := chs.fr hr4 rfl
    replace cwt := cwt.fr hr4 rfl
    replace cwh := cwh.fr hr4 rfl
    replace cwi := cwi.fr hr4 rfl
    replace ctb : Cl L f4 tb (3, .inr (4, [.ref hs, .ref wt, .ref wh, .ref wi, .int (iI ((n : Int) + 1))])) := hc4
    exact k_vret dX3_noteWater_50 rfl (Nat.le_of_ble_eq_true rfl) (Nat.le_of_ble_eq_true rfl) (⟨rfl, rfl, (k_fr.trans (k_fr.trans (k_fr.trans (k_fr.mono hr1 ST_8) hr2 idf ST_9) hr3 idf ST_10) hr4 idf ST_3), ctb, chs, cwt, cwh, cwi⟩)
set_option maxHeartbeats 4000000 in
set_option maxRecDepth 100000 in
theorem c_X3_findWaters (la : Launch) (κ : Kx) {L : List Nat} {f : Nat → wE} {tb hs wt wh wi : Nat} {HH WT WH : Nat → Int} {WI : Nat → Bool} {h : Nat → Int} {n0 : Int} (ctb : Cl L f tb (3, .inr (4, [.ref hs, .ref wt, .ref wh, .ref wi, .int (iI n0)]))) (chs : Cl L f hs (7, .inl (κ.2.2.1 0, 4320, .inl (fun u9 => iI (HH u9))))) (cwt : Cl L f wt (8, .inl (κ.2.2.1 0, 4320, .inl (fun u9 => iI (WT u9))))) (cwh : Cl L f wh (9, .inl (κ.2.2.1 0, 4320, .inl (fun u9 => iI (WH u9))))) (cwi : Cl L f wi (10, .inl (κ.2.2.1 2, 4320, .inl (fun u9 => iI (bI (WI u9))))))  (hHH : ∀ t, t < 4320 → HH t = h t) (hb : ∀ t, -50000 ≤ h t ∧ h t ≤ 50000) : k_M la κ yX3_findWaters cX3_findWaters 5 none 2 0 0 [.ref tb] L f (k_ru (fun L' f' => L' = L ∧ k_fr ST L f L f' ∧ TblR κ L' f' tb h)) := by
  refine k_head RX3 [(0, .ref tb)] rfl (by decide) (Nat.le_of_ble_eq_true rfl) rfl (fun θ hθ hin => ?_)
  have hHb : ∀ t, t < 4320 → inI (HH t) := fun t ht => by
    have e := hHH t ht
    have e1 := hb t
    exact inI_mk (by omega) (by omega)
  refine k_aload_n 0 0 dX3_findWaters_0 rfl rfl ?_
  refine k_iconst dX3_findWaters_1 ?_
  refine k_put 4 [.ref hs, .ref wt, .ref wh, .ref wi, .int (iI 0)] i_X3 tyX3_ok nmX3 q_94 ctb rfl (by decide) rfl rfl rfl rfl (Nat.le_of_ble_eq_true rfl) rfl dX3_findWaters_2 (fun f1 hf1 hc1 => ?_)
  have hr1 := k_fr.put hf1 ctb
  replace chs := chs.fr hr1 rfl
  replace cwt := cwt.fr hr1 rfl
  replace cwh := cwh.fr hr1 rfl
  replace cwi := cwi.fr hr1 rfl
  replace ctb : Cl L f1 tb (3, .inr (4, [.ref hs, .ref wt, .ref wh, .ref wi, .int (iI 0)])) := hc1
  refine k_iconst dX3_findWaters_5 ?_
  refine k_istore_n 1 [(1, .int (iI 0)), (0, .ref tb)] dX3_findWaters_6 rfl (by decide) rfl ?_
  refine k_iconst dX3_findWaters_7 ?_
  refine k_istore_n 2 [(2, .int (iI 0)), (1, .int (iI 0)), (0, .ref tb)] dX3_findWaters_8 rfl (by decide) rfl ?_
  refine k_iconst dX3_findWaters_9 ?_
  refine k_istore_n 3 [(3, .int (iI 1)), (2, .int (iI 0)), (1, .int (iI 0)), (0, .ref tb)] dX3_findWaters_10 rfl (by decide) rfl ?_
  have lp11 : ∀ (fuel : Nat) (f9 : Nat → wE) (i c n : Nat) (r : Bool) (WT9 WH9 : Nat → Int) (WI9 : Nat → Bool), (1 ≤ i ∧ i ≤ 4320) → (FW h i c n r WT9 WH9 WI9) → (k_fr ST L f L f9) → (Cl L f9 tb (3, .inr (4, [.ref hs, .ref wt, .ref wh, .ref wi, .int (iI (n : Int))]))) → (Cl L f9 hs (7, .inl (κ.2.2.1 0, 4320, .inl (fun u9 => iI (HH u9))))) → (Cl L f9 wt (8, .inl (κ.2.2.1 0, 4320, .inl (fun u9 => iI (WT9 u9))))) → (Cl L f9 wh (9, .inl (κ.2.2.1 0, 4320, .inl (fun u9 => iI (WH9 u9))))) → (Cl L f9 wi (10, .inl (κ.2.2.1 2, 4320, .inl (fun u9 => iI (bI (WI9 u9)))))) → 4320 - i < fuel → k_G θ κ cX3_findWaters 5 none RX3 (k_rm 2 0 0) (k_MQ θ κ (k_ru (fun L' f' => L' = L ∧ k_fr ST L f L f' ∧ TblR κ L' f' tb h)) 0 0) L f9 0 0 11 [(0, .ref tb), (1, .int (iI (c : Int))), (2, .int (iI (bI r))), (3, .int (iI (i : Int)))] [] := by
    intro fuel
    induction fuel with
    | zero =>
      intro f9 i c n r WT9 WH9 WI9 hi1 hF hfr ctb chs cwt cwh cwi hfu
      exact absurd hfu (Nat.not_lt_zero _)
    | succ fuel ih11 =>
      intro f9 i c n r WT9 WH9 WI9 hi1 hF hfr ctb chs cwt cwh cwi hfu
      have hci := hF.1
      have hnc : n ≤ c := by rw [hF.2.2.2.1]; exact wc_le h c
      refine k_iload_n 3 3 dX3_findWaters_11 rfl rfl ?_
      refine k_aload_n 0 0 dX3_findWaters_12 rfl rfl ?_
      refine k_get 0 i_X3 q_90 ctb rfl (by decide) rfl dX3_findWaters_13 ?_
      refine k_alen (t0 := 0) chs rfl dX3_findWaters_16 ?_
      refine k_icmp_ge 99 dX3_findWaters_17 (by decide) (inI_mk (by omega) (by omega)) (inI_mk (by omega) (by omega)) (fun h17 => ?_) (fun h17 => ?_)
      · have e99 : i = 4320 := by omega
        subst e99
        obtain ⟨en, hW2⟩ := hF.fin
        subst en
        exact k_vret dX3_findWaters_99 rfl (Nat.le_of_ble_eq_true rfl) (Nat.le_of_ble_eq_true rfl) (⟨rfl, rfl, hfr, hs, wt, wh, wi, HH, WT9, WH9, WI9, ⟨ctb, chs, cwt, cwh, cwi⟩, hHH, hW2⟩)
      · refine k_aload_n 0 0 dX3_findWaters_20 rfl rfl ?_
        refine k_get 0 i_X3 q_90 ctb rfl (by decide) rfl dX3_findWaters_21 ?_
        refine k_iload_n 3 3 dX3_findWaters_24 rfl rfl ?_
        refine k_iald i chs rfl (by omega) (by omega) dX3_findWaters_25 ?_
        refine k_aload_n 0 0 dX3_findWaters_26 rfl rfl ?_
        refine k_get 0 i_X3 q_90 ctb rfl (by decide) rfl dX3_findWaters_27 ?_
        refine k_iload_n 3 3 dX3_findWaters_30 rfl rfl ?_
        refine k_iconst dX3_findWaters_31 ?_
        refine k_isub dX3_findWaters_32 ?_
        refine k_iald (i - 1) chs (by omega) (by omega) (by omega) dX3_findWaters_33 ?_
        refine k_icmp_ne 40 dX3_findWaters_34 (by decide) (hHb i (by omega)) (hHb (i - 1) (by omega)) (fun h34 => ?_) (fun h34 => ?_)
        · rw [hHH i (by omega), hHH (i - 1) (by omega)] at h34
          refine k_aload_n 0 0 dX3_findWaters_40 rfl rfl ?_
          refine k_get 0 i_X3 q_90 ctb rfl (by decide) rfl dX3_findWaters_41 ?_
          refine k_iload_n 3 3 dX3_findWaters_44 rfl rfl ?_
          refine k_iald i chs rfl (by omega) (by omega) dX3_findWaters_45 ?_
          refine k_aload_n 0 0 dX3_findWaters_46 rfl rfl ?_
          refine k_get 0 i_X3 q_90 ctb rfl (by decide) rfl dX3_findWaters_47 ?_
          refine k_iload_n 3 3 dX3_findWaters_50 rfl rfl ?_
          refine k_iconst dX3_findWaters_51 ?_
          refine k_isub dX3_findWaters_52 ?_
          refine k_iald (i - 1) chs (by omega) (by omega) (by omega) dX3_findWaters_53 ?_
          refine k_icmp_le 61 dX3_findWaters_54 (by decide) (hHb i (by omega)) (hHb (i - 1) (by omega)) (fun h54 => ?_) (fun h54 => ?_)
          · rw [hHH i (by omega), hHH (i - 1) (by omega)] at h54
            refine k_iconst dX3_findWaters_61 ?_
            refine k_istore [(4, .int (iI 0)), (0, .ref tb), (1, .int (iI (c : Int))), (2, .int (iI (bI r))), (3, .int (iI (i : Int)))] dX3_findWaters_62 (by decide) rfl ?_
            refine k_iload_n 2 1 dX3_findWaters_64 rfl rfl ?_
            refine k_if_le 88 dX3_findWaters_65 (by decide) (inI_mk (by omega) (by omega)) (fun h65 => ?_) (fun h65 => ?_)
            · refine k_iload_n 4 3 dX3_findWaters_88 rfl rfl ?_
              refine k_istore_n 1 [(1, .int (iI (i : Int))), (4, .int (iI 0)), (0, .ref tb), (2, .int (iI (bI r))), (3, .int (iI (i : Int)))] dX3_findWaters_89 rfl (by decide) rfl ?_
              refine k_iload 1 dX3_findWaters_90 rfl ?_
              refine k_istore_n 2 [(2, .int (iI 0)), (1, .int (iI (i : Int))), (4, .int (iI 0)), (0, .ref tb), (3, .int (iI (i : Int)))] dX3_findWaters_92 rfl (by decide) rfl ?_
              refine k_iinc 4 [(3, .int (iI ((i : Int) + 1))), (2, .int (iI 0)), (1, .int (iI (i : Int))), (4, .int (iI 0)), (0, .ref tb)] dX3_findWaters_93 rfl (by decide) rfl ?_
              refine k_goto 11 dX3_findWaters_96 (by decide) ?_
              refine k_perm [4, 2, 1, 0] [(0, .ref tb), (1, .int (iI (i : Int))), (2, .int (iI 0)), (3, .int (iI ((i : Int) + 1)))] rfl ?_
              have hdc : decide (h (i - 1) < h i) = false := decide_eq_false (by omega)
              have hF2 := hF.no (by omega) h34 (fun q => absurd q.1 (by omega))
              rw [hdc] at hF2
              exact ih11 f9 (i + 1) i n false WT9 WH9 WI9 ⟨by omega, by omega⟩ hF2 hfr ctb chs cwt cwh cwi (by omega)
            · refine k_iload 0 dX3_findWaters_68 rfl ?_
              refine k_iload_n 3 2 dX3_findWaters_70 rfl rfl ?_
              refine k_icmp_eq 88 dX3_findWaters_71 (by decide) (inI_mk (by omega) (by omega)) (bI_in _) (fun h71 => ?_) (fun h71 => ?_)
              · refine k_iload_n 4 3 dX3_findWaters_88 rfl rfl ?_
                refine k_istore_n 1 [(1, .int (iI (i : Int))), (4, .int (iI 0)), (0, .ref tb), (2, .int (iI (bI r))), (3, .int (iI (i : Int)))] dX3_findWaters_89 rfl (by decide) rfl ?_
                refine k_iload 1 dX3_findWaters_90 rfl ?_
                refine k_istore_n 2 [(2, .int (iI 0)), (1, .int (iI (i : Int))), (4, .int (iI 0)), (0, .ref tb), (3, .int (iI (i : Int)))] dX3_findWaters_92 rfl (by decide) rfl ?_
                refine k_iinc 4 [(3, .int (iI ((i : Int) + 1))), (2, .int (iI 0)), (1, .int (iI (i : Int))), (4, .int (iI 0)), (0, .ref tb)] dX3_findWaters_93 rfl (by decide) rfl ?_
                refine k_goto 11 dX3_findWaters_96 (by decide) ?_
                refine k_perm [4, 2, 1, 0] [(0, .ref tb), (1, .int (iI (i : Int))), (2, .int (iI 0)), (3, .int (iI ((i : Int) + 1)))] rfl ?_
                have hdc : decide (h (i - 1) < h i) = false := decide_eq_false (by omega)
                have hF2 := hF.no (by omega) h34 (fun q => q.2 ((bI_inj (a := r) (b := false) h71.symm).trans hdc.symm))
                rw [hdc] at hF2
                exact ih11 f9 (i + 1) i n false WT9 WH9 WI9 ⟨by omega, by omega⟩ hF2 hfr ctb chs cwt cwh cwi (by omega)
              · refine k_aload_n 1 0 dX3_findWaters_74 rfl rfl ?_
                refine k_iload_n 2 1 dX3_findWaters_75 rfl rfl ?_
                refine k_aload_n 1 0 dX3_findWaters_76 rfl rfl ?_
                refine k_get 0 i_X3 q_90 ctb rfl (by decide) rfl dX3_findWaters_77 ?_
                refine k_iload_n 4 3 dX3_findWaters_80 rfl rfl ?_
                refine k_iconst dX3_findWaters_81 ?_
                refine k_isub dX3_findWaters_82 ?_
                refine k_iald (i - 1) chs (by omega) (by omega) (by omega) dX3_findWaters_83 ?_
                refine k_topi (h (i - 1)) (hHH (i - 1) (by omega)) ?_
                refine k_iload_n 3 2 dX3_findWaters_84 rfl rfl ?_
                refine k_useU (k_runV (c_X3_noteWater θ.2.1 κ (n := n) (tb := tb) (t := (c : Int)) (v := (h (i - 1))) (r := r) ctb chs cwt cwh cwi (by omega)) w_X3_38 ⟨q_274, q_4⟩ rfl rfl ctb rfl ⟨(Nat.le_of_ble_eq_true rfl), (Nat.le_of_ble_eq_true rfl)⟩ (Nat.le_of_ble_eq_true rfl) dX3_findWaters_85) ⟨(Nat.le_of_ble_eq_true rfl), (Nat.le_of_ble_eq_true rfl)⟩ (fun Ln fn hw => ?_)
                obtain ⟨en, hrn, ctb9, chs9, cwt9, cwh9, cwi9⟩ := hw
                replace en := en.symm
                subst en
                replace ctb := ctb9
                replace chs := chs9
                replace cwt := cwt9
                replace cwh := cwh9
                replace cwi := cwi9
                refine k_iload_n 4 3 dX3_findWaters_88 rfl rfl ?_
                refine k_istore_n 1 [(1, .int (iI (i : Int))), (4, .int (iI 0)), (0, .ref tb), (2, .int (iI (bI r))), (3, .int (iI (i : Int)))] dX3_findWaters_89 rfl (by decide) rfl ?_
                refine k_iload 1 dX3_findWaters_90 rfl ?_
                refine k_istore_n 2 [(2, .int (iI 0)), (1, .int (iI (i : Int))), (4, .int (iI 0)), (0, .ref tb), (3, .int (iI (i : Int)))] dX3_findWaters_92 rfl (by decide) rfl ?_
                refine k_iinc 4 [(3, .int (iI ((i : Int) + 1))), (2, .int (iI 0)), (1, .int (iI (i : Int))), (4, .int (iI 0)), (0, .ref tb)] dX3_findWaters_93 rfl (by decide) rfl ?_
                refine k_goto 11 dX3_findWaters_96 (by decide) ?_
                refine k_perm [4, 2, 1, 0] [(0, .ref tb), (1, .int (iI (i : Int))), (2, .int (iI 0)), (3, .int (iI ((i : Int) + 1)))] rfl ?_
                have hdc : decide (h (i - 1) < h i) = false := decide_eq_false (by omega)
                have hF2 := hF.yes (by omega) h34 ⟨by omega, fun q => h71 ((congrArg bI (q.trans hdc)).symm)⟩
                rw [hdc] at hF2
                exact ih11 fn (i + 1) i (n + 1) false (va_up WT9 n (c : Int)) (va_up WH9 n (h (i - 1))) (va_up WI9 n r) ⟨by omega, by omega⟩ hF2 (k_fr.trans hfr hrn idf idf) ctb chs cwt cwh cwi (by omega)
          · rw [hHH i (by omega), hHH (i - 1) (by omega)] at h54
            refine k_iconst dX3_findWaters_57 ?_
            refine k_goto 62 dX3_findWaters_58 (by decide) ?_
            refine k_istore [(4, .int (iI 1)), (0, .ref tb), (1, .int (iI (c : Int))), (2, .int (iI (bI r))), (3, .int (iI (i : Int)))] dX3_findWaters_62 (by decide) rfl ?_
            refine k_iload_n 2 1 dX3_findWaters_64 rfl rfl ?_
            refine k_if_le 88 dX3_findWaters_65 (by decide) (inI_mk (by omega) (by omega)) (fun h65 => ?_) (fun h65 => ?_)
            · refine k_iload_n 4 3 dX3_findWaters_88 rfl rfl ?_
              refine k_istore_n 1 [(1, .int (iI (i : Int))), (4, .int (iI 1)), (0, .ref tb), (2, .int (iI (bI r))), (3, .int (iI (i : Int)))] dX3_findWaters_89 rfl (by decide) rfl ?_
              refine k_iload 1 dX3_findWaters_90 rfl ?_
              refine k_istore_n 2 [(2, .int (iI 1)), (1, .int (iI (i : Int))), (4, .int (iI 1)), (0, .ref tb), (3, .int (iI (i : Int)))] dX3_findWaters_92 rfl (by decide) rfl ?_
              refine k_iinc 4 [(3, .int (iI ((i : Int) + 1))), (2, .int (iI 1)), (1, .int (iI (i : Int))), (4, .int (iI 1)), (0, .ref tb)] dX3_findWaters_93 rfl (by decide) rfl ?_
              refine k_goto 11 dX3_findWaters_96 (by decide) ?_
              refine k_perm [4, 2, 1, 0] [(0, .ref tb), (1, .int (iI (i : Int))), (2, .int (iI 1)), (3, .int (iI ((i : Int) + 1)))] rfl ?_
              have hdc : decide (h (i - 1) < h i) = true := decide_eq_true (by omega)
              have hF2 := hF.no (by omega) h34 (fun q => absurd q.1 (by omega))
              rw [hdc] at hF2
              exact ih11 f9 (i + 1) i n true WT9 WH9 WI9 ⟨by omega, by omega⟩ hF2 hfr ctb chs cwt cwh cwi (by omega)
            · refine k_iload 0 dX3_findWaters_68 rfl ?_
              refine k_iload_n 3 2 dX3_findWaters_70 rfl rfl ?_
              refine k_icmp_eq 88 dX3_findWaters_71 (by decide) (inI_mk (by omega) (by omega)) (bI_in _) (fun h71 => ?_) (fun h71 => ?_)
              · refine k_iload_n 4 3 dX3_findWaters_88 rfl rfl ?_
                refine k_istore_n 1 [(1, .int (iI (i : Int))), (4, .int (iI 1)), (0, .ref tb), (2, .int (iI (bI r))), (3, .int (iI (i : Int)))] dX3_findWaters_89 rfl (by decide) rfl ?_
                refine k_iload 1 dX3_findWaters_90 rfl ?_
                refine k_istore_n 2 [(2, .int (iI 1)), (1, .int (iI (i : Int))), (4, .int (iI 1)), (0, .ref tb), (3, .int (iI (i : Int)))] dX3_findWaters_92 rfl (by decide) rfl ?_
                refine k_iinc 4 [(3, .int (iI ((i : Int) + 1))), (2, .int (iI 1)), (1, .int (iI (i : Int))), (4, .int (iI 1)), (0, .ref tb)] dX3_findWaters_93 rfl (by decide) rfl ?_
                refine k_goto 11 dX3_findWaters_96 (by decide) ?_
                refine k_perm [4, 2, 1, 0] [(0, .ref tb), (1, .int (iI (i : Int))), (2, .int (iI 1)), (3, .int (iI ((i : Int) + 1)))] rfl ?_
                have hdc : decide (h (i - 1) < h i) = true := decide_eq_true (by omega)
                have hF2 := hF.no (by omega) h34 (fun q => q.2 ((bI_inj (a := r) (b := true) h71.symm).trans hdc.symm))
                rw [hdc] at hF2
                exact ih11 f9 (i + 1) i n true WT9 WH9 WI9 ⟨by omega, by omega⟩ hF2 hfr ctb chs cwt cwh cwi (by omega)
              · refine k_aload_n 1 0 dX3_findWaters_74 rfl rfl ?_
                refine k_iload_n 2 1 dX3_findWaters_75 rfl rfl ?_
                refine k_aload_n 1 0 dX3_findWaters_76 rfl rfl ?_
                refine k_get 0 i_X3 q_90 ctb rfl (by decide) rfl dX3_findWaters_77 ?_
                refine k_iload_n 4 3 dX3_findWaters_80 rfl rfl ?_
                refine k_iconst dX3_findWaters_81 ?_
                refine k_isub dX3_findWaters_82 ?_
                refine k_iald (i - 1) chs (by omega) (by omega) (by omega) dX3_findWaters_83 ?_
                refine k_topi (h (i - 1)) (hHH (i - 1) (by omega)) ?_
                refine k_iload_n 3 2 dX3_findWaters_84 rfl rfl ?_
                refine k_useU (k_runV (c_X3_noteWater θ.2.1 κ (n := n) (tb := tb) (t := (c : Int)) (v := (h (i - 1))) (r := r) ctb chs cwt cwh cwi (by omega)) w_X3_38 ⟨q_274, q_4⟩ rfl rfl ctb rfl ⟨(Nat.le_of_ble_eq_true rfl), (Nat.le_of_ble_eq_true rfl)⟩ (Nat.le_of_ble_eq_true rfl) dX3_findWaters_85) ⟨(Nat.le_of_ble_eq_true rfl), (Nat.le_of_ble_eq_true rfl)⟩ (fun Ln fn hw => ?_)
                obtain ⟨en, hrn, ctb9, chs9, cwt9, cwh9, cwi9⟩ := hw
                replace en := en.symm
                subst en
                replace ctb := ctb9
                replace chs := chs9
                replace cwt := cwt9
                replace cwh := cwh9
                replace cwi := cwi9
                refine k_iload_n 4 3 dX3_findWaters_88 rfl rfl ?_
                refine k_istore_n 1 [(1, .int (iI (i : Int))), (4, .int (iI 1)), (0, .ref tb), (2, .int (iI (bI r))), (3, .int (iI (i : Int)))] dX3_findWaters_89 rfl (by decide) rfl ?_
                refine k_iload 1 dX3_findWaters_90 rfl ?_
                refine k_istore_n 2 [(2, .int (iI 1)), (1, .int (iI (i : Int))), (4, .int (iI 1)), (0, .ref tb), (3, .int (iI (i : Int)))] dX3_findWaters_92 rfl (by decide) rfl ?_
                refine k_iinc 4 [(3, .int (iI ((i : Int) + 1))), (2, .int (iI 1)), (1, .int (iI (i : Int))), (4, .int (iI 1)), (0, .ref tb)] dX3_findWaters_93 rfl (by decide) rfl ?_
                refine k_goto 11 dX3_findWaters_96 (by decide) ?_
                refine k_perm [4, 2, 1, 0] [(0, .ref tb), (1, .int (iI (i : Int))), (2, .int (iI 1)), (3, .int (iI ((i : Int) + 1)))] rfl ?_
                have hdc : decide (h (i - 1) < h i) = true := decide_eq_true (by omega)
                have hF2 := hF.yes (by omega) h34 ⟨by omega, fun q => h71 ((congrArg bI (q.trans hdc)).symm)⟩
                rw [hdc] at hF2
                exact ih11 fn (i + 1) i (n + 1) true (va_up WT9 n (c : Int)) (va_up WH9 n (h (i - 1))) (va_up WI9 n r) ⟨by omega, by omega⟩ hF2 (k_fr.trans hfr hrn idf idf) ctb chs cwt cwh cwi (by omega)
        · rw [hHH i (by omega), hHH (i - 1) (by omega)] at h34
          refine k_goto 93 dX3_findWaters_37 (by decide) ?_
          refine k_iinc 3 [(3, .int (iI ((i : Int) + 1))), (0, .ref tb), (1, .int (iI (c : Int))), (2, .int (iI (bI r)))] dX3_findWaters_93 rfl (by decide) rfl ?_
          refine k_goto 11 dX3_findWaters_96 (by decide) ?_
          refine k_perm [1, 2, 3, 0] [(0, .ref tb), (1, .int (iI (c : Int))), (2, .int (iI (bI r))), (3, .int (iI ((i : Int) + 1)))] rfl ?_
          have hF2 := hF.same h34
          exact ih11 f9 (i + 1) c n r WT9 WH9 WI9 ⟨by omega, by omega⟩ hF2 hfr ctb chs cwt cwh cwi (by omega)
  refine k_perm [3, 2, 1, 0] [(0, .ref tb), (1, .int (iI 0)), (2, .int (iI 0)), (3, .int (iI 1))] rfl ?_
  exact lp11 _ f1 1 0 0 false WT WH WI ⟨by omega, by omega⟩ ⟨by omega, Or.inl rfl, fun j q1 q2 => absurd q2 (by omega), rfl, fun k hk => absurd hk (Nat.not_lt_zero _)⟩ (k_fr.mono hr1 ST_3) ctb chs cwt cwh cwi (Nat.lt_succ_self _)
set_option maxHeartbeats 4000000 in
set_option maxRecDepth 100000 in
theorem c_X3_fill (la : Launch) (κ : Kx) {L : List Nat} {f : Nat → wE} {tb td : Nat} {τ : Td}  (hX : TblX κ L f tb) (hTd : TideR κ L f td τ) (hok : TdOk τ) : k_M la κ yX3_fill cX3_fill 3 none 5 0 0 [.ref tb, .ref td] L f (k_ru (fun L' f' => L' = L ∧ k_fr ST L f L f' ∧ TblR κ L' f' tb (hT τ))) := by
  refine k_head RX3 [(0, .ref tb), (1, .ref td)] rfl (by decide) (Nat.le_of_ble_eq_true rfl) rfl (fun θ hθ hin => ?_)
  obtain ⟨hs, wt, wh, wi, n0, HH, WT, WH, WI, ctb, chs, cwt, cwh, cwi⟩ := hX
  refine k_iconst dX3_fill_0 ?_
  refine k_istore_n 2 [(2, .int (iI 0)), (0, .ref tb), (1, .ref td)] dX3_fill_1 rfl (by decide) rfl ?_
  have lp2 : ∀ (fuel : Nat) (f9 : Nat → wE) (i : Nat) (HH9 : Nat → Int), (i ≤ 4320) → (∀ t, t < i → HH9 t = hT τ t) → (k_fr ST L f L f9) → (Cl L f9 tb (3, .inr (4, [.ref hs, .ref wt, .ref wh, .ref wi, .int (iI n0)]))) → (Cl L f9 hs (7, .inl (κ.2.2.1 0, 4320, .inl (fun u9 => iI (HH9 u9))))) → (Cl L f9 wt (8, .inl (κ.2.2.1 0, 4320, .inl (fun u9 => iI (WT u9))))) → (Cl L f9 wh (9, .inl (κ.2.2.1 0, 4320, .inl (fun u9 => iI (WH u9))))) → (Cl L f9 wi (10, .inl (κ.2.2.1 2, 4320, .inl (fun u9 => iI (bI (WI u9)))))) → (TideR κ L f9 td τ) → 4320 - i < fuel → k_G θ κ cX3_fill 3 none RX3 (k_rm 5 0 0) (k_MQ θ κ (k_ru (fun L' f' => L' = L ∧ k_fr ST L f L f' ∧ TblR κ L' f' tb (hT τ))) 0 0) L f9 0 0 2 [(0, .ref tb), (1, .ref td), (2, .int (iI (i : Int)))] [] := by
    intro fuel
    induction fuel with
    | zero =>
      intro f9 i HH9 hi1 hH hfr ctb chs cwt cwh cwi hTd hfu
      exact absurd hfu (Nat.not_lt_zero _)
    | succ fuel ih2 =>
      intro f9 i HH9 hi1 hH hfr ctb chs cwt cwh cwi hTd hfu
      obtain ⟨wl9, ctd⟩ := hTd.cl
      refine k_iload_n 2 2 dX3_fill_2 rfl rfl ?_
      refine k_aload_n 0 0 dX3_fill_3 rfl rfl ?_
      refine k_get 0 i_X3 q_90 ctb rfl (by decide) rfl dX3_fill_4 ?_
      refine k_alen (t0 := 0) chs rfl dX3_fill_7 ?_
      refine k_icmp_ge 28 dX3_fill_8 (by decide) (inI_mk (by omega) (by omega)) (inI_mk (by omega) (by omega)) (fun h8 => ?_) (fun h8 => ?_)
      · refine k_aload_n 0 0 dX3_fill_28 rfl rfl ?_
        refine k_useU (k_runV (c_X3_findWaters θ.2.1 κ (h := (hT τ)) (tb := tb) ctb chs cwt cwh cwi (fun t ht => hH t (by omega)) (hT_bd hok)) w_X3_31 ⟨q_270, q_3⟩ rfl rfl ctb rfl ⟨(Nat.le_of_ble_eq_true rfl), (Nat.le_of_ble_eq_true rfl)⟩ (Nat.le_of_ble_eq_true rfl) dX3_fill_29) ⟨(Nat.le_of_ble_eq_true rfl), (Nat.le_of_ble_eq_true rfl)⟩ (fun Ln fn hw => ?_)
        obtain ⟨en, hrn, hTb⟩ := hw
        replace en := en.symm
        subst en
        exact k_vret dX3_fill_32 rfl (Nat.le_of_ble_eq_true rfl) (Nat.le_of_ble_eq_true rfl) (⟨rfl, rfl, k_fr.trans hfr hrn idf idf, hTb⟩)
      · refine k_aload_n 0 0 dX3_fill_11 rfl rfl ?_
        refine k_get 0 i_X3 q_90 ctb rfl (by decide) rfl dX3_fill_12 ?_
        refine k_iload_n 2 2 dX3_fill_15 rfl rfl ?_
        refine k_aload_n 1 1 dX3_fill_16 rfl rfl ?_
        refine k_iload_n 2 2 dX3_fill_17 rfl rfl ?_
        refine k_useR (k_runV (c_X5_heightAt θ.2.1 κ (td := td) (t := i) hTd hok (by omega)) w_X3_25 ⟨q_207, q_208⟩ rfl rfl ctd rfl ⟨(Nat.le_of_ble_eq_true rfl), (Nat.le_of_ble_eq_true rfl)⟩ (Nat.le_of_ble_eq_true rfl) dX3_fill_18) ⟨(Nat.le_of_ble_eq_true rfl), (Nat.le_of_ble_eq_true rfl)⟩ ?_
        refine k_iast i chs rfl (by omega) (by omega) dX3_fill_21 (fun f1 hf1 hc1 => ?_)
        have hr1 := k_fr.put hf1 chs
        replace ctb := ctb.fr hr1 rfl
        replace cwt := cwt.fr hr1 rfl
        replace cwh := cwh.fr hr1 rfl
        replace cwi := cwi.fr hr1 rfl
        replace hTd := hTd.fr hr1 rfl
        replace chs : Cl L f1 hs (7, .inl (κ.2.2.1 0, 4320, .inl (fun u9 => iI ((va_up HH9 i (hT τ i)) u9)))) := hc1
        refine k_iinc 2 [(2, .int (iI ((i : Int) + 1))), (0, .ref tb), (1, .ref td)] dX3_fill_22 rfl (by decide) rfl ?_
        refine k_goto 2 dX3_fill_25 (by decide) ?_
        refine k_perm [1, 2, 0] [(0, .ref tb), (1, .ref td), (2, .int (iI ((i : Int) + 1)))] rfl ?_
        have hH2 : ∀ t, t < i + 1 → (va_up HH9 i (hT τ i)) t = hT τ t := fun t ht => by
          by_cases q : t = i
          · subst q
            exact va_up_self _ _ _
          · rw [va_up_ne _ _ q]
            exact hH t (by omega)
        exact ih2 f1 (i + 1) (va_up HH9 i (hT τ i)) (by omega) hH2 (k_fr.trans hfr hr1 idf ST_7) ctb chs cwt cwh cwi hTd (by omega)
  refine k_perm [1, 2, 0] [(0, .ref tb), (1, .ref td), (2, .int (iI 0))] rfl ?_
  exact lp2 _ f 0 HH (Nat.zero_le _) (fun t ht => absurd ht (Nat.not_lt_zero _)) k_fr.refl ctb chs cwt cwh cwi hTd (Nat.lt_succ_self _)
set_option maxHeartbeats 4000000 in
set_option maxRecDepth 100000 in
theorem c_X3_init (la : Launch) (κ : Kx) {L : List Nat} {f : Nat → wE} {tb : Nat} (ctb : Cl L f tb (3, .inr (4, [.null, .null, .null, .null, .int (iI 0)])))   : k_M la κ yX3_init cX3_init 1 none 1 4 17280 [.ref tb] L f (k_ru (fun L' f' => TblX κ L' f' tb ∧ k_fr (fun u => u == 3) L f L' f')) := by
  refine k_head RX3 [(0, .ref tb)] rfl (by decide) (Nat.le_of_ble_eq_true rfl) rfl (fun θ hθ hin => ?_)
  refine k_aload_n 0 0 dX3_init_0 rfl rfl ?_
  refine k_objInit q_89 q_42 q_43 (Nat.le_of_ble_eq_true rfl) (Nat.le_of_ble_eq_true rfl) dX3_init_1 ?_
  refine k_aload_n 0 0 dX3_init_4 rfl rfl ?_
  refine k_sipush dX3_init_5 (by decide) ?_
  refine k_newai 7 4320 q_108 rfl (by omega) (Nat.le_of_ble_eq_true rfl) (Nat.le_of_ble_eq_true rfl) dX3_init_8 (fun hs L1 f1 hz1 hn1 hc1 => ?_)
  have hr1 := k_fr.new hz1
  replace ctb := ctb.fr hr1 rfl
  have cHs : Cl L1 f1 hs (7, .inl (κ.2.2.1 0, 4320, .inl (fun u9 => iI ((fun _ => 0) u9)))) := hc1
  refine k_putF 0 [.ref hs, .null, .null, .null, .int (iI 0)] i_X3 tyX3_ok nmX3 q_90 ctb rfl (by decide) rfl (hin rfl) rfl rfl rfl rfl (Nat.le_of_ble_eq_true rfl) rfl dX3_init_10 (fun f2 hf2 hc2 => ?_)
  have hr2 := k_fr.put hf2 ctb
  replace cHs := cHs.fr hr2 rfl
  replace ctb : Cl L1 f2 tb (3, .inr (4, [.ref hs, .null, .null, .null, .int (iI 0)])) := hc2
  refine k_aload_n 0 0 dX3_init_13 rfl rfl ?_
  refine k_sipush dX3_init_14 (by decide) ?_
  refine k_newai 8 4320 q_108 rfl (by omega) (Nat.le_of_ble_eq_true rfl) (Nat.le_of_ble_eq_true rfl) dX3_init_17 (fun wt L3 f3 hz3 hn3 hc3 => ?_)
  have hr3 := k_fr.new hz3
  replace ctb := ctb.fr hr3 rfl
  replace cHs := cHs.fr hr3 rfl
  have cWt : Cl L3 f3 wt (8, .inl (κ.2.2.1 0, 4320, .inl (fun u9 => iI ((fun _ => 0) u9)))) := hc3
  refine k_putF 1 [.ref hs, .ref wt, .null, .null, .int (iI 0)] i_X3 tyX3_ok nmX3 q_91 ctb rfl (by decide) rfl (hin rfl) rfl rfl rfl rfl (Nat.le_of_ble_eq_true rfl) rfl dX3_init_19 (fun f4 hf4 hc4 => ?_)
  have hr4 := k_fr.put hf4 ctb
  replace cHs := cHs.fr hr4 rfl
  replace cWt := cWt.fr hr4 rfl
  replace ctb : Cl L3 f4 tb (3, .inr (4, [.ref hs, .ref wt, .null, .null, .int (iI 0)])) := hc4
  refine k_aload_n 0 0 dX3_init_22 rfl rfl ?_
  refine k_sipush dX3_init_23 (by decide) ?_
  refine k_newai 9 4320 q_108 rfl (by omega) (Nat.le_of_ble_eq_true rfl) (Nat.le_of_ble_eq_true rfl) dX3_init_26 (fun wh L5 f5 hz5 hn5 hc5 => ?_)
  have hr5 := k_fr.new hz5
  replace ctb := ctb.fr hr5 rfl
  replace cHs := cHs.fr hr5 rfl
  replace cWt := cWt.fr hr5 rfl
  have cWh : Cl L5 f5 wh (9, .inl (κ.2.2.1 0, 4320, .inl (fun u9 => iI ((fun _ => 0) u9)))) := hc5
  refine k_putF 2 [.ref hs, .ref wt, .ref wh, .null, .int (iI 0)] i_X3 tyX3_ok nmX3 q_92 ctb rfl (by decide) rfl (hin rfl) rfl rfl rfl rfl (Nat.le_of_ble_eq_true rfl) rfl dX3_init_28 (fun f6 hf6 hc6 => ?_)
  have hr6 := k_fr.put hf6 ctb
  replace cHs := cHs.fr hr6 rfl
  replace cWt := cWt.fr hr6 rfl
  replace cWh := cWh.fr hr6 rfl
  replace ctb : Cl L5 f6 tb (3, .inr (4, [.ref hs, .ref wt, .ref wh, .null, .int (iI 0)])) := hc6
  refine k_aload_n 0 0 dX3_init_31 rfl rfl ?_
  refine k_sipush dX3_init_32 (by decide) ?_
  refine k_newaz 10 4320 q_109 rfl (by omega) (Nat.le_of_ble_eq_true rfl) (Nat.le_of_ble_eq_true rfl) dX3_init_35 (fun wi L7 f7 hz7 hn7 hc7 => ?_)
  have hr7 := k_fr.new hz7
  replace ctb := ctb.fr hr7 rfl
  replace cHs := cHs.fr hr7 rfl
  replace cWt := cWt.fr hr7 rfl
  replace cWh := cWh.fr hr7 rfl
  have cWi : Cl L7 f7 wi (10, .inl (κ.2.2.1 2, 4320, .inl (fun u9 => iI (bI ((fun _ => false) u9))))) := hc7
  refine k_putF 3 [.ref hs, .ref wt, .ref wh, .ref wi, .int (iI 0)] i_X3 tyX3_ok nmX3 q_93 ctb rfl (by decide) rfl (hin rfl) rfl rfl rfl rfl (Nat.le_of_ble_eq_true rfl) rfl dX3_init_37 (fun f8 hf8 hc8 => ?_)
  have hr8 := k_fr.put hf8 ctb
  replace cHs := cHs.fr hr8 rfl
  replace cWt := cWt.fr hr8 rfl
  replace cWh := cWh.fr hr8 rfl
  replace cWi := cWi.fr hr8 rfl
  replace ctb : Cl L7 f8 tb (3, .inr (4, [.ref hs, .ref wt, .ref wh, .ref wi, .int (iI 0)])) := hc8
  exact k_vret dX3_init_40 rfl (Nat.le_of_ble_eq_true rfl) (Nat.le_of_ble_eq_true rfl) (⟨rfl, ⟨hs, wt, wh, wi, 0, (fun _ => 0), (fun _ => 0), (fun _ => 0), (fun _ => false), ctb, cHs, cWt, cWh, cWi⟩, (k_fr.trans (k_fr.trans (k_fr.trans (k_fr.trans (k_fr.trans (k_fr.trans (k_fr.trans (k_fr.mono hr1 (fun _ _ => rfl)) hr2 idf idf) hr3 idf (fun _ _ => rfl)) hr4 idf idf) hr5 idf (fun _ _ => rfl)) hr6 idf idf) hr7 idf (fun _ _ => rfl)) hr8 idf idf)⟩)
end
section
/-! ===== ports and tallies: bounds ===== -/
theorem mul_bd {a b A B : Int} (h1 : -A ≤ a) (h2 : a ≤ A) (h3 : 0 ≤ b) (h4 : b ≤ B) : -(A * B) ≤ a * b ∧ a * b ≤ A * B := by
  have hA : 0 ≤ A := by omega
  have e1 : A * b ≤ A * B := Int.mul_le_mul_of_nonneg_left h4 hA
  have e2 : a * b ≤ A * b := Int.mul_le_mul_of_nonneg_right h2 h3
  have e3 : -A * b ≤ a * b := Int.mul_le_mul_of_nonneg_right h1 h3
  rw [Int.neg_mul] at e3
  omega
theorem sx_bd {e d : Int} (h0 : 0 ≤ e) (h1 : e < d) : 0 ≤ (6 * e).tdiv d ∧ (6 * e).tdiv d < 6 ∧ 0 ≤ 6 * e - (6 * e).tdiv d * d ∧ 6 * e - (6 * e).tdiv d * d ≤ d := by
  have hd : 0 < d := by omega
  rw [Int.tdiv_eq_ediv_of_nonneg (by omega)]
  have e1 := Int.emod_def (6 * e) d
  have e2 := Int.emod_nonneg (6 * e) (show d ≠ 0 by omega)
  have e3 := Int.emod_lt_of_pos (6 * e) hd
  rw [Int.mul_comm d] at e1
  refine ⟨Int.ediv_nonneg (by omega) (by omega), Int.ediv_lt_of_lt_mul hd (by omega), by omega, by omega⟩
theorem tw_get {k : Nat} (h : k < 6) : twA (k : Int) = List.getD [0, 1, 3, 6, 9, 11] k 0 ∧ twI (k : Int) = List.getD [1, 2, 3, 3, 2, 1] k 0 := by
  rcases (by omega : k = 0 ∨ k = 1 ∨ k = 2 ∨ k = 3 ∨ k = 4 ∨ k = 5) with h | h | h | h | h | h <;> subst h <;> decide
theorem twA_bd (s : Int) : 0 ≤ twA s ∧ twA s ≤ 11 := by
  unfold twA
  repeat' split
  all_goals omega
theorem twI_bd (s : Int) : 0 ≤ twI s ∧ twI s ≤ 3 := by
  unfold twI
  repeat' split
  all_goals omega
theorem gone_bd {e d : Int} (h0 : 0 ≤ e) (h1 : e < d) : 0 ≤ gone e d ∧ gone e d ≤ 14 * d := by
  obtain ⟨a1, a2, a3, a4⟩ := sx_bd h0 h1
  have b1 := twA_bd ((6 * e).tdiv d)
  have b2 := twI_bd ((6 * e).tdiv d)
  have hd : 0 ≤ d := by omega
  unfold gone
  have c1 : twA ((6 * e).tdiv d) * d ≤ 11 * d := Int.mul_le_mul_of_nonneg_right b1.2 hd
  have c2 : 0 ≤ twA ((6 * e).tdiv d) * d := Int.mul_nonneg b1.1 hd
  have c3 : twI ((6 * e).tdiv d) * (6 * e - (6 * e).tdiv d * d) ≤ 3 * d := Int.mul_le_mul b2.2 a4 a3 (by omega)
  have c4 : 0 ≤ twI ((6 * e).tdiv d) * (6 * e - (6 * e).tdiv d * d) := Int.mul_nonneg b2.1 a3
  omega
theorem pT_bd {h : Nat → Int} {q : Pt} (ok : PtOk q) {k : Nat} (hk : k < nW h) : -300 ≤ pT h q k ∧ pT h q k ≤ 4620 := by
  have h1 := (tm_spec hk).1
  obtain ⟨a, b, c, d, e⟩ := ok
  unfold pT
  split <;> omega
theorem tdiv100 {a A : Int} (h1 : -(100 * A) ≤ a) (h2 : a ≤ 100 * A) : -A ≤ a.tdiv 100 ∧ a.tdiv 100 ≤ A := by
  rcases Int.le_total 0 a with q | q
  · rw [Int.tdiv_eq_ediv_of_nonneg q]
    omega
  · have e : a.tdiv 100 = -((-a) / 100) := by
      rw [← Int.tdiv_eq_ediv_of_nonneg (by omega), Int.neg_tdiv, Int.neg_neg]
    rw [e]
    omega
theorem pH_bd {h : Nat → Int} {q : Pt} (ok : PtOk q) (hb : ∀ t, -50000 ≤ h t ∧ h t ≤ 50000) (k : Nat) : -153000 ≤ pH h q k ∧ pH h q k ≤ 153000 := by
  obtain ⟨a, b, c, d, e⟩ := ok
  have hh := hb (tm h k)
  have f0 : 0 ≤ (if hi h k = true then q.2.1 else q.2.2.2.1) ∧ (if hi h k = true then q.2.1 else q.2.2.2.1) ≤ 300 := by split <;> omega
  have f1 := mul_bd (A := 50000) (B := 300) hh.1 hh.2 f0.1 f0.2
  have f2 := tdiv100 (A := 150000) (a := h (tm h k) * (if hi h k = true then q.2.1 else q.2.2.2.1)) (by omega) (by omega)
  unfold pH
  omega
theorem ordF_lt {h : Nat → Int} {q : Pt} : ∀ {n j : Nat}, ordF h q n = true → j < n → pT h q j < pT h q (j + 1)
  | 0, j, _, hj => absurd hj (Nat.not_lt_zero _)
  | n + 1, j, ho, hj => by
    rw [ordF, Bool.and_eq_true] at ho
    rcases Nat.lt_or_ge j n with q1 | q1
    · exact ordF_lt ho.1 q1
    · have : j = n := by omega
      subst this
      exact of_decide_eq_true ho.2
theorem ord_lt {h : Nat → Int} {q : Pt} {j : Nat} (ho : ord h q = true) (hj : j + 1 < nW h) : pT h q j < pT h q (j + 1) := ordF_lt ho (by omega)
theorem ord_no {h : Nat → Int} {q : Pt} {j : Nat} (hj : j + 1 < nW h) (hlt : ¬ pT h q j < pT h q (j + 1)) : ord h q = false := by
  cases e : ord h q with
  | false => rfl
  | true => exact absurd (ord_lt e hj) hlt
theorem lat_go {h : Nat → Int} {q : Pt} {t : Int} {x : Nat} (h1 : x < nW h) (h2 : pT h q x ≤ t) : lat h q t x = lat h q t (x + 1) := by
  unfold lat
  rw [show nW h - x = (nW h - (x + 1)) + 1 by omega, latF, if_pos ⟨h1, h2⟩]
theorem lat_stop {h : Nat → Int} {q : Pt} {t : Int} {x : Nat} (h1 : ¬ (x < nW h ∧ pT h q x ≤ t)) : lat h q t x = x := by
  unfold lat
  cases e : nW h - x with
  | zero => rfl
  | succ m => rw [latF, if_neg h1]
theorem latF_spec {h : Nat → Int} {q : Pt} {t : Int} : ∀ (m x : Nat), x ≤ nW h → nW h - x ≤ m → x ≤ latF h q t m x ∧ latF h q t m x ≤ nW h ∧ (∀ y, x ≤ y → y < latF h q t m x → pT h q y ≤ t) ∧ ¬ (latF h q t m x < nW h ∧ pT h q (latF h q t m x) ≤ t)
  | 0, x, h1, h2 => by
    rw [latF]
    exact ⟨Nat.le_refl _, h1, fun y a b => absurd b (by omega), fun a => by omega⟩
  | m + 1, x, h1, h2 => by
    rw [latF]
    split
    · rename_i e
      obtain ⟨a, b, c, d⟩ := latF_spec (h := h) (q := q) (t := t) m (x + 1) (by omega) (by omega)
      refine ⟨by omega, b, fun y hy1 hy2 => ?_, d⟩
      rcases Nat.lt_or_ge x y with q1 | q1
      · exact c y (by omega) hy2
      · have : y = x := by omega
        subst this
        exact e.2
    · rename_i e
      exact ⟨Nat.le_refl _, h1, fun y a b => absurd b (by omega), e⟩
theorem lat_spec {h : Nat → Int} {q : Pt} {t : Int} {x : Nat} (h1 : x ≤ nW h) : x ≤ lat h q t x ∧ lat h q t x ≤ nW h ∧ (∀ y, x ≤ y → y < lat h q t x → pT h q y ≤ t) ∧ ¬ (lat h q t x < nW h ∧ pT h q (lat h q t x) ≤ t) := latF_spec _ x h1 (Nat.le_refl _)
theorem btw_bd {h : Nat → Int} {q : Pt} (ok : PtOk q) (hb : ∀ t, -50000 ≤ h t ∧ h t ≤ 50000) {k : Nat} {t : Int} (h1 : k + 1 < nW h) (h2 : pT h q k ≤ t) (h3 : t < pT h q (k + 1)) : -8000000000 * 4 ≤ (pH h q (k + 1) - pH h q k) * gone (t - pT h q k) (pT h q (k + 1) - pT h q k) ∧ (pH h q (k + 1) - pH h q k) * gone (t - pT h q k) (pT h q (k + 1) - pT h q k) ≤ 8000000000 * 4 := by
  have a1 := pH_bd ok hb k
  have a2 := pH_bd ok hb (k + 1)
  have a3 := pT_bd ok (show k < nW h by omega)
  have a4 := pT_bd ok h1
  have a5 := gone_bd (e := t - pT h q k) (d := pT h q (k + 1) - pT h q k) (by omega) (by omega)
  have a6 := mul_bd (a := pH h q (k + 1) - pH h q k) (b := gone (t - pT h q k) (pT h q (k + 1) - pT h q k)) (A := 306000) (B := 70000) (by omega) (by omega) a5.1 (by omega)
  omega
/-- what a tally holds -/
def TallyR (L : List Nat) (f : Nat → wE) (ta : Nat) (x : Tl) : Prop := Cl L f ta (19, .inr (5, [.int (iI x.1), .int (iI x.2.1), .int (iI x.2.2.1), .int (iI x.2.2.2.1), .int (iI x.2.2.2.2)]))
theorem TallyR.fr {L L' : List Nat} {f f' : Nat → wE} {ta : Nat} {x : Tl} {S : Nat → Bool} (h : TallyR L f ta x) (hf : k_fr S L f L' f') (hS : S 19 = false) : TallyR L' f' ta x := Cl.fr hf h hS
def TlIn (n : Int) (x : Tl) : Prop := (0 ≤ x.2.2.2.2 ∧ x.2.2.2.2 ≤ n) ∧ (0 ≤ x.2.2.2.1 ∧ x.2.2.2.1 ≤ n) ∧ (-1 ≤ x.2.2.1 ∧ x.2.2.1 ≤ 4319)
theorem tlS_in {n m : Int} {x : Tl} {b : Bool} (h : TlIn n x) (h0 : 0 ≤ m) (h1 : m ≤ 4319) : TlIn (n + 1) (tlS x m b) := by
  obtain ⟨⟨a1, a2⟩, ⟨b1, b2⟩, ⟨c1, c2⟩⟩ := h
  unfold tlS TlIn
  cases b with
  | false =>
    rw [if_neg (by decide)]
    refine ⟨⟨?_, ?_⟩, ⟨?_, ?_⟩, ⟨?_, ?_⟩⟩ <;> simp only [] <;> omega
  | true =>
    rw [if_pos rfl]
    refine ⟨⟨?_, ?_⟩, ⟨?_, ?_⟩, ⟨?_, ?_⟩⟩ <;> simp only [] <;> first | omega | (split <;> omega)
end
section
def k_on (a : Nat) (L : List Nat) (f : Nat → wE) (L' : List Nat) (f' : Nat → wE) : Prop := ∀ z ∈ L, z ∈ L' ∧ (z ≠ a → f' z = f z)
theorem k_on.put {a : Nat} {L : List Nat} {f f' : Nat → wE} (h : ∀ z, z ≠ a → f' z = f z) : k_on a L f L f' := fun z hz => ⟨hz, h z⟩
theorem k_on.ofF {a : Nat} {L L' : List Nat} {f f' : Nat → wE} (h : k_fr (fun _ => false) L f L' f') : k_on a L f L' f' := fun z hz => ⟨(h z hz).1, fun _ => (h z hz).2 rfl⟩
theorem k_on.trans {a : Nat} {L L1 L2 : List Nat} {f f1 f2 : Nat → wE} (h1 : k_on a L f L1 f1) (h2 : k_on a L1 f1 L2 f2) : k_on a L f L2 f2 := fun z hz => ⟨(h2 z (h1 z hz).1).1, fun hn => ((h2 z (h1 z hz).1).2 hn).trans ((h1 z hz).2 hn)⟩
theorem k_new3 {L L1 L2 : List Nat} {f f1 f2 : Nat → wE} {a : Nat} (hz : ∀ z ∈ L, z ∈ L1 ∧ f1 z = f z) (hn : a ∉ L) (h : k_on a L1 f1 L2 f2) : k_fr (fun _ => false) L f L2 f2 := fun z hz1 => ⟨(h z (hz z hz1).1).1, fun _ => ((h z (hz z hz1).1).2 (fun e => hn (by rw [← e]; exact hz1))).trans (hz z hz1).2⟩
theorem k_new2 {L L1 : List Nat} {f f1 f2 : Nat → wE} {a : Nat} (hz : ∀ z ∈ L, z ∈ L1 ∧ f1 z = f z) (hn : a ∉ L) (h : ∀ z, z ≠ a → f2 z = f1 z) : k_fr (fun _ => false) L f L1 f2 := fun z hz1 => ⟨(hz z hz1).1, fun _ => (h z (fun e => hn (by rw [← e]; exact hz1))).trans (hz z hz1).2⟩
set_option maxHeartbeats 4000000 in
set_option maxRecDepth 100000 in
theorem c_X0_init (la : Launch) (κ : Kx) {L : List Nat} {f : Nat → wE} {fo tg : Nat} (cfo : Cl L f fo (tg, .inr (1, [.int (iI 0), .int (iI 0)])))   : k_M la κ yX0_init cX0_init 1 none 1 0 0 [.ref fo] L f (k_ru (fun L' f' => L' = L ∧ (∀ z, z ≠ fo → f' z = f z) ∧ Cl L f' fo (tg, .inr (1, [.int (iI 0), .int (iI 100)])))) := by
  refine k_head RX0 [(0, .ref fo)] rfl (by decide) (Nat.le_of_ble_eq_true rfl) rfl (fun θ hθ hin => ?_)
  refine k_aload_n 0 0 dX0_init_0 rfl rfl ?_
  refine k_objInit q_378 q_42 q_43 (Nat.le_of_ble_eq_true rfl) (Nat.le_of_ble_eq_true rfl) dX0_init_1 ?_
  refine k_aload_n 0 0 dX0_init_4 rfl rfl ?_
  refine k_bipush dX0_init_5 (by decide) ?_
  refine k_put 1 [.int (iI 0), .int (iI 100)] i_X0 tyX0_ok nmX0 q_381 cfo rfl (by decide) rfl rfl rfl rfl (Nat.le_of_ble_eq_true rfl) rfl dX0_init_7 (fun f1 hf1 hc1 => ?_)
  have hr1 := k_fr.put hf1 cfo
  replace cfo : Cl L f1 fo (tg, .inr (1, [.int (iI 0), .int (iI 100)])) := hc1
  exact k_vret dX0_init_10 rfl (Nat.le_of_ble_eq_true rfl) (Nat.le_of_ble_eq_true rfl) (⟨rfl, rfl, hf1, cfo⟩)
set_option maxHeartbeats 4000000 in
set_option maxRecDepth 100000 in
theorem c_X1_followOf_t (la : Launch) (κ : Kx) {L : List Nat} {f : Nat → wE} {pt ph po : Nat} {ad : Int} (cpt : Cl L f pt (15, .inr (2, [.ref ph, .ref po, .int (iI ad)])))   : k_M la κ yX1_followOf cX1_followOf 2 (some (.object "TideTable$Follow")) 1 0 0 [.ref pt, .int (iI (bI true))] L f (k_ro L f (.ref ph)) := by
  refine k_head RX1 [(0, .ref pt), (1, .int (iI (bI true)))] rfl (by decide) (Nat.le_of_ble_eq_true rfl) rfl (fun θ hθ hin => ?_)
  refine k_iload_n 1 1 dX1_followOf_0 rfl rfl ?_
  refine k_ifb_eq 11 dX1_followOf_1 (by decide) (fun h1 => ?_) (fun h1 => ?_)
  · exact absurd h1 (by decide)
  · refine k_aload_n 0 0 dX1_followOf_4 rfl rfl ?_
    refine k_get 0 i_X1 q_389 cpt rfl (by decide) rfl dX1_followOf_5 ?_
    refine k_goto 15 dX1_followOf_8 (by decide) ?_
    exact k_aret dX1_followOf_15 rfl (Or.inl ⟨_, rfl⟩) (Nat.le_of_ble_eq_true rfl) (Nat.le_of_ble_eq_true rfl) ⟨rfl, rfl, rfl⟩
set_option maxHeartbeats 4000000 in
set_option maxRecDepth 100000 in
theorem c_X1_followOf_f (la : Launch) (κ : Kx) {L : List Nat} {f : Nat → wE} {pt ph po : Nat} {ad : Int} (cpt : Cl L f pt (15, .inr (2, [.ref ph, .ref po, .int (iI ad)])))   : k_M la κ yX1_followOf cX1_followOf 2 (some (.object "TideTable$Follow")) 1 0 0 [.ref pt, .int (iI (bI false))] L f (k_ro L f (.ref po)) := by
  refine k_head RX1 [(0, .ref pt), (1, .int (iI (bI false)))] rfl (by decide) (Nat.le_of_ble_eq_true rfl) rfl (fun θ hθ hin => ?_)
  refine k_iload_n 1 1 dX1_followOf_0 rfl rfl ?_
  refine k_ifb_eq 11 dX1_followOf_1 (by decide) (fun h1 => ?_) (fun h1 => ?_)
  · refine k_aload_n 0 0 dX1_followOf_11 rfl rfl ?_
    refine k_get 1 i_X1 q_390 cpt rfl (by decide) rfl dX1_followOf_12 ?_
    exact k_aret dX1_followOf_15 rfl (Or.inl ⟨_, rfl⟩) (Nat.le_of_ble_eq_true rfl) (Nat.le_of_ble_eq_true rfl) ⟨rfl, rfl, rfl⟩
  · exact absurd h1 (by decide)
set_option maxHeartbeats 4000000 in
set_option maxRecDepth 100000 in
theorem c_X1_timeOf (la : Launch) (κ : Kx) {L : List Nat} {f : Nat → wE} {pt tb : Nat} {h : Nat → Int} {q : Pt} {k : Nat}  (hTb : TblR κ L f tb h) (hP : PortR L f pt q) (hk : k < nW h) : k_M la κ yX1_timeOf cX1_timeOf 3 (some .int) 3 0 0 [.ref pt, .ref tb, .int (iI (k : Int))] L f (k_ro L f (.int (iI (pT h q k)))) := by
  refine k_head RX1 [(0, .ref pt), (1, .ref tb), (2, .int (iI (k : Int)))] rfl (by decide) (Nat.le_of_ble_eq_true rfl) rfl (fun θ hθ hin => ?_)
  have hnn := nW_le h
  obtain ⟨hs, wt, wh, wi, ctb⟩ := hTb.cl
  obtain ⟨ph, po, cpt, cph, cpo⟩ := id hP
  refine k_aload_n 1 1 dX1_timeOf_0 rfl rfl ?_
  refine k_iload_n 2 2 dX1_timeOf_1 rfl rfl ?_
  refine k_useR (k_runV (c_X3_timeOf θ.2.1 κ (tb := tb) (k := k) hTb (by omega)) w_X1_21 ⟨q_286, q_287⟩ rfl rfl ctb rfl ⟨(Nat.le_of_ble_eq_true rfl), (Nat.le_of_ble_eq_true rfl)⟩ (Nat.le_of_ble_eq_true rfl) dX1_timeOf_2) ⟨(Nat.le_of_ble_eq_true rfl), (Nat.le_of_ble_eq_true rfl)⟩ ?_
  refine k_aload_n 0 0 dX1_timeOf_5 rfl rfl ?_
  refine k_aload_n 1 1 dX1_timeOf_6 rfl rfl ?_
  refine k_iload_n 2 2 dX1_timeOf_7 rfl rfl ?_
  refine k_useR (k_runV (c_X3_isHigh θ.2.1 κ (tb := tb) (k := k) hTb (by omega)) w_X1_27 ⟨q_295, q_296⟩ rfl rfl ctb rfl ⟨(Nat.le_of_ble_eq_true rfl), (Nat.le_of_ble_eq_true rfl)⟩ (Nat.le_of_ble_eq_true rfl) dX1_timeOf_8) ⟨(Nat.le_of_ble_eq_true rfl), (Nat.le_of_ble_eq_true rfl)⟩ ?_
  rcases hhi : hi h k with _ | _
  · refine k_useR (k_runV (c_X1_followOf_f θ.2.1 κ (pt := pt) cpt) w_X1_31 ⟨q_466, q_467⟩ rfl rfl cpt rfl ⟨(Nat.le_of_ble_eq_true rfl), (Nat.le_of_ble_eq_true rfl)⟩ (Nat.le_of_ble_eq_true rfl) dX1_timeOf_11) ⟨(Nat.le_of_ble_eq_true rfl), (Nat.le_of_ble_eq_true rfl)⟩ ?_
    refine k_getN 0 i_X0 q_379 cpo rfl (by decide) rfl dX1_timeOf_14 ?_
    refine k_iadd dX1_timeOf_17 ?_
    exact k_iret dX1_timeOf_18 rfl (Nat.le_of_ble_eq_true rfl) (Nat.le_of_ble_eq_true rfl) (k_oki (by rw [pT, if_neg (by rw [hhi]; decide)]))
  · refine k_useR (k_runV (c_X1_followOf_t θ.2.1 κ (pt := pt) cpt) w_X1_31 ⟨q_466, q_467⟩ rfl rfl cpt rfl ⟨(Nat.le_of_ble_eq_true rfl), (Nat.le_of_ble_eq_true rfl)⟩ (Nat.le_of_ble_eq_true rfl) dX1_timeOf_11) ⟨(Nat.le_of_ble_eq_true rfl), (Nat.le_of_ble_eq_true rfl)⟩ ?_
    refine k_getN 0 i_X0 q_379 cph rfl (by decide) rfl dX1_timeOf_14 ?_
    refine k_iadd dX1_timeOf_17 ?_
    exact k_iret dX1_timeOf_18 rfl (Nat.le_of_ble_eq_true rfl) (Nat.le_of_ble_eq_true rfl) (k_oki (by rw [pT, if_pos hhi]))
set_option maxHeartbeats 4000000 in
set_option maxRecDepth 100000 in
theorem c_X1_heightOf (la : Launch) (κ : Kx) {L : List Nat} {f : Nat → wE} {pt tb : Nat} {h : Nat → Int} {q : Pt} {k : Nat}  (hTb : TblR κ L f tb h) (hP : PortR L f pt q) (hk : k < nW h) (hb : ∀ t, -50000 ≤ h t ∧ h t ≤ 50000) (hok : PtOk q) : k_M la κ yX1_heightOf cX1_heightOf 4 (some .int) 3 0 0 [.ref pt, .ref tb, .int (iI (k : Int))] L f (k_ro L f (.int (iI (pH h q k)))) := by
  refine k_head RX1 [(0, .ref pt), (1, .ref tb), (2, .int (iI (k : Int)))] rfl (by decide) (Nat.le_of_ble_eq_true rfl) rfl (fun θ hθ hin => ?_)
  have hnn := nW_le h
  obtain ⟨hs, wt, wh, wi, ctb⟩ := hTb.cl
  obtain ⟨ph, po, cpt, cph, cpo⟩ := id hP
  obtain ⟨ok1, ok2, ok3, ok4, ok5⟩ := id hok
  refine k_aload_n 0 0 dX1_heightOf_0 rfl rfl ?_
  refine k_aload_n 1 1 dX1_heightOf_1 rfl rfl ?_
  refine k_iload_n 2 2 dX1_heightOf_2 rfl rfl ?_
  refine k_useR (k_runV (c_X3_isHigh θ.2.1 κ (tb := tb) (k := k) hTb (by omega)) w_X1_27 ⟨q_295, q_296⟩ rfl rfl ctb rfl ⟨(Nat.le_of_ble_eq_true rfl), (Nat.le_of_ble_eq_true rfl)⟩ (Nat.le_of_ble_eq_true rfl) dX1_heightOf_3) ⟨(Nat.le_of_ble_eq_true rfl), (Nat.le_of_ble_eq_true rfl)⟩ ?_
  rcases hhi : hi h k with _ | _
  · refine k_useR (k_runV (c_X1_followOf_f θ.2.1 κ (pt := pt) cpt) w_X1_31 ⟨q_466, q_467⟩ rfl rfl cpt rfl ⟨(Nat.le_of_ble_eq_true rfl), (Nat.le_of_ble_eq_true rfl)⟩ (Nat.le_of_ble_eq_true rfl) dX1_heightOf_6) ⟨(Nat.le_of_ble_eq_true rfl), (Nat.le_of_ble_eq_true rfl)⟩ ?_
    refine k_getN 1 i_X0 q_382 cpo rfl (by decide) rfl dX1_heightOf_9 ?_
    refine k_istore_n 3 [(3, .int (iI q.2.2.2.1)), (0, .ref pt), (1, .ref tb), (2, .int (iI (k : Int)))] dX1_heightOf_12 rfl (by decide) rfl ?_
    refine k_aload_n 2 1 dX1_heightOf_13 rfl rfl ?_
    refine k_iload_n 3 2 dX1_heightOf_14 rfl rfl ?_
    refine k_useR (k_runV (c_X3_heightOf θ.2.1 κ (tb := tb) (k := k) hTb (by omega)) w_X1_42 ⟨q_291, q_292⟩ rfl rfl ctb rfl ⟨(Nat.le_of_ble_eq_true rfl), (Nat.le_of_ble_eq_true rfl)⟩ (Nat.le_of_ble_eq_true rfl) dX1_heightOf_15) ⟨(Nat.le_of_ble_eq_true rfl), (Nat.le_of_ble_eq_true rfl)⟩ ?_
    have hpr := mul_bd (a := h (tm h k)) (b := q.2.2.2.1) (A := 50000) (B := 300) (hb (tm h k)).1 (hb (tm h k)).2 (by omega) (by omega)
    refine k_iload_n 0 3 dX1_heightOf_18 rfl rfl ?_
    refine k_imul dX1_heightOf_19 ?_
    refine k_bipush dX1_heightOf_20 (by decide) ?_
    refine k_idiv dX1_heightOf_22 (inI_mk (by omega) (by omega)) (inI_mk (by omega) (by omega)) (by omega) ?_
    refine k_aload_n 1 0 dX1_heightOf_23 rfl rfl ?_
    refine k_get 2 i_X1 q_391 cpt rfl (by decide) rfl dX1_heightOf_24 ?_
    refine k_iadd dX1_heightOf_27 ?_
    exact k_iret dX1_heightOf_28 rfl (Nat.le_of_ble_eq_true rfl) (Nat.le_of_ble_eq_true rfl) (k_oki (by rw [pH, if_neg (by rw [hhi]; decide)]))
  · refine k_useR (k_runV (c_X1_followOf_t θ.2.1 κ (pt := pt) cpt) w_X1_31 ⟨q_466, q_467⟩ rfl rfl cpt rfl ⟨(Nat.le_of_ble_eq_true rfl), (Nat.le_of_ble_eq_true rfl)⟩ (Nat.le_of_ble_eq_true rfl) dX1_heightOf_6) ⟨(Nat.le_of_ble_eq_true rfl), (Nat.le_of_ble_eq_true rfl)⟩ ?_
    refine k_getN 1 i_X0 q_382 cph rfl (by decide) rfl dX1_heightOf_9 ?_
    refine k_istore_n 3 [(3, .int (iI q.2.1)), (0, .ref pt), (1, .ref tb), (2, .int (iI (k : Int)))] dX1_heightOf_12 rfl (by decide) rfl ?_
    refine k_aload_n 2 1 dX1_heightOf_13 rfl rfl ?_
    refine k_iload_n 3 2 dX1_heightOf_14 rfl rfl ?_
    refine k_useR (k_runV (c_X3_heightOf θ.2.1 κ (tb := tb) (k := k) hTb (by omega)) w_X1_42 ⟨q_291, q_292⟩ rfl rfl ctb rfl ⟨(Nat.le_of_ble_eq_true rfl), (Nat.le_of_ble_eq_true rfl)⟩ (Nat.le_of_ble_eq_true rfl) dX1_heightOf_15) ⟨(Nat.le_of_ble_eq_true rfl), (Nat.le_of_ble_eq_true rfl)⟩ ?_
    have hpr := mul_bd (a := h (tm h k)) (b := q.2.1) (A := 50000) (B := 300) (hb (tm h k)).1 (hb (tm h k)).2 (by omega) (by omega)
    refine k_iload_n 0 3 dX1_heightOf_18 rfl rfl ?_
    refine k_imul dX1_heightOf_19 ?_
    refine k_bipush dX1_heightOf_20 (by decide) ?_
    refine k_idiv dX1_heightOf_22 (inI_mk (by omega) (by omega)) (inI_mk (by omega) (by omega)) (by omega) ?_
    refine k_aload_n 1 0 dX1_heightOf_23 rfl rfl ?_
    refine k_get 2 i_X1 q_391 cpt rfl (by decide) rfl dX1_heightOf_24 ?_
    refine k_iadd dX1_heightOf_27 ?_
    exact k_iret dX1_heightOf_28 rfl (Nat.le_of_ble_eq_true rfl) (Nat.le_of_ble_eq_true rfl) (k_oki (by rw [pH, if_pos hhi]))
set_option maxHeartbeats 4000000 in
set_option maxRecDepth 100000 in
theorem c_X1_isOrderly (la : Launch) (κ : Kx) {L : List Nat} {f : Nat → wE} {pt tb : Nat} {h : Nat → Int} {q : Pt}   (hTb : TblR κ L f tb h) (hP : PortR L f pt q) (hok : PtOk q) : k_M la κ yX1_isOrderly cX1_isOrderly 3 (some .boolean) 4 0 0 [.ref pt, .ref tb] L f (k_ro L f (.int (iI (bI (ord h q))))) := by
  refine k_head RX1 [(0, .ref pt), (1, .ref tb)] rfl (by decide) (Nat.le_of_ble_eq_true rfl) rfl (fun θ hθ hin => ?_)
  have hnn := nW_le h
  obtain ⟨hs, wt, wh, wi, ctb⟩ := hTb.cl
  obtain ⟨ph, po, cpt, cph, cpo⟩ := id hP
  refine k_iconst dX1_isOrderly_0 ?_
  refine k_istore_n 2 [(2, .int (iI 1)), (0, .ref pt), (1, .ref tb)] dX1_isOrderly_1 rfl (by decide) rfl ?_
  have lp2 : ∀ (fuel : Nat) (j : Nat), (j + 1 ≤ nW h ∨ j = 0) → (ordF h q j = true) → nW h - j < fuel → k_G θ κ cX1_isOrderly 3 (some .boolean) RX1 (k_rm 4 0 0) (k_MQ θ κ (k_ro L f (.int (iI (bI (ord h q))))) 0 0) L f 0 0 2 [(0, .ref pt), (1, .ref tb), (2, .int (iI ((j + 1 : Nat) : Int)))] [] := by
    intro fuel
    induction fuel with
    | zero =>
      intro j hj ho hfu
      exact absurd hfu (Nat.not_lt_zero _)
    | succ fuel ih2 =>
      intro j hj ho hfu
      refine k_iload_n 2 2 dX1_isOrderly_2 rfl rfl ?_
      refine k_aload_n 1 1 dX1_isOrderly_3 rfl rfl ?_
      refine k_getN 4 i_X3 q_95 ctb rfl (by decide) rfl dX1_isOrderly_4 ?_
      refine k_icmp_ge 35 dX1_isOrderly_7 (by decide) (inI_mk (by omega) (by omega)) (inI_mk (by omega) (by omega)) (fun h7 => ?_) (fun h7 => ?_)
      · refine k_iconst dX1_isOrderly_35 ?_
        exact k_zret (b := true) dX1_isOrderly_36 rfl (Nat.le_of_ble_eq_true rfl) (Nat.le_of_ble_eq_true rfl) (k_okb (by rw [ord, show nW h - 1 = j by omega, ho]))
      · refine k_aload_n 0 0 dX1_isOrderly_10 rfl rfl ?_
        refine k_aload_n 1 1 dX1_isOrderly_11 rfl rfl ?_
        refine k_iload_n 2 2 dX1_isOrderly_12 rfl rfl ?_
        refine k_useR (k_runV (c_X1_timeOf θ.2.1 κ (k := (j + 1)) (pt := pt) (tb := tb) hTb hP (by omega)) w_X1_51 ⟨q_483, q_484⟩ rfl rfl cpt rfl ⟨(Nat.le_of_ble_eq_true rfl), (Nat.le_of_ble_eq_true rfl)⟩ (Nat.le_of_ble_eq_true rfl) dX1_isOrderly_13) ⟨(Nat.le_of_ble_eq_true rfl), (Nat.le_of_ble_eq_true rfl)⟩ ?_
        refine k_aload_n 0 0 dX1_isOrderly_16 rfl rfl ?_
        refine k_aload_n 1 1 dX1_isOrderly_17 rfl rfl ?_
        refine k_iload_n 2 2 dX1_isOrderly_18 rfl rfl ?_
        refine k_iconst dX1_isOrderly_19 ?_
        refine k_isub dX1_isOrderly_20 ?_
        refine k_topi (j : Int) (by omega) ?_
        refine k_useR (k_runV (c_X1_timeOf θ.2.1 κ (k := j) (pt := pt) (tb := tb) hTb hP (by omega)) w_X1_51 ⟨q_483, q_484⟩ rfl rfl cpt rfl ⟨(Nat.le_of_ble_eq_true rfl), (Nat.le_of_ble_eq_true rfl)⟩ (Nat.le_of_ble_eq_true rfl) dX1_isOrderly_21) ⟨(Nat.le_of_ble_eq_true rfl), (Nat.le_of_ble_eq_true rfl)⟩ ?_
        have hb1 := pT_bd (h := h) hok (k := j) (by omega)
        have hb2 := pT_bd (h := h) hok (k := j + 1) (by omega)
        refine k_icmp_gt 29 dX1_isOrderly_24 (by decide) (inI_mk (by omega) (by omega)) (inI_mk (by omega) (by omega)) (fun h24 => ?_) (fun h24 => ?_)
        · refine k_iinc 2 [(2, .int (iI (((j + 1 : Nat) : Int) + 1))), (0, .ref pt), (1, .ref tb)] dX1_isOrderly_29 rfl (by decide) rfl ?_
          refine k_goto 2 dX1_isOrderly_32 (by decide) ?_
          refine k_perm [1, 2, 0] [(0, .ref pt), (1, .ref tb), (2, .int (iI (((j + 1 : Nat) : Int) + 1)))] rfl ?_
          exact ih2 (j + 1) (Or.inl (by omega)) (by rw [ordF, ho, decide_eq_true (show pT h q j < pT h q (j + 1) by omega)]; rfl) (by omega)
        · refine k_iconst dX1_isOrderly_27 ?_
          exact k_zret (b := false) dX1_isOrderly_28 rfl (Nat.le_of_ble_eq_true rfl) (Nat.le_of_ble_eq_true rfl) (k_okb ((ord_no (j := j) (by omega) (by omega)).symm))
  refine k_perm [1, 2, 0] [(0, .ref pt), (1, .ref tb), (2, .int (iI 1))] rfl ?_
  exact lp2 _ 0 (Or.inr rfl) rfl (Nat.lt_succ_self _)
set_option maxHeartbeats 4000000 in
set_option maxRecDepth 100000 in
theorem c_X1_latestWater (la : Launch) (κ : Kx) {L : List Nat} {f : Nat → wE} {pt tb : Nat} {h : Nat → Int} {q : Pt} {w : Nat} {e t : Int}  (hTb : TblR κ L f tb h) (hP : PortR L f pt q) (hok : PtOk q) (he : e = (w : Int) - 1) (hw : w ≤ nW h) (ht : inI t) : k_M la κ yX1_latestWater cX1_latestWater 6 (some .int) 4 0 0 [.ref pt, .ref tb, .int (iI e), .int (iI t)] L f (k_ro L f (.int (iI (((lat h q t w : Nat) : Int) - 1)))) := by
  refine k_head RX1 [(0, .ref pt), (1, .ref tb), (2, .int (iI e)), (3, .int (iI t))] rfl (by decide) (Nat.le_of_ble_eq_true rfl) rfl (fun θ hθ hin => ?_)
  subst he
  have hnn := nW_le h
  obtain ⟨hs, wt, wh, wi, ctb⟩ := hTb.cl
  obtain ⟨ph, po, cpt, cph, cpo⟩ := id hP
  refine k_iload_n 2 2 dX1_latestWater_0 rfl rfl ?_
  refine k_istore [(4, .int (iI ((w : Int) - 1))), (0, .ref pt), (1, .ref tb), (2, .int (iI ((w : Int) - 1))), (3, .int (iI t))] dX1_latestWater_1 (by decide) rfl ?_
  refine k_iload_n 3 2 dX1_latestWater_3 rfl rfl ?_
  refine k_iconst dX1_latestWater_4 ?_
  refine k_iadd dX1_latestWater_5 ?_
  refine k_topi (w : Int) (by omega) ?_
  refine k_istore [(5, .int (iI (w : Int))), (4, .int (iI ((w : Int) - 1))), (0, .ref pt), (1, .ref tb), (2, .int (iI ((w : Int) - 1))), (3, .int (iI t))] dX1_latestWater_6 (by decide) rfl ?_
  have lp8 : ∀ (fuel : Nat) (x : Nat), (w ≤ x ∧ x ≤ nW h) → (lat h q t x = lat h q t w) → nW h - x < fuel → k_G θ κ cX1_latestWater 6 (some .int) RX1 (k_rm 4 0 0) (k_MQ θ κ (k_ro L f (.int (iI (((lat h q t w : Nat) : Int) - 1)))) 0 0) L f 0 0 8 [(0, .ref pt), (1, .ref tb), (2, .int (iI ((w : Int) - 1))), (3, .int (iI t)), (4, .int (iI ((x : Int) - 1))), (5, .int (iI (x : Int)))] [] := by
    intro fuel
    induction fuel with
    | zero =>
      intro x hx hl hfu
      exact absurd hfu (Nat.not_lt_zero _)
    | succ fuel ih8 =>
      intro x hx hl hfu
      refine k_iload 5 dX1_latestWater_8 rfl ?_
      refine k_aload_n 1 1 dX1_latestWater_10 rfl rfl ?_
      refine k_getN 4 i_X3 q_95 ctb rfl (by decide) rfl dX1_latestWater_11 ?_
      refine k_icmp_ge 41 dX1_latestWater_14 (by decide) (inI_mk (by omega) (by omega)) (inI_mk (by omega) (by omega)) (fun h14 => ?_) (fun h14 => ?_)
      · refine k_iload 4 dX1_latestWater_41 rfl ?_
        exact k_iret dX1_latestWater_43 rfl (Nat.le_of_ble_eq_true rfl) (Nat.le_of_ble_eq_true rfl) (k_oki (by rw [← hl, lat_stop (fun q9 => by omega)]))
      · refine k_aload_n 0 0 dX1_latestWater_17 rfl rfl ?_
        refine k_aload_n 1 1 dX1_latestWater_18 rfl rfl ?_
        refine k_iload 5 dX1_latestWater_19 rfl ?_
        refine k_useR (k_runV (c_X1_timeOf θ.2.1 κ (pt := pt) (tb := tb) (k := x) hTb hP (by omega)) w_X1_51 ⟨q_483, q_484⟩ rfl rfl cpt rfl ⟨(Nat.le_of_ble_eq_true rfl), (Nat.le_of_ble_eq_true rfl)⟩ (Nat.le_of_ble_eq_true rfl) dX1_latestWater_21) ⟨(Nat.le_of_ble_eq_true rfl), (Nat.le_of_ble_eq_true rfl)⟩ ?_
        have hb1 := pT_bd (h := h) hok (k := x) (by omega)
        refine k_iload_n 3 3 dX1_latestWater_24 rfl rfl ?_
        refine k_icmp_le 31 dX1_latestWater_25 (by decide) (inI_mk (by omega) (by omega)) ht (fun h25 => ?_) (fun h25 => ?_)
        · refine k_iload 5 dX1_latestWater_31 rfl ?_
          refine k_topi (((x + 1 : Nat) : Int) - 1) (by omega) ?_
          refine k_istore [(4, .int (iI (((x + 1 : Nat) : Int) - 1))), (0, .ref pt), (1, .ref tb), (2, .int (iI ((w : Int) - 1))), (3, .int (iI t)), (5, .int (iI (x : Int)))] dX1_latestWater_33 (by decide) rfl ?_
          refine k_iinc 5 [(5, .int (iI ((x : Int) + 1))), (4, .int (iI (((x + 1 : Nat) : Int) - 1))), (0, .ref pt), (1, .ref tb), (2, .int (iI ((w : Int) - 1))), (3, .int (iI t))] dX1_latestWater_35 rfl (by decide) rfl ?_
          refine k_goto 8 dX1_latestWater_38 (by decide) ?_
          refine k_perm [2, 3, 4, 5, 1, 0] [(0, .ref pt), (1, .ref tb), (2, .int (iI ((w : Int) - 1))), (3, .int (iI t)), (4, .int (iI (((x + 1 : Nat) : Int) - 1))), (5, .int (iI ((x : Int) + 1)))] rfl ?_
          exact ih8 (x + 1) ⟨by omega, by omega⟩ ((lat_go (by omega) (by omega)).symm.trans hl) (by omega)
        · refine k_goto 41 dX1_latestWater_28 (by decide) ?_
          refine k_iload 4 dX1_latestWater_41 rfl ?_
          exact k_iret dX1_latestWater_43 rfl (Nat.le_of_ble_eq_true rfl) (Nat.le_of_ble_eq_true rfl) (k_oki (by rw [← hl, lat_stop (fun q9 => by omega)]))
  refine k_perm [2, 3, 4, 5, 1, 0] [(0, .ref pt), (1, .ref tb), (2, .int (iI ((w : Int) - 1))), (3, .int (iI t)), (4, .int (iI ((w : Int) - 1))), (5, .int (iI (w : Int)))] rfl ?_
  exact lp8 _ w ⟨Nat.le_refl _, hw⟩ rfl (Nat.lt_succ_self _)
set_option maxHeartbeats 4000000 in
set_option maxRecDepth 100000 in
theorem c_X1_twelfthsGone (la : Launch) (κ : Kx) {L : List Nat} {f : Nat → wE} {e d : Int}   (h0 : 0 ≤ e) (h1 : e < d) (h2 : d ≤ 10000) : k_M la κ yX1_twelfthsGone cX1_twelfthsGone 5 (some .long) 2 0 0 [.long (lI e), .long (lI d)] L f (k_ro L f (.long (lI (gone e d)))) := by
  refine k_head RX1 [(0, .long (lI e)), (2, .long (lI d))] rfl (by decide) (Nat.le_of_ble_eq_true rfl) rfl (fun θ hθ hin => ?_)
  obtain ⟨s1, s2, s3, s4⟩ := sx_bd h0 h1
  refine k_ldc2 6 q_521 (by decide) dX1_twelfthsGone_0 ?_
  refine k_lload_n 0 0 dX1_twelfthsGone_3 rfl rfl ?_
  refine k_lmul dX1_twelfthsGone_4 ?_
  refine k_lload_n 1 2 dX1_twelfthsGone_5 rfl rfl ?_
  refine k_useR (k_runSN (c_X7_quotient θ.2.1 κ (a := (6 * e)) (b := d) (inL_mk (by omega) (by omega)) (inL_mk (by omega) (by omega))) w_X1_62 q_338 rfl rfl ⟨(Nat.le_of_ble_eq_true rfl), (Nat.le_of_ble_eq_true rfl)⟩ (Nat.le_of_ble_eq_true rfl) dX1_twelfthsGone_6) ⟨(Nat.le_of_ble_eq_true rfl), (Nat.le_of_ble_eq_true rfl)⟩ ?_
  obtain ⟨sx, hsx⟩ : ∃ sx : Nat, (6 * e).tdiv d = (sx : Int) := ⟨((6 * e).tdiv d).toNat, by omega⟩
  have h6 : sx < 6 := by omega
  obtain ⟨g1, g2⟩ := tw_get h6
  have g3 := twA_bd (sx : Int)
  have g4 := twI_bd (sx : Int)
  refine k_topl (sx : Int) (by rw [if_neg (by omega)]; exact hsx) ?_
  refine k_l2i dX1_twelfthsGone_9 ?_
  refine k_istore [(4, .int (iI (sx : Int))), (0, .long (lI e)), (2, .long (lI d))] dX1_twelfthsGone_10 (by decide) rfl ?_
  refine k_iload 0 dX1_twelfthsGone_12 rfl ?_
  refine k_if_lt 35 dX1_twelfthsGone_14 (by decide) (inI_mk (by omega) (by omega)) (fun h14 => ?_) (fun h14 => ?_)
  · omega
  · refine k_iload 0 dX1_twelfthsGone_17 rfl ?_
    refine k_getsN k_Zs0 q_523 dX1_twelfthsGone_19 ?_
    refine k_tlen k_Zs0 dX1_twelfthsGone_22 ?_
    refine k_icmp_ge 35 dX1_twelfthsGone_23 (by decide) (inI_mk (by omega) (by omega)) (inI_mk (by omega) (by omega)) (fun h23 => ?_) (fun h23 => ?_)
    · omega
    · refine k_iload 0 dX1_twelfthsGone_26 rfl ?_
      refine k_getsN k_Zs1 q_525 dX1_twelfthsGone_28 ?_
      refine k_tlen k_Zs1 dX1_twelfthsGone_31 ?_
      refine k_icmp_lt 37 dX1_twelfthsGone_32 (by decide) (inI_mk (by omega) (by omega)) (inI_mk (by omega) (by omega)) (fun h32 => ?_) (fun h32 => ?_)
      · refine k_getsN k_Zs1 q_525 dX1_twelfthsGone_37 ?_
        refine k_iload 0 dX1_twelfthsGone_40 rfl ?_
        refine k_ti k_Zs1 sx rfl (by omega) dX1_twelfthsGone_42 ?_
        refine k_i2l dX1_twelfthsGone_43 (inI_mk (by omega) (by omega)) ?_
        refine k_lload_n 2 2 dX1_twelfthsGone_44 rfl rfl ?_
        refine k_lmul dX1_twelfthsGone_45 ?_
        refine k_getsN k_Zs0 q_523 dX1_twelfthsGone_46 ?_
        refine k_iload 0 dX1_twelfthsGone_49 rfl ?_
        refine k_ti k_Zs0 sx rfl (by omega) dX1_twelfthsGone_51 ?_
        refine k_i2l dX1_twelfthsGone_52 (inI_mk (by omega) (by omega)) ?_
        refine k_ldc2 6 q_521 (by decide) dX1_twelfthsGone_53 ?_
        refine k_lload_n 1 0 dX1_twelfthsGone_56 rfl rfl ?_
        refine k_lmul dX1_twelfthsGone_57 ?_
        refine k_iload 0 dX1_twelfthsGone_58 rfl ?_
        refine k_i2l dX1_twelfthsGone_60 (inI_mk (by omega) (by omega)) ?_
        refine k_lload_n 2 2 dX1_twelfthsGone_61 rfl rfl ?_
        refine k_lmul dX1_twelfthsGone_62 ?_
        refine k_lsub dX1_twelfthsGone_63 ?_
        refine k_lmul dX1_twelfthsGone_64 ?_
        refine k_ladd dX1_twelfthsGone_65 ?_
        exact k_lret dX1_twelfthsGone_66 rfl (Nat.le_of_ble_eq_true rfl) (Nat.le_of_ble_eq_true rfl) (k_okl (by rw [gone, hsx, g1, g2]))
      · omega
set_option maxHeartbeats 4000000 in
set_option maxRecDepth 100000 in
theorem c_X1_heightBehind (la : Launch) (κ : Kx) {L : List Nat} {f : Nat → wE} {pt tb : Nat} {h : Nat → Int} {q : Pt} {k : Nat} {t : Int}  (hTb : TblR κ L f tb h) (hP : PortR L f pt q) (hb : ∀ t, -50000 ≤ h t ∧ h t ≤ 50000) (hok : PtOk q) (hk : k + 1 < nW h) (ht1 : pT h q k ≤ t) (ht2 : t < pT h q (k + 1)) : k_M la κ yX1_heightBehind cX1_heightBehind 14 (some .int) 4 0 0 [.ref pt, .ref tb, .int (iI (k : Int)), .int (iI t)] L f (k_ro L f (.int (iI (btw h q (k + 1) t)))) := by
  refine k_head RX1 [(0, .ref pt), (1, .ref tb), (2, .int (iI (k : Int))), (3, .int (iI t))] rfl (by decide) (Nat.le_of_ble_eq_true rfl) rfl (fun θ hθ hin => ?_)
  have hnn := nW_le h
  obtain ⟨hs, wt, wh, wi, ctb⟩ := hTb.cl
  obtain ⟨ph, po, cpt, cph, cpo⟩ := id hP
  have bt1 := pT_bd (h := h) hok (k := k) (by omega)
  have bt2 := pT_bd (h := h) hok (k := k + 1) (by omega)
  have bh1 := pH_bd (h := h) hok hb k
  have bh2 := pH_bd (h := h) hok hb (k + 1)
  have bw := btw_bd (h := h) hok hb hk ht1 ht2
  refine k_aload_n 0 0 dX1_heightBehind_0 rfl rfl ?_
  refine k_aload_n 1 1 dX1_heightBehind_1 rfl rfl ?_
  refine k_iload_n 2 2 dX1_heightBehind_2 rfl rfl ?_
  refine k_useR (k_runV (c_X1_timeOf θ.2.1 κ (k := k) (pt := pt) (tb := tb) hTb hP (by omega)) w_X1_51 ⟨q_483, q_484⟩ rfl rfl cpt rfl ⟨(Nat.le_of_ble_eq_true rfl), (Nat.le_of_ble_eq_true rfl)⟩ (Nat.le_of_ble_eq_true rfl) dX1_heightBehind_3) ⟨(Nat.le_of_ble_eq_true rfl), (Nat.le_of_ble_eq_true rfl)⟩ ?_
  refine k_i2l dX1_heightBehind_6 (inI_mk (by omega) (by omega)) ?_
  refine k_lstore [(4, .long (lI (pT h q k))), (0, .ref pt), (1, .ref tb), (2, .int (iI (k : Int))), (3, .int (iI t))] dX1_heightBehind_7 (by decide) rfl ?_
  refine k_aload_n 1 0 dX1_heightBehind_9 rfl rfl ?_
  refine k_aload_n 2 1 dX1_heightBehind_10 rfl rfl ?_
  refine k_iload_n 3 2 dX1_heightBehind_11 rfl rfl ?_
  refine k_iconst dX1_heightBehind_12 ?_
  refine k_iadd dX1_heightBehind_13 ?_
  refine k_topi ((k + 1 : Nat) : Int) (by omega) ?_
  refine k_useR (k_runV (c_X1_timeOf θ.2.1 κ (k := (k + 1)) (pt := pt) (tb := tb) hTb hP (by omega)) w_X1_51 ⟨q_483, q_484⟩ rfl rfl cpt rfl ⟨(Nat.le_of_ble_eq_true rfl), (Nat.le_of_ble_eq_true rfl)⟩ (Nat.le_of_ble_eq_true rfl) dX1_heightBehind_14) ⟨(Nat.le_of_ble_eq_true rfl), (Nat.le_of_ble_eq_true rfl)⟩ ?_
  refine k_i2l dX1_heightBehind_17 (inI_mk (by omega) (by omega)) ?_
  refine k_lload 0 dX1_heightBehind_18 rfl ?_
  refine k_lsub dX1_heightBehind_20 ?_
  refine k_lstore [(6, .long (lI (pT h q (k + 1) - pT h q k))), (4, .long (lI (pT h q k))), (0, .ref pt), (1, .ref tb), (2, .int (iI (k : Int))), (3, .int (iI t))] dX1_heightBehind_21 (by decide) rfl ?_
  refine k_aload_n 2 0 dX1_heightBehind_23 rfl rfl ?_
  refine k_aload_n 3 1 dX1_heightBehind_24 rfl rfl ?_
  refine k_iload_n 4 2 dX1_heightBehind_25 rfl rfl ?_
  refine k_useR (k_runV (c_X1_heightOf θ.2.1 κ (k := k) (pt := pt) (tb := tb) hTb hP (by omega) hb hok) w_X1_54 ⟨q_495, q_496⟩ rfl rfl cpt rfl ⟨(Nat.le_of_ble_eq_true rfl), (Nat.le_of_ble_eq_true rfl)⟩ (Nat.le_of_ble_eq_true rfl) dX1_heightBehind_26) ⟨(Nat.le_of_ble_eq_true rfl), (Nat.le_of_ble_eq_true rfl)⟩ ?_
  refine k_i2l dX1_heightBehind_29 (inI_mk (by omega) (by omega)) ?_
  refine k_lstore [(8, .long (lI (pH h q k))), (6, .long (lI (pT h q (k + 1) - pT h q k))), (4, .long (lI (pT h q k))), (0, .ref pt), (1, .ref tb), (2, .int (iI (k : Int))), (3, .int (iI t))] dX1_heightBehind_30 (by decide) rfl ?_
  refine k_aload_n 3 0 dX1_heightBehind_32 rfl rfl ?_
  refine k_aload_n 4 1 dX1_heightBehind_33 rfl rfl ?_
  refine k_iload_n 5 2 dX1_heightBehind_34 rfl rfl ?_
  refine k_iconst dX1_heightBehind_35 ?_
  refine k_iadd dX1_heightBehind_36 ?_
  refine k_topi ((k + 1 : Nat) : Int) (by omega) ?_
  refine k_useR (k_runV (c_X1_heightOf θ.2.1 κ (k := (k + 1)) (pt := pt) (tb := tb) hTb hP (by omega) hb hok) w_X1_54 ⟨q_495, q_496⟩ rfl rfl cpt rfl ⟨(Nat.le_of_ble_eq_true rfl), (Nat.le_of_ble_eq_true rfl)⟩ (Nat.le_of_ble_eq_true rfl) dX1_heightBehind_37) ⟨(Nat.le_of_ble_eq_true rfl), (Nat.le_of_ble_eq_true rfl)⟩ ?_
  refine k_i2l dX1_heightBehind_40 (inI_mk (by omega) (by omega)) ?_
  refine k_lload 0 dX1_heightBehind_41 rfl ?_
  refine k_lsub dX1_heightBehind_43 ?_
  refine k_lstore [(10, .long (lI (pH h q (k + 1) - pH h q k))), (8, .long (lI (pH h q k))), (6, .long (lI (pT h q (k + 1) - pT h q k))), (4, .long (lI (pT h q k))), (0, .ref pt), (1, .ref tb), (2, .int (iI (k : Int))), (3, .int (iI t))] dX1_heightBehind_44 (by decide) rfl ?_
  refine k_iload_n 7 3 dX1_heightBehind_46 rfl rfl ?_
  refine k_i2l dX1_heightBehind_47 (inI_mk (by omega) (by omega)) ?_
  refine k_lload 3 dX1_heightBehind_48 rfl ?_
  refine k_lsub dX1_heightBehind_50 ?_
  refine k_lload 2 dX1_heightBehind_51 rfl ?_
  refine k_useR (k_runS (c_X1_twelfthsGone θ.2.1 κ (e := (t - pT h q k)) (d := (pT h q (k + 1) - pT h q k)) (by omega) (by omega) (by omega)) w_X1_56 q_519 rfl rfl ⟨(Nat.le_of_ble_eq_true rfl), (Nat.le_of_ble_eq_true rfl)⟩ (Nat.le_of_ble_eq_true rfl) dX1_heightBehind_53) ⟨(Nat.le_of_ble_eq_true rfl), (Nat.le_of_ble_eq_true rfl)⟩ ?_
  refine k_lstore [(12, .long (lI (gone (t - pT h q k) (pT h q (k + 1) - pT h q k)))), (10, .long (lI (pH h q (k + 1) - pH h q k))), (8, .long (lI (pH h q k))), (6, .long (lI (pT h q (k + 1) - pT h q k))), (4, .long (lI (pT h q k))), (0, .ref pt), (1, .ref tb), (2, .int (iI (k : Int))), (3, .int (iI t))] dX1_heightBehind_56 (by decide) rfl ?_
  refine k_lload 2 dX1_heightBehind_58 rfl ?_
  refine k_lload 1 dX1_heightBehind_60 rfl ?_
  refine k_lload 0 dX1_heightBehind_62 rfl ?_
  refine k_lmul dX1_heightBehind_64 ?_
  refine k_ldc2 12 q_527 (by decide) dX1_heightBehind_65 ?_
  refine k_lload 3 dX1_heightBehind_68 rfl ?_
  refine k_lmul dX1_heightBehind_70 ?_
  refine k_useR (k_runSN (c_X7_quotient θ.2.1 κ (a := ((pH h q (k + 1) - pH h q k) * gone (t - pT h q k) (pT h q (k + 1) - pT h q k))) (b := (12 * (pT h q (k + 1) - pT h q k))) (inL_mk (by omega) (by omega)) (inL_mk (by omega) (by omega))) w_X1_62 q_338 rfl rfl ⟨(Nat.le_of_ble_eq_true rfl), (Nat.le_of_ble_eq_true rfl)⟩ (Nat.le_of_ble_eq_true rfl) dX1_heightBehind_71) ⟨(Nat.le_of_ble_eq_true rfl), (Nat.le_of_ble_eq_true rfl)⟩ ?_
  refine k_ladd dX1_heightBehind_74 ?_
  refine k_l2i dX1_heightBehind_75 ?_
  exact k_iret dX1_heightBehind_76 rfl (Nat.le_of_ble_eq_true rfl) (Nat.le_of_ble_eq_true rfl) (k_oki (by rw [if_neg (by omega)]; rfl))
set_option maxHeartbeats 4000000 in
set_option maxRecDepth 100000 in
theorem c_X1_init (la : Launch) (κ : Kx) {L : List Nat} {f : Nat → wE} {pt : Nat} (cpt : Cl L f pt (15, .inr (2, [.null, .null, .int (iI 0)])))   : k_M la κ yX1_init cX1_init 1 none 2 2 4 [.ref pt] L f (k_ru (fun L' f' => (∃ ph po : Nat, ph ∉ L ∧ po ∉ L ∧ Cl L' f' pt (15, .inr (2, [.ref ph, .ref po, .int (iI 0)])) ∧ Cl L' f' ph (16, .inr (1, [.int (iI 0), .int (iI 100)])) ∧ Cl L' f' po (17, .inr (1, [.int (iI 0), .int (iI 100)]))) ∧ k_on pt L f L' f')) := by
  refine k_head RX1 [(0, .ref pt)] rfl (by decide) (Nat.le_of_ble_eq_true rfl) rfl (fun θ hθ hin => ?_)
  refine k_aload_n 0 0 dX1_init_0 rfl rfl ?_
  refine k_objInit q_372 q_42 q_43 (Nat.le_of_ble_eq_true rfl) (Nat.le_of_ble_eq_true rfl) dX1_init_1 ?_
  refine k_aload_n 0 0 dX1_init_4 rfl rfl ?_
  refine k_new (ci := 1) 16 [.int (iI 0), .int (iI 0)] i_X0 tyX0_ok q_373 q_374 q_31 rfl dv_X0 (Nat.le_of_ble_eq_true rfl) (Nat.le_of_ble_eq_true rfl) dX1_init_5 (fun ph L1 f1 hz1 hn1 hc1 => ?_)
  have hr1 := k_fr.new hz1
  replace cpt := cpt.fr hr1 rfl
  have cPh : Cl L1 f1 ph (16, .inr (1, [.int (iI 0), .int (iI 0)])) := hc1
  refine k_dup dX1_init_8 rfl ?_
  refine k_useU (k_runIN (c_X0_init θ.2.1 κ (fo := ph) cPh) w_X1_11 q_376 rfl rfl rfl ⟨(Nat.le_of_ble_eq_true rfl), (Nat.le_of_ble_eq_true rfl)⟩ (Nat.le_of_ble_eq_true rfl) dX1_init_9) ⟨(Nat.le_of_ble_eq_true rfl), (Nat.le_of_ble_eq_true rfl)⟩ (fun Lfph fph hw => ?_)
  obtain ⟨efph, hnfph, cfph⟩ := hw
  replace efph := efph.symm
  subst efph
  have hrfph := k_fr.put hnfph cPh
  replace cpt := cpt.fr hrfph rfl
  replace cPh := cfph
  have hkfph := k_new2 hz1 hn1 hnfph
  refine k_putF 0 [.ref ph, .null, .int (iI 0)] i_X1 tyX1_ok nmX1 q_389 cpt rfl (by decide) rfl (hin rfl) rfl rfl rfl rfl (Nat.le_of_ble_eq_true rfl) rfl dX1_init_12 (fun f2 hf2 hc2 => ?_)
  have hr2 := k_fr.put hf2 cpt
  replace cPh := cPh.fr hr2 rfl
  replace cpt : Cl L1 f2 pt (15, .inr (2, [.ref ph, .null, .int (iI 0)])) := hc2
  refine k_aload_n 0 0 dX1_init_15 rfl rfl ?_
  refine k_new (ci := 1) 17 [.int (iI 0), .int (iI 0)] i_X0 tyX0_ok q_373 q_374 q_31 rfl dv_X0 (Nat.le_of_ble_eq_true rfl) (Nat.le_of_ble_eq_true rfl) dX1_init_16 (fun po L3 f3 hz3 hn3 hc3 => ?_)
  have hr3 := k_fr.new hz3
  replace cpt := cpt.fr hr3 rfl
  replace cPh := cPh.fr hr3 rfl
  have cPo : Cl L3 f3 po (17, .inr (1, [.int (iI 0), .int (iI 0)])) := hc3
  refine k_dup dX1_init_19 rfl ?_
  refine k_useU (k_runIN (c_X0_init θ.2.1 κ (fo := po) cPo) w_X1_11 q_376 rfl rfl rfl ⟨(Nat.le_of_ble_eq_true rfl), (Nat.le_of_ble_eq_true rfl)⟩ (Nat.le_of_ble_eq_true rfl) dX1_init_20) ⟨(Nat.le_of_ble_eq_true rfl), (Nat.le_of_ble_eq_true rfl)⟩ (fun Lfpo fpo hw => ?_)
  obtain ⟨efpo, hnfpo, cfpo⟩ := hw
  replace efpo := efpo.symm
  subst efpo
  have hrfpo := k_fr.put hnfpo cPo
  replace cpt := cpt.fr hrfpo rfl
  replace cPh := cPh.fr hrfpo rfl
  replace cPo := cfpo
  have hkfpo := k_new2 hz3 hn3 hnfpo
  refine k_putF 1 [.ref ph, .ref po, .int (iI 0)] i_X1 tyX1_ok nmX1 q_390 cpt rfl (by decide) rfl (hin rfl) rfl rfl rfl rfl (Nat.le_of_ble_eq_true rfl) rfl dX1_init_23 (fun f4 hf4 hc4 => ?_)
  have hr4 := k_fr.put hf4 cpt
  replace cPh := cPh.fr hr4 rfl
  replace cPo := cPo.fr hr4 rfl
  replace cpt : Cl L3 f4 pt (15, .inr (2, [.ref ph, .ref po, .int (iI 0)])) := hc4
  have hall := (k_on.trans (k_on.trans (k_on.trans (k_on.ofF hkfph) (k_on.put hf2)) (k_on.ofF hkfpo)) (k_on.put hf4))
  exact k_vret dX1_init_26 rfl (Nat.le_of_ble_eq_true rfl) (Nat.le_of_ble_eq_true rfl) (⟨rfl, ⟨ph, po, hn1, fun hx => hn3 ((hz1 po hx).1), cpt, cPh, cPo⟩, hall⟩)
end
section
/-! ===== the class's whole state ===== -/
abbrev Sg : Type := Td × Nat × (Nat → Pt) × Rd
def SgOk (σ : Sg) : Prop := TdOk σ.1 ∧ (σ.2.1 ≤ 6 ∧ ∀ i, i < σ.2.1 → PtOk (σ.2.2.1 i)) ∧ RdOk σ.2.2.2
def PortsR (κ : Kx) (L : List Nat) (f : Nat → wE) (pl n : Nat) (qs : Nat → Pt) : Prop := ∃ pv hv ov : Nat → Nat, ListR κ L f pl 4 12 n pv ∧ (∀ i, i < n → Cl L f (pv i) (15, .inr (2, [.ref (hv i), .ref (ov i), .int (iI (qs i).2.2.2.2)])) ∧ Cl L f (hv i) (16, .inr (1, [.int (iI (qs i).1), .int (iI (qs i).2.1)])) ∧ Cl L f (ov i) (17, .inr (1, [.int (iI (qs i).2.2.1), .int (iI (qs i).2.2.2.1)]))) ∧ (∀ i j, i < n → j < n → i ≠ j → pv i ≠ pv j ∧ hv i ≠ hv j ∧ ov i ≠ ov j)
theorem PortsR.fr {κ : Kx} {L L' : List Nat} {f f' : Nat → wE} {pl n : Nat} {qs : Nat → Pt} {S : Nat → Bool} (h : PortsR κ L f pl n qs) (hf : k_fr S L f L' f') (hS : (S 4 || (S 12 || (S 15 || (S 16 || S 17)))) = false) : PortsR κ L' f' pl n qs := by
  obtain ⟨pv, hv, ov, h1, h2, h3⟩ := h
  simp only [Bool.or_eq_false_iff] at hS
  obtain ⟨s1, s2, s3, s4, s5⟩ := hS
  exact ⟨pv, hv, ov, h1.fr hf (by rw [s1, s2]; rfl), fun i hi => ⟨(h2 i hi).1.fr hf s3, (h2 i hi).2.1.fr hf s4, (h2 i hi).2.2.fr hf s5⟩, h3⟩
def ReadsR (κ : Kx) (L : List Nat) (f : Nat → wE) (rl : Nat) (ρ : Rd) : Prop := ∃ rv : Nat → Nat, ListR κ L f rl 5 13 ρ.1 rv ∧ ∀ i, i < ρ.1 → Cl L f (rv i) (18, .inr (3, [.int (iI (ρ.2.1 i : Int)), .int (iI (ρ.2.2 i))]))
theorem ReadsR.fr {κ : Kx} {L L' : List Nat} {f f' : Nat → wE} {rl : Nat} {ρ : Rd} {S : Nat → Bool} (h : ReadsR κ L f rl ρ) (hf : k_fr S L f L' f') (hS : (S 5 || (S 13 || S 18)) = false) : ReadsR κ L' f' rl ρ := by
  obtain ⟨rv, h1, h2⟩ := h
  simp only [Bool.or_eq_false_iff] at hS
  obtain ⟨s1, s2, s3⟩ := hS
  exact ⟨rv, h1.fr hf (by rw [s1, s2]; rfl), fun i hi => (h2 i hi).fr hf s3⟩
def CSF (κ : Kx) (L : List Nat) (f : Nat → wE) (tt td tb pl rl : Nat) (old : Bool) (σ : Sg) : Prop := Cl L f tt (1, .inr (8, [.ref td, .ref tb, .ref pl, .ref rl, .int (iI (bI old))])) ∧ TideR κ L f td σ.1 ∧ (TblX κ L f tb ∧ (old = false → TblR κ L f tb (hT σ.1))) ∧ PortsR κ L f pl σ.2.1 σ.2.2.1 ∧ ReadsR κ L f rl σ.2.2.2
theorem CSF.fr {κ : Kx} {L L' : List Nat} {f f' : Nat → wE} {tt td tb pl rl : Nat} {old : Bool} {σ : Sg} {S : Nat → Bool} (h : CSF κ L f tt td tb pl rl old σ) (hf : k_fr S L f L' f') (hS : (S 1 || (S 2 || (S 3 || (S 4 || (S 5 || (S 6 || (S 7 || (S 8 || (S 9 || (S 10 || (S 11 || (S 12 || (S 13 || (S 14 || (S 15 || (S 16 || (S 17 || (S 18)))))))))))))))))) = false) : CSF κ L' f' tt td tb pl rl old σ := by
  obtain ⟨h1, h2, h3, h4, h5⟩ := h
  simp only [Bool.or_eq_false_iff] at hS
  obtain ⟨s1, s2, s3, s4, s5, s6, s7, s8, s9, s10, s11, s12, s13, s14, s15, s16, s17, s18⟩ := hS
  exact ⟨h1.fr hf s1, h2.fr hf (by rw [s2, s6, s11, s14]; rfl), ⟨h3.1.fr hf (by rw [s3, s7, s8, s9, s10]; rfl), fun e => (h3.2 e).fr hf (by rw [s3, s7, s8, s9, s10]; rfl)⟩, h4.fr hf (by rw [s4, s12, s15, s16, s17]; rfl), h5.fr hf (by rw [s5, s13, s18]; rfl)⟩
def CS (κ : Kx) (L : List Nat) (f : Nat → wE) (tt : Nat) (σ : Sg) : Prop := ∃ (td tb pl rl : Nat) (old : Bool), CSF κ L f tt td tb pl rl old σ
theorem CS.fr {κ : Kx} {L L' : List Nat} {f f' : Nat → wE} {tt : Nat} {σ : Sg} {S : Nat → Bool} (h : CS κ L f tt σ) (hf : k_fr S L f L' f') (hS : (S 1 || (S 2 || (S 3 || (S 4 || (S 5 || (S 6 || (S 7 || (S 8 || (S 9 || (S 10 || (S 11 || (S 12 || (S 13 || (S 14 || (S 15 || (S 16 || (S 17 || (S 18)))))))))))))))))) = false) : CS κ L' f' tt σ := by
  obtain ⟨td, tb, pl, rl, old, h1⟩ := h
  exact ⟨td, tb, pl, rl, old, h1.fr hf hS⟩
theorem CSF.cs {κ : Kx} {L : List Nat} {f : Nat → wE} {tt td tb pl rl : Nat} {old : Bool} {σ : Sg} (h : CSF κ L f tt td tb pl rl old σ) : CS κ L f tt σ := ⟨td, tb, pl, rl, old, h⟩
def SC (v : Nat) : Bool := Nat.ble v 19
theorem SC_of {t : Nat} (ht : Nat.ble t 19 = true) : ∀ v, SC v = false → (v == t) = false := fun v h => beq_false_of_ne (fun e => by subst e; rw [SC, ht] at h; exact Bool.noConfusion h)
theorem SC_ST : ∀ v, SC v = false → ST v = false := fun v h => by
  unfold ST
  rw [SC_of rfl v h, SC_of (t := 7) rfl v h, SC_of (t := 8) rfl v h, SC_of (t := 9) rfl v h, SC_of (t := 10) rfl v h]
  rfl
def SU (v : Nat) : Bool := v == 1 || ST v
theorem SU_1 : ∀ v, SU v = false → (v == 1) = false := fun v h => (Bool.or_eq_false_iff.mp h).1
theorem SU_ST : ∀ v, SU v = false → ST v = false := fun v h => (Bool.or_eq_false_iff.mp h).2
theorem SC_SU : ∀ v, SC v = false → SU v = false := fun v h => by
  unfold SU
  rw [SC_of (t := 1) rfl v h, SC_ST v h]
  rfl
theorem SC_S2 {a b : Nat} (ha : Nat.ble a 19 = true) (hb : Nat.ble b 19 = true) : ∀ v, SC v = false → S2 a b v = false := fun v h => by
  unfold S2
  rw [SC_of ha v h, SC_of hb v h]
  rfl
/-- the number that count, or the checksum, asks for -/
def numS (σ : Sg) (what : Int) : Int := if what = 0 then (σ.1.2.1 : Int) else if what = 1 then (nW (hT σ.1) : Int) else if what = 2 then (σ.2.1 : Int) else (σ.2.2.2.1 : Int)
theorem wAt_spec {h : Nat → Int} {q : Pt} {a : Nat} : ∀ m : Nat, wAt h q a m ≤ nW h ∧ ∀ y, y < wAt h q a m → pT h q y < ((a + m : Nat) : Int)
  | 0 => ⟨Nat.zero_le _, fun y hy => absurd hy (Nat.not_lt_zero _)⟩
  | m + 1 => by
    obtain ⟨h1, h2⟩ := wAt_spec (h := h) (q := q) (a := a) m
    obtain ⟨a1, a2, a3, a4⟩ := lat_spec (h := h) (q := q) (t := ((a + m : Nat) : Int)) h1
    rw [wAt]
    refine ⟨a2, fun y hy => ?_⟩
    rcases Nat.lt_or_ge y (wAt h q a m) with e | e
    · have := h2 y e
      omega
    · have := a3 y e hy
      omega
theorem wAt_end {h : Nat → Int} {q : Pt} {a m : Nat} (e : wAt h q a (m + 1) < nW h) : ((a + m : Nat) : Int) < pT h q (wAt h q a (m + 1)) := by
  obtain ⟨h1, h2⟩ := wAt_spec (h := h) (q := q) (a := a) m
  obtain ⟨a1, a2, a3, a4⟩ := lat_spec (h := h) (q := q) (t := ((a + m : Nat) : Int)) h1
  rw [wAt] at e ⊢
  exact Int.not_le.mp (fun hx => a4 ⟨e, hx⟩)
theorem tlC_in {h : Nat → Int} {lev : Int} {a : Nat} : ∀ m : Nat, a + m ≤ 4320 → TlIn (m : Int) (tlC h lev a m)
  | 0, _ => by
    rw [tlC]
    exact ⟨⟨by decide, by decide⟩, ⟨by decide, by decide⟩, by decide, by decide⟩
  | m + 1, hm => by
    have h1 := tlC_in (h := h) (lev := lev) (a := a) m (by omega)
    rw [tlC]
    exact tlS_in h1 (by omega) (by omega)
theorem tlP_in {h : Nat → Int} {q : Pt} {lev : Int} {a : Nat} : ∀ m : Nat, a + m ≤ 4320 → TlIn (m : Int) (tlP h q lev a m)
  | 0, _ => by
    rw [tlP]
    exact ⟨⟨by decide, by decide⟩, ⟨by decide, by decide⟩, by decide, by decide⟩
  | m + 1, hm => by
    have h1 := tlP_in (h := h) (q := q) (lev := lev) (a := a) m (by omega)
    rw [tlP]
    exact tlS_in h1 (by omega) (by omega)
theorem dif_bd {τ : Td} {ρ : Rd} (ht : TdOk τ) (hr : RdOk ρ) {i : Nat} (hi : i < ρ.1) : -100000 ≤ dif (hT τ) ρ i ∧ dif (hT τ) ρ i ≤ 100000 := by
  have h1 := hr.2 i hi
  have h2 := hT_bd ht (ρ.2.1 i)
  unfold dif
  omega
theorem sumD_bd {τ : Td} {ρ : Rd} (ht : TdOk τ) (hr : RdOk ρ) : ∀ n : Nat, n ≤ ρ.1 → -100000 * (n : Int) ≤ sumD (hT τ) ρ n ∧ sumD (hT τ) ρ n ≤ 100000 * (n : Int)
  | 0, _ => by
    simp only [sumD]
    omega
  | n + 1, hn => by
    have h1 := sumD_bd ht hr n (by omega)
    have h2 := dif_bd ht hr (i := n) (by omega)
    simp only [sumD]
    omega
def WI (h : Nat → Int) (ρ : Rd) (i : Nat) (w b : Int) : Prop := w = wst h ρ i ∧ ((w = -1 ∧ b = -1) ∨ ((0 ≤ w ∧ w < (i : Int)) ∧ b = ((dif h ρ w.toNat).natAbs : Int)))
theorem WI.pos {h : Nat → Int} {ρ : Rd} {i : Nat} {w b : Int} (H : WI h ρ i w b) (hl : b < ((dif h ρ i).natAbs : Int)) : WI h ρ (i + 1) (i : Int) ((dif h ρ i).natAbs : Int) := by
  obtain ⟨h1, h2⟩ := H
  refine ⟨?_, Or.inr ⟨⟨by omega, by omega⟩, rfl⟩⟩
  rw [wst, if_pos]
  rw [← h1]
  rcases h2 with ⟨a, c⟩ | ⟨a, c⟩
  · exact Or.inl a
  · exact Or.inr (by omega)
theorem WI.neg {h : Nat → Int} {ρ : Rd} {i : Nat} {w b : Int} (H : WI h ρ i w b) (hl : ((dif h ρ i).natAbs : Int) ≤ b) : WI h ρ (i + 1) w b := by
  obtain ⟨h1, h2⟩ := H
  rcases h2 with ⟨a, c⟩ | ⟨a, c⟩
  · omega
  · refine ⟨?_, Or.inr ⟨⟨by omega, by omega⟩, c⟩⟩
    rw [wst, if_neg, ← h1]
    rw [← h1]
    intro q
    omega
def mixN (σ : Sg) : Nat → Int
  | 0 => 313
  | k + 1 => mixN σ k * 31 + numS σ (k : Int)
def digS (σ : Sg) : Int := mixD (hT σ.1) (mixP (hT σ.1) σ.2.2.1 (mixW (hT σ.1) (mixN σ 4 * 31 + σ.1.1) (nW (hT σ.1))) σ.2.1) 5
def sg0 : Sg := ((0, 0, fun _ => 0, fun _ => 0, fun _ => 0), 0, fun _ => (0, 100, 0, 100, 0), 0, fun _ => 0, fun _ => 0)
theorem datum_bd {h : Nat → Int} (hb : ∀ t, -50000 ≤ h t ∧ h t ≤ 50000) (what : Int) : -250000000 ≤ dat h what ∧ dat h what ≤ 250000000 := by
  have h1 := mxh_bd hb 4320
  have h2 := mnh_bd hb 4320
  have h3 := difW_bd hb (nW h - 1)
  have hm : ∀ b, -250000000 ≤ meanW h b ∧ meanW h b ≤ 250000000 := fun b => by
    have a1 := sumW_bd hb b (nW h)
    have a2 := cntW_bd (h := h) b (nW h)
    have a3 := nW_le h
    unfold meanW
    split
    · omega
    · have a4 := Int.natAbs_tdiv_le_natAbs (sumW h b (nW h)) (cntW h b (nW h))
      omega
  have h4 := hm true
  have h5 := hm false
  unfold dat
  repeat' split
  all_goals omega
end
section
set_option maxHeartbeats 4000000 in
set_option maxRecDepth 100000 in
theorem c_X5_init (la : Launch) (κ : Kx) {L : List Nat} {f : Nat → wE} {td : Nat} (ctd : Cl L f td (2, .inr (6, [.null, .int (iI 0)])))   : k_M la κ yX5_init cX5_init 1 none 4 1 3 [.ref td] L f (k_ru (fun L' f' => (∀ rg pd os : Nat → Int, TideR κ L' f' td (0, 0, rg, pd, os)) ∧ k_fr (fun u => u == 2) L f L' f')) := by
  refine k_head RX5 [(0, .ref td)] rfl (by decide) (Nat.le_of_ble_eq_true rfl) rfl (fun θ hθ hin => ?_)
  refine k_aload_n 0 0 dX5_init_0 rfl rfl ?_
  refine k_objInit q_49 q_42 q_43 (Nat.le_of_ble_eq_true rfl) (Nat.le_of_ble_eq_true rfl) dX5_init_1 ?_
  refine k_aload_n 0 0 dX5_init_4 rfl rfl ?_
  refine k_new (ci := 0) 6 [.int (iI 0), .null, .int (iI 0)] i_Jx4a65c tyJx4a65c_ok q_50 q_51 q_18 rfl dv_Jx4a65c (Nat.le_of_ble_eq_true rfl) (Nat.le_of_ble_eq_true rfl) dX5_init_5 (fun wl L1 f1 hz1 hn1 hc1 => ?_)
  have hr1 := k_fr.new hz1
  replace ctd := ctd.fr hr1 rfl
  have cWl : Cl L1 f1 wl (6, .inr (0, [.int (iI 0), .null, .int (iI 0)])) := hc1
  refine k_dup dX5_init_8 rfl ?_
  refine k_useU (k_runI (c_Jx4a65c_init_da8c8 θ.2.1 κ (l := wl) cWl) w_X5_9 q_53 rfl rfl rfl ⟨(Nat.le_of_ble_eq_true rfl), (Nat.le_of_ble_eq_true rfl)⟩ (Nat.le_of_ble_eq_true rfl) dX5_init_9) ⟨(Nat.le_of_ble_eq_true rfl), (Nat.le_of_ble_eq_true rfl)⟩ (fun Lfwl fwl hw => ?_)
  obtain ⟨efwl, hnfwl, cfwl⟩ := hw
  replace efwl := efwl.symm
  subst efwl
  have hrfwl := k_fr.put hnfwl cWl
  replace ctd := ctd.fr hrfwl rfl
  replace cWl := cfwl
  have hkfwl := k_new2 hz1 hn1 hnfwl
  refine k_putF 0 [.ref wl, .int (iI 0)] i_X5 tyX5_ok nmX5 q_76 ctd rfl (by decide) rfl (hin rfl) rfl rfl rfl rfl (Nat.le_of_ble_eq_true rfl) rfl dX5_init_12 (fun f2 hf2 hc2 => ?_)
  have hr2 := k_fr.put hf2 ctd
  replace cWl := cWl.fr hr2 rfl
  replace ctd : Cl L1 f2 td (2, .inr (6, [.ref wl, .int (iI 0)])) := hc2
  exact k_vret dX5_init_15 rfl (Nat.le_of_ble_eq_true rfl) (Nat.le_of_ble_eq_true rfl) (⟨rfl, fun rg pd os => ⟨wl, (fun _ => 0), ctd, ⟨_, κ.2.2.2 4, 0, fun _ => none, cWl, Or.inl ⟨rfl, rfl⟩⟩, fun i hi => absurd hi (Nat.not_lt_zero _), fun i j hi => absurd hi (Nat.not_lt_zero _)⟩, (k_fr.trans (k_fr.mono hkfwl (fun _ _ => rfl)) hr2 idf idf)⟩)
set_option maxHeartbeats 4000000 in
set_option maxRecDepth 100000 in
theorem c_X7_hasPort (la : Launch) (κ : Kx) {L : List Nat} {f : Nat → wE} {tt td tb pl rl : Nat} {old : Bool} {σ : Sg} {z : Int}  (hC : CSF κ L f tt td tb pl rl old σ) (hs : SgOk σ) (hz : inI z) : k_M la κ yX7_hasPort cX7_hasPort 2 (some .boolean) 2 0 0 [.ref tt, .int (iI z)] L f (k_ro L f (.int (iI (bI (decide (0 ≤ z ∧ z < (σ.2.1 : Int))))))) := by
  refine k_head RX7 [(0, .ref tt), (1, .int (iI z))] rfl (by decide) (Nat.le_of_ble_eq_true rfl) rfl (fun θ hθ hin => ?_)
  obtain ⟨ctt, hTd, hTx, hPs, hRs⟩ := id hC
  obtain ⟨pv, hv, ov, hLp, hPv, hPi⟩ := id hPs
  obtain ⟨md2, E2, cpl⟩ := hLp.cl
  obtain ⟨hs1, ⟨hs2, hs3⟩, hs4⟩ := id hs
  have hs5 := hs1.2.1
  have hs6 := hs4.1
  have hs7 := nW_le (hT σ.1)
  have hs8 := hs1.1
  refine k_iload_n 1 1 dX7_hasPort_0 rfl rfl ?_
  refine k_if_lt 19 dX7_hasPort_1 (by decide) hz (fun h1 => ?_) (fun h1 => ?_)
  · refine k_iconst dX7_hasPort_19 ?_
    exact k_zret (b := false) dX7_hasPort_20 rfl (Nat.le_of_ble_eq_true rfl) (Nat.le_of_ble_eq_true rfl) (k_okb ((decide_eq_false (by omega)).symm))
  · refine k_iload_n 1 1 dX7_hasPort_4 rfl rfl ?_
    refine k_aload_n 0 0 dX7_hasPort_5 rfl rfl ?_
    refine k_get 2 i_X7 q_114 ctt rfl (by decide) rfl dX7_hasPort_6 ?_
    refine k_useR (k_runV (c_Jx4a65c_size_8abf5 θ.2.1 κ (n := σ.2.1) (g := pv) (l := pl) hLp) w_X7_55 ⟨q_211, q_212⟩ rfl rfl cpl rfl ⟨(Nat.le_of_ble_eq_true rfl), (Nat.le_of_ble_eq_true rfl)⟩ (Nat.le_of_ble_eq_true rfl) dX7_hasPort_9) ⟨(Nat.le_of_ble_eq_true rfl), (Nat.le_of_ble_eq_true rfl)⟩ ?_
    refine k_icmp_ge 19 dX7_hasPort_12 (by decide) hz (inI_mk (by omega) (by omega)) (fun h12 => ?_) (fun h12 => ?_)
    · refine k_iconst dX7_hasPort_19 ?_
      exact k_zret (b := false) dX7_hasPort_20 rfl (Nat.le_of_ble_eq_true rfl) (Nat.le_of_ble_eq_true rfl) (k_okb ((decide_eq_false (by omega)).symm))
    · refine k_iconst dX7_hasPort_15 ?_
      refine k_goto 20 dX7_hasPort_16 (by decide) ?_
      exact k_zret (b := true) dX7_hasPort_20 rfl (Nat.le_of_ble_eq_true rfl) (Nat.le_of_ble_eq_true rfl) (k_okb ((decide_eq_true (by omega)).symm))
set_option maxHeartbeats 4000000 in
set_option maxRecDepth 100000 in
theorem c_X7_currentTable (la : Launch) (κ : Kx) {L : List Nat} {f : Nat → wE} {tt td tb pl rl : Nat} {old : Bool} {σ : Sg}   (hC : CSF κ L f tt td tb pl rl old σ) (hs : SgOk σ) : k_M la κ yX7_currentTable cX7_currentTable 1 (some (.object "TideTable$Table")) 6 0 0 [.ref tt] L f (k_rn (fun w L' f' => w = .ref tb ∧ L' = L ∧ k_fr SU L f L' f' ∧ CSF κ L' f' tt td tb pl rl false σ)) := by
  refine k_head RX7 [(0, .ref tt)] rfl (by decide) (Nat.le_of_ble_eq_true rfl) rfl (fun θ hθ hin => ?_)
  obtain ⟨ctt, hTd, hTx, hPs, hRs⟩ := id hC
  have hX := hTx.1
  obtain ⟨wl9, ctd9⟩ := hTd.cl
  obtain ⟨hs9, wt9, wh9, wi9, n9, HH9, WT9, WH9, WI9, hA9⟩ := id hX
  refine k_aload_n 0 0 dX7_currentTable_0 rfl rfl ?_
  refine k_get 4 i_X7 q_116 ctt rfl (by decide) rfl dX7_currentTable_1 ?_
  refine k_ifb_eq 23 dX7_currentTable_4 (by decide) (fun h4 => ?_) (fun h4 => ?_)
  · refine k_aload_n 0 0 dX7_currentTable_23 rfl rfl ?_
    refine k_get 1 i_X7 q_113 ctt rfl (by decide) rfl dX7_currentTable_24 ?_
    exact k_aret dX7_currentTable_27 rfl (Or.inl ⟨_, rfl⟩) (Nat.le_of_ble_eq_true rfl) (Nat.le_of_ble_eq_true rfl) (⟨_, rfl, rfl, rfl, k_fr.refl, by rw [h4] at hC; exact hC⟩)
  · refine k_aload_n 0 0 dX7_currentTable_7 rfl rfl ?_
    refine k_get 1 i_X7 q_113 ctt rfl (by decide) rfl dX7_currentTable_8 ?_
    refine k_aload_n 0 0 dX7_currentTable_11 rfl rfl ?_
    refine k_get 0 i_X7 q_112 ctt rfl (by decide) rfl dX7_currentTable_12 ?_
    refine k_useU (k_runV (c_X3_fill θ.2.1 κ (τ := σ.1) (tb := tb) (td := td) hX hTd hs.1) w_X7_263 ⟨q_264, q_265⟩ rfl rfl hA9.1 rfl ⟨(Nat.le_of_ble_eq_true rfl), (Nat.le_of_ble_eq_true rfl)⟩ (Nat.le_of_ble_eq_true rfl) dX7_currentTable_15) ⟨(Nat.le_of_ble_eq_true rfl), (Nat.le_of_ble_eq_true rfl)⟩ (fun Ln fn hw => ?_)
    obtain ⟨en, hrn, hTb⟩ := hw
    replace en := en.symm
    subst en
    replace hC := hTb
    replace ctt := ctt.fr hrn rfl
    replace hTd := hTd.fr hrn rfl
    replace hPs := hPs.fr hrn rfl
    replace hRs := hRs.fr hrn rfl
    refine k_aload_n 0 0 dX7_currentTable_18 rfl rfl ?_
    refine k_iconst dX7_currentTable_19 ?_
    refine k_put 4 [.ref td, .ref tb, .ref pl, .ref rl, .int (iI (bI false))] i_X7 tyX7_ok nmX7 q_116 ctt rfl (by decide) rfl rfl (k_nar_b false) (k_fit_b false) (Nat.le_of_ble_eq_true rfl) rfl dX7_currentTable_20 (fun f1 hf1 hc1 => ?_)
    have hr1 := k_fr.put hf1 ctt
    replace hTd := hTd.fr hr1 rfl
    replace hPs := hPs.fr hr1 rfl
    replace hRs := hRs.fr hr1 rfl
    replace hTb := hTb.fr hr1 rfl
    replace ctt : Cl L f1 tt (1, .inr (8, [.ref td, .ref tb, .ref pl, .ref rl, .int (iI (bI false))])) := hc1
    refine k_aload_n 0 0 dX7_currentTable_23 rfl rfl ?_
    refine k_get 1 i_X7 q_113 ctt rfl (by decide) rfl dX7_currentTable_24 ?_
    exact k_aret dX7_currentTable_27 rfl (Or.inl ⟨_, rfl⟩) (Nat.le_of_ble_eq_true rfl) (Nat.le_of_ble_eq_true rfl) (⟨_, rfl, rfl, rfl, (k_fr.trans (k_fr.mono hrn SU_ST) hr1 idf SU_1), ctt, hTd, ⟨hTb.x, fun _ => hTb⟩, hPs, hRs⟩)
set_option maxHeartbeats 4000000 in
set_option maxRecDepth 100000 in
theorem c_X7_numberOf (la : Launch) (κ : Kx) {L : List Nat} {f : Nat → wE} {tt td tb pl rl : Nat} {old : Bool} {σ : Sg} {what : Int}  (hC : CSF κ L f tt td tb pl rl old σ) (hs : SgOk σ) (hwh : 0 ≤ what ∧ what ≤ 3) : k_M la κ yX7_numberOf cX7_numberOf 2 (some .int) 7 0 0 [.ref tt, .int (iI what)] L f (k_rn (fun w L' f' => w = .int (iI (numS σ what)) ∧ L' = L ∧ k_fr SU L f L' f' ∧ ∃ old', CSF κ L' f' tt td tb pl rl old' σ ∧ (old = false → old' = false))) := by
  refine k_head RX7 [(0, .ref tt), (1, .int (iI what))] rfl (by decide) (Nat.le_of_ble_eq_true rfl) rfl (fun θ hθ hin => ?_)
  obtain ⟨ctt, hTd, hTx, hPs, hRs⟩ := id hC
  obtain ⟨wl, wv, ctd, hLw, hW, hWi⟩ := id hTd
  obtain ⟨md1, E1, cwl⟩ := hLw.cl
  obtain ⟨pv, hv, ov, hLp, hPv, hPi⟩ := id hPs
  obtain ⟨md2, E2, cpl⟩ := hLp.cl
  obtain ⟨rv, hLr, hRv⟩ := id hRs
  obtain ⟨md3, E3, crl⟩ := hLr.cl
  obtain ⟨hs1, ⟨hs2, hs3⟩, hs4⟩ := id hs
  have hs5 := hs1.2.1
  have hs6 := hs4.1
  have hs7 := nW_le (hT σ.1)
  have hs8 := hs1.1
  refine k_iload_n 1 1 dX7_numberOf_0 rfl rfl ?_
  rcases (by omega : what = 0 ∨ what = 1 ∨ what = 2 ∨ (what < 0 ∨ 2 < what)) with h1 | h1 | h1 | h1
  · refine k_swIn 0 28 dX7_numberOf_1 (inI_mk (by omega) (by omega)) h1 (by decide) (by decide) rfl (by decide) ?_
    refine k_aload_n 0 0 dX7_numberOf_28 rfl rfl ?_
    refine k_get 0 i_X7 q_112 ctt rfl (by decide) rfl dX7_numberOf_29 ?_
    refine k_getN 0 i_X5 q_77 ctd rfl (by decide) rfl dX7_numberOf_32 ?_
    refine k_useR (k_runV (c_Jx4a65c_size_8abf5 θ.2.1 κ (n := σ.1.2.1) (g := wv) (l := wl) hLw) w_X7_55 ⟨q_211, q_212⟩ rfl rfl cwl rfl ⟨(Nat.le_of_ble_eq_true rfl), (Nat.le_of_ble_eq_true rfl)⟩ (Nat.le_of_ble_eq_true rfl) dX7_numberOf_35) ⟨(Nat.le_of_ble_eq_true rfl), (Nat.le_of_ble_eq_true rfl)⟩ ?_
    exact k_iret dX7_numberOf_38 rfl (Nat.le_of_ble_eq_true rfl) (Nat.le_of_ble_eq_true rfl) (⟨_, rfl, by rw [h1, numS, if_pos rfl], rfl, k_fr.refl, old, hC, id⟩)
  · refine k_swIn 1 39 dX7_numberOf_1 (inI_mk (by omega) (by omega)) h1 (by decide) (by decide) rfl (by decide) ?_
    refine k_aload_n 0 0 dX7_numberOf_39 rfl rfl ?_
    refine k_useV (k_runV (c_X7_currentTable θ.2.1 κ (tt := tt) hC hs) w_X7_110 ⟨q_261, q_2⟩ rfl rfl ctt rfl ⟨(Nat.le_of_ble_eq_true rfl), (Nat.le_of_ble_eq_true rfl)⟩ (Nat.le_of_ble_eq_true rfl) dX7_numberOf_40) ⟨(Nat.le_of_ble_eq_true rfl), (Nat.le_of_ble_eq_true rfl)⟩ (fun w L9 f9 hw => ?_)
    obtain ⟨rfl, eL9, hr9, hC9⟩ := hw
    replace eL9 := eL9.symm
    subst eL9
    replace hC := hC9
    clear hC9
    obtain ⟨ctt, hTd, hTx, hPs, hRs⟩ := id hC
    have hTb := hTx.2 rfl
    obtain ⟨hs9, wt9, wh9, wi9, ctb⟩ := hTb.cl
    refine k_getN 4 i_X3 q_96 ctb rfl (by decide) rfl dX7_numberOf_43 ?_
    exact k_iret dX7_numberOf_46 rfl (Nat.le_of_ble_eq_true rfl) (Nat.le_of_ble_eq_true rfl) (⟨_, rfl, by rw [h1, numS, if_neg (by decide), if_pos rfl], rfl, hr9, false, hC, fun _ => rfl⟩)
  · refine k_swIn 2 47 dX7_numberOf_1 (inI_mk (by omega) (by omega)) h1 (by decide) (by decide) rfl (by decide) ?_
    refine k_aload_n 0 0 dX7_numberOf_47 rfl rfl ?_
    refine k_get 2 i_X7 q_114 ctt rfl (by decide) rfl dX7_numberOf_48 ?_
    refine k_useR (k_runV (c_Jx4a65c_size_8abf5 θ.2.1 κ (n := σ.2.1) (g := pv) (l := pl) hLp) w_X7_55 ⟨q_211, q_212⟩ rfl rfl cpl rfl ⟨(Nat.le_of_ble_eq_true rfl), (Nat.le_of_ble_eq_true rfl)⟩ (Nat.le_of_ble_eq_true rfl) dX7_numberOf_51) ⟨(Nat.le_of_ble_eq_true rfl), (Nat.le_of_ble_eq_true rfl)⟩ ?_
    exact k_iret dX7_numberOf_54 rfl (Nat.le_of_ble_eq_true rfl) (Nat.le_of_ble_eq_true rfl) (⟨_, rfl, by rw [h1, numS, if_neg (by decide), if_neg (by decide), if_pos rfl], rfl, k_fr.refl, old, hC, id⟩)
  · refine k_swOut 55 dX7_numberOf_1 (inI_mk (by omega) (by omega)) h1 (by decide) ?_
    refine k_aload_n 0 0 dX7_numberOf_55 rfl rfl ?_
    refine k_get 3 i_X7 q_115 ctt rfl (by decide) rfl dX7_numberOf_56 ?_
    refine k_useR (k_runV (c_Jx4a65c_size_8abf5 θ.2.1 κ (n := σ.2.2.2.1) (g := rv) (l := rl) hLr) w_X7_55 ⟨q_211, q_212⟩ rfl rfl crl rfl ⟨(Nat.le_of_ble_eq_true rfl), (Nat.le_of_ble_eq_true rfl)⟩ (Nat.le_of_ble_eq_true rfl) dX7_numberOf_59) ⟨(Nat.le_of_ble_eq_true rfl), (Nat.le_of_ble_eq_true rfl)⟩ ?_
    exact k_iret dX7_numberOf_62 rfl (Nat.le_of_ble_eq_true rfl) (Nat.le_of_ble_eq_true rfl) (⟨_, rfl, by rw [numS, if_neg (by omega), if_neg (by omega), if_neg (by omega)], rfl, k_fr.refl, old, hC, id⟩)
end
section
theorem btw_all {h : Nat → Int} {q : Pt} (ok : PtOk q) (hb : ∀ t, -50000 ≤ h t ∧ h t ≤ 50000) {k : Nat} {t : Int} (h1 : k + 1 < nW h) (h2 : pT h q k ≤ t) (h3 : t < pT h q (k + 1)) : inI (btw h q (k + 1) t) := by
  have a1 := pH_bd ok hb k
  have a2 := pH_bd ok hb (k + 1)
  have a3 := pT_bd ok (show k < nW h by omega)
  have a4 := pT_bd ok h1
  have a5 := gone_bd (e := t - pT h q k) (d := pT h q (k + 1) - pT h q k) (by omega) (by omega)
  have hd : 0 < 12 * (pT h q (k + 1) - pT h q k) := by omega
  unfold btw
  rw [show k + 1 - 1 = k from rfl]
  generalize gone (t - pT h q k) (pT h q (k + 1) - pT h q k) = g at a5 ⊢
  generalize pT h q (k + 1) - pT h q k = d at a5 hd ⊢
  have b1 := mul_bd (a := pH h q (k + 1) - pH h q k) (b := g) (A := 306000) (B := 14 * d) (by omega) (by omega) a5.1 a5.2
  have b2 : ((pH h q (k + 1) - pH h q k) * g).tdiv (12 * d) ≤ 357000 ∧ -357000 ≤ ((pH h q (k + 1) - pH h q k) * g).tdiv (12 * d) := by
    generalize (pH h q (k + 1) - pH h q k) * g = z at b1 ⊢
    rcases Int.le_total 0 z with c | c
    · rw [Int.tdiv_eq_ediv_of_nonneg c]
      have c1 := Int.ediv_le_ediv hd (show z ≤ 357000 * (12 * d) by omega)
      rw [Int.mul_ediv_cancel _ (by omega)] at c1
      have c2 := Int.ediv_nonneg c (show 0 ≤ 12 * d by omega)
      omega
    · have e : z.tdiv (12 * d) = -((-z) / (12 * d)) := by
        rw [← Int.tdiv_eq_ediv_of_nonneg (by omega), Int.neg_tdiv, Int.neg_neg]
      rw [e]
      have c1 := Int.ediv_le_ediv hd (show -z ≤ 357000 * (12 * d) by omega)
      rw [Int.mul_ediv_cancel _ (by omega)] at c1
      have c2 := Int.ediv_nonneg (show 0 ≤ -z by omega) (show 0 ≤ 12 * d by omega)
      omega
  exact inI_mk (by omega) (by omega)
theorem numS_bd {σ : Sg} (hs : SgOk σ) (what : Int) : 0 ≤ numS σ what ∧ numS σ what ≤ 4320 := by
  have h1 := nW_le (hT σ.1)
  obtain ⟨⟨-, h2, -⟩, ⟨h3, -⟩, h4, -⟩ := hs
  unfold numS
  repeat' split
  all_goals omega
set_option maxHeartbeats 4000000 in
set_option maxRecDepth 100000 in
theorem c_X7_init (la : Launch) (κ : Kx) {L : List Nat} {f : Nat → wE} {tt : Nat} (cti : Cl L f tt (1, .inr (8, [.null, .null, .null, .null, .int (iI (bI false))])))   : k_M la κ yX7_init cX7_init 1 none 6 9 17296 [.ref tt] L f (k_ru (fun L' f' => CS κ L' f' tt sg0 ∧ k_fr SC L f L' f')) := by
  refine k_head RX7 [(0, .ref tt)] rfl (by decide) (Nat.le_of_ble_eq_true rfl) rfl (fun θ hθ hin => ?_)
  refine k_aload_n 0 0 dX7_init_0 rfl rfl ?_
  refine k_objInit q_41 q_42 q_43 (Nat.le_of_ble_eq_true rfl) (Nat.le_of_ble_eq_true rfl) dX7_init_1 ?_
  refine k_aload_n 0 0 dX7_init_4 rfl rfl ?_
  refine k_new (ci := 6) 2 [.null, .int (iI 0)] i_X5 tyX5_ok q_44 q_45 q_15 rfl dv_X5 (Nat.le_of_ble_eq_true rfl) (Nat.le_of_ble_eq_true rfl) dX7_init_5 (fun td L1 f1 hz1 hn1 hc1 => ?_)
  have hr1 := k_fr.new hz1
  replace cti := cti.fr hr1 rfl
  have cTd : Cl L1 f1 td (2, .inr (6, [.null, .int (iI 0)])) := hc1
  refine k_dup dX7_init_8 rfl ?_
  refine k_useU (k_runIN (c_X5_init θ.2.1 κ (td := td) cTd) w_X7_9 q_47 rfl rfl rfl ⟨(Nat.le_of_ble_eq_true rfl), (Nat.le_of_ble_eq_true rfl)⟩ (Nat.le_of_ble_eq_true rfl) dX7_init_9) ⟨(Nat.le_of_ble_eq_true rfl), (Nat.le_of_ble_eq_true rfl)⟩ (fun Lt ft hw => ?_)
  obtain ⟨hTd9, hrt⟩ := hw
  have hTd := hTd9 (fun _ => 0) (fun _ => 0) (fun _ => 0)
  replace cti := cti.fr hrt rfl
  refine k_putF 0 [.ref td, .null, .null, .null, .int (iI (bI false))] i_X7 tyX7_ok nmX7 q_112 cti rfl (by decide) rfl (hin rfl) rfl rfl rfl rfl (Nat.le_of_ble_eq_true rfl) rfl dX7_init_12 (fun f2 hf2 hc2 => ?_)
  have hr2 := k_fr.put hf2 cti
  replace hTd := hTd.fr hr2 rfl
  replace cti : Cl Lt f2 tt (1, .inr (8, [.ref td, .null, .null, .null, .int (iI (bI false))])) := hc2
  refine k_aload_n 0 0 dX7_init_15 rfl rfl ?_
  refine k_new (ci := 4) 3 [.null, .null, .null, .null, .int (iI 0)] i_X3 tyX3_ok q_84 q_85 q_19 rfl dv_X3 (Nat.le_of_ble_eq_true rfl) (Nat.le_of_ble_eq_true rfl) dX7_init_16 (fun tb L3 f3 hz3 hn3 hc3 => ?_)
  have hr3 := k_fr.new hz3
  replace cti := cti.fr hr3 rfl
  replace hTd := hTd.fr hr3 rfl
  have cTb : Cl L3 f3 tb (3, .inr (4, [.null, .null, .null, .null, .int (iI 0)])) := hc3
  refine k_dup dX7_init_19 rfl ?_
  refine k_useU (k_runIN (c_X3_init θ.2.1 κ (tb := tb) cTb) w_X7_18 q_87 rfl rfl rfl ⟨(Nat.le_of_ble_eq_true rfl), (Nat.le_of_ble_eq_true rfl)⟩ (Nat.le_of_ble_eq_true rfl) dX7_init_20) ⟨(Nat.le_of_ble_eq_true rfl), (Nat.le_of_ble_eq_true rfl)⟩ (fun Lb fb hw => ?_)
  obtain ⟨hX, hrb⟩ := hw
  replace cti := cti.fr hrb rfl
  replace hTd := hTd.fr hrb rfl
  refine k_putF 1 [.ref td, .ref tb, .null, .null, .int (iI (bI false))] i_X7 tyX7_ok nmX7 q_113 cti rfl (by decide) rfl (hin rfl) rfl rfl rfl rfl (Nat.le_of_ble_eq_true rfl) rfl dX7_init_23 (fun f4 hf4 hc4 => ?_)
  have hr4 := k_fr.put hf4 cti
  replace hTd := hTd.fr hr4 rfl
  replace hX := hX.fr hr4 rfl
  replace cti : Cl Lb f4 tt (1, .inr (8, [.ref td, .ref tb, .null, .null, .int (iI (bI false))])) := hc4
  refine k_aload_n 0 0 dX7_init_26 rfl rfl ?_
  refine k_new (ci := 0) 4 [.int (iI 0), .null, .int (iI 0)] i_Jx4a65c tyJx4a65c_ok q_110 q_51 q_18 rfl dv_Jx4a65c (Nat.le_of_ble_eq_true rfl) (Nat.le_of_ble_eq_true rfl) dX7_init_27 (fun pl L5 f5 hz5 hn5 hc5 => ?_)
  have hr5 := k_fr.new hz5
  replace cti := cti.fr hr5 rfl
  replace hTd := hTd.fr hr5 rfl
  replace hX := hX.fr hr5 rfl
  have cPl : Cl L5 f5 pl (4, .inr (0, [.int (iI 0), .null, .int (iI 0)])) := hc5
  refine k_dup dX7_init_30 rfl ?_
  refine k_useU (k_runI (c_Jx4a65c_init_da8c8 θ.2.1 κ (l := pl) cPl) w_X7_25 q_53 rfl rfl rfl ⟨(Nat.le_of_ble_eq_true rfl), (Nat.le_of_ble_eq_true rfl)⟩ (Nat.le_of_ble_eq_true rfl) dX7_init_31) ⟨(Nat.le_of_ble_eq_true rfl), (Nat.le_of_ble_eq_true rfl)⟩ (fun Lfpl fpl hw => ?_)
  obtain ⟨efpl, hnfpl, cfpl⟩ := hw
  replace efpl := efpl.symm
  subst efpl
  have hrfpl := k_fr.put hnfpl cPl
  replace cti := cti.fr hrfpl rfl
  replace hTd := hTd.fr hrfpl rfl
  replace hX := hX.fr hrfpl rfl
  replace cPl := cfpl
  have hkfpl := k_new2 hz5 hn5 hnfpl
  refine k_putF 2 [.ref td, .ref tb, .ref pl, .null, .int (iI (bI false))] i_X7 tyX7_ok nmX7 q_114 cti rfl (by decide) rfl (hin rfl) rfl rfl rfl rfl (Nat.le_of_ble_eq_true rfl) rfl dX7_init_34 (fun f6 hf6 hc6 => ?_)
  have hr6 := k_fr.put hf6 cti
  replace cPl := cPl.fr hr6 rfl
  replace hTd := hTd.fr hr6 rfl
  replace hX := hX.fr hr6 rfl
  replace cti : Cl L5 f6 tt (1, .inr (8, [.ref td, .ref tb, .ref pl, .null, .int (iI (bI false))])) := hc6
  refine k_aload_n 0 0 dX7_init_37 rfl rfl ?_
  refine k_new (ci := 0) 5 [.int (iI 0), .null, .int (iI 0)] i_Jx4a65c tyJx4a65c_ok q_110 q_51 q_18 rfl dv_Jx4a65c (Nat.le_of_ble_eq_true rfl) (Nat.le_of_ble_eq_true rfl) dX7_init_38 (fun rl L7 f7 hz7 hn7 hc7 => ?_)
  have hr7 := k_fr.new hz7
  replace cti := cti.fr hr7 rfl
  replace cPl := cPl.fr hr7 rfl
  replace hTd := hTd.fr hr7 rfl
  replace hX := hX.fr hr7 rfl
  have cRl : Cl L7 f7 rl (5, .inr (0, [.int (iI 0), .null, .int (iI 0)])) := hc7
  refine k_dup dX7_init_41 rfl ?_
  refine k_useU (k_runI (c_Jx4a65c_init_da8c8 θ.2.1 κ (l := rl) cRl) w_X7_25 q_53 rfl rfl rfl ⟨(Nat.le_of_ble_eq_true rfl), (Nat.le_of_ble_eq_true rfl)⟩ (Nat.le_of_ble_eq_true rfl) dX7_init_42) ⟨(Nat.le_of_ble_eq_true rfl), (Nat.le_of_ble_eq_true rfl)⟩ (fun Lfrl frl hw => ?_)
  obtain ⟨efrl, hnfrl, cfrl⟩ := hw
  replace efrl := efrl.symm
  subst efrl
  have hrfrl := k_fr.put hnfrl cRl
  replace cti := cti.fr hrfrl rfl
  replace cPl := cPl.fr hrfrl rfl
  replace hTd := hTd.fr hrfrl rfl
  replace hX := hX.fr hrfrl rfl
  replace cRl := cfrl
  have hkfrl := k_new2 hz7 hn7 hnfrl
  refine k_putF 3 [.ref td, .ref tb, .ref pl, .ref rl, .int (iI (bI false))] i_X7 tyX7_ok nmX7 q_115 cti rfl (by decide) rfl (hin rfl) rfl rfl rfl rfl (Nat.le_of_ble_eq_true rfl) rfl dX7_init_45 (fun f8 hf8 hc8 => ?_)
  have hr8 := k_fr.put hf8 cti
  replace cPl := cPl.fr hr8 rfl
  replace cRl := cRl.fr hr8 rfl
  replace hTd := hTd.fr hr8 rfl
  replace hX := hX.fr hr8 rfl
  replace cti : Cl L7 f8 tt (1, .inr (8, [.ref td, .ref tb, .ref pl, .ref rl, .int (iI (bI false))])) := hc8
  refine k_aload_n 0 0 dX7_init_48 rfl rfl ?_
  refine k_iconst dX7_init_49 ?_
  refine k_put 4 [.ref td, .ref tb, .ref pl, .ref rl, .int (iI (bI true))] i_X7 tyX7_ok nmX7 q_116 cti rfl (by decide) rfl rfl (k_nar_b true) (k_fit_b true) (Nat.le_of_ble_eq_true rfl) rfl dX7_init_50 (fun f9 hf9 hc9 => ?_)
  have hr9 := k_fr.put hf9 cti
  replace cPl := cPl.fr hr9 rfl
  replace cRl := cRl.fr hr9 rfl
  replace hTd := hTd.fr hr9 rfl
  replace hX := hX.fr hr9 rfl
  replace cti : Cl L7 f9 tt (1, .inr (8, [.ref td, .ref tb, .ref pl, .ref rl, .int (iI (bI true))])) := hc9
  exact k_vret dX7_init_53 rfl (Nat.le_of_ble_eq_true rfl) (Nat.le_of_ble_eq_true rfl) (⟨rfl, ⟨td, tb, pl, rl, true, cti, hTd, ⟨hX, fun e => Bool.noConfusion e⟩, ⟨(fun _ => 0), (fun _ => 0), (fun _ => 0), ⟨_, κ.2.2.2 4, 0, fun _ => none, cPl, Or.inl ⟨rfl, rfl⟩⟩, fun i hi => absurd hi (Nat.not_lt_zero _), fun i j hi => absurd hi (Nat.not_lt_zero _)⟩, ⟨(fun _ => 0), ⟨_, κ.2.2.2 4, 0, fun _ => none, cRl, Or.inl ⟨rfl, rfl⟩⟩, fun i hi => absurd hi (Nat.not_lt_zero _)⟩⟩, (k_fr.trans (k_fr.trans (k_fr.trans (k_fr.trans (k_fr.trans (k_fr.trans (k_fr.trans (k_fr.trans (k_fr.trans (k_fr.trans (k_fr.mono hr1 (fun _ _ => rfl)) hrt idf (SC_of rfl)) hr2 idf (SC_of rfl)) hr3 idf (fun _ _ => rfl)) hrb idf (SC_of rfl)) hr4 idf (SC_of rfl)) hkfpl idf (fun _ _ => rfl)) hr6 idf (SC_of rfl)) hkfrl idf (fun _ _ => rfl)) hr8 idf (SC_of rfl)) hr9 idf (SC_of rfl))⟩)
end
section
/-! ===== methods that may throw ===== -/
abbrev xN : List String := ["java/lang/RuntimeException", "java/lang/Exception"]
def x_ok (ik ic : Nat) (cls : String) : Bool := (Cond.classLink "TideTable" ik cls :: Cond.initialized cls :: vx_atS "TideTable" ic cls xN).all (fun w => decide (w ∈ lw_tbl) && (k_ok w && vx_ot w))
set_option maxRecDepth 100000 in
theorem x_IA : x_ok 41 45 "java/lang/IllegalArgumentException" = true := by decide +kernel
set_option maxRecDepth 100000 in
theorem x_IS : x_ok 59 63 "java/lang/IllegalStateException" = true := by decide +kernel
set_option maxRecDepth 100000 in
theorem x_IO : x_ok 77 81 "java/lang/IndexOutOfBoundsException" = true := by decide +kernel
def k_XC (κ : Kx) (P : String → List Nat → (Nat → wE) → Prop) : String → State → State → Prop := fun E st t => (∃ (L' : List Nat) (f' : Nat → wE), P E L' f' ∧ k_H κ L' f' t.heap) ∧ va_F (kA κ) st t
/-- the contract of a method that may throw: it comes back with post, or throws with P -/
def k_MX (l : Launch) (κ : Kx) (y : MethodName) (bytes : ByteArray) (maxL : Nat) (ret : Option FieldType) (d mc ms : Nat) (As : List Value) (L : List Nat) (f : Nat → wE) (post : Option Value → List Nat → (Nat → wE) → Prop) (P : String → List Nat → (Nat → wE) → Prop) : Prop :=
  vx_Met l y [Cond.code y bytes maxL ret] (k_rm d mc ms) (va_Pc As (k_I κ L f)) (k_Q κ post) (k_XC κ P) mc ms (kA κ)
def k_XMQ (θ : Kt) (κ : Kx) (post : Option Value → List Nat → (Nat → wE) → Prop) (P : String → List Nat → (Nat → wE) → Prop) (mc ms : Nat) : State → Prop := vx_MQ θ.2.2.2.2.2.2.1 (k_Q κ post) (k_XC κ P) θ.2.2.2.2.2.1 θ.2.2.2.1 mc ms (kA κ)
theorem k_headX {l : Launch} {κ : Kx} {y : MethodName} {cc : ByteArray} {nL : Nat} {ret : Option FieldType} {d mc ms : Nat} {As : List Value} {L : List Nat} {f : Nat → wE} {post : Option Value → List Nat → (Nat → wE) → Prop} {P : String → List Nat → (Nat → wE) → Prop} (own : String) (lv : List (Nat × Value)) (ho : y.cls = own) (hy : plainName own = true) (hsl : (lg_sl As).length ≤ nL) (hlv : lv_args 0 As = lv)
    (body : ∀ θ : Kt, θ.2.1 = l → (y.name = "<init>" → θ.2.2.2.2.2.2.2.1.name = "<init>") → (∀ x ∈ θ.2.2.2.2.2.2.2.2.exceptionTable.toList, False) → k_G θ κ cc nL ret own (k_rm d mc ms) (k_XMQ θ κ post P mc ms) L f 0 0 0 lv []) : k_MX l κ y cc nL ret d mc ms As L f post P := by
  subst ho
  refine vx_ofW (cc := cc) (maxL := nL) (ret := ret) hy rfl ?_
  intro p e s m args below meth c s₁ B hml ht hv
  obtain ⟨rfl, hH, hV, hZ, hb⟩ := hv
  have hE : k_E (p, l, e, s, m, As.toArray, below, meth, c) κ cc nL ret y.cls := ⟨B.exec, B.bytes, hml, findClass_of_methodNamed B.named, hV, hZ, hb, B.returns, B.notSynchronized⟩
  have hl := lv_entry As (n := nL) hsl
  rw [lg_entry_eq]
  rw [hlv] at hl
  exact body (p, l, e, s, m, As.toArray, below, meth, c) rfl (fun h => (name_of_methodNamed B.named B.method).1.trans h) ht hE s.heap [] _ hH va_S.rf hl
section Throws
variable {θ : Kt} {κ : Kx} {cc : ByteArray} {nL : Nat} {ret : Option FieldType} {own : String} {R : Room} {L : List Nat} {f : Nat → wE} {k n pc mc ms : Nat} {lv : List (Nat × Value)} {st : List Value} {post : Option Value → List Nat → (Nat → wE) → Prop} {P : String → List Nat → (Nat → wE) → Prop}
theorem k_xr (h : k_G θ κ cc nL ret own R (k_MQ θ κ post mc ms) L f k n pc lv st) : k_G θ κ cc nL ret own R (k_XMQ θ κ post P mc ms) L f k n pc lv st := fun E H locs ls hH hS hl => vx_ret (h E H locs ls hH hS hl)
theorem k_Hkeep {H H1 : Heap} (h : k_H κ L f H) (hk : ∀ q : Nat, q < H.size → H1[q]? = H[q]?) : k_H κ L f H1 := ⟨h.1.kept (fun _ _ hq => hk _ (vx_lt h.1 hq)), h.2⟩
theorem k_throw {ik is ic si : Nat} {cls text : String} (hts : θ.2.1.stackTraces = false) (hth : ∀ x ∈ θ.2.2.2.2.2.2.2.2.exceptionTable.toList, False) (hx : x_ok ik ic cls = true) (hfit : Bundle.fit cls = true) (hst : k_strs[si]? = some (is, text))
    (d0 : decode cc pc = .ok (.new ik, 3)) (d3 : decode cc (pc + 3) = .ok (.dup, 1)) (d4 : decode cc (pc + 4) = .ok (.ldc is, 2)) (d6 : decode cc (pc + 6) = .ok (.invokespecial ic, 3)) (d9 : decode cc (pc + 9) = .ok (.athrow, 1))
    (hR : 6 ≤ R.frames ∧ 90 ≤ R.locals ∧ k + 1 ≤ R.cells ∧ n + 6 ≤ R.slots) (hcat : (st.map fun v => v.category).sum ≤ 8) (hm : k + 1 ≤ mc ∧ n + 6 ≤ ms) (hp : P cls L f) : k_G θ κ cc nL ret "TideTable" R (k_XMQ θ κ post P mc ms) L f k n pc lv st := by
  intro E H locs ls hH hS hl
  have hall := List.all_eq_true.mp hx
  have hw : ∀ w ∈ Cond.classLink "TideTable" ik cls :: Cond.initialized cls :: vx_atS "TideTable" ic cls xN, w.before θ.2.2.2.2.2.1 θ.2.2.2.1 = true := fun w hw => by
    have h1 := hall w hw
    rw [Bool.and_eq_true, Bool.and_eq_true] at h1
    exact E.word (of_decide_eq_true h1.1) h1.2.1
  have hZ := E.2.2.2.2.2.1
  exact vx_throwS (names := xN) E.1 E.2.1 hts E.2.2.2.1 hfit (by decide) (hw _ List.mem_cons_self) (hw _ (List.mem_cons_of_mem _ List.mem_cons_self)) (E.2.2.2.2.1.2.2.1 si _ hst) (fun w h => hw w (List.mem_cons_of_mem _ (List.mem_cons_of_mem _ h)))
    (fun w h => by
      have h1 := hall w h
      rw [Bool.and_eq_true, Bool.and_eq_true] at h1
      exact h1.2.2)
    hZ.2.2.2.2.2.1 hZ.2.2.2.2.2.2 hS (hl.1.trans E.2.2.1.symm) d0 d3 d4 d6 d9 (fun x hx => (hth x hx).elim) (by show 5 < R.frames; omega) (by
      have := hR.2.1
      simp only [List.length_cons, List.length_nil]
      omega) hR.2.2.1 hR.2.2.2 E.2.2.2.2.2.2.2.2
    (fun t _ hsz hq => ⟨⟨L, f, hp, k_Hkeep hH hq⟩, Nat.le_trans hS.1 hsz, fun q h1 h2 => (hq q (Nat.lt_of_lt_of_le h1 hS.1)).trans (hS.2.1 q h1 h2)⟩) hS.2.2 hm.1 hm.2
theorem k_throwW {ik is ic si : Nat} {cls text : String} (hts : θ.2.1.stackTraces = false) (hth : ∀ x ∈ θ.2.2.2.2.2.2.2.2.exceptionTable.toList, False) (hx : x_ok ik ic cls = true) (hfit : Bundle.fit cls = true) (hst : k_strs[si]? = some (is, text))
    (d0 : decode cc pc = .ok (.new ik, 3)) (d3 : decode cc (pc + 3) = .ok (.dup, 1)) (d4 : decode cc (pc + 4) = .ok (.ldc_w is, 3)) (d7 : decode cc (pc + 7) = .ok (.invokespecial ic, 3)) (d10 : decode cc (pc + 10) = .ok (.athrow, 1))
    (hR : 6 ≤ R.frames ∧ 90 ≤ R.locals ∧ k + 1 ≤ R.cells ∧ n + 6 ≤ R.slots) (hcat : (st.map fun v => v.category).sum ≤ 8) (hm : k + 1 ≤ mc ∧ n + 6 ≤ ms) (hp : P cls L f) : k_G θ κ cc nL ret "TideTable" R (k_XMQ θ κ post P mc ms) L f k n pc lv st := by
  intro E H locs ls hH hS hl
  have hall := List.all_eq_true.mp hx
  have hw : ∀ w ∈ Cond.classLink "TideTable" ik cls :: Cond.initialized cls :: vx_atS "TideTable" ic cls xN, w.before θ.2.2.2.2.2.1 θ.2.2.2.1 = true := fun w hw => by
    have h1 := hall w hw
    rw [Bool.and_eq_true, Bool.and_eq_true] at h1
    exact E.word (of_decide_eq_true h1.1) h1.2.1
  have hZ := E.2.2.2.2.2.1
  exact vx_throwSW (names := xN) E.1 E.2.1 hts E.2.2.2.1 hfit (by decide) (hw _ List.mem_cons_self) (hw _ (List.mem_cons_of_mem _ List.mem_cons_self)) (E.2.2.2.2.1.2.2.1 si _ hst) (fun w h => hw w (List.mem_cons_of_mem _ (List.mem_cons_of_mem _ h)))
    (fun w h => by
      have h1 := hall w h
      rw [Bool.and_eq_true, Bool.and_eq_true] at h1
      exact h1.2.2)
    hZ.2.2.2.2.2.1 hZ.2.2.2.2.2.2 hS (hl.1.trans E.2.2.1.symm) d0 d3 d4 d7 d10 (fun x hx => (hth x hx).elim) (by show 5 < R.frames; omega) (by
      have := hR.2.1
      simp only [List.length_cons, List.length_nil]
      omega) hR.2.2.1 hR.2.2.2 E.2.2.2.2.2.2.2.2
    (fun t _ hsz hq => ⟨⟨L, f, hp, k_Hkeep hH hq⟩, Nat.le_trans hS.1 hsz, fun q h1 h2 => (hq q (Nat.lt_of_lt_of_le h1 hS.1)).trans (hS.2.1 q h1 h2)⟩) hS.2.2 hm.1 hm.2
end Throws
end
section
/-! ===== what each call throws, answers, leaves ===== -/
abbrev cIA : String := "java/lang/IllegalArgumentException"
abbrev cIS : String := "java/lang/IllegalStateException"
abbrev cIO : String := "java/lang/IndexOutOfBoundsException"
def xAddWave (σ : Sg) (r p o : Int) : Option String := if 0 ≤ r ∧ r ≤ 5000 then (if 60 ≤ p ∧ p ≤ 20000 then (if 0 ≤ o ∧ o ≤ p - 1 then (if (σ.1.2.1 : Int) < 8 then none else some cIS) else some cIA) else some cIA) else some cIA
def sAddWave (σ : Sg) (r p o : Int) : Sg := ((σ.1.1, σ.1.2.1 + 1, va_up σ.1.2.2.1 σ.1.2.1 r, va_up σ.1.2.2.2.1 σ.1.2.1 p, va_up σ.1.2.2.2.2 σ.1.2.1 o), σ.2)
def xSetRange (σ : Sg) (w r : Int) : Option String := if 0 ≤ w ∧ w < (σ.1.2.1 : Int) then (if 0 ≤ r ∧ r ≤ 5000 then none else some cIA) else some cIO
def sSetRange (σ : Sg) (w r : Int) : Sg := ((σ.1.1, σ.1.2.1, va_up σ.1.2.2.1 w.toNat r, σ.1.2.2.2), σ.2)
def xSetLevel (v : Int) : Option String := if -10000 ≤ v ∧ v ≤ 10000 then none else some cIA
def sSetLevel (σ : Sg) (v : Int) : Sg := ((v, σ.1.2), σ.2)
def xHeight (t : Int) : Option String := if 0 ≤ t ∧ t ≤ 4319 then none else some cIA
def xWaveHeight (σ : Sg) (w t : Int) : Option String := if 0 ≤ w ∧ w < (σ.1.2.1 : Int) then (if 0 ≤ t ∧ t ≤ 4319 then none else some cIA) else some cIO
def xCount (what : Int) : Option String := if 0 ≤ what ∧ what ≤ 3 then none else some cIO
def xWater (σ : Sg) (w what : Int) : Option String := if 0 ≤ w ∧ w < (nW (hT σ.1) : Int) then (if 0 ≤ what ∧ what ≤ 2 then none else some cIO) else some cIO
def aWater (h : Nat → Int) (k : Nat) (what : Int) : Int := if what = 0 then (tm h k : Int) else if what = 1 then h (tm h k) else bI (hi h k)
def xDatum (what : Int) : Option String := if 0 ≤ what ∧ what ≤ 4 then none else some cIO
def xAddPort (σ : Sg) : Option String := if (σ.2.1 : Int) < 6 then none else some cIS
def sAddPort (σ : Sg) : Sg := (σ.1, σ.2.1 + 1, va_up σ.2.2.1 σ.2.1 (0, 100, 0, 100, 0), σ.2.2.2)
def xSetPort (σ : Sg) (p s f : Int) : Option String := if 0 ≤ p ∧ p < (σ.2.1 : Int) then (if -300 ≤ s ∧ s ≤ 300 then (if 0 ≤ f ∧ f ≤ 300 then none else some cIA) else some cIA) else some cIO
def qSet (q : Pt) (b : Bool) (s f : Int) : Pt := if b = true then (s, f, q.2.2) else (q.1, q.2.1, s, f, q.2.2.2.2)
def sSetPort (σ : Sg) (p : Int) (b : Bool) (s f : Int) : Sg := (σ.1, σ.2.1, va_up σ.2.2.1 p.toNat (qSet (σ.2.2.1 p.toNat) b s f), σ.2.2.2)
def aSetPort (q : Pt) (b : Bool) : Int := if b = true then q.2.1 else q.2.2.2.1
def xSetAdd (σ : Sg) (p v : Int) : Option String := if 0 ≤ p ∧ p < (σ.2.1 : Int) then (if -3000 ≤ v ∧ v ≤ 3000 then none else some cIA) else some cIO
def qAdd (q : Pt) (v : Int) : Pt := (q.1, q.2.1, q.2.2.1, q.2.2.2.1, v)
def sSetAdd (σ : Sg) (p v : Int) : Sg := (σ.1, σ.2.1, va_up σ.2.2.1 p.toNat (qAdd (σ.2.2.1 p.toNat) v), σ.2.2.2)
def xPort (σ : Sg) (p : Int) : Option String := if 0 ≤ p ∧ p < (σ.2.1 : Int) then none else some cIO
def xPortWater (σ : Sg) (p w : Int) : Option String := if 0 ≤ p ∧ p < (σ.2.1 : Int) then (if 0 ≤ w ∧ w < (nW (hT σ.1) : Int) then none else some cIO) else some cIO
def aPortWater (h : Nat → Int) (q : Pt) (k : Nat) (b : Bool) : Int := if b = true then pT h q k else pH h q k
def xPortHeight (σ : Sg) (p t : Int) : Option String := if 0 ≤ p ∧ p < (σ.2.1 : Int) then (if 0 ≤ t ∧ t ≤ 4319 then (if ord (hT σ.1) (σ.2.2.1 p.toNat) = true then (if 0 ≤ ((lat (hT σ.1) (σ.2.2.1 p.toNat) t 0 : Nat) : Int) - 1 ∧ ((lat (hT σ.1) (σ.2.2.1 p.toNat) t 0 : Nat) : Int) - 1 < (nW (hT σ.1) : Int) - 1 then none else some cIS) else some cIS) else some cIA) else some cIO
def aPortHeight (σ : Sg) (p t : Int) : Int := btw (hT σ.1) (σ.2.2.1 p.toNat) (lat (hT σ.1) (σ.2.2.1 p.toNat) t 0) t
def xWindows (σ : Sg) (p a b what : Int) : Option String := if p = -1 ∨ (0 ≤ p ∧ p < (σ.2.1 : Int)) then (if 0 ≤ what ∧ what ≤ 3 then (if 0 ≤ a ∧ a ≤ b ∧ b < 4320 then none else some cIA) else some cIO) else some cIO
def aWindows (σ : Sg) (p lev a b what : Int) : Int := if p = -1 then tlA (tlC (hT σ.1) lev a.toNat (b.toNat + 1 - a.toNat)) what else tlA (if ord (hT σ.1) (σ.2.2.1 p.toNat) = true then tlP (hT σ.1) (σ.2.2.1 p.toNat) lev a.toNat (b.toNat + 1 - a.toNat) else tl0) what
def xRead (σ : Sg) (t v : Int) : Option String := if 0 ≤ t ∧ t ≤ 4319 then (if -50000 ≤ v ∧ v ≤ 50000 then (if (σ.2.2.2.1 : Int) < 40 then none else some cIS) else some cIA) else some cIA
def sRead (σ : Sg) (t v : Int) : Sg := (σ.1, σ.2.1, σ.2.2.1, σ.2.2.2.1 + 1, va_up σ.2.2.2.2.1 σ.2.2.2.1 t.toNat, va_up σ.2.2.2.2.2 σ.2.2.2.1 v)
def raised (σ : Sg) : Int := (sumD (hT σ.1) σ.2.2.2 σ.2.2.2.1).tdiv (σ.2.2.2.1 : Int)
def xAdjust (σ : Sg) : Option String := if σ.2.2.2.1 = 0 then some cIS else (if -10000 ≤ σ.1.1 + raised σ ∧ σ.1.1 + raised σ ≤ 10000 then none else some cIS)
def sAdjust (σ : Sg) : Sg := ((σ.1.1 + raised σ, σ.1.2), σ.2.1, σ.2.2.1, 0, σ.2.2.2.2)
theorem raised_bd {σ : Sg} (hs : SgOk σ) : -4000000 ≤ raised σ ∧ raised σ ≤ 4000000 := by
  have h1 := sumD_bd hs.1 hs.2.2 σ.2.2.2.1 (Nat.le_refl _)
  have h2 := hs.2.2.1
  have h3 := Int.natAbs_tdiv_le_natAbs (sumD (hT σ.1) σ.2.2.2 σ.2.2.2.1) (σ.2.2.2.1 : Int)
  unfold raised
  omega
/-! the states that come of a change are good -/
theorem sAddWave_ok {σ : Sg} {r p o : Int} (hs : SgOk σ) (h : xAddWave σ r p o = none) : SgOk (sAddWave σ r p o) := by
  obtain ⟨⟨h1, h2, h3⟩, h4, h5⟩ := hs
  unfold xAddWave at h
  split at h
  · rename_i a1
    split at h
    · rename_i a2
      split at h
      · rename_i a3
        split at h
        · rename_i a4
          refine ⟨⟨h1, by show σ.1.2.1 + 1 ≤ 8; omega, fun i hi => ?_⟩, h4, h5⟩
          show wvOk (va_up σ.1.2.2.1 σ.1.2.1 r i) (va_up σ.1.2.2.2.1 σ.1.2.1 p i) (va_up σ.1.2.2.2.2 σ.1.2.1 o i)
          by_cases e : i = σ.1.2.1
          · subst e
            rw [va_up_self, va_up_self, va_up_self]
            exact ⟨a1, a2, a3.1, by omega⟩
          · rw [va_up_ne _ _ e, va_up_ne _ _ e, va_up_ne _ _ e]
            exact h3 i (by have hi2 : i < σ.1.2.1 + 1 := hi; omega)
        · exact nomatch h
      · exact nomatch h
    · exact nomatch h
  · exact nomatch h
theorem sSetRange_ok {σ : Sg} {w r : Int} (hs : SgOk σ) (h : xSetRange σ w r = none) : SgOk (sSetRange σ w r) := by
  obtain ⟨⟨h1, h2, h3⟩, h4, h5⟩ := hs
  unfold xSetRange at h
  split at h
  · rename_i a1
    split at h
    · rename_i a2
      refine ⟨⟨h1, h2, fun i hi => ?_⟩, h4, h5⟩
      show wvOk (va_up σ.1.2.2.1 w.toNat r i) (σ.1.2.2.2.1 i) (σ.1.2.2.2.2 i)
      have h6 := h3 i hi
      by_cases e : i = w.toNat
      · subst e
        rw [va_up_self]
        exact ⟨a2, h6.2⟩
      · rw [va_up_ne _ _ e]
        exact h6
    · exact nomatch h
  · exact nomatch h
theorem sSetLevel_ok {σ : Sg} {v : Int} (hs : SgOk σ) (h : xSetLevel v = none) : SgOk (sSetLevel σ v) := by
  obtain ⟨⟨h1, h2, h3⟩, h4, h5⟩ := hs
  unfold xSetLevel at h
  split at h
  · rename_i a1
    exact ⟨⟨a1, h2, h3⟩, h4, h5⟩
  · exact nomatch h
theorem sAddPort_ok {σ : Sg} (hs : SgOk σ) (h : xAddPort σ = none) : SgOk (sAddPort σ) := by
  obtain ⟨h1, ⟨h2, h3⟩, h5⟩ := hs
  unfold xAddPort at h
  split at h
  · rename_i a1
    refine ⟨h1, ⟨by show σ.2.1 + 1 ≤ 6; omega, fun i hi => ?_⟩, h5⟩
    show PtOk (va_up σ.2.2.1 σ.2.1 (0, 100, 0, 100, 0) i)
    by_cases e : i = σ.2.1
    · subst e
      rw [va_up_self]
      unfold PtOk
      refine ⟨⟨?_, ?_⟩, ⟨?_, ?_⟩, ⟨?_, ?_⟩, ⟨?_, ?_⟩, ?_, ?_⟩ <;> simp only [] <;> omega
    · rw [va_up_ne _ _ e]
      exact h3 i (by have hi2 : i < σ.2.1 + 1 := hi; omega)
  · exact nomatch h
theorem sSetPort_ok {σ : Sg} {p s f : Int} {b : Bool} (hs : SgOk σ) (h : xSetPort σ p s f = none) : SgOk (sSetPort σ p b s f) := by
  obtain ⟨h1, ⟨h2, h3⟩, h5⟩ := hs
  unfold xSetPort at h
  split at h
  · rename_i a1
    split at h
    · rename_i a2
      split at h
      · rename_i a3
        refine ⟨h1, ⟨h2, fun i hi => ?_⟩, h5⟩
        show PtOk (va_up σ.2.2.1 p.toNat (qSet (σ.2.2.1 p.toNat) b s f) i)
        by_cases e : i = p.toNat
        · rw [← e, va_up_self]
          obtain ⟨b1, b2, b3, b4, b5⟩ := h3 i hi
          unfold qSet
          cases b with
          | true => exact ⟨a2, a3, b3, b4, b5⟩
          | false => exact ⟨b1, b2, a2, a3, b5⟩
        · rw [va_up_ne _ _ e]
          exact h3 i hi
      · exact nomatch h
    · exact nomatch h
  · exact nomatch h
theorem sSetAdd_ok {σ : Sg} {p v : Int} (hs : SgOk σ) (h : xSetAdd σ p v = none) : SgOk (sSetAdd σ p v) := by
  obtain ⟨h1, ⟨h2, h3⟩, h5⟩ := hs
  unfold xSetAdd at h
  split at h
  · rename_i a1
    split at h
    · rename_i a2
      refine ⟨h1, ⟨h2, fun i hi => ?_⟩, h5⟩
      show PtOk (va_up σ.2.2.1 p.toNat (qAdd (σ.2.2.1 p.toNat) v) i)
      by_cases e : i = p.toNat
      · rw [← e, va_up_self]
        obtain ⟨b1, b2, b3, b4, b5⟩ := h3 i hi
        exact ⟨b1, b2, b3, b4, a2⟩
      · rw [va_up_ne _ _ e]
        exact h3 i hi
    · exact nomatch h
  · exact nomatch h
theorem sRead_ok {σ : Sg} {t v : Int} (hs : SgOk σ) (h : xRead σ t v = none) : SgOk (sRead σ t v) := by
  obtain ⟨h1, h2, h4, h5⟩ := hs
  unfold xRead at h
  split at h
  · rename_i a1
    split at h
    · rename_i a2
      split at h
      · rename_i a3
        refine ⟨h1, h2, by show σ.2.2.2.1 + 1 ≤ 40; omega, fun i hi => ?_⟩
        show va_up σ.2.2.2.2.1 σ.2.2.2.1 t.toNat i < 4320 ∧ (-50000 ≤ va_up σ.2.2.2.2.2 σ.2.2.2.1 v i ∧ va_up σ.2.2.2.2.2 σ.2.2.2.1 v i ≤ 50000)
        by_cases e : i = σ.2.2.2.1
        · subst e
          rw [va_up_self, va_up_self]
          exact ⟨by omega, a2⟩
        · rw [va_up_ne _ _ e, va_up_ne _ _ e]
          exact h5 i (by have hi2 : i < σ.2.2.2.1 + 1 := hi; omega)
      · exact nomatch h
    · exact nomatch h
  · exact nomatch h
theorem sAdjust_ok {σ : Sg} (hs : SgOk σ) (h : xAdjust σ = none) : SgOk (sAdjust σ) := by
  obtain ⟨⟨h1, h2, h3⟩, h4, h5⟩ := hs
  unfold xAdjust at h
  split at h
  · exact nomatch h
  · split at h
    · rename_i a1
      exact ⟨⟨a1, h2, h3⟩, h4, Nat.zero_le _, fun i hi => absurd hi (Nat.not_lt_zero _)⟩
    · exact nomatch h
theorem sg0_ok : SgOk sg0 := ⟨⟨⟨by decide, by decide⟩, Nat.zero_le _, fun i hi => absurd hi (Nat.not_lt_zero _)⟩, ⟨Nat.zero_le _, fun i hi => absurd hi (Nat.not_lt_zero _)⟩, Nat.zero_le _, fun i hi => absurd hi (Nat.not_lt_zero _)⟩
/-! representation behind a change -/
theorem TideR.setR {κ : Kx} {L : List Nat} {f f' : Nat → wE} {td wl k : Nat} {wv : Nat → Nat} {τ : Td} {r : Int} (ctd : Cl L f' td (2, .inr (6, [.ref wl, .int (iI τ.1)]))) (hL : ListR κ L f' wl 6 11 τ.2.1 wv) (hW : ∀ i, i < τ.2.1 → Cl L f (wv i) (14, .inr (7, [.int (iI (τ.2.2.1 i)), .int (iI (τ.2.2.2.1 i)), .int (iI (τ.2.2.2.2 i))]))) (hk : k < τ.2.1)
    (hne : ∀ z, z ≠ wv k → f' z = f z) (cw : Cl L f' (wv k) (14, .inr (7, [.int (iI r), .int (iI (τ.2.2.2.1 k)), .int (iI (τ.2.2.2.2 k))]))) (hi : ∀ i j, i < τ.2.1 → j < τ.2.1 → wv i = wv j → i = j) : TideR κ L f' td (τ.1, τ.2.1, va_up τ.2.2.1 k r, τ.2.2.2) := by
  refine ⟨wl, wv, ctd, hL, fun i hi2 => ?_, hi⟩
  show Cl L f' (wv i) (14, .inr (7, [.int (iI (va_up τ.2.2.1 k r i)), .int (iI (τ.2.2.2.1 i)), .int (iI (τ.2.2.2.2 i))]))
  by_cases e : i = k
  · subst e
    rw [va_up_self]
    exact cw
  · rw [va_up_ne _ _ e]
    exact Cl.put2 hne (hW i hi2) (fun q => e (hi i k hi2 hk q))
theorem TideR.add {κ : Kx} {L L1 : List Nat} {f f1 : Nat → wE} {td wl w : Nat} {wv : Nat → Nat} {τ : Td} {r p o : Int} (hW : ∀ i, i < τ.2.1 → Cl L f (wv i) (14, .inr (7, [.int (iI (τ.2.2.1 i)), .int (iI (τ.2.2.2.1 i)), .int (iI (τ.2.2.2.2 i))]))) (hW1 : ∀ i, i < τ.2.1 → Cl L1 f1 (wv i) (14, .inr (7, [.int (iI (τ.2.2.1 i)), .int (iI (τ.2.2.2.1 i)), .int (iI (τ.2.2.2.2 i))]))) (hn : w ∉ L)
    (ctd : Cl L1 f1 td (2, .inr (6, [.ref wl, .int (iI τ.1)]))) (hL : ListR κ L1 f1 wl 6 11 (τ.2.1 + 1) (va_up wv τ.2.1 w)) (cw : Cl L1 f1 w (14, .inr (7, [.int (iI r), .int (iI p), .int (iI o)]))) (hi : ∀ i j, i < τ.2.1 → j < τ.2.1 → wv i = wv j → i = j) : TideR κ L1 f1 td (τ.1, τ.2.1 + 1, va_up τ.2.2.1 τ.2.1 r, va_up τ.2.2.2.1 τ.2.1 p, va_up τ.2.2.2.2 τ.2.1 o) := by
  refine ⟨wl, va_up wv τ.2.1 w, ctd, hL, fun i hi2 => ?_, fun i j hi2 hj2 => ?_⟩
  · show Cl L1 f1 (va_up wv τ.2.1 w i) (14, .inr (7, [.int (iI (va_up τ.2.2.1 τ.2.1 r i)), .int (iI (va_up τ.2.2.2.1 τ.2.1 p i)), .int (iI (va_up τ.2.2.2.2 τ.2.1 o i))]))
    by_cases e : i = τ.2.1
    · subst e
      rw [va_up_self, va_up_self, va_up_self, va_up_self]
      exact cw
    · rw [va_up_ne _ _ e, va_up_ne _ _ e, va_up_ne _ _ e, va_up_ne _ _ e]
      exact hW1 i (by have hi3 : i < τ.2.1 + 1 := hi2; omega)
  · have hi3 : i < τ.2.1 + 1 := hi2
    have hj3 : j < τ.2.1 + 1 := hj2
    by_cases e1 : i = τ.2.1
    · by_cases e2 : j = τ.2.1
      · intro _
        rw [e1, e2]
      · rw [e1, va_up_self, va_up_ne _ _ e2]
        intro q
        exact absurd (by rw [q]; exact (hW j (by omega)).1) hn
    · by_cases e2 : j = τ.2.1
      · rw [e2, va_up_self, va_up_ne _ _ e1]
        intro q
        exact absurd (by rw [← q]; exact (hW i (by omega)).1) hn
      · rw [va_up_ne _ _ e1, va_up_ne _ _ e2]
        exact hi i j (by omega) (by omega)
end
section
theorem nextW_end {h : Nat → Int} {t : Int} {b : Bool} {k : Nat} (hk : nW h ≤ k) : ∀ m, nextW h t b m k = -1
  | 0 => rfl
  | m + 1 => by rw [nextW, if_neg (by omega)]
theorem nextW_hit {h : Nat → Int} {t : Int} {b : Bool} {k m : Nat} (hk : k < nW h) (h1 : t ≤ (tm h k : Int)) (h2 : hi h k = b) (hm : 0 < m) : nextW h t b m k = (k : Int) := by
  obtain ⟨m, rfl⟩ : ∃ n, m = n + 1 := ⟨m - 1, by omega⟩
  rw [nextW, if_pos hk, if_pos ⟨h1, h2⟩]
theorem nextW_go {h : Nat → Int} {t : Int} {b : Bool} {k m : Nat} (hk : k < nW h) (h1 : ¬ (t ≤ (tm h k : Int) ∧ hi h k = b)) (hm : 0 < m) : nextW h t b m k = nextW h t b (m - 1) (k + 1) := by
  obtain ⟨m, rfl⟩ : ∃ n, m = n + 1 := ⟨m - 1, by omega⟩
  rw [nextW, if_pos hk, if_neg h1]
  rfl
set_option maxHeartbeats 4000000 in
set_option maxRecDepth 100000 in
theorem c_X7_height (la : Launch) (κ : Kx) {L : List Nat} {f : Nat → wE} {tt td tb pl rl : Nat} {old : Bool} {σ : Sg} {t : Int}  (hC : CSF κ L f tt td tb pl rl old σ) (hts : la.stackTraces = false) (hs : SgOk σ) (ht : inI t) : k_MX la κ yX7_height cX7_height 2 (some .int) 6 1 6 [.ref tt, .int (iI t)] L f (k_rn (fun v9 L' f' => xHeight t = none ∧ v9 = .int (iI (hT σ.1 t.toNat)) ∧ CS κ L' f' tt (σ) ∧ k_fr SC L f L' f')) (fun E L' f' => xHeight t = some E ∧ CS κ L' f' tt σ ∧ k_fr SC L f L' f') := by
  refine k_headX RX7 [(0, .ref tt), (1, .int (iI t))] rfl (by decide) (Nat.le_of_ble_eq_true rfl) rfl (fun θ hθ hin hth => ?_)
  have hts2 : θ.2.1.stackTraces = false := by rw [hθ]; exact hts
  obtain ⟨ctt, hTd, hTx, hPs, hRs⟩ := id hC
  obtain ⟨wl, wv, ctd, hLw, hW, hWi⟩ := id hTd
  obtain ⟨md1, E1, cwl⟩ := hLw.cl
  obtain ⟨hs1, ⟨hs2, hs3⟩, hs4⟩ := id hs
  have hs5 := hs1.2.1
  have hs6 := hs4.1
  have hs7 := nW_le (hT σ.1)
  have hs8 := hs1.1
  refine k_iload_n 1 1 dX7_height_0 rfl rfl ?_
  refine k_useR (k_runS (c_X7_isMinute θ.2.1 κ (z := t) ht) w_X7_95 q_133 rfl rfl ⟨(Nat.le_of_ble_eq_true rfl), (Nat.le_of_ble_eq_true rfl)⟩ (Nat.le_of_ble_eq_true rfl) dX7_height_1) ⟨(Nat.le_of_ble_eq_true rfl), (Nat.le_of_ble_eq_true rfl)⟩ ?_
  refine k_ifb_ne 17 dX7_height_4 (by decide) (fun h4 => ?_) (fun h4 => ?_)
  · have hd4 := of_decide_eq_true h4
    obtain ⟨tn, rfl⟩ : ∃ tn : Nat, t = (tn : Int) := ⟨t.toNat, by omega⟩
    refine k_aload_n 0 0 dX7_height_17 rfl rfl ?_
    refine k_get 0 i_X7 q_112 ctt rfl (by decide) rfl dX7_height_18 ?_
    refine k_iload_n 1 1 dX7_height_21 rfl rfl ?_
    refine k_useR (k_runV (c_X5_heightAt θ.2.1 κ (τ := σ.1) (td := td) (t := tn) hTd hs1 (by omega)) w_X7_100 ⟨q_207, q_208⟩ rfl rfl ctd rfl ⟨(Nat.le_of_ble_eq_true rfl), (Nat.le_of_ble_eq_true rfl)⟩ (Nat.le_of_ble_eq_true rfl) dX7_height_22) ⟨(Nat.le_of_ble_eq_true rfl), (Nat.le_of_ble_eq_true rfl)⟩ ?_
    exact k_xr (k_iret dX7_height_25 rfl (Nat.le_of_ble_eq_true rfl) (Nat.le_of_ble_eq_true rfl) (⟨_, rfl, (by rw [xHeight, if_pos hd4]), rfl, hC.cs, k_fr.refl⟩))
  · have hd4 := of_decide_eq_false h4
    exact k_throw (si := 4) hts2 hth x_IA (by decide) rfl dX7_height_7 dX7_height_10 dX7_height_11 dX7_height_13 dX7_height_16 ⟨(Nat.le_of_ble_eq_true rfl), (Nat.le_of_ble_eq_true rfl), (Nat.le_of_ble_eq_true rfl), (Nat.le_of_ble_eq_true rfl)⟩ (Nat.le_of_ble_eq_true rfl) ⟨(Nat.le_of_ble_eq_true rfl), (Nat.le_of_ble_eq_true rfl)⟩ (⟨(by rw [xHeight, if_neg hd4]), hC.cs, k_fr.refl⟩)
set_option maxHeartbeats 4000000 in
set_option maxRecDepth 100000 in
theorem c_X7_count (la : Launch) (κ : Kx) {L : List Nat} {f : Nat → wE} {tt td tb pl rl : Nat} {old : Bool} {σ : Sg} {what : Int}  (hC : CSF κ L f tt td tb pl rl old σ) (hts : la.stackTraces = false) (hs : SgOk σ) (hwhat : inI what) : k_MX la κ yX7_count cX7_count 2 (some .int) 8 1 6 [.ref tt, .int (iI what)] L f (k_rn (fun v9 L' f' => xCount what = none ∧ v9 = .int (iI (numS σ what)) ∧ CS κ L' f' tt (σ) ∧ k_fr SC L f L' f')) (fun E L' f' => xCount what = some E ∧ CS κ L' f' tt σ ∧ k_fr SC L f L' f') := by
  refine k_headX RX7 [(0, .ref tt), (1, .int (iI what))] rfl (by decide) (Nat.le_of_ble_eq_true rfl) rfl (fun θ hθ hin hth => ?_)
  have hts2 : θ.2.1.stackTraces = false := by rw [hθ]; exact hts
  obtain ⟨ctt, hTd, hTx, hPs, hRs⟩ := id hC
  refine k_iload_n 1 1 dX7_count_0 rfl rfl ?_
  refine k_iconst dX7_count_1 ?_
  refine k_iconst dX7_count_2 ?_
  refine k_useR (k_runS (c_X7_isWithin θ.2.1 κ (z := what) (a := 0) (b := 3) hwhat (inI_mk (by omega) (by omega)) (inI_mk (by omega) (by omega))) w_X7_37 q_136 rfl rfl ⟨(Nat.le_of_ble_eq_true rfl), (Nat.le_of_ble_eq_true rfl)⟩ (Nat.le_of_ble_eq_true rfl) dX7_count_3) ⟨(Nat.le_of_ble_eq_true rfl), (Nat.le_of_ble_eq_true rfl)⟩ ?_
  refine k_ifb_ne 19 dX7_count_6 (by decide) (fun h6 => ?_) (fun h6 => ?_)
  · have hd6 := of_decide_eq_true h6
    refine k_aload_n 0 0 dX7_count_19 rfl rfl ?_
    refine k_iload_n 1 1 dX7_count_20 rfl rfl ?_
    refine k_useV (k_runV (c_X7_numberOf θ.2.1 κ (tt := tt) (what := what) hC hs (by omega)) w_X7_107 ⟨q_256, q_1⟩ rfl rfl ctt rfl ⟨(Nat.le_of_ble_eq_true rfl), (Nat.le_of_ble_eq_true rfl)⟩ (Nat.le_of_ble_eq_true rfl) dX7_count_21) ⟨(Nat.le_of_ble_eq_true rfl), (Nat.le_of_ble_eq_true rfl)⟩ (fun w Ln fn hw => ?_)
    obtain ⟨rfl, en, hrn, old9, hCn, -⟩ := hw
    replace en := en.symm
    subst en
    replace hC := hCn
    clear hCn
    exact k_xr (k_iret dX7_count_24 rfl (Nat.le_of_ble_eq_true rfl) (Nat.le_of_ble_eq_true rfl) (⟨_, rfl, (by rw [xCount, if_pos hd6]), rfl, hC.cs, (k_fr.mono hrn SC_SU)⟩))
  · have hd6 := of_decide_eq_false h6
    exact k_throw (si := 5) hts2 hth x_IO (by decide) rfl dX7_count_9 dX7_count_12 dX7_count_13 dX7_count_15 dX7_count_18 ⟨(Nat.le_of_ble_eq_true rfl), (Nat.le_of_ble_eq_true rfl), (Nat.le_of_ble_eq_true rfl), (Nat.le_of_ble_eq_true rfl)⟩ (Nat.le_of_ble_eq_true rfl) ⟨(Nat.le_of_ble_eq_true rfl), (Nat.le_of_ble_eq_true rfl)⟩ (⟨(by rw [xCount, if_neg hd6]), hC.cs, k_fr.refl⟩)
set_option maxHeartbeats 4000000 in
set_option maxRecDepth 100000 in
theorem c_X7_datum (la : Launch) (κ : Kx) {L : List Nat} {f : Nat → wE} {tt td tb pl rl : Nat} {old : Bool} {σ : Sg} {what : Int}  (hC : CSF κ L f tt td tb pl rl old σ) (hts : la.stackTraces = false) (hs : SgOk σ) (hwhat : inI what) : k_MX la κ yX7_datum cX7_datum 2 (some .int) 7 1 6 [.ref tt, .int (iI what)] L f (k_rn (fun v9 L' f' => xDatum what = none ∧ v9 = .int (iI (dat (hT σ.1) what)) ∧ CS κ L' f' tt (σ) ∧ k_fr SC L f L' f')) (fun E L' f' => xDatum what = some E ∧ CS κ L' f' tt σ ∧ k_fr SC L f L' f') := by
  refine k_headX RX7 [(0, .ref tt), (1, .int (iI what))] rfl (by decide) (Nat.le_of_ble_eq_true rfl) rfl (fun θ hθ hin hth => ?_)
  have hts2 : θ.2.1.stackTraces = false := by rw [hθ]; exact hts
  obtain ⟨ctt, hTd, hTx, hPs, hRs⟩ := id hC
  refine k_iload_n 1 1 dX7_datum_0 rfl rfl ?_
  refine k_iconst dX7_datum_1 ?_
  refine k_iconst dX7_datum_2 ?_
  refine k_useR (k_runS (c_X7_isWithin θ.2.1 κ (z := what) (a := 0) (b := 4) hwhat (inI_mk (by omega) (by omega)) (inI_mk (by omega) (by omega))) w_X7_37 q_136 rfl rfl ⟨(Nat.le_of_ble_eq_true rfl), (Nat.le_of_ble_eq_true rfl)⟩ (Nat.le_of_ble_eq_true rfl) dX7_datum_3) ⟨(Nat.le_of_ble_eq_true rfl), (Nat.le_of_ble_eq_true rfl)⟩ ?_
  refine k_ifb_ne 19 dX7_datum_6 (by decide) (fun h6 => ?_) (fun h6 => ?_)
  · have hd6 := of_decide_eq_true h6
    refine k_aload_n 0 0 dX7_datum_19 rfl rfl ?_
    refine k_useV (k_runV (c_X7_currentTable θ.2.1 κ (tt := tt) hC hs) w_X7_110 ⟨q_261, q_2⟩ rfl rfl ctt rfl ⟨(Nat.le_of_ble_eq_true rfl), (Nat.le_of_ble_eq_true rfl)⟩ (Nat.le_of_ble_eq_true rfl) dX7_datum_20) ⟨(Nat.le_of_ble_eq_true rfl), (Nat.le_of_ble_eq_true rfl)⟩ (fun w L9 f9 hw => ?_)
    obtain ⟨rfl, eL9, hr9, hC9⟩ := hw
    replace eL9 := eL9.symm
    subst eL9
    replace hC := hC9
    clear hC9
    obtain ⟨ctt, hTd, hTx, hPs, hRs⟩ := id hC
    have hTb := hTx.2 rfl
    obtain ⟨hs9, wt9, wh9, wi9, ctb⟩ := hTb.cl
    refine k_iload_n 1 1 dX7_datum_23 rfl rfl ?_
    refine k_useR (k_runV (c_X3_datumOf θ.2.1 κ (h := (hT σ.1)) (tb := tb) (what := what) hTb (hT_bd hs.1) hd6) w_X7_135 ⟨q_309, q_310⟩ rfl rfl ctb rfl ⟨(Nat.le_of_ble_eq_true rfl), (Nat.le_of_ble_eq_true rfl)⟩ (Nat.le_of_ble_eq_true rfl) dX7_datum_24) ⟨(Nat.le_of_ble_eq_true rfl), (Nat.le_of_ble_eq_true rfl)⟩ ?_
    exact k_xr (k_iret dX7_datum_27 rfl (Nat.le_of_ble_eq_true rfl) (Nat.le_of_ble_eq_true rfl) (⟨_, rfl, (by rw [xDatum, if_pos hd6]), rfl, hC.cs, (k_fr.mono hr9 SC_SU)⟩))
  · have hd6 := of_decide_eq_false h6
    exact k_throw (si := 8) hts2 hth x_IO (by decide) rfl dX7_datum_9 dX7_datum_12 dX7_datum_13 dX7_datum_15 dX7_datum_18 ⟨(Nat.le_of_ble_eq_true rfl), (Nat.le_of_ble_eq_true rfl), (Nat.le_of_ble_eq_true rfl), (Nat.le_of_ble_eq_true rfl)⟩ (Nat.le_of_ble_eq_true rfl) ⟨(Nat.le_of_ble_eq_true rfl), (Nat.le_of_ble_eq_true rfl)⟩ (⟨(by rw [xDatum, if_neg hd6]), hC.cs, k_fr.refl⟩)
set_option maxHeartbeats 4000000 in
set_option maxRecDepth 100000 in
theorem c_X7_water (la : Launch) (κ : Kx) {L : List Nat} {f : Nat → wE} {tt td tb pl rl : Nat} {old : Bool} {σ : Sg} {w what : Int}  (hC : CSF κ L f tt td tb pl rl old σ) (hts : la.stackTraces = false) (hs : SgOk σ) (hw : inI w) (hwhat : inI what) : k_MX la κ yX7_water cX7_water 4 (some .int) 7 1 6 [.ref tt, .int (iI w), .int (iI what)] L f (k_rn (fun v9 L' f' => xWater σ w what = none ∧ v9 = .int (iI (aWater (hT σ.1) w.toNat what)) ∧ CS κ L' f' tt (σ) ∧ k_fr SC L f L' f')) (fun E L' f' => xWater σ w what = some E ∧ CS κ L' f' tt σ ∧ k_fr SC L f L' f') := by
  refine k_headX RX7 [(0, .ref tt), (1, .int (iI w)), (2, .int (iI what))] rfl (by decide) (Nat.le_of_ble_eq_true rfl) rfl (fun θ hθ hin hth => ?_)
  have hts2 : θ.2.1.stackTraces = false := by rw [hθ]; exact hts
  obtain ⟨ctt, hTd, hTx, hPs, hRs⟩ := id hC
  refine k_aload_n 0 0 dX7_water_0 rfl rfl ?_
  refine k_useV (k_runV (c_X7_currentTable θ.2.1 κ (tt := tt) hC hs) w_X7_110 ⟨q_261, q_2⟩ rfl rfl ctt rfl ⟨(Nat.le_of_ble_eq_true rfl), (Nat.le_of_ble_eq_true rfl)⟩ (Nat.le_of_ble_eq_true rfl) dX7_water_1) ⟨(Nat.le_of_ble_eq_true rfl), (Nat.le_of_ble_eq_true rfl)⟩ (fun w L9 f9 hw => ?_)
  obtain ⟨rfl, eL9, hr9, hC9⟩ := hw
  replace eL9 := eL9.symm
  subst eL9
  replace hC := hC9
  clear hC9
  obtain ⟨ctt, hTd, hTx, hPs, hRs⟩ := id hC
  have hTb := hTx.2 rfl
  obtain ⟨hs9, wt9, wh9, wi9, ctb⟩ := hTb.cl
  refine k_astore_n 3 [(3, .ref tb), (0, .ref tt), (1, .int (iI w)), (2, .int (iI what))] dX7_water_4 rfl (by decide) rfl ?_
  refine k_aload_n 0 3 dX7_water_5 rfl rfl ?_
  refine k_iload_n 2 1 dX7_water_6 rfl rfl ?_
  refine k_useR (k_runV (c_X3_hasWater θ.2.1 κ (tb := tb) (z := w) hTb hw) w_X7_114 ⟨q_281, q_282⟩ rfl rfl ctb rfl ⟨(Nat.le_of_ble_eq_true rfl), (Nat.le_of_ble_eq_true rfl)⟩ (Nat.le_of_ble_eq_true rfl) dX7_water_7) ⟨(Nat.le_of_ble_eq_true rfl), (Nat.le_of_ble_eq_true rfl)⟩ ?_
  refine k_ifb_ne 23 dX7_water_10 (by decide) (fun h10 => ?_) (fun h10 => ?_)
  · have hd10 := of_decide_eq_true h10
    obtain ⟨wn, rfl⟩ : ∃ wn : Nat, w = (wn : Int) := ⟨w.toNat, by omega⟩
    have hnn := nW_le (hT σ.1)
    refine k_iload_n 3 2 dX7_water_23 rfl rfl ?_
    rcases (by omega : what = 0 ∨ what = 1 ∨ what = 2 ∨ (what < 0 ∨ 2 < what)) with h24 | h24 | h24 | h24
    · refine k_swIn 0 52 dX7_water_24 hwhat h24 (by decide) (by decide) rfl (by decide) ?_
      refine k_aload_n 0 3 dX7_water_52 rfl rfl ?_
      refine k_iload_n 2 1 dX7_water_53 rfl rfl ?_
      refine k_useR (k_runV (c_X3_timeOf θ.2.1 κ (h := (hT σ.1)) (k := wn) (tb := tb) hTb (by omega)) w_X7_119 ⟨q_286, q_287⟩ rfl rfl ctb rfl ⟨(Nat.le_of_ble_eq_true rfl), (Nat.le_of_ble_eq_true rfl)⟩ (Nat.le_of_ble_eq_true rfl) dX7_water_54) ⟨(Nat.le_of_ble_eq_true rfl), (Nat.le_of_ble_eq_true rfl)⟩ ?_
      exact k_xr (k_iret dX7_water_57 rfl (Nat.le_of_ble_eq_true rfl) (Nat.le_of_ble_eq_true rfl) (⟨_, rfl, (by rw [xWater, if_pos hd10, if_pos (by omega)]), (by rw [h24]; rfl), hC.cs, (k_fr.mono hr9 SC_SU)⟩))
    · refine k_swIn 1 58 dX7_water_24 hwhat h24 (by decide) (by decide) rfl (by decide) ?_
      refine k_aload_n 0 3 dX7_water_58 rfl rfl ?_
      refine k_iload_n 2 1 dX7_water_59 rfl rfl ?_
      refine k_useR (k_runV (c_X3_heightOf θ.2.1 κ (h := (hT σ.1)) (k := wn) (tb := tb) hTb (by omega)) w_X7_122 ⟨q_291, q_292⟩ rfl rfl ctb rfl ⟨(Nat.le_of_ble_eq_true rfl), (Nat.le_of_ble_eq_true rfl)⟩ (Nat.le_of_ble_eq_true rfl) dX7_water_60) ⟨(Nat.le_of_ble_eq_true rfl), (Nat.le_of_ble_eq_true rfl)⟩ ?_
      exact k_xr (k_iret dX7_water_63 rfl (Nat.le_of_ble_eq_true rfl) (Nat.le_of_ble_eq_true rfl) (⟨_, rfl, (by rw [xWater, if_pos hd10, if_pos (by omega)]), (by rw [h24]; rfl), hC.cs, (k_fr.mono hr9 SC_SU)⟩))
    · refine k_swIn 2 64 dX7_water_24 hwhat h24 (by decide) (by decide) rfl (by decide) ?_
      refine k_aload_n 0 3 dX7_water_64 rfl rfl ?_
      refine k_iload_n 2 1 dX7_water_65 rfl rfl ?_
      refine k_useR (k_runV (c_X3_isHigh θ.2.1 κ (h := (hT σ.1)) (k := wn) (tb := tb) hTb (by omega)) w_X7_125 ⟨q_295, q_296⟩ rfl rfl ctb rfl ⟨(Nat.le_of_ble_eq_true rfl), (Nat.le_of_ble_eq_true rfl)⟩ (Nat.le_of_ble_eq_true rfl) dX7_water_66) ⟨(Nat.le_of_ble_eq_true rfl), (Nat.le_of_ble_eq_true rfl)⟩ ?_
      refine k_ifb_eq 76 dX7_water_69 (by decide) (fun h69 => ?_) (fun h69 => ?_)
      · refine k_iconst dX7_water_76 ?_
        exact k_xr (k_iret dX7_water_77 rfl (Nat.le_of_ble_eq_true rfl) (Nat.le_of_ble_eq_true rfl) (⟨_, rfl, (by rw [xWater, if_pos hd10, if_pos (by omega)]), (by rw [h24]; show _ = Value.int (iI (bI (hi (hT σ.1) wn))); rw [h69]; rfl), hC.cs, (k_fr.mono hr9 SC_SU)⟩))
      · refine k_iconst dX7_water_72 ?_
        refine k_goto 77 dX7_water_73 (by decide) ?_
        exact k_xr (k_iret dX7_water_77 rfl (Nat.le_of_ble_eq_true rfl) (Nat.le_of_ble_eq_true rfl) (⟨_, rfl, (by rw [xWater, if_pos hd10, if_pos (by omega)]), (by rw [h24]; show _ = Value.int (iI (bI (hi (hT σ.1) wn))); rw [h69]; rfl), hC.cs, (k_fr.mono hr9 SC_SU)⟩))
    · refine k_swOut 78 dX7_water_24 hwhat h24 (by decide) ?_
      exact k_throw (si := 7) hts2 hth x_IO (by decide) rfl dX7_water_78 dX7_water_81 dX7_water_82 dX7_water_84 dX7_water_87 ⟨(Nat.le_of_ble_eq_true rfl), (Nat.le_of_ble_eq_true rfl), (Nat.le_of_ble_eq_true rfl), (Nat.le_of_ble_eq_true rfl)⟩ (Nat.le_of_ble_eq_true rfl) ⟨(Nat.le_of_ble_eq_true rfl), (Nat.le_of_ble_eq_true rfl)⟩ (⟨(by rw [xWater, if_pos hd10, if_neg (by omega)]), hC.cs, (k_fr.mono hr9 SC_SU)⟩)
  · have hd10 := of_decide_eq_false h10
    exact k_throw (si := 6) hts2 hth x_IO (by decide) rfl dX7_water_13 dX7_water_16 dX7_water_17 dX7_water_19 dX7_water_22 ⟨(Nat.le_of_ble_eq_true rfl), (Nat.le_of_ble_eq_true rfl), (Nat.le_of_ble_eq_true rfl), (Nat.le_of_ble_eq_true rfl)⟩ (Nat.le_of_ble_eq_true rfl) ⟨(Nat.le_of_ble_eq_true rfl), (Nat.le_of_ble_eq_true rfl)⟩ (⟨(by rw [xWater, if_neg hd10]), hC.cs, (k_fr.mono hr9 SC_SU)⟩)
set_option maxHeartbeats 4000000 in
set_option maxRecDepth 100000 in
theorem c_X7_next (la : Launch) (κ : Kx) {L : List Nat} {f : Nat → wE} {tt td tb pl rl : Nat} {old : Bool} {σ : Sg} {t : Int} {b : Bool}  (hC : CSF κ L f tt td tb pl rl old σ) (hts : la.stackTraces = false) (hs : SgOk σ) (ht : inI t) : k_MX la κ yX7_next cX7_next 5 (some .int) 7 1 6 [.ref tt, .int (iI t), .int (iI (bI b))] L f (k_rn (fun v9 L' f' => xHeight t = none ∧ v9 = .int (iI (nextW (hT σ.1) t b 4320 0)) ∧ CS κ L' f' tt (σ) ∧ k_fr SC L f L' f')) (fun E L' f' => xHeight t = some E ∧ CS κ L' f' tt σ ∧ k_fr SC L f L' f') := by
  refine k_headX RX7 [(0, .ref tt), (1, .int (iI t)), (2, .int (iI (bI b)))] rfl (by decide) (Nat.le_of_ble_eq_true rfl) rfl (fun θ hθ hin hth => ?_)
  have hts2 : θ.2.1.stackTraces = false := by rw [hθ]; exact hts
  obtain ⟨ctt, hTd, hTx, hPs, hRs⟩ := id hC
  refine k_iload_n 1 1 dX7_next_0 rfl rfl ?_
  refine k_useR (k_runS (c_X7_isMinute θ.2.1 κ (z := t) ht) w_X7_95 q_133 rfl rfl ⟨(Nat.le_of_ble_eq_true rfl), (Nat.le_of_ble_eq_true rfl)⟩ (Nat.le_of_ble_eq_true rfl) dX7_next_1) ⟨(Nat.le_of_ble_eq_true rfl), (Nat.le_of_ble_eq_true rfl)⟩ ?_
  refine k_ifb_ne 17 dX7_next_4 (by decide) (fun h4 => ?_) (fun h4 => ?_)
  · have hd4 := of_decide_eq_true h4
    refine k_aload_n 0 0 dX7_next_17 rfl rfl ?_
    refine k_useV (k_runV (c_X7_currentTable θ.2.1 κ (tt := tt) hC hs) w_X7_110 ⟨q_261, q_2⟩ rfl rfl ctt rfl ⟨(Nat.le_of_ble_eq_true rfl), (Nat.le_of_ble_eq_true rfl)⟩ (Nat.le_of_ble_eq_true rfl) dX7_next_18) ⟨(Nat.le_of_ble_eq_true rfl), (Nat.le_of_ble_eq_true rfl)⟩ (fun w L9 f9 hw => ?_)
    obtain ⟨rfl, eL9, hr9, hC9⟩ := hw
    replace eL9 := eL9.symm
    subst eL9
    replace hC := hC9
    clear hC9
    obtain ⟨ctt, hTd, hTx, hPs, hRs⟩ := id hC
    have hTb := hTx.2 rfl
    obtain ⟨hs9, wt9, wh9, wi9, ctb⟩ := hTb.cl
    have hnn := nW_le (hT σ.1)
    refine k_astore_n 3 [(3, .ref tb), (0, .ref tt), (1, .int (iI t)), (2, .int (iI (bI b)))] dX7_next_21 rfl (by decide) rfl ?_
    refine k_iconst dX7_next_22 ?_
    refine k_istore [(4, .int (iI 0)), (3, .ref tb), (0, .ref tt), (1, .int (iI t)), (2, .int (iI (bI b)))] dX7_next_23 (by decide) rfl ?_
    have lp25 : ∀ (fuel : Nat) (k : Nat), (k ≤ nW (hT σ.1)) → (nextW (hT σ.1) t b 4320 0 = nextW (hT σ.1) t b (4320 - k) k) → nW (hT σ.1) - k < fuel → k_G θ κ cX7_next 5 (some .int) RX7 (k_rm 7 1 6) (k_XMQ θ κ (k_rn (fun v9 L' f' => xHeight t = none ∧ v9 = .int (iI (nextW (hT σ.1) t b 4320 0)) ∧ CS κ L' f' tt (σ) ∧ k_fr SC L f L' f')) (fun E L' f' => xHeight t = some E ∧ CS κ L' f' tt σ ∧ k_fr SC L f L' f') 1 6) L f9 0 0 25 [(0, .ref tt), (1, .int (iI t)), (2, .int (iI (bI b))), (3, .ref tb), (4, .int (iI (k : Int)))] [] := by
      intro fuel
      induction fuel with
      | zero =>
        intro k hk hnx hfu
        exact absurd hfu (Nat.not_lt_zero _)
      | succ fuel ih25 =>
        intro k hk hnx hfu
        refine k_iload 4 dX7_next_25 rfl ?_
        refine k_aload_n 3 3 dX7_next_27 rfl rfl ?_
        refine k_getN 4 i_X3 q_96 ctb rfl (by decide) rfl dX7_next_28 ?_
        refine k_icmp_ge 63 dX7_next_31 (by decide) (inI_mk (by omega) (by omega)) (inI_mk (by omega) (by omega)) (fun h31 => ?_) (fun h31 => ?_)
        · refine k_iconst dX7_next_63 ?_
          exact k_xr (k_iret dX7_next_64 rfl (Nat.le_of_ble_eq_true rfl) (Nat.le_of_ble_eq_true rfl) (⟨_, rfl, (by rw [xHeight, if_pos hd4]), (by rw [hnx, nextW_end (by omega)]), hC.cs, (k_fr.mono hr9 SC_SU)⟩))
        · have htm := (tm_spec (h := hT σ.1) (k := k) (by omega)).1
          refine k_aload_n 3 3 dX7_next_34 rfl rfl ?_
          refine k_iload 4 dX7_next_35 rfl ?_
          refine k_useR (k_runV (c_X3_timeOf θ.2.1 κ (h := (hT σ.1)) (k := k) (tb := tb) hTb (by omega)) w_X7_119 ⟨q_286, q_287⟩ rfl rfl ctb rfl ⟨(Nat.le_of_ble_eq_true rfl), (Nat.le_of_ble_eq_true rfl)⟩ (Nat.le_of_ble_eq_true rfl) dX7_next_37) ⟨(Nat.le_of_ble_eq_true rfl), (Nat.le_of_ble_eq_true rfl)⟩ ?_
          refine k_iload_n 1 1 dX7_next_40 rfl rfl ?_
          refine k_icmp_lt 57 dX7_next_41 (by decide) (inI_mk (by omega) (by omega)) (inI_mk (by omega) (by omega)) (fun h41 => ?_) (fun h41 => ?_)
          · refine k_iinc 4 [(4, .int (iI ((k : Int) + 1))), (0, .ref tt), (1, .int (iI t)), (2, .int (iI (bI b))), (3, .ref tb)] dX7_next_57 rfl (by decide) rfl ?_
            refine k_goto 25 dX7_next_60 (by decide) ?_
            refine k_perm [1, 2, 3, 4, 0] [(0, .ref tt), (1, .int (iI t)), (2, .int (iI (bI b))), (3, .ref tb), (4, .int (iI ((k : Int) + 1)))] rfl ?_
            exact ih25 (k + 1) (by omega) (hnx.trans (by rw [nextW_go (by omega) (fun q9 => absurd q9.1 (by omega)) (by omega), show 4320 - k - 1 = 4320 - (k + 1) by omega])) (by omega)
          · refine k_aload_n 3 3 dX7_next_44 rfl rfl ?_
            refine k_iload 4 dX7_next_45 rfl ?_
            refine k_useR (k_runV (c_X3_isHigh θ.2.1 κ (h := (hT σ.1)) (k := k) (tb := tb) hTb (by omega)) w_X7_125 ⟨q_295, q_296⟩ rfl rfl ctb rfl ⟨(Nat.le_of_ble_eq_true rfl), (Nat.le_of_ble_eq_true rfl)⟩ (Nat.le_of_ble_eq_true rfl) dX7_next_47) ⟨(Nat.le_of_ble_eq_true rfl), (Nat.le_of_ble_eq_true rfl)⟩ ?_
            refine k_iload_n 2 2 dX7_next_50 rfl rfl ?_
            refine k_icmp_ne 57 dX7_next_51 (by decide) (bI_in _) (bI_in _) (fun h51 => ?_) (fun h51 => ?_)
            · refine k_iinc 4 [(4, .int (iI ((k : Int) + 1))), (0, .ref tt), (1, .int (iI t)), (2, .int (iI (bI b))), (3, .ref tb)] dX7_next_57 rfl (by decide) rfl ?_
              refine k_goto 25 dX7_next_60 (by decide) ?_
              refine k_perm [1, 2, 3, 4, 0] [(0, .ref tt), (1, .int (iI t)), (2, .int (iI (bI b))), (3, .ref tb), (4, .int (iI ((k : Int) + 1)))] rfl ?_
              exact ih25 (k + 1) (by omega) (hnx.trans (by rw [nextW_go (by omega) (fun q9 => h51 (congrArg bI q9.2)) (by omega), show 4320 - k - 1 = 4320 - (k + 1) by omega])) (by omega)
            · refine k_iload 4 dX7_next_54 rfl ?_
              exact k_xr (k_iret dX7_next_56 rfl (Nat.le_of_ble_eq_true rfl) (Nat.le_of_ble_eq_true rfl) (⟨_, rfl, (by rw [xHeight, if_pos hd4]), (by rw [hnx, nextW_hit (by omega) (by omega) (bI_inj h51) (by omega)]), hC.cs, (k_fr.mono hr9 SC_SU)⟩))
    refine k_perm [2, 3, 4, 1, 0] [(0, .ref tt), (1, .int (iI t)), (2, .int (iI (bI b))), (3, .ref tb), (4, .int (iI 0))] rfl ?_
    exact lp25 _ 0 (Nat.zero_le _) rfl (Nat.lt_succ_self _)
  · have hd4 := of_decide_eq_false h4
    exact k_throw (si := 4) hts2 hth x_IA (by decide) rfl dX7_next_7 dX7_next_10 dX7_next_11 dX7_next_13 dX7_next_16 ⟨(Nat.le_of_ble_eq_true rfl), (Nat.le_of_ble_eq_true rfl), (Nat.le_of_ble_eq_true rfl), (Nat.le_of_ble_eq_true rfl)⟩ (Nat.le_of_ble_eq_true rfl) ⟨(Nat.le_of_ble_eq_true rfl), (Nat.le_of_ble_eq_true rfl)⟩ (⟨(by rw [xHeight, if_neg hd4]), hC.cs, k_fr.refl⟩)
set_option maxHeartbeats 4000000 in
set_option maxRecDepth 100000 in
theorem c_X7_isInOrder (la : Launch) (κ : Kx) {L : List Nat} {f : Nat → wE} {tt td tb pl rl : Nat} {old : Bool} {σ : Sg} {p : Int}  (hC : CSF κ L f tt td tb pl rl old σ) (hts : la.stackTraces = false) (hs : SgOk σ) (hp : inI p) : k_MX la κ yX7_isInOrder cX7_isInOrder 2 (some .boolean) 7 1 6 [.ref tt, .int (iI p)] L f (k_rn (fun v9 L' f' => xPort σ p = none ∧ v9 = .int (iI (bI (ord (hT σ.1) (σ.2.2.1 p.toNat)))) ∧ CS κ L' f' tt (σ) ∧ k_fr SC L f L' f')) (fun E L' f' => xPort σ p = some E ∧ CS κ L' f' tt σ ∧ k_fr SC L f L' f') := by
  refine k_headX RX7 [(0, .ref tt), (1, .int (iI p))] rfl (by decide) (Nat.le_of_ble_eq_true rfl) rfl (fun θ hθ hin hth => ?_)
  have hts2 : θ.2.1.stackTraces = false := by rw [hθ]; exact hts
  obtain ⟨ctt, hTd, hTx, hPs, hRs⟩ := id hC
  obtain ⟨pv, hv, ov, hLp, hPv, hPi⟩ := id hPs
  obtain ⟨md2, E2, cpl⟩ := hLp.cl
  obtain ⟨hs1, ⟨hs2, hs3⟩, hs4⟩ := id hs
  have hs5 := hs1.2.1
  have hs6 := hs4.1
  have hs7 := nW_le (hT σ.1)
  have hs8 := hs1.1
  refine k_aload_n 0 0 dX7_isInOrder_0 rfl rfl ?_
  refine k_iload_n 1 1 dX7_isInOrder_1 rfl rfl ?_
  refine k_useR (k_runV (c_X7_hasPort θ.2.1 κ (tt := tt) (z := p) hC hs hp) w_X7_143 ⟨q_459, q_12⟩ rfl rfl ctt rfl ⟨(Nat.le_of_ble_eq_true rfl), (Nat.le_of_ble_eq_true rfl)⟩ (Nat.le_of_ble_eq_true rfl) dX7_isInOrder_2) ⟨(Nat.le_of_ble_eq_true rfl), (Nat.le_of_ble_eq_true rfl)⟩ ?_
  refine k_ifb_ne 18 dX7_isInOrder_5 (by decide) (fun h5 => ?_) (fun h5 => ?_)
  · have hd5 := of_decide_eq_true h5
    obtain ⟨pn, rfl⟩ : ∃ pn : Nat, p = (pn : Int) := ⟨p.toNat, by omega⟩
    have hPn := hPv pn (by omega)
    have hP : PortR L f (pv pn) (σ.2.2.1 pn) := ⟨hv pn, ov pn, hPn.1, hPn.2.1, hPn.2.2⟩
    refine k_aload_n 0 0 dX7_isInOrder_18 rfl rfl ?_
    refine k_get 2 i_X7 q_114 ctt rfl (by decide) rfl dX7_isInOrder_19 ?_
    refine k_iload_n 1 1 dX7_isInOrder_22 rfl rfl ?_
    refine k_useR (k_runV (c_Jx4a65c_get_915e3 θ.2.1 κ (n := σ.2.1) (g := pv) (i := pn) (l := pl) hLp (by omega)) w_X7_82 ⟨q_215, q_216⟩ rfl rfl cpl rfl ⟨(Nat.le_of_ble_eq_true rfl), (Nat.le_of_ble_eq_true rfl)⟩ (Nat.le_of_ble_eq_true rfl) dX7_isInOrder_23) ⟨(Nat.le_of_ble_eq_true rfl), (Nat.le_of_ble_eq_true rfl)⟩ ?_
    refine k_castS q_367 hPn.1 rfl dX7_isInOrder_26 ?_
    refine k_aload_n 0 0 dX7_isInOrder_29 rfl rfl ?_
    refine k_useV (k_runV (c_X7_currentTable θ.2.1 κ (tt := tt) hC hs) w_X7_110 ⟨q_261, q_2⟩ rfl rfl ctt rfl ⟨(Nat.le_of_ble_eq_true rfl), (Nat.le_of_ble_eq_true rfl)⟩ (Nat.le_of_ble_eq_true rfl) dX7_isInOrder_30) ⟨(Nat.le_of_ble_eq_true rfl), (Nat.le_of_ble_eq_true rfl)⟩ (fun w L9 f9 hw => ?_)
    obtain ⟨rfl, eL9, hr9, hC9⟩ := hw
    replace eL9 := eL9.symm
    subst eL9
    replace hC := hC9
    clear hC9
    replace hP := hP.fr hr9 rfl
    obtain ⟨ctt, hTd, hTx, hPs, hRs⟩ := id hC
    have hTb := hTx.2 rfl
    obtain ⟨hs9, wt9, wh9, wi9, ctb⟩ := hTb.cl
    obtain ⟨ph9, po9, cpt⟩ := hP.cl
    refine k_useR (k_runV (c_X1_isOrderly θ.2.1 κ (h := (hT σ.1)) (q := (σ.2.2.1 pn)) (pt := (pv pn)) (tb := tb) hTb hP (hs3 pn (by omega))) w_X7_169 ⟨q_479, q_480⟩ rfl rfl cpt rfl ⟨(Nat.le_of_ble_eq_true rfl), (Nat.le_of_ble_eq_true rfl)⟩ (Nat.le_of_ble_eq_true rfl) dX7_isInOrder_33) ⟨(Nat.le_of_ble_eq_true rfl), (Nat.le_of_ble_eq_true rfl)⟩ ?_
    exact k_xr (k_zret (b := ord (hT σ.1) (σ.2.2.1 pn)) dX7_isInOrder_36 rfl (Nat.le_of_ble_eq_true rfl) (Nat.le_of_ble_eq_true rfl) (⟨_, rfl, (by rw [xPort, if_pos hd5]), rfl, hC.cs, (k_fr.mono hr9 SC_SU)⟩))
  · have hd5 := of_decide_eq_false h5
    exact k_throw (si := 10) hts2 hth x_IO (by decide) rfl dX7_isInOrder_8 dX7_isInOrder_11 dX7_isInOrder_12 dX7_isInOrder_14 dX7_isInOrder_17 ⟨(Nat.le_of_ble_eq_true rfl), (Nat.le_of_ble_eq_true rfl), (Nat.le_of_ble_eq_true rfl), (Nat.le_of_ble_eq_true rfl)⟩ (Nat.le_of_ble_eq_true rfl) ⟨(Nat.le_of_ble_eq_true rfl), (Nat.le_of_ble_eq_true rfl)⟩ (⟨(by rw [xPort, if_neg hd5]), hC.cs, k_fr.refl⟩)
set_option maxHeartbeats 4000000 in
set_option maxRecDepth 100000 in
theorem c_X7_portWater (la : Launch) (κ : Kx) {L : List Nat} {f : Nat → wE} {tt td tb pl rl : Nat} {old : Bool} {σ : Sg} {p w : Int} {b : Bool}  (hC : CSF κ L f tt td tb pl rl old σ) (hts : la.stackTraces = false) (hs : SgOk σ) (hp : inI p) (hw : inI w) : k_MX la κ yX7_portWater cX7_portWater 6 (some .int) 7 1 6 [.ref tt, .int (iI p), .int (iI w), .int (iI (bI b))] L f (k_rn (fun v9 L' f' => xPortWater σ p w = none ∧ v9 = .int (iI (aPortWater (hT σ.1) (σ.2.2.1 p.toNat) w.toNat b)) ∧ CS κ L' f' tt (σ) ∧ k_fr SC L f L' f')) (fun E L' f' => xPortWater σ p w = some E ∧ CS κ L' f' tt σ ∧ k_fr SC L f L' f') := by
  refine k_headX RX7 [(0, .ref tt), (1, .int (iI p)), (2, .int (iI w)), (3, .int (iI (bI b)))] rfl (by decide) (Nat.le_of_ble_eq_true rfl) rfl (fun θ hθ hin hth => ?_)
  have hts2 : θ.2.1.stackTraces = false := by rw [hθ]; exact hts
  obtain ⟨ctt, hTd, hTx, hPs, hRs⟩ := id hC
  obtain ⟨pv, hv, ov, hLp, hPv, hPi⟩ := id hPs
  obtain ⟨md2, E2, cpl⟩ := hLp.cl
  obtain ⟨hs1, ⟨hs2, hs3⟩, hs4⟩ := id hs
  have hs5 := hs1.2.1
  have hs6 := hs4.1
  have hs7 := nW_le (hT σ.1)
  have hs8 := hs1.1
  refine k_aload_n 0 0 dX7_portWater_0 rfl rfl ?_
  refine k_iload_n 1 1 dX7_portWater_1 rfl rfl ?_
  refine k_useR (k_runV (c_X7_hasPort θ.2.1 κ (tt := tt) (z := p) hC hs hp) w_X7_143 ⟨q_459, q_12⟩ rfl rfl ctt rfl ⟨(Nat.le_of_ble_eq_true rfl), (Nat.le_of_ble_eq_true rfl)⟩ (Nat.le_of_ble_eq_true rfl) dX7_portWater_2) ⟨(Nat.le_of_ble_eq_true rfl), (Nat.le_of_ble_eq_true rfl)⟩ ?_
  refine k_ifb_ne 18 dX7_portWater_5 (by decide) (fun h5 => ?_) (fun h5 => ?_)
  · have hd5 := of_decide_eq_true h5
    refine k_aload_n 0 0 dX7_portWater_18 rfl rfl ?_
    refine k_useV (k_runV (c_X7_currentTable θ.2.1 κ (tt := tt) hC hs) w_X7_110 ⟨q_261, q_2⟩ rfl rfl ctt rfl ⟨(Nat.le_of_ble_eq_true rfl), (Nat.le_of_ble_eq_true rfl)⟩ (Nat.le_of_ble_eq_true rfl) dX7_portWater_19) ⟨(Nat.le_of_ble_eq_true rfl), (Nat.le_of_ble_eq_true rfl)⟩ (fun w L9 f9 hw => ?_)
    obtain ⟨rfl, eL9, hr9, hC9⟩ := hw
    replace eL9 := eL9.symm
    subst eL9
    replace hC := hC9
    clear hC9
    obtain ⟨ctt, hTd, hTx, hPs, hRs⟩ := id hC
    have hTb := hTx.2 rfl
    obtain ⟨hs9, wt9, wh9, wi9, ctb⟩ := hTb.cl
    refine k_astore [(4, .ref tb), (0, .ref tt), (1, .int (iI p)), (2, .int (iI w)), (3, .int (iI (bI b)))] dX7_portWater_22 (by decide) rfl ?_
    refine k_aload 0 dX7_portWater_24 rfl ?_
    refine k_iload_n 3 2 dX7_portWater_26 rfl rfl ?_
    refine k_useR (k_runV (c_X3_hasWater θ.2.1 κ (tb := tb) (z := w) hTb hw) w_X7_114 ⟨q_281, q_282⟩ rfl rfl ctb rfl ⟨(Nat.le_of_ble_eq_true rfl), (Nat.le_of_ble_eq_true rfl)⟩ (Nat.le_of_ble_eq_true rfl) dX7_portWater_27) ⟨(Nat.le_of_ble_eq_true rfl), (Nat.le_of_ble_eq_true rfl)⟩ ?_
    refine k_ifb_ne 43 dX7_portWater_30 (by decide) (fun h30 => ?_) (fun h30 => ?_)
    · have hd30 := of_decide_eq_true h30
      obtain ⟨pn, rfl⟩ : ∃ pn : Nat, p = (pn : Int) := ⟨p.toNat, by omega⟩
      obtain ⟨wn, rfl⟩ : ∃ wn : Nat, w = (wn : Int) := ⟨w.toNat, by omega⟩
      obtain ⟨pv, hv, ov, hLp, hPv, hPi⟩ := id hPs
      obtain ⟨md2, E2, cpl⟩ := hLp.cl
      have hPn := hPv pn (by omega)
      have hP : PortR L f9 (pv pn) (σ.2.2.1 pn) := ⟨hv pn, ov pn, hPn.1, hPn.2.1, hPn.2.2⟩
      have hnn := nW_le (hT σ.1)
      refine k_aload_n 1 0 dX7_portWater_43 rfl rfl ?_
      refine k_get 2 i_X7 q_114 ctt rfl (by decide) rfl dX7_portWater_44 ?_
      refine k_iload_n 2 1 dX7_portWater_47 rfl rfl ?_
      refine k_useR (k_runV (c_Jx4a65c_get_915e3 θ.2.1 κ (n := σ.2.1) (g := pv) (i := pn) (l := pl) hLp (by omega)) w_X7_82 ⟨q_215, q_216⟩ rfl rfl cpl rfl ⟨(Nat.le_of_ble_eq_true rfl), (Nat.le_of_ble_eq_true rfl)⟩ (Nat.le_of_ble_eq_true rfl) dX7_portWater_48) ⟨(Nat.le_of_ble_eq_true rfl), (Nat.le_of_ble_eq_true rfl)⟩ ?_
      refine k_castS q_367 hPn.1 rfl dX7_portWater_51 ?_
      refine k_astore [(5, .ref (pv pn)), (4, .ref tb), (0, .ref tt), (1, .int (iI (pn : Int))), (2, .int (iI (wn : Int))), (3, .int (iI (bI b)))] dX7_portWater_54 (by decide) rfl ?_
      refine k_iload_n 5 3 dX7_portWater_56 rfl rfl ?_
      refine k_ifb_eq 71 dX7_portWater_57 (by decide) (fun h57 => ?_) (fun h57 => ?_)
      · refine k_aload 0 dX7_portWater_71 rfl ?_
        refine k_aload 1 dX7_portWater_73 rfl ?_
        refine k_iload_n 4 2 dX7_portWater_75 rfl rfl ?_
        refine k_useR (k_runV (c_X1_heightOf θ.2.1 κ (h := (hT σ.1)) (q := (σ.2.2.1 pn)) (k := wn) (pt := (pv pn)) (tb := tb) hTb hP (by omega) (hT_bd hs1) (hs3 pn (by omega))) w_X7_176 ⟨q_495, q_496⟩ rfl rfl hPn.1 rfl ⟨(Nat.le_of_ble_eq_true rfl), (Nat.le_of_ble_eq_true rfl)⟩ (Nat.le_of_ble_eq_true rfl) dX7_portWater_76) ⟨(Nat.le_of_ble_eq_true rfl), (Nat.le_of_ble_eq_true rfl)⟩ ?_
        exact k_xr (k_iret dX7_portWater_79 rfl (Nat.le_of_ble_eq_true rfl) (Nat.le_of_ble_eq_true rfl) (⟨_, rfl, (by rw [xPortWater, if_pos hd5, if_pos hd30]), (by rw [h57]; rfl), hC.cs, (k_fr.mono hr9 SC_SU)⟩))
      · refine k_aload 0 dX7_portWater_60 rfl ?_
        refine k_aload 1 dX7_portWater_62 rfl ?_
        refine k_iload_n 4 2 dX7_portWater_64 rfl rfl ?_
        refine k_useR (k_runV (c_X1_timeOf θ.2.1 κ (h := (hT σ.1)) (q := (σ.2.2.1 pn)) (k := wn) (pt := (pv pn)) (tb := tb) hTb hP (by omega)) w_X7_173 ⟨q_483, q_484⟩ rfl rfl hPn.1 rfl ⟨(Nat.le_of_ble_eq_true rfl), (Nat.le_of_ble_eq_true rfl)⟩ (Nat.le_of_ble_eq_true rfl) dX7_portWater_65) ⟨(Nat.le_of_ble_eq_true rfl), (Nat.le_of_ble_eq_true rfl)⟩ ?_
        refine k_goto 79 dX7_portWater_68 (by decide) ?_
        exact k_xr (k_iret dX7_portWater_79 rfl (Nat.le_of_ble_eq_true rfl) (Nat.le_of_ble_eq_true rfl) (⟨_, rfl, (by rw [xPortWater, if_pos hd5, if_pos hd30]), (by rw [h57]; rfl), hC.cs, (k_fr.mono hr9 SC_SU)⟩))
    · have hd30 := of_decide_eq_false h30
      exact k_throw (si := 6) hts2 hth x_IO (by decide) rfl dX7_portWater_33 dX7_portWater_36 dX7_portWater_37 dX7_portWater_39 dX7_portWater_42 ⟨(Nat.le_of_ble_eq_true rfl), (Nat.le_of_ble_eq_true rfl), (Nat.le_of_ble_eq_true rfl), (Nat.le_of_ble_eq_true rfl)⟩ (Nat.le_of_ble_eq_true rfl) ⟨(Nat.le_of_ble_eq_true rfl), (Nat.le_of_ble_eq_true rfl)⟩ (⟨(by rw [xPortWater, if_pos hd5, if_neg hd30]), hC.cs, (k_fr.mono hr9 SC_SU)⟩)
  · have hd5 := of_decide_eq_false h5
    exact k_throw (si := 10) hts2 hth x_IO (by decide) rfl dX7_portWater_8 dX7_portWater_11 dX7_portWater_12 dX7_portWater_14 dX7_portWater_17 ⟨(Nat.le_of_ble_eq_true rfl), (Nat.le_of_ble_eq_true rfl), (Nat.le_of_ble_eq_true rfl), (Nat.le_of_ble_eq_true rfl)⟩ (Nat.le_of_ble_eq_true rfl) ⟨(Nat.le_of_ble_eq_true rfl), (Nat.le_of_ble_eq_true rfl)⟩ (⟨(by rw [xPortWater, if_neg hd5]), hC.cs, k_fr.refl⟩)
set_option maxHeartbeats 4000000 in
set_option maxRecDepth 100000 in
theorem c_X7_portHeight (la : Launch) (κ : Kx) {L : List Nat} {f : Nat → wE} {tt td tb pl rl : Nat} {old : Bool} {σ : Sg} {p t : Int}  (hC : CSF κ L f tt td tb pl rl old σ) (hts : la.stackTraces = false) (hs : SgOk σ) (hp : inI p) (ht : inI t) : k_MX la κ yX7_portHeight cX7_portHeight 6 (some .int) 7 1 6 [.ref tt, .int (iI p), .int (iI t)] L f (k_rn (fun v9 L' f' => xPortHeight σ p t = none ∧ v9 = .int (iI (aPortHeight σ p t)) ∧ CS κ L' f' tt (σ) ∧ k_fr SC L f L' f')) (fun E L' f' => xPortHeight σ p t = some E ∧ CS κ L' f' tt σ ∧ k_fr SC L f L' f') := by
  refine k_headX RX7 [(0, .ref tt), (1, .int (iI p)), (2, .int (iI t))] rfl (by decide) (Nat.le_of_ble_eq_true rfl) rfl (fun θ hθ hin hth => ?_)
  have hts2 : θ.2.1.stackTraces = false := by rw [hθ]; exact hts
  obtain ⟨ctt, hTd, hTx, hPs, hRs⟩ := id hC
  obtain ⟨pv, hv, ov, hLp, hPv, hPi⟩ := id hPs
  obtain ⟨md2, E2, cpl⟩ := hLp.cl
  obtain ⟨hs1, ⟨hs2, hs3⟩, hs4⟩ := id hs
  have hs5 := hs1.2.1
  have hs6 := hs4.1
  have hs7 := nW_le (hT σ.1)
  have hs8 := hs1.1
  refine k_aload_n 0 0 dX7_portHeight_0 rfl rfl ?_
  refine k_iload_n 1 1 dX7_portHeight_1 rfl rfl ?_
  refine k_useR (k_runV (c_X7_hasPort θ.2.1 κ (tt := tt) (z := p) hC hs hp) w_X7_143 ⟨q_459, q_12⟩ rfl rfl ctt rfl ⟨(Nat.le_of_ble_eq_true rfl), (Nat.le_of_ble_eq_true rfl)⟩ (Nat.le_of_ble_eq_true rfl) dX7_portHeight_2) ⟨(Nat.le_of_ble_eq_true rfl), (Nat.le_of_ble_eq_true rfl)⟩ ?_
  refine k_ifb_ne 18 dX7_portHeight_5 (by decide) (fun h5 => ?_) (fun h5 => ?_)
  · have hd5 := of_decide_eq_true h5
    refine k_iload_n 2 2 dX7_portHeight_18 rfl rfl ?_
    refine k_useR (k_runS (c_X7_isMinute θ.2.1 κ (z := t) ht) w_X7_95 q_133 rfl rfl ⟨(Nat.le_of_ble_eq_true rfl), (Nat.le_of_ble_eq_true rfl)⟩ (Nat.le_of_ble_eq_true rfl) dX7_portHeight_19) ⟨(Nat.le_of_ble_eq_true rfl), (Nat.le_of_ble_eq_true rfl)⟩ ?_
    refine k_ifb_ne 35 dX7_portHeight_22 (by decide) (fun h22 => ?_) (fun h22 => ?_)
    · have hd22 := of_decide_eq_true h22
      obtain ⟨pn, rfl⟩ : ∃ pn : Nat, p = (pn : Int) := ⟨p.toNat, by omega⟩
      obtain ⟨tn, rfl⟩ : ∃ tn : Nat, t = (tn : Int) := ⟨t.toNat, by omega⟩
      refine k_aload_n 0 0 dX7_portHeight_35 rfl rfl ?_
      refine k_useV (k_runV (c_X7_currentTable θ.2.1 κ (tt := tt) hC hs) w_X7_110 ⟨q_261, q_2⟩ rfl rfl ctt rfl ⟨(Nat.le_of_ble_eq_true rfl), (Nat.le_of_ble_eq_true rfl)⟩ (Nat.le_of_ble_eq_true rfl) dX7_portHeight_36) ⟨(Nat.le_of_ble_eq_true rfl), (Nat.le_of_ble_eq_true rfl)⟩ (fun w L9 f9 hw => ?_)
      obtain ⟨rfl, eL9, hr9, hC9⟩ := hw
      replace eL9 := eL9.symm
      subst eL9
      replace hC := hC9
      clear hC9
      obtain ⟨ctt, hTd, hTx, hPs, hRs⟩ := id hC
      have hTb := hTx.2 rfl
      obtain ⟨hs9, wt9, wh9, wi9, ctb⟩ := hTb.cl
      refine k_astore_n 3 [(3, .ref tb), (0, .ref tt), (1, .int (iI (pn : Int))), (2, .int (iI (tn : Int)))] dX7_portHeight_39 rfl (by decide) rfl ?_
      obtain ⟨pv, hv, ov, hLp, hPv, hPi⟩ := id hPs
      obtain ⟨md2, E2, cpl⟩ := hLp.cl
      have hPn := hPv pn (by omega)
      have hP : PortR L f9 (pv pn) (σ.2.2.1 pn) := ⟨hv pn, ov pn, hPn.1, hPn.2.1, hPn.2.2⟩
      have hnn := nW_le (hT σ.1)
      have hls := lat_spec (h := hT σ.1) (q := σ.2.2.1 pn) (t := (tn : Int)) (Nat.zero_le (nW (hT σ.1)))
      have hls1 := hls.2.1
      refine k_aload_n 1 0 dX7_portHeight_40 rfl rfl ?_
      refine k_get 2 i_X7 q_114 ctt rfl (by decide) rfl dX7_portHeight_41 ?_
      refine k_iload_n 2 1 dX7_portHeight_44 rfl rfl ?_
      refine k_useR (k_runV (c_Jx4a65c_get_915e3 θ.2.1 κ (n := σ.2.1) (g := pv) (i := pn) (l := pl) hLp (by omega)) w_X7_82 ⟨q_215, q_216⟩ rfl rfl cpl rfl ⟨(Nat.le_of_ble_eq_true rfl), (Nat.le_of_ble_eq_true rfl)⟩ (Nat.le_of_ble_eq_true rfl) dX7_portHeight_45) ⟨(Nat.le_of_ble_eq_true rfl), (Nat.le_of_ble_eq_true rfl)⟩ ?_
      refine k_castS q_367 hPn.1 rfl dX7_portHeight_48 ?_
      refine k_astore [(4, .ref (pv pn)), (3, .ref tb), (0, .ref tt), (1, .int (iI (pn : Int))), (2, .int (iI (tn : Int)))] dX7_portHeight_51 (by decide) rfl ?_
      refine k_aload 0 dX7_portHeight_53 rfl ?_
      refine k_aload_n 1 3 dX7_portHeight_55 rfl rfl ?_
      refine k_useR (k_runV (c_X1_isOrderly θ.2.1 κ (h := (hT σ.1)) (q := (σ.2.2.1 pn)) (pt := (pv pn)) (tb := tb) hTb hP (hs3 pn (by omega))) w_X7_169 ⟨q_479, q_480⟩ rfl rfl hPn.1 rfl ⟨(Nat.le_of_ble_eq_true rfl), (Nat.le_of_ble_eq_true rfl)⟩ (Nat.le_of_ble_eq_true rfl) dX7_portHeight_56) ⟨(Nat.le_of_ble_eq_true rfl), (Nat.le_of_ble_eq_true rfl)⟩ ?_
      refine k_ifb_ne 72 dX7_portHeight_59 (by decide) (fun h59 => ?_) (fun h59 => ?_)
      · refine k_aload 0 dX7_portHeight_72 rfl ?_
        refine k_aload_n 1 3 dX7_portHeight_74 rfl rfl ?_
        refine k_iconst dX7_portHeight_75 ?_
        refine k_iload_n 4 2 dX7_portHeight_76 rfl rfl ?_
        refine k_useR (k_runV (c_X1_latestWater θ.2.1 κ (w := 0) (h := (hT σ.1)) (q := (σ.2.2.1 pn)) (pt := (pv pn)) (tb := tb) (e := (-1)) (t := (tn : Int)) hTb hP (hs3 pn (by omega)) rfl (Nat.zero_le _) (inI_mk (by omega) (by omega))) w_X7_180 ⟨q_505, q_506⟩ rfl rfl hPn.1 rfl ⟨(Nat.le_of_ble_eq_true rfl), (Nat.le_of_ble_eq_true rfl)⟩ (Nat.le_of_ble_eq_true rfl) dX7_portHeight_77) ⟨(Nat.le_of_ble_eq_true rfl), (Nat.le_of_ble_eq_true rfl)⟩ ?_
        refine k_istore [(5, .int (iI (((lat (hT σ.1) (σ.2.2.1 pn) (tn : Int) 0 : Nat) : Int) - 1))), (4, .ref (pv pn)), (3, .ref tb), (0, .ref tt), (1, .int (iI (pn : Int))), (2, .int (iI (tn : Int)))] dX7_portHeight_80 (by decide) rfl ?_
        refine k_aload_n 2 3 dX7_portHeight_82 rfl rfl ?_
        refine k_iload 0 dX7_portHeight_83 rfl ?_
        refine k_useR (k_runV (c_X3_isBetweenWaters θ.2.1 κ (h := (hT σ.1)) (tb := tb) (z := ((lat (hT σ.1) (σ.2.2.1 pn) (tn : Int) 0 : Nat) : Int) - 1) hTb (inI_mk (by omega) (by omega))) w_X7_184 ⟨q_509, q_510⟩ rfl rfl ctb rfl ⟨(Nat.le_of_ble_eq_true rfl), (Nat.le_of_ble_eq_true rfl)⟩ (Nat.le_of_ble_eq_true rfl) dX7_portHeight_85) ⟨(Nat.le_of_ble_eq_true rfl), (Nat.le_of_ble_eq_true rfl)⟩ ?_
        refine k_ifb_ne 101 dX7_portHeight_88 (by decide) (fun h88 => ?_) (fun h88 => ?_)
        · have hd88 := of_decide_eq_true h88
          obtain ⟨wk, hwk⟩ : ∃ wk : Nat, lat (hT σ.1) (σ.2.2.1 pn) (tn : Int) 0 = wk + 1 := ⟨lat (hT σ.1) (σ.2.2.1 pn) (tn : Int) 0 - 1, by omega⟩
          have hl1 := hls.2.2.1 wk (Nat.zero_le _) (by omega)
          have hl2 : (tn : Int) < pT (hT σ.1) (σ.2.2.1 pn) (wk + 1) := Int.not_le.mp (fun q9 => hls.2.2.2 ⟨by omega, by rw [hwk]; exact q9⟩)
          refine k_aload 1 dX7_portHeight_101 rfl ?_
          refine k_aload_n 2 3 dX7_portHeight_103 rfl rfl ?_
          refine k_iload 0 dX7_portHeight_104 rfl ?_
          refine k_topi (wk : Int) (by omega) ?_
          refine k_iload_n 5 2 dX7_portHeight_106 rfl rfl ?_
          refine k_useR (k_runV (c_X1_heightBehind θ.2.1 κ (h := (hT σ.1)) (q := (σ.2.2.1 pn)) (k := wk) (pt := (pv pn)) (tb := tb) (t := (tn : Int)) hTb hP (hT_bd hs1) (hs3 pn (by omega)) (by omega) hl1 hl2) w_X7_189 ⟨q_514, q_515⟩ rfl rfl hPn.1 rfl ⟨(Nat.le_of_ble_eq_true rfl), (Nat.le_of_ble_eq_true rfl)⟩ (Nat.le_of_ble_eq_true rfl) dX7_portHeight_107) ⟨(Nat.le_of_ble_eq_true rfl), (Nat.le_of_ble_eq_true rfl)⟩ ?_
          exact k_xr (k_iret dX7_portHeight_110 rfl (Nat.le_of_ble_eq_true rfl) (Nat.le_of_ble_eq_true rfl) (⟨_, rfl, (by rw [xPortHeight, if_pos hd5, if_pos hd22, Int.toNat_natCast, if_pos h59, if_pos hd88]), (by show _ = Value.int (iI (btw (hT σ.1) (σ.2.2.1 pn) (lat (hT σ.1) (σ.2.2.1 pn) (tn : Int) 0) (tn : Int))); rw [hwk]), hC.cs, (k_fr.mono hr9 SC_SU)⟩))
        · have hd88 := of_decide_eq_false h88
          exact k_throw (si := 15) hts2 hth x_IS (by decide) rfl dX7_portHeight_91 dX7_portHeight_94 dX7_portHeight_95 dX7_portHeight_97 dX7_portHeight_100 ⟨(Nat.le_of_ble_eq_true rfl), (Nat.le_of_ble_eq_true rfl), (Nat.le_of_ble_eq_true rfl), (Nat.le_of_ble_eq_true rfl)⟩ (Nat.le_of_ble_eq_true rfl) ⟨(Nat.le_of_ble_eq_true rfl), (Nat.le_of_ble_eq_true rfl)⟩ (⟨(by rw [xPortHeight, if_pos hd5, if_pos hd22, Int.toNat_natCast, if_pos h59, if_neg hd88]), hC.cs, (k_fr.mono hr9 SC_SU)⟩)
      · exact k_throw (si := 14) hts2 hth x_IS (by decide) rfl dX7_portHeight_62 dX7_portHeight_65 dX7_portHeight_66 dX7_portHeight_68 dX7_portHeight_71 ⟨(Nat.le_of_ble_eq_true rfl), (Nat.le_of_ble_eq_true rfl), (Nat.le_of_ble_eq_true rfl), (Nat.le_of_ble_eq_true rfl)⟩ (Nat.le_of_ble_eq_true rfl) ⟨(Nat.le_of_ble_eq_true rfl), (Nat.le_of_ble_eq_true rfl)⟩ (⟨(by rw [xPortHeight, if_pos hd5, if_pos hd22, Int.toNat_natCast, if_neg (by rw [h59]; decide)]), hC.cs, (k_fr.mono hr9 SC_SU)⟩)
    · have hd22 := of_decide_eq_false h22
      exact k_throw (si := 4) hts2 hth x_IA (by decide) rfl dX7_portHeight_25 dX7_portHeight_28 dX7_portHeight_29 dX7_portHeight_31 dX7_portHeight_34 ⟨(Nat.le_of_ble_eq_true rfl), (Nat.le_of_ble_eq_true rfl), (Nat.le_of_ble_eq_true rfl), (Nat.le_of_ble_eq_true rfl)⟩ (Nat.le_of_ble_eq_true rfl) ⟨(Nat.le_of_ble_eq_true rfl), (Nat.le_of_ble_eq_true rfl)⟩ (⟨(by rw [xPortHeight, if_pos hd5, if_neg hd22]), hC.cs, k_fr.refl⟩)
  · have hd5 := of_decide_eq_false h5
    exact k_throw (si := 10) hts2 hth x_IO (by decide) rfl dX7_portHeight_8 dX7_portHeight_11 dX7_portHeight_12 dX7_portHeight_14 dX7_portHeight_17 ⟨(Nat.le_of_ble_eq_true rfl), (Nat.le_of_ble_eq_true rfl), (Nat.le_of_ble_eq_true rfl), (Nat.le_of_ble_eq_true rfl)⟩ (Nat.le_of_ble_eq_true rfl) ⟨(Nat.le_of_ble_eq_true rfl), (Nat.le_of_ble_eq_true rfl)⟩ (⟨(by rw [xPortHeight, if_neg hd5]), hC.cs, k_fr.refl⟩)
end
section
def TX (κ : Kx) (L : List Nat) (f : Nat → wE) (tb : Nat) (old : Bool) (τ : Td) : Prop := TblX κ L f tb ∧ (old = false → TblR κ L f tb (hT τ))
theorem TX.fr {κ : Kx} {L L' : List Nat} {f f' : Nat → wE} {tb : Nat} {old : Bool} {τ : Td} {S : Nat → Bool} (h : TX κ L f tb old τ) (hf : k_fr S L f L' f') (hS : (S 3 || S 7 || S 8 || S 9 || S 10) = false) : TX κ L' f' tb old τ := ⟨h.1.fr hf hS, fun e => (h.2 e).fr hf hS⟩
theorem PortsR.setH {κ : Kx} {L : List Nat} {f f' : Nat → wE} {pl n k : Nat} {qs : Nat → Pt} {pv hv ov : Nat → Nat} {s t : Int} (hL : ListR κ L f' pl 4 12 n pv) (hP : ∀ i, i < n → Cl L f (pv i) (15, .inr (2, [.ref (hv i), .ref (ov i), .int (iI (qs i).2.2.2.2)])) ∧ Cl L f (hv i) (16, .inr (1, [.int (iI (qs i).1), .int (iI (qs i).2.1)])) ∧ Cl L f (ov i) (17, .inr (1, [.int (iI (qs i).2.2.1), .int (iI (qs i).2.2.2.1)])))
    (hi : ∀ i j, i < n → j < n → i ≠ j → pv i ≠ pv j ∧ hv i ≠ hv j ∧ ov i ≠ ov j) (hk : k < n) (hne : ∀ z, z ≠ hv k → f' z = f z) (hc : Cl L f' (hv k) (16, .inr (1, [.int (iI s), .int (iI t)]))) : PortsR κ L f' pl n (va_up qs k (s, t, (qs k).2.2)) := by
  refine ⟨pv, hv, ov, hL, fun i hi2 => ?_, hi⟩
  obtain ⟨c1, c2, c3⟩ := hP i hi2
  have hk1 := (hP k hk).2.1
  by_cases e : i = k
  · subst e
    rw [va_up_self]
    exact ⟨Cl.put hne hk1 c1 (by decide), hc, Cl.put hne hk1 c3 (by decide)⟩
  · rw [va_up_ne _ _ e]
    exact ⟨Cl.put hne hk1 c1 (by decide), Cl.put2 hne c2 (hi i k hi2 hk e).2.1, Cl.put hne hk1 c3 (by decide)⟩
theorem PortsR.setL {κ : Kx} {L : List Nat} {f f' : Nat → wE} {pl n k : Nat} {qs : Nat → Pt} {pv hv ov : Nat → Nat} {s t : Int} (hL : ListR κ L f' pl 4 12 n pv) (hP : ∀ i, i < n → Cl L f (pv i) (15, .inr (2, [.ref (hv i), .ref (ov i), .int (iI (qs i).2.2.2.2)])) ∧ Cl L f (hv i) (16, .inr (1, [.int (iI (qs i).1), .int (iI (qs i).2.1)])) ∧ Cl L f (ov i) (17, .inr (1, [.int (iI (qs i).2.2.1), .int (iI (qs i).2.2.2.1)])))
    (hi : ∀ i j, i < n → j < n → i ≠ j → pv i ≠ pv j ∧ hv i ≠ hv j ∧ ov i ≠ ov j) (hk : k < n) (hne : ∀ z, z ≠ ov k → f' z = f z) (hc : Cl L f' (ov k) (17, .inr (1, [.int (iI s), .int (iI t)]))) : PortsR κ L f' pl n (va_up qs k ((qs k).1, (qs k).2.1, s, t, (qs k).2.2.2.2)) := by
  refine ⟨pv, hv, ov, hL, fun i hi2 => ?_, hi⟩
  obtain ⟨c1, c2, c3⟩ := hP i hi2
  have hk1 := (hP k hk).2.2
  by_cases e : i = k
  · subst e
    rw [va_up_self]
    exact ⟨Cl.put hne hk1 c1 (by decide), Cl.put hne hk1 c2 (by decide), hc⟩
  · rw [va_up_ne _ _ e]
    exact ⟨Cl.put hne hk1 c1 (by decide), Cl.put hne hk1 c2 (by decide), Cl.put2 hne c3 (hi i k hi2 hk e).2.2⟩
theorem PortsR.setA {κ : Kx} {L : List Nat} {f f' : Nat → wE} {pl n k : Nat} {qs : Nat → Pt} {pv hv ov : Nat → Nat} {s : Int} (hL : ListR κ L f' pl 4 12 n pv) (hP : ∀ i, i < n → Cl L f (pv i) (15, .inr (2, [.ref (hv i), .ref (ov i), .int (iI (qs i).2.2.2.2)])) ∧ Cl L f (hv i) (16, .inr (1, [.int (iI (qs i).1), .int (iI (qs i).2.1)])) ∧ Cl L f (ov i) (17, .inr (1, [.int (iI (qs i).2.2.1), .int (iI (qs i).2.2.2.1)])))
    (hi : ∀ i j, i < n → j < n → i ≠ j → pv i ≠ pv j ∧ hv i ≠ hv j ∧ ov i ≠ ov j) (hk : k < n) (hne : ∀ z, z ≠ pv k → f' z = f z) (hc : Cl L f' (pv k) (15, .inr (2, [.ref (hv k), .ref (ov k), .int (iI s)]))) : PortsR κ L f' pl n (va_up qs k (qAdd (qs k) s)) := by
  refine ⟨pv, hv, ov, hL, fun i hi2 => ?_, hi⟩
  obtain ⟨c1, c2, c3⟩ := hP i hi2
  have hk1 := (hP k hk).1
  by_cases e : i = k
  · subst e
    rw [va_up_self]
    exact ⟨hc, Cl.put hne hk1 c2 (by decide), Cl.put hne hk1 c3 (by decide)⟩
  · rw [va_up_ne _ _ e]
    exact ⟨Cl.put2 hne c1 (hi i k hi2 hk e).1, Cl.put hne hk1 c2 (by decide), Cl.put hne hk1 c3 (by decide)⟩
theorem PortsR.add {κ : Kx} {L L1 : List Nat} {f f1 : Nat → wE} {pl n p ph po : Nat} {qs : Nat → Pt} {pv hv ov : Nat → Nat} (hP : ∀ i, i < n → Cl L f (pv i) (15, .inr (2, [.ref (hv i), .ref (ov i), .int (iI (qs i).2.2.2.2)])) ∧ Cl L f (hv i) (16, .inr (1, [.int (iI (qs i).1), .int (iI (qs i).2.1)])) ∧ Cl L f (ov i) (17, .inr (1, [.int (iI (qs i).2.2.1), .int (iI (qs i).2.2.2.1)])))
    (hr : k_fr (S2 4 12) L f L1 f1) (hn : p ∉ L ∧ ph ∉ L ∧ po ∉ L) (hL : ListR κ L1 f1 pl 4 12 (n + 1) (va_up pv n p)) (c1 : Cl L1 f1 p (15, .inr (2, [.ref ph, .ref po, .int (iI 0)]))) (c2 : Cl L1 f1 ph (16, .inr (1, [.int (iI 0), .int (iI 100)]))) (c3 : Cl L1 f1 po (17, .inr (1, [.int (iI 0), .int (iI 100)]))) (hi : ∀ i j, i < n → j < n → i ≠ j → pv i ≠ pv j ∧ hv i ≠ hv j ∧ ov i ≠ ov j) : PortsR κ L1 f1 pl (n + 1) (va_up qs n (0, 100, 0, 100, 0)) := by
  refine ⟨va_up pv n p, va_up hv n ph, va_up ov n po, hL, fun i hi2 => ?_, fun i j hi2 hj2 hij => ?_⟩
  · by_cases e : i = n
    · subst e
      rw [va_up_self, va_up_self, va_up_self, va_up_self]
      exact ⟨c1, c2, c3⟩
    · rw [va_up_ne _ _ e, va_up_ne _ _ e, va_up_ne _ _ e, va_up_ne _ _ e]
      obtain ⟨a1, a2, a3⟩ := hP i (by omega)
      exact ⟨a1.fr hr rfl, a2.fr hr rfl, a3.fr hr rfl⟩
  · by_cases e1 : i = n
    · have e2 : j ≠ n := by omega
      obtain ⟨a1, a2, a3⟩ := hP j (by omega)
      rw [e1, va_up_self, va_up_self, va_up_self, va_up_ne _ _ e2, va_up_ne _ _ e2, va_up_ne _ _ e2]
      exact ⟨fun q => hn.1 (by rw [q]; exact a1.1), fun q => hn.2.1 (by rw [q]; exact a2.1), fun q => hn.2.2 (by rw [q]; exact a3.1)⟩
    · rw [va_up_ne _ _ e1, va_up_ne _ _ e1, va_up_ne _ _ e1]
      obtain ⟨a1, a2, a3⟩ := hP i (by omega)
      by_cases e2 : j = n
      · rw [e2, va_up_self, va_up_self, va_up_self]
        exact ⟨fun q => hn.1 (by rw [← q]; exact a1.1), fun q => hn.2.1 (by rw [← q]; exact a2.1), fun q => hn.2.2 (by rw [← q]; exact a3.1)⟩
      · rw [va_up_ne _ _ e2, va_up_ne _ _ e2, va_up_ne _ _ e2]
        exact hi i j (by omega) (by omega) hij
theorem ReadsR.add {κ : Kx} {L1 : List Nat} {f1 : Nat → wE} {rl r t : Nat} {v : Int} {ρ : Rd} {rv : Nat → Nat} (hR : ∀ i, i < ρ.1 → Cl L1 f1 (rv i) (18, .inr (3, [.int (iI (ρ.2.1 i : Int)), .int (iI (ρ.2.2 i))]))) (hL : ListR κ L1 f1 rl 5 13 (ρ.1 + 1) (va_up rv ρ.1 r)) (c1 : Cl L1 f1 r (18, .inr (3, [.int (iI (t : Int)), .int (iI v)]))) : ReadsR κ L1 f1 rl (ρ.1 + 1, va_up ρ.2.1 ρ.1 t, va_up ρ.2.2 ρ.1 v) := by
  refine ⟨va_up rv ρ.1 r, hL, fun i hi2 => ?_⟩
  have hi3 : i < ρ.1 + 1 := hi2
  show Cl L1 f1 (va_up rv ρ.1 r i) (18, .inr (3, [.int (iI ((va_up ρ.2.1 ρ.1 t i : Nat) : Int)), .int (iI (va_up ρ.2.2 ρ.1 v i))]))
  by_cases e : i = ρ.1
  · subst e
    rw [va_up_self, va_up_self, va_up_self]
    exact c1
  · rw [va_up_ne _ _ e, va_up_ne _ _ e, va_up_ne _ _ e]
    exact hR i (by omega)
set_option maxHeartbeats 4000000 in
set_option maxRecDepth 100000 in
theorem c_X7_setAddition (la : Launch) (κ : Kx) {L : List Nat} {f : Nat → wE} {tt td tb pl rl : Nat} {old : Bool} {σ : Sg} {p ad : Int}  (hC : CSF κ L f tt td tb pl rl old σ) (hts : la.stackTraces = false) (hs : SgOk σ) (hp : inI p) (had : inI ad) : k_MX la κ yX7_setAddition cX7_setAddition 5 (some .int) 6 1 6 [.ref tt, .int (iI p), .int (iI ad)] L f (k_rn (fun v9 L' f' => xSetAdd σ p ad = none ∧ v9 = .int (iI ((σ.2.2.1 p.toNat).2.2.2.2)) ∧ CS κ L' f' tt (sSetAdd σ p ad) ∧ k_fr SC L f L' f')) (fun E L' f' => xSetAdd σ p ad = some E ∧ CS κ L' f' tt σ ∧ k_fr SC L f L' f') := by
  refine k_headX RX7 [(0, .ref tt), (1, .int (iI p)), (2, .int (iI ad))] rfl (by decide) (Nat.le_of_ble_eq_true rfl) rfl (fun θ hθ hin hth => ?_)
  have hts2 : θ.2.1.stackTraces = false := by rw [hθ]; exact hts
  obtain ⟨ctt, hTd, hTx, hPs, hRs⟩ := id hC
  obtain ⟨pv, hv, ov, hLp, hPv, hPi⟩ := id hPs
  obtain ⟨md2, E2, cpl⟩ := hLp.cl
  obtain ⟨hs1, ⟨hs2, hs3⟩, hs4⟩ := id hs
  have hs5 := hs1.2.1
  have hs6 := hs4.1
  have hs7 := nW_le (hT σ.1)
  have hs8 := hs1.1
  refine k_aload_n 0 0 dX7_setAddition_0 rfl rfl ?_
  refine k_iload_n 1 1 dX7_setAddition_1 rfl rfl ?_
  refine k_useR (k_runV (c_X7_hasPort θ.2.1 κ (tt := tt) (z := p) hC hs hp) w_X7_143 ⟨q_459, q_12⟩ rfl rfl ctt rfl ⟨(Nat.le_of_ble_eq_true rfl), (Nat.le_of_ble_eq_true rfl)⟩ (Nat.le_of_ble_eq_true rfl) dX7_setAddition_2) ⟨(Nat.le_of_ble_eq_true rfl), (Nat.le_of_ble_eq_true rfl)⟩ ?_
  refine k_ifb_ne 18 dX7_setAddition_5 (by decide) (fun h5 => ?_) (fun h5 => ?_)
  · have hd5 := of_decide_eq_true h5
    refine k_iload_n 2 2 dX7_setAddition_18 rfl rfl ?_
    refine k_sipush dX7_setAddition_19 (by decide) ?_
    refine k_sipush dX7_setAddition_22 (by decide) ?_
    refine k_useR (k_runS (c_X7_isWithin θ.2.1 κ (z := ad) (a := (-3000)) (b := 3000) had (inI_mk (by omega) (by omega)) (inI_mk (by omega) (by omega))) w_X7_37 q_136 rfl rfl ⟨(Nat.le_of_ble_eq_true rfl), (Nat.le_of_ble_eq_true rfl)⟩ (Nat.le_of_ble_eq_true rfl) dX7_setAddition_25) ⟨(Nat.le_of_ble_eq_true rfl), (Nat.le_of_ble_eq_true rfl)⟩ ?_
    refine k_ifb_ne 41 dX7_setAddition_28 (by decide) (fun h28 => ?_) (fun h28 => ?_)
    · have hd28 := of_decide_eq_true h28
      obtain ⟨pn, rfl⟩ : ∃ pn : Nat, p = (pn : Int) := ⟨p.toNat, by omega⟩
      have hpn : pn < σ.2.1 := by omega
      have cpn := (hPv pn hpn).1
      refine k_aload_n 0 0 dX7_setAddition_41 rfl rfl ?_
      refine k_get 2 i_X7 q_114 ctt rfl (by decide) rfl dX7_setAddition_42 ?_
      refine k_iload_n 1 1 dX7_setAddition_45 rfl rfl ?_
      refine k_useR (k_runV (c_Jx4a65c_get_915e3 θ.2.1 κ (n := σ.2.1) (g := pv) (i := pn) (l := pl) hLp hpn) w_X7_82 ⟨q_215, q_216⟩ rfl rfl cpl rfl ⟨(Nat.le_of_ble_eq_true rfl), (Nat.le_of_ble_eq_true rfl)⟩ (Nat.le_of_ble_eq_true rfl) dX7_setAddition_46) ⟨(Nat.le_of_ble_eq_true rfl), (Nat.le_of_ble_eq_true rfl)⟩ ?_
      refine k_castS q_367 cpn rfl dX7_setAddition_49 ?_
      refine k_astore_n 3 [(3, .ref (pv pn)), (0, .ref tt), (1, .int (iI (pn : Int))), (2, .int (iI ad))] dX7_setAddition_52 rfl (by decide) rfl ?_
      have hTX : TX κ L f tb old σ.1 := hTx
      refine k_aload_n 0 3 dX7_setAddition_53 rfl rfl ?_
      refine k_getN 2 i_X1 q_392 cpn rfl (by decide) rfl dX7_setAddition_54 ?_
      refine k_istore [(4, .int (iI ((σ.2.2.1 pn).2.2.2.2))), (3, .ref (pv pn)), (0, .ref tt), (1, .int (iI (pn : Int))), (2, .int (iI ad))] dX7_setAddition_57 (by decide) rfl ?_
      refine k_aload_n 1 3 dX7_setAddition_59 rfl rfl ?_
      refine k_iload_n 4 2 dX7_setAddition_60 rfl rfl ?_
      refine k_putN 2 [.ref (hv pn), .ref (ov pn), .int (iI ad)] i_X1 tyX1_ok nmX1 q_392 cpn rfl (by decide) rfl rfl rfl rfl (Nat.le_of_ble_eq_true rfl) rfl dX7_setAddition_61 (fun f1 hf1 hc1 => ?_)
      have hr1 := k_fr.put hf1 cpn
      replace ctt := ctt.fr hr1 rfl
      replace cpl := cpl.fr hr1 rfl
      replace hTX := hTX.fr hr1 rfl
      replace hTd := hTd.fr hr1 rfl
      replace hRs := hRs.fr hr1 rfl
      replace hLp := hLp.fr hr1 rfl
      replace cpn : Cl L f1 (pv pn) (15, .inr (2, [.ref (hv pn), .ref (ov pn), .int (iI ad)])) := hc1
      have hPs2 := PortsR.setA hLp hPv hPi hpn hf1 cpn
      refine k_iload 0 dX7_setAddition_64 rfl ?_
      exact k_xr (k_iret dX7_setAddition_66 rfl (Nat.le_of_ble_eq_true rfl) (Nat.le_of_ble_eq_true rfl) (⟨_, rfl, (by rw [xSetAdd, if_pos hd5, if_pos hd28]), rfl, ⟨td, tb, pl, rl, old, ctt, hTd, hTX, hPs2, hRs⟩, (k_fr.mono hr1 (SC_of rfl))⟩))
    · have hd28 := of_decide_eq_false h28
      exact k_throw (si := 13) hts2 hth x_IA (by decide) rfl dX7_setAddition_31 dX7_setAddition_34 dX7_setAddition_35 dX7_setAddition_37 dX7_setAddition_40 ⟨(Nat.le_of_ble_eq_true rfl), (Nat.le_of_ble_eq_true rfl), (Nat.le_of_ble_eq_true rfl), (Nat.le_of_ble_eq_true rfl)⟩ (Nat.le_of_ble_eq_true rfl) ⟨(Nat.le_of_ble_eq_true rfl), (Nat.le_of_ble_eq_true rfl)⟩ (⟨(by rw [xSetAdd, if_pos hd5, if_neg hd28]), hC.cs, k_fr.refl⟩)
  · have hd5 := of_decide_eq_false h5
    exact k_throw (si := 10) hts2 hth x_IO (by decide) rfl dX7_setAddition_8 dX7_setAddition_11 dX7_setAddition_12 dX7_setAddition_14 dX7_setAddition_17 ⟨(Nat.le_of_ble_eq_true rfl), (Nat.le_of_ble_eq_true rfl), (Nat.le_of_ble_eq_true rfl), (Nat.le_of_ble_eq_true rfl)⟩ (Nat.le_of_ble_eq_true rfl) ⟨(Nat.le_of_ble_eq_true rfl), (Nat.le_of_ble_eq_true rfl)⟩ (⟨(by rw [xSetAdd, if_neg hd5]), hC.cs, k_fr.refl⟩)
end
section
theorem PortsR.add2 {κ : Kx} {L L0 L1 : List Nat} {f f0 f1 : Nat → wE} {pl n p ph po : Nat} {qs : Nat → Pt} {pv hv ov : Nat → Nat} (hP0 : ∀ i, i < n → Cl L0 f0 (pv i) (15, .inr (2, [.ref (hv i), .ref (ov i), .int (iI (qs i).2.2.2.2)])) ∧ Cl L0 f0 (hv i) (16, .inr (1, [.int (iI (qs i).1), .int (iI (qs i).2.1)])) ∧ Cl L0 f0 (ov i) (17, .inr (1, [.int (iI (qs i).2.2.1), .int (iI (qs i).2.2.2.1)])))
    (hP : ∀ i, i < n → Cl L f (pv i) (15, .inr (2, [.ref (hv i), .ref (ov i), .int (iI (qs i).2.2.2.2)])) ∧ Cl L f (hv i) (16, .inr (1, [.int (iI (qs i).1), .int (iI (qs i).2.1)])) ∧ Cl L f (ov i) (17, .inr (1, [.int (iI (qs i).2.2.1), .int (iI (qs i).2.2.2.1)])))
    (hr : k_fr (S2 4 12) L f L1 f1) (hn : p ∉ L0 ∧ ph ∉ L0 ∧ po ∉ L0) (hL : ListR κ L1 f1 pl 4 12 (n + 1) (va_up pv n p)) (c1 : Cl L1 f1 p (15, .inr (2, [.ref ph, .ref po, .int (iI 0)]))) (c2 : Cl L1 f1 ph (16, .inr (1, [.int (iI 0), .int (iI 100)]))) (c3 : Cl L1 f1 po (17, .inr (1, [.int (iI 0), .int (iI 100)]))) (hi : ∀ i j, i < n → j < n → i ≠ j → pv i ≠ pv j ∧ hv i ≠ hv j ∧ ov i ≠ ov j) : PortsR κ L1 f1 pl (n + 1) (va_up qs n (0, 100, 0, 100, 0)) := by
  refine ⟨va_up pv n p, va_up hv n ph, va_up ov n po, hL, fun i hi2 => ?_, fun i j hi2 hj2 hij => ?_⟩
  · by_cases e : i = n
    · subst e
      rw [va_up_self, va_up_self, va_up_self, va_up_self]
      exact ⟨c1, c2, c3⟩
    · rw [va_up_ne _ _ e, va_up_ne _ _ e, va_up_ne _ _ e, va_up_ne _ _ e]
      obtain ⟨a1, a2, a3⟩ := hP i (by omega)
      exact ⟨a1.fr hr rfl, a2.fr hr rfl, a3.fr hr rfl⟩
  · by_cases e1 : i = n
    · have e2 : j ≠ n := by omega
      obtain ⟨a1, a2, a3⟩ := hP0 j (by omega)
      rw [e1, va_up_self, va_up_self, va_up_self, va_up_ne _ _ e2, va_up_ne _ _ e2, va_up_ne _ _ e2]
      exact ⟨fun q => hn.1 (by rw [q]; exact a1.1), fun q => hn.2.1 (by rw [q]; exact a2.1), fun q => hn.2.2 (by rw [q]; exact a3.1)⟩
    · rw [va_up_ne _ _ e1, va_up_ne _ _ e1, va_up_ne _ _ e1]
      obtain ⟨a1, a2, a3⟩ := hP0 i (by omega)
      by_cases e2 : j = n
      · rw [e2, va_up_self, va_up_self, va_up_self]
        exact ⟨fun q => hn.1 (by rw [← q]; exact a1.1), fun q => hn.2.1 (by rw [← q]; exact a2.1), fun q => hn.2.2 (by rw [← q]; exact a3.1)⟩
      · rw [va_up_ne _ _ e2, va_up_ne _ _ e2, va_up_ne _ _ e2]
        exact hi i j (by omega) (by omega) hij
set_option maxHeartbeats 4000000 in
set_option maxRecDepth 100000 in
theorem c_X7_setPort (la : Launch) (κ : Kx) {L : List Nat} {f : Nat → wE} {tt td tb pl rl : Nat} {old : Bool} {σ : Sg} {p sh fa : Int} {b : Bool}  (hC : CSF κ L f tt td tb pl rl old σ) (hts : la.stackTraces = false) (hs : SgOk σ) (hp : inI p) (hsh : inI sh) (hfa : inI fa) : k_MX la κ yX7_setPort cX7_setPort 7 (some .int) 6 1 6 [.ref tt, .int (iI p), .int (iI (bI b)), .int (iI sh), .int (iI fa)] L f (k_rn (fun v9 L' f' => xSetPort σ p sh fa = none ∧ v9 = .int (iI (aSetPort (σ.2.2.1 p.toNat) b)) ∧ CS κ L' f' tt (sSetPort σ p b sh fa) ∧ k_fr SC L f L' f')) (fun E L' f' => xSetPort σ p sh fa = some E ∧ CS κ L' f' tt σ ∧ k_fr SC L f L' f') := by
  refine k_headX RX7 [(0, .ref tt), (1, .int (iI p)), (2, .int (iI (bI b))), (3, .int (iI sh)), (4, .int (iI fa))] rfl (by decide) (Nat.le_of_ble_eq_true rfl) rfl (fun θ hθ hin hth => ?_)
  have hts2 : θ.2.1.stackTraces = false := by rw [hθ]; exact hts
  obtain ⟨ctt, hTd, hTx, hPs, hRs⟩ := id hC
  obtain ⟨pv, hv, ov, hLp, hPv, hPi⟩ := id hPs
  obtain ⟨md2, E2, cpl⟩ := hLp.cl
  obtain ⟨hs1, ⟨hs2, hs3⟩, hs4⟩ := id hs
  have hs5 := hs1.2.1
  have hs6 := hs4.1
  have hs7 := nW_le (hT σ.1)
  have hs8 := hs1.1
  refine k_aload_n 0 0 dX7_setPort_0 rfl rfl ?_
  refine k_iload_n 1 1 dX7_setPort_1 rfl rfl ?_
  refine k_useR (k_runV (c_X7_hasPort θ.2.1 κ (tt := tt) (z := p) hC hs hp) w_X7_143 ⟨q_459, q_12⟩ rfl rfl ctt rfl ⟨(Nat.le_of_ble_eq_true rfl), (Nat.le_of_ble_eq_true rfl)⟩ (Nat.le_of_ble_eq_true rfl) dX7_setPort_2) ⟨(Nat.le_of_ble_eq_true rfl), (Nat.le_of_ble_eq_true rfl)⟩ ?_
  refine k_ifb_ne 18 dX7_setPort_5 (by decide) (fun h5 => ?_) (fun h5 => ?_)
  · have hd5 := of_decide_eq_true h5
    refine k_iload_n 3 3 dX7_setPort_18 rfl rfl ?_
    refine k_sipush dX7_setPort_19 (by decide) ?_
    refine k_sipush dX7_setPort_22 (by decide) ?_
    refine k_useR (k_runS (c_X7_isWithin θ.2.1 κ (z := sh) (a := (-300)) (b := 300) hsh (inI_mk (by omega) (by omega)) (inI_mk (by omega) (by omega))) w_X7_37 q_136 rfl rfl ⟨(Nat.le_of_ble_eq_true rfl), (Nat.le_of_ble_eq_true rfl)⟩ (Nat.le_of_ble_eq_true rfl) dX7_setPort_25) ⟨(Nat.le_of_ble_eq_true rfl), (Nat.le_of_ble_eq_true rfl)⟩ ?_
    refine k_ifb_ne 41 dX7_setPort_28 (by decide) (fun h28 => ?_) (fun h28 => ?_)
    · have hd28 := of_decide_eq_true h28
      refine k_iload 4 dX7_setPort_41 rfl ?_
      refine k_iconst dX7_setPort_43 ?_
      refine k_sipush dX7_setPort_44 (by decide) ?_
      refine k_useR (k_runS (c_X7_isWithin θ.2.1 κ (z := fa) (a := 0) (b := 300) hfa (inI_mk (by omega) (by omega)) (inI_mk (by omega) (by omega))) w_X7_37 q_136 rfl rfl ⟨(Nat.le_of_ble_eq_true rfl), (Nat.le_of_ble_eq_true rfl)⟩ (Nat.le_of_ble_eq_true rfl) dX7_setPort_47) ⟨(Nat.le_of_ble_eq_true rfl), (Nat.le_of_ble_eq_true rfl)⟩ ?_
      refine k_ifb_ne 63 dX7_setPort_50 (by decide) (fun h50 => ?_) (fun h50 => ?_)
      · have hd50 := of_decide_eq_true h50
        obtain ⟨pn, rfl⟩ : ∃ pn : Nat, p = (pn : Int) := ⟨p.toNat, by omega⟩
        have hpn : pn < σ.2.1 := by omega
        have hPn := hPv pn hpn
        obtain ⟨cpt, cph, cpo⟩ := hPn
        have hTX : TX κ L f tb old σ.1 := hTx
        refine k_aload_n 0 0 dX7_setPort_63 rfl rfl ?_
        refine k_get 2 i_X7 q_114 ctt rfl (by decide) rfl dX7_setPort_64 ?_
        refine k_iload_n 1 1 dX7_setPort_67 rfl rfl ?_
        refine k_useR (k_runV (c_Jx4a65c_get_915e3 θ.2.1 κ (n := σ.2.1) (g := pv) (i := pn) (l := pl) hLp hpn) w_X7_82 ⟨q_215, q_216⟩ rfl rfl cpl rfl ⟨(Nat.le_of_ble_eq_true rfl), (Nat.le_of_ble_eq_true rfl)⟩ (Nat.le_of_ble_eq_true rfl) dX7_setPort_68) ⟨(Nat.le_of_ble_eq_true rfl), (Nat.le_of_ble_eq_true rfl)⟩ ?_
        refine k_castS q_367 cpt rfl dX7_setPort_71 ?_
        refine k_iload_n 2 2 dX7_setPort_74 rfl rfl ?_
        rcases b with _ | _
        · refine k_useR (k_runV (c_X1_followOf_f θ.2.1 κ (ph := (hv pn)) (po := (ov pn)) (pt := (pv pn)) cpt) w_X7_152 ⟨q_466, q_467⟩ rfl rfl cpt rfl ⟨(Nat.le_of_ble_eq_true rfl), (Nat.le_of_ble_eq_true rfl)⟩ (Nat.le_of_ble_eq_true rfl) dX7_setPort_75) ⟨(Nat.le_of_ble_eq_true rfl), (Nat.le_of_ble_eq_true rfl)⟩ ?_
          refine k_astore [(5, .ref (ov pn)), (0, .ref tt), (1, .int (iI (pn : Int))), (2, .int (iI (bI false))), (3, .int (iI sh)), (4, .int (iI fa))] dX7_setPort_78 (by decide) rfl ?_
          refine k_aload 0 dX7_setPort_80 rfl ?_
          refine k_getN 1 i_X0 q_383 cpo rfl (by decide) rfl dX7_setPort_82 ?_
          refine k_istore [(6, .int (iI ((σ.2.2.1 pn).2.2.2.1))), (5, .ref (ov pn)), (0, .ref tt), (1, .int (iI (pn : Int))), (2, .int (iI (bI false))), (3, .int (iI sh)), (4, .int (iI fa))] dX7_setPort_85 (by decide) rfl ?_
          refine k_aload 1 dX7_setPort_87 rfl ?_
          refine k_iload_n 5 3 dX7_setPort_89 rfl rfl ?_
          refine k_putN 0 [.int (iI sh), .int (iI ((σ.2.2.1 pn).2.2.2.1))] i_X0 tyX0_ok nmX0 q_380 cpo rfl (by decide) rfl rfl rfl rfl (Nat.le_of_ble_eq_true rfl) rfl dX7_setPort_90 (fun f1 hf1 hc1 => ?_)
          have hr1 := k_fr.put hf1 cpo
          replace ctt := ctt.fr hr1 rfl
          replace cpl := cpl.fr hr1 rfl
          replace cpt := cpt.fr hr1 rfl
          replace cph := cph.fr hr1 rfl
          replace hTX := hTX.fr hr1 rfl
          replace hTd := hTd.fr hr1 rfl
          replace hRs := hRs.fr hr1 rfl
          replace hLp := hLp.fr hr1 rfl
          replace cpo : Cl L f1 (ov pn) (17, .inr (1, [.int (iI sh), .int (iI ((σ.2.2.1 pn).2.2.2.1))])) := hc1
          refine k_aload 1 dX7_setPort_93 rfl ?_
          refine k_iload 6 dX7_setPort_95 rfl ?_
          refine k_putN 1 [.int (iI sh), .int (iI fa)] i_X0 tyX0_ok nmX0 q_383 cpo rfl (by decide) rfl rfl rfl rfl (Nat.le_of_ble_eq_true rfl) rfl dX7_setPort_97 (fun f2 hf2 hc2 => ?_)
          have hr2 := k_fr.put hf2 cpo
          replace ctt := ctt.fr hr2 rfl
          replace cpl := cpl.fr hr2 rfl
          replace cpt := cpt.fr hr2 rfl
          replace cph := cph.fr hr2 rfl
          replace hTX := hTX.fr hr2 rfl
          replace hTd := hTd.fr hr2 rfl
          replace hRs := hRs.fr hr2 rfl
          replace hLp := hLp.fr hr2 rfl
          replace cpo : Cl L f2 (ov pn) (17, .inr (1, [.int (iI sh), .int (iI fa)])) := hc2
          have hPs2 := PortsR.setL hLp hPv hPi hpn (fun z hz => (hf2 z hz).trans (hf1 z hz)) cpo
          refine k_iload 0 dX7_setPort_100 rfl ?_
          exact k_xr (k_iret dX7_setPort_102 rfl (Nat.le_of_ble_eq_true rfl) (Nat.le_of_ble_eq_true rfl) (⟨_, rfl, (by rw [xSetPort, if_pos hd5, if_pos hd28, if_pos hd50]), rfl, ⟨td, tb, pl, rl, old, ctt, hTd, hTX, hPs2, hRs⟩, (k_fr.trans (k_fr.mono hr1 (SC_of rfl)) hr2 idf (SC_of rfl))⟩))
        · refine k_useR (k_runV (c_X1_followOf_t θ.2.1 κ (ph := (hv pn)) (po := (ov pn)) (pt := (pv pn)) cpt) w_X7_152 ⟨q_466, q_467⟩ rfl rfl cpt rfl ⟨(Nat.le_of_ble_eq_true rfl), (Nat.le_of_ble_eq_true rfl)⟩ (Nat.le_of_ble_eq_true rfl) dX7_setPort_75) ⟨(Nat.le_of_ble_eq_true rfl), (Nat.le_of_ble_eq_true rfl)⟩ ?_
          refine k_astore [(5, .ref (hv pn)), (0, .ref tt), (1, .int (iI (pn : Int))), (2, .int (iI (bI true))), (3, .int (iI sh)), (4, .int (iI fa))] dX7_setPort_78 (by decide) rfl ?_
          refine k_aload 0 dX7_setPort_80 rfl ?_
          refine k_getN 1 i_X0 q_383 cph rfl (by decide) rfl dX7_setPort_82 ?_
          refine k_istore [(6, .int (iI ((σ.2.2.1 pn).2.1))), (5, .ref (hv pn)), (0, .ref tt), (1, .int (iI (pn : Int))), (2, .int (iI (bI true))), (3, .int (iI sh)), (4, .int (iI fa))] dX7_setPort_85 (by decide) rfl ?_
          refine k_aload 1 dX7_setPort_87 rfl ?_
          refine k_iload_n 5 3 dX7_setPort_89 rfl rfl ?_
          refine k_putN 0 [.int (iI sh), .int (iI ((σ.2.2.1 pn).2.1))] i_X0 tyX0_ok nmX0 q_380 cph rfl (by decide) rfl rfl rfl rfl (Nat.le_of_ble_eq_true rfl) rfl dX7_setPort_90 (fun f3 hf3 hc3 => ?_)
          have hr3 := k_fr.put hf3 cph
          replace ctt := ctt.fr hr3 rfl
          replace cpl := cpl.fr hr3 rfl
          replace cpt := cpt.fr hr3 rfl
          replace cpo := cpo.fr hr3 rfl
          replace hTX := hTX.fr hr3 rfl
          replace hTd := hTd.fr hr3 rfl
          replace hRs := hRs.fr hr3 rfl
          replace hLp := hLp.fr hr3 rfl
          replace cph : Cl L f3 (hv pn) (16, .inr (1, [.int (iI sh), .int (iI ((σ.2.2.1 pn).2.1))])) := hc3
          refine k_aload 1 dX7_setPort_93 rfl ?_
          refine k_iload 6 dX7_setPort_95 rfl ?_
          refine k_putN 1 [.int (iI sh), .int (iI fa)] i_X0 tyX0_ok nmX0 q_383 cph rfl (by decide) rfl rfl rfl rfl (Nat.le_of_ble_eq_true rfl) rfl dX7_setPort_97 (fun f4 hf4 hc4 => ?_)
          have hr4 := k_fr.put hf4 cph
          replace ctt := ctt.fr hr4 rfl
          replace cpl := cpl.fr hr4 rfl
          replace cpt := cpt.fr hr4 rfl
          replace cpo := cpo.fr hr4 rfl
          replace hTX := hTX.fr hr4 rfl
          replace hTd := hTd.fr hr4 rfl
          replace hRs := hRs.fr hr4 rfl
          replace hLp := hLp.fr hr4 rfl
          replace cph : Cl L f4 (hv pn) (16, .inr (1, [.int (iI sh), .int (iI fa)])) := hc4
          have hPs2 := PortsR.setH hLp hPv hPi hpn (fun z hz => (hf4 z hz).trans (hf3 z hz)) cph
          refine k_iload 0 dX7_setPort_100 rfl ?_
          exact k_xr (k_iret dX7_setPort_102 rfl (Nat.le_of_ble_eq_true rfl) (Nat.le_of_ble_eq_true rfl) (⟨_, rfl, (by rw [xSetPort, if_pos hd5, if_pos hd28, if_pos hd50]), rfl, ⟨td, tb, pl, rl, old, ctt, hTd, hTX, hPs2, hRs⟩, (k_fr.trans (k_fr.mono hr3 (SC_of rfl)) hr4 idf (SC_of rfl))⟩))
      · have hd50 := of_decide_eq_false h50
        exact k_throw (si := 12) hts2 hth x_IA (by decide) rfl dX7_setPort_53 dX7_setPort_56 dX7_setPort_57 dX7_setPort_59 dX7_setPort_62 ⟨(Nat.le_of_ble_eq_true rfl), (Nat.le_of_ble_eq_true rfl), (Nat.le_of_ble_eq_true rfl), (Nat.le_of_ble_eq_true rfl)⟩ (Nat.le_of_ble_eq_true rfl) ⟨(Nat.le_of_ble_eq_true rfl), (Nat.le_of_ble_eq_true rfl)⟩ (⟨(by rw [xSetPort, if_pos hd5, if_pos hd28, if_neg hd50]), hC.cs, k_fr.refl⟩)
    · have hd28 := of_decide_eq_false h28
      exact k_throw (si := 11) hts2 hth x_IA (by decide) rfl dX7_setPort_31 dX7_setPort_34 dX7_setPort_35 dX7_setPort_37 dX7_setPort_40 ⟨(Nat.le_of_ble_eq_true rfl), (Nat.le_of_ble_eq_true rfl), (Nat.le_of_ble_eq_true rfl), (Nat.le_of_ble_eq_true rfl)⟩ (Nat.le_of_ble_eq_true rfl) ⟨(Nat.le_of_ble_eq_true rfl), (Nat.le_of_ble_eq_true rfl)⟩ (⟨(by rw [xSetPort, if_pos hd5, if_neg hd28]), hC.cs, k_fr.refl⟩)
  · have hd5 := of_decide_eq_false h5
    exact k_throw (si := 10) hts2 hth x_IO (by decide) rfl dX7_setPort_8 dX7_setPort_11 dX7_setPort_12 dX7_setPort_14 dX7_setPort_17 ⟨(Nat.le_of_ble_eq_true rfl), (Nat.le_of_ble_eq_true rfl), (Nat.le_of_ble_eq_true rfl), (Nat.le_of_ble_eq_true rfl)⟩ (Nat.le_of_ble_eq_true rfl) ⟨(Nat.le_of_ble_eq_true rfl), (Nat.le_of_ble_eq_true rfl)⟩ (⟨(by rw [xSetPort, if_neg hd5]), hC.cs, k_fr.refl⟩)
set_option maxHeartbeats 4000000 in
set_option maxRecDepth 100000 in
theorem c_X7_addWave (la : Launch) (κ : Kx) {L : List Nat} {f : Nat → wE} {tt td tb pl rl : Nat} {old : Bool} {σ : Sg} {r p o : Int}  (hC : CSF κ L f tt td tb pl rl old σ) (hts : la.stackTraces = false) (hs : SgOk σ) (hr : inI r) (hp : inI p) (ho : inI o) : k_MX la κ yX7_addWave cX7_addWave 4 (some .int) 8 2 63 [.ref tt, .int (iI r), .int (iI p), .int (iI o)] L f (k_rn (fun v9 L' f' => xAddWave σ r p o = none ∧ v9 = .int (iI ((σ.1.2.1 : Int))) ∧ CS κ L' f' tt (sAddWave σ r p o) ∧ k_fr SC L f L' f')) (fun E L' f' => xAddWave σ r p o = some E ∧ CS κ L' f' tt σ ∧ k_fr SC L f L' f') := by
  refine k_headX RX7 [(0, .ref tt), (1, .int (iI r)), (2, .int (iI p)), (3, .int (iI o))] rfl (by decide) (Nat.le_of_ble_eq_true rfl) rfl (fun θ hθ hin hth => ?_)
  have hts2 : θ.2.1.stackTraces = false := by rw [hθ]; exact hts
  obtain ⟨ctt, hTd, hTx, hPs, hRs⟩ := id hC
  obtain ⟨wl, wv, ctd, hLw, hW, hWi⟩ := id hTd
  obtain ⟨md1, E1, cwl⟩ := hLw.cl
  obtain ⟨hs1, ⟨hs2, hs3⟩, hs4⟩ := id hs
  have hs5 := hs1.2.1
  have hs6 := hs4.1
  have hs7 := nW_le (hT σ.1)
  have hs8 := hs1.1
  refine k_iload_n 1 1 dX7_addWave_0 rfl rfl ?_
  refine k_iconst dX7_addWave_1 ?_
  refine k_sipush dX7_addWave_2 (by decide) ?_
  refine k_useR (k_runS (c_X7_isWithin θ.2.1 κ (z := r) (a := 0) (b := 5000) hr (inI_mk (by omega) (by omega)) (inI_mk (by omega) (by omega))) w_X7_37 q_136 rfl rfl ⟨(Nat.le_of_ble_eq_true rfl), (Nat.le_of_ble_eq_true rfl)⟩ (Nat.le_of_ble_eq_true rfl) dX7_addWave_5) ⟨(Nat.le_of_ble_eq_true rfl), (Nat.le_of_ble_eq_true rfl)⟩ ?_
  refine k_ifb_ne 21 dX7_addWave_8 (by decide) (fun h8 => ?_) (fun h8 => ?_)
  · have hd8 := of_decide_eq_true h8
    refine k_iload_n 2 2 dX7_addWave_21 rfl rfl ?_
    refine k_bipush dX7_addWave_22 (by decide) ?_
    refine k_sipush dX7_addWave_24 (by decide) ?_
    refine k_useR (k_runS (c_X7_isWithin θ.2.1 κ (z := p) (a := 60) (b := 20000) hp (inI_mk (by omega) (by omega)) (inI_mk (by omega) (by omega))) w_X7_37 q_136 rfl rfl ⟨(Nat.le_of_ble_eq_true rfl), (Nat.le_of_ble_eq_true rfl)⟩ (Nat.le_of_ble_eq_true rfl) dX7_addWave_27) ⟨(Nat.le_of_ble_eq_true rfl), (Nat.le_of_ble_eq_true rfl)⟩ ?_
    refine k_ifb_ne 43 dX7_addWave_30 (by decide) (fun h30 => ?_) (fun h30 => ?_)
    · have hd30 := of_decide_eq_true h30
      refine k_iload_n 3 3 dX7_addWave_43 rfl rfl ?_
      refine k_iconst dX7_addWave_44 ?_
      refine k_iload_n 2 2 dX7_addWave_45 rfl rfl ?_
      refine k_iconst dX7_addWave_46 ?_
      refine k_isub dX7_addWave_47 ?_
      refine k_useR (k_runS (c_X7_isWithin θ.2.1 κ (z := o) (a := 0) (b := (p - 1)) ho (inI_mk (by omega) (by omega)) (inI_mk (by omega) (by omega))) w_X7_37 q_136 rfl rfl ⟨(Nat.le_of_ble_eq_true rfl), (Nat.le_of_ble_eq_true rfl)⟩ (Nat.le_of_ble_eq_true rfl) dX7_addWave_48) ⟨(Nat.le_of_ble_eq_true rfl), (Nat.le_of_ble_eq_true rfl)⟩ ?_
      refine k_ifb_ne 64 dX7_addWave_51 (by decide) (fun h51 => ?_) (fun h51 => ?_)
      · have hd51 := of_decide_eq_true h51
        refine k_aload_n 0 0 dX7_addWave_64 rfl rfl ?_
        refine k_get 0 i_X7 q_112 ctt rfl (by decide) rfl dX7_addWave_65 ?_
        refine k_getN 0 i_X5 q_77 ctd rfl (by decide) rfl dX7_addWave_68 ?_
        refine k_useR (k_runV (c_Jx4a65c_size_8abf5 θ.2.1 κ (n := σ.1.2.1) (g := wv) (l := wl) hLw) w_X7_55 ⟨q_211, q_212⟩ rfl rfl cwl rfl ⟨(Nat.le_of_ble_eq_true rfl), (Nat.le_of_ble_eq_true rfl)⟩ (Nat.le_of_ble_eq_true rfl) dX7_addWave_71) ⟨(Nat.le_of_ble_eq_true rfl), (Nat.le_of_ble_eq_true rfl)⟩ ?_
        refine k_bipush dX7_addWave_74 (by decide) ?_
        refine k_icmp_lt 89 dX7_addWave_76 (by decide) (inI_mk (by omega) (by omega)) (inI_mk (by omega) (by omega)) (fun h76 => ?_) (fun h76 => ?_)
        · refine k_aload_n 0 0 dX7_addWave_89 rfl rfl ?_
          refine k_get 0 i_X7 q_112 ctt rfl (by decide) rfl dX7_addWave_90 ?_
          refine k_getN 0 i_X5 q_77 ctd rfl (by decide) rfl dX7_addWave_93 ?_
          refine k_new (ci := 7) 14 [.int (iI 0), .int (iI 0), .int (iI 0)] i_X6 tyX6_ok q_547 q_548 q_25 rfl dv_X6 (Nat.le_of_ble_eq_true rfl) (Nat.le_of_ble_eq_true rfl) dX7_addWave_96 (fun w L1 f1 hz1 hn1 hc1 => ?_)
          have hr1 := k_fr.new hz1
          replace ctt := ctt.fr hr1 rfl
          replace ctd := ctd.fr hr1 rfl
          replace cwl := cwl.fr hr1 rfl
          have cW : Cl L1 f1 w (14, .inr (7, [.int (iI 0), .int (iI 0), .int (iI 0)])) := hc1
          refine k_dup dX7_addWave_99 rfl ?_
          refine k_iload_n 1 1 dX7_addWave_100 rfl rfl ?_
          refine k_iload_n 2 2 dX7_addWave_101 rfl rfl ?_
          refine k_iload_n 3 3 dX7_addWave_102 rfl rfl ?_
          refine k_useU (k_runI (c_X6_init θ.2.1 κ (w := w) (r := r) (p := p) (o := o) cW) w_X7_66 q_550 rfl rfl rfl ⟨(Nat.le_of_ble_eq_true rfl), (Nat.le_of_ble_eq_true rfl)⟩ (Nat.le_of_ble_eq_true rfl) dX7_addWave_103) ⟨(Nat.le_of_ble_eq_true rfl), (Nat.le_of_ble_eq_true rfl)⟩ (fun Lfw fw hw => ?_)
          obtain ⟨efw, hnfw, cfw⟩ := hw
          replace efw := efw.symm
          subst efw
          have hrfw := k_fr.put hnfw cW
          replace ctt := ctt.fr hrfw rfl
          replace ctd := ctd.fr hrfw rfl
          replace cwl := cwl.fr hrfw rfl
          replace cW := cfw
          have hkfw := k_new2 hz1 hn1 hnfw
          have hX := hTx.1.fr hkfw rfl
          replace hPs := hPs.fr hkfw rfl
          replace hRs := hRs.fr hkfw rfl
          replace hLw := hLw.fr hkfw rfl
          have hW1 := fun i (hi : i < σ.1.2.1) => (hW i hi).fr hkfw rfl
          refine k_useV (k_runV (c_Jx4a65c_add_9ea2d θ.2.1 κ (tl := 6) (ta := 11) (tv := 14) (n := σ.1.2.1) (ci := 7) (g := wv) (l := wl) (v := w) hLw cW (by decide) ⟨by decide, by decide⟩ (by omega) rfl q_575 (fun i hi => ⟨14, _, hW1 i hi, by decide, by decide⟩)) w_X7_69 ⟨q_401, q_402⟩ rfl rfl cwl rfl ⟨(Nat.le_of_ble_eq_true rfl), (Nat.le_of_ble_eq_true rfl)⟩ (Nat.le_of_ble_eq_true rfl) dX7_addWave_106) ⟨(Nat.le_of_ble_eq_true rfl), (Nat.le_of_ble_eq_true rfl)⟩ (fun w9 La fa hw9 => ?_)
          obtain ⟨rfl, hL9, hra⟩ := hw9
          replace ctt := ctt.fr hra rfl
          replace ctd := ctd.fr hra rfl
          replace cW := cW.fr hra rfl
          replace hX := hX.fr hra rfl
          replace hPs := hPs.fr hra rfl
          replace hRs := hRs.fr hra rfl
          replace hLw := hL9
          clear hL9
          obtain ⟨md9, E9, c9l⟩ := hLw.cl
          have hTd2 := TideR.add hW (fun i hi => (hW1 i hi).fr hra rfl) hn1 ctd hLw cW hWi
          refine k_pop dX7_addWave_109 rfl ?_
          refine k_aload_n 0 0 dX7_addWave_110 rfl rfl ?_
          refine k_iconst dX7_addWave_111 ?_
          refine k_put 4 [.ref td, .ref tb, .ref pl, .ref rl, .int (iI (bI true))] i_X7 tyX7_ok nmX7 q_116 ctt rfl (by decide) rfl rfl (k_nar_b true) (k_fit_b true) (Nat.le_of_ble_eq_true rfl) rfl dX7_addWave_112 (fun f2 hf2 hc2 => ?_)
          have hr2 := k_fr.put hf2 ctt
          replace ctd := ctd.fr hr2 rfl
          replace c9l := c9l.fr hr2 rfl
          replace cW := cW.fr hr2 rfl
          replace hX := hX.fr hr2 rfl
          replace hPs := hPs.fr hr2 rfl
          replace hRs := hRs.fr hr2 rfl
          replace hLw := hLw.fr hr2 rfl
          replace hTd2 := hTd2.fr hr2 rfl
          replace ctt : Cl La f2 tt (1, .inr (8, [.ref td, .ref tb, .ref pl, .ref rl, .int (iI (bI true))])) := hc2
          refine k_aload_n 0 0 dX7_addWave_115 rfl rfl ?_
          refine k_get 0 i_X7 q_112 ctt rfl (by decide) rfl dX7_addWave_116 ?_
          refine k_getN 0 i_X5 q_77 ctd rfl (by decide) rfl dX7_addWave_119 ?_
          refine k_useR (k_runV (c_Jx4a65c_size_8abf5 θ.2.1 κ (n := (σ.1.2.1 + 1)) (g := (va_up wv σ.1.2.1 w)) (l := wl) hLw) w_X7_55 ⟨q_211, q_212⟩ rfl rfl c9l rfl ⟨(Nat.le_of_ble_eq_true rfl), (Nat.le_of_ble_eq_true rfl)⟩ (Nat.le_of_ble_eq_true rfl) dX7_addWave_122) ⟨(Nat.le_of_ble_eq_true rfl), (Nat.le_of_ble_eq_true rfl)⟩ ?_
          refine k_iconst dX7_addWave_125 ?_
          refine k_isub dX7_addWave_126 ?_
          exact k_xr (k_iret dX7_addWave_127 rfl (Nat.le_of_ble_eq_true rfl) (Nat.le_of_ble_eq_true rfl) (⟨_, rfl, (by rw [xAddWave, if_pos hd8, if_pos hd30, if_pos hd51, if_pos (by omega)]), (congrArg (fun z => Value.int (iI z)) (by omega)), ⟨td, tb, pl, rl, true, ctt, hTd2, ⟨hX, fun e => Bool.noConfusion e⟩, hPs, hRs⟩, (k_fr.trans (k_fr.trans (k_fr.mono hkfw (fun _ _ => rfl)) hra idf (SC_S2 rfl rfl)) hr2 idf (SC_of rfl))⟩))
        · exact k_throw (si := 3) hts2 hth x_IS (by decide) rfl dX7_addWave_79 dX7_addWave_82 dX7_addWave_83 dX7_addWave_85 dX7_addWave_88 ⟨(Nat.le_of_ble_eq_true rfl), (Nat.le_of_ble_eq_true rfl), (Nat.le_of_ble_eq_true rfl), (Nat.le_of_ble_eq_true rfl)⟩ (Nat.le_of_ble_eq_true rfl) ⟨(Nat.le_of_ble_eq_true rfl), (Nat.le_of_ble_eq_true rfl)⟩ (⟨(by rw [xAddWave, if_pos hd8, if_pos hd30, if_pos hd51, if_neg (by omega)]), hC.cs, k_fr.refl⟩)
      · have hd51 := of_decide_eq_false h51
        exact k_throw (si := 2) hts2 hth x_IA (by decide) rfl dX7_addWave_54 dX7_addWave_57 dX7_addWave_58 dX7_addWave_60 dX7_addWave_63 ⟨(Nat.le_of_ble_eq_true rfl), (Nat.le_of_ble_eq_true rfl), (Nat.le_of_ble_eq_true rfl), (Nat.le_of_ble_eq_true rfl)⟩ (Nat.le_of_ble_eq_true rfl) ⟨(Nat.le_of_ble_eq_true rfl), (Nat.le_of_ble_eq_true rfl)⟩ (⟨(by rw [xAddWave, if_pos hd8, if_pos hd30, if_neg hd51]), hC.cs, k_fr.refl⟩)
    · have hd30 := of_decide_eq_false h30
      exact k_throw (si := 1) hts2 hth x_IA (by decide) rfl dX7_addWave_33 dX7_addWave_36 dX7_addWave_37 dX7_addWave_39 dX7_addWave_42 ⟨(Nat.le_of_ble_eq_true rfl), (Nat.le_of_ble_eq_true rfl), (Nat.le_of_ble_eq_true rfl), (Nat.le_of_ble_eq_true rfl)⟩ (Nat.le_of_ble_eq_true rfl) ⟨(Nat.le_of_ble_eq_true rfl), (Nat.le_of_ble_eq_true rfl)⟩ (⟨(by rw [xAddWave, if_pos hd8, if_neg hd30]), hC.cs, k_fr.refl⟩)
  · have hd8 := of_decide_eq_false h8
    exact k_throw (si := 0) hts2 hth x_IA (by decide) rfl dX7_addWave_11 dX7_addWave_14 dX7_addWave_15 dX7_addWave_17 dX7_addWave_20 ⟨(Nat.le_of_ble_eq_true rfl), (Nat.le_of_ble_eq_true rfl), (Nat.le_of_ble_eq_true rfl), (Nat.le_of_ble_eq_true rfl)⟩ (Nat.le_of_ble_eq_true rfl) ⟨(Nat.le_of_ble_eq_true rfl), (Nat.le_of_ble_eq_true rfl)⟩ (⟨(by rw [xAddWave, if_neg hd8]), hC.cs, k_fr.refl⟩)
set_option maxHeartbeats 4000000 in
set_option maxRecDepth 100000 in
theorem c_X7_addPort (la : Launch) (κ : Kx) {L : List Nat} {f : Nat → wE} {tt td tb pl rl : Nat} {old : Bool} {σ : Sg}   (hC : CSF κ L f tt td tb pl rl old σ) (hts : la.stackTraces = false) (hs : SgOk σ) : k_MX la κ yX7_addPort cX7_addPort 1 (some .int) 8 4 67 [.ref tt] L f (k_rn (fun v9 L' f' => xAddPort σ = none ∧ v9 = .int (iI ((σ.2.1 : Int))) ∧ CS κ L' f' tt (sAddPort σ) ∧ k_fr SC L f L' f')) (fun E L' f' => xAddPort σ = some E ∧ CS κ L' f' tt σ ∧ k_fr SC L f L' f') := by
  refine k_headX RX7 [(0, .ref tt)] rfl (by decide) (Nat.le_of_ble_eq_true rfl) rfl (fun θ hθ hin hth => ?_)
  have hts2 : θ.2.1.stackTraces = false := by rw [hθ]; exact hts
  obtain ⟨ctt, hTd, hTx, hPs, hRs⟩ := id hC
  obtain ⟨pv, hv, ov, hLp, hPv, hPi⟩ := id hPs
  obtain ⟨md2, E2, cpl⟩ := hLp.cl
  obtain ⟨hs1, ⟨hs2, hs3⟩, hs4⟩ := id hs
  have hs5 := hs1.2.1
  have hs6 := hs4.1
  have hs7 := nW_le (hT σ.1)
  have hs8 := hs1.1
  have ctt0 := ctt
  have cpl0 := cpl
  have hTX : TX κ L f tb old σ.1 := hTx
  refine k_aload_n 0 0 dX7_addPort_0 rfl rfl ?_
  refine k_get 2 i_X7 q_114 ctt rfl (by decide) rfl dX7_addPort_1 ?_
  refine k_useR (k_runV (c_Jx4a65c_size_8abf5 θ.2.1 κ (n := σ.2.1) (g := pv) (l := pl) hLp) w_X7_55 ⟨q_211, q_212⟩ rfl rfl cpl rfl ⟨(Nat.le_of_ble_eq_true rfl), (Nat.le_of_ble_eq_true rfl)⟩ (Nat.le_of_ble_eq_true rfl) dX7_addPort_4) ⟨(Nat.le_of_ble_eq_true rfl), (Nat.le_of_ble_eq_true rfl)⟩ ?_
  refine k_bipush dX7_addPort_7 (by decide) ?_
  refine k_icmp_lt 22 dX7_addPort_9 (by decide) (inI_mk (by omega) (by omega)) (inI_mk (by omega) (by omega)) (fun h9 => ?_) (fun h9 => ?_)
  · refine k_aload_n 0 0 dX7_addPort_22 rfl rfl ?_
    refine k_get 2 i_X7 q_114 ctt rfl (by decide) rfl dX7_addPort_23 ?_
    refine k_new (ci := 2) 15 [.null, .null, .int (iI 0)] i_X1 tyX1_ok q_367 q_368 q_30 rfl dv_X1 (Nat.le_of_ble_eq_true rfl) (Nat.le_of_ble_eq_true rfl) dX7_addPort_26 (fun p9 L1 f1 hz1 hn1 hc1 => ?_)
    have hr1 := k_fr.new hz1
    replace ctt := ctt.fr hr1 rfl
    replace cpl := cpl.fr hr1 rfl
    have cP9 : Cl L1 f1 p9 (15, .inr (2, [.null, .null, .int (iI 0)])) := hc1
    refine k_dup dX7_addPort_29 rfl ?_
    refine k_useU (k_runIN (c_X1_init θ.2.1 κ (pt := p9) cP9) w_X7_142 q_370 rfl rfl rfl ⟨(Nat.le_of_ble_eq_true rfl), (Nat.le_of_ble_eq_true rfl)⟩ (Nat.le_of_ble_eq_true rfl) dX7_addPort_30) ⟨(Nat.le_of_ble_eq_true rfl), (Nat.le_of_ble_eq_true rfl)⟩ (fun Lp fp hw => ?_)
    obtain ⟨⟨ph9, po9, hph9, hpo9, cpt9, cph9, cpo9⟩, hon⟩ := hw
    have hkn := k_new3 hz1 hn1 hon
    replace ctt := ctt0.fr hkn rfl
    replace cpl := cpl0.fr hkn rfl
    have hTX2 := hTX.fr hkn rfl
    replace hTd := hTd.fr hkn rfl
    replace hRs := hRs.fr hkn rfl
    replace hLp := hLp.fr hkn rfl
    have hPv1 := fun i (hi : i < σ.2.1) => (⟨(hPv i hi).1.fr hkn rfl, (hPv i hi).2.1.fr hkn rfl, (hPv i hi).2.2.fr hkn rfl⟩ : Cl Lp fp (pv i) _ ∧ Cl Lp fp (hv i) _ ∧ Cl Lp fp (ov i) _)
    have hnn9 : p9 ∉ L ∧ ph9 ∉ L ∧ po9 ∉ L := ⟨hn1, fun hx => hph9 (hz1 ph9 hx).1, fun hx => hpo9 (hz1 po9 hx).1⟩
    refine k_useV (k_runV (c_Jx4a65c_add_9ea2d θ.2.1 κ (tl := 4) (ta := 12) (tv := 15) (n := σ.2.1) (ci := 2) (g := pv) (l := pl) (v := p9) hLp cpt9 (by decide) ⟨by decide, by decide⟩ (by omega) rfl q_576 (fun i hi => ⟨15, _, (hPv1 i hi).1, by decide, by decide⟩)) w_X7_69 ⟨q_401, q_402⟩ rfl rfl cpl rfl ⟨(Nat.le_of_ble_eq_true rfl), (Nat.le_of_ble_eq_true rfl)⟩ (Nat.le_of_ble_eq_true rfl) dX7_addPort_33) ⟨(Nat.le_of_ble_eq_true rfl), (Nat.le_of_ble_eq_true rfl)⟩ (fun w9 La fa hw9 => ?_)
    obtain ⟨rfl, hL9, hra⟩ := hw9
    replace ctt := ctt.fr hra rfl
    replace cpt9 := cpt9.fr hra rfl
    replace cph9 := cph9.fr hra rfl
    replace cpo9 := cpo9.fr hra rfl
    replace hTX2 := hTX2.fr hra rfl
    replace hTd := hTd.fr hra rfl
    replace hRs := hRs.fr hra rfl
    replace hLp := hL9
    clear hL9
    obtain ⟨md9, E9, c9l⟩ := hLp.cl
    have hPs2 := PortsR.add2 hPv hPv1 hra hnn9 hLp cpt9 cph9 cpo9 hPi
    refine k_pop dX7_addPort_36 rfl ?_
    refine k_aload_n 0 0 dX7_addPort_37 rfl rfl ?_
    refine k_get 2 i_X7 q_114 ctt rfl (by decide) rfl dX7_addPort_38 ?_
    refine k_useR (k_runV (c_Jx4a65c_size_8abf5 θ.2.1 κ (n := (σ.2.1 + 1)) (g := (va_up pv σ.2.1 p9)) (l := pl) hLp) w_X7_55 ⟨q_211, q_212⟩ rfl rfl c9l rfl ⟨(Nat.le_of_ble_eq_true rfl), (Nat.le_of_ble_eq_true rfl)⟩ (Nat.le_of_ble_eq_true rfl) dX7_addPort_41) ⟨(Nat.le_of_ble_eq_true rfl), (Nat.le_of_ble_eq_true rfl)⟩ ?_
    refine k_iconst dX7_addPort_44 ?_
    refine k_isub dX7_addPort_45 ?_
    exact k_xr (k_iret dX7_addPort_46 rfl (Nat.le_of_ble_eq_true rfl) (Nat.le_of_ble_eq_true rfl) (⟨_, rfl, (by rw [xAddPort, if_pos (by omega)]), (congrArg (fun z => Value.int (iI z)) (by omega)), ⟨td, tb, pl, rl, old, ctt, hTd, hTX2, hPs2, hRs⟩, (k_fr.trans (k_fr.mono hkn (fun _ _ => rfl)) hra idf (SC_S2 rfl rfl))⟩))
  · exact k_throw (si := 9) hts2 hth x_IS (by decide) rfl dX7_addPort_12 dX7_addPort_15 dX7_addPort_16 dX7_addPort_18 dX7_addPort_21 ⟨(Nat.le_of_ble_eq_true rfl), (Nat.le_of_ble_eq_true rfl), (Nat.le_of_ble_eq_true rfl), (Nat.le_of_ble_eq_true rfl)⟩ (Nat.le_of_ble_eq_true rfl) ⟨(Nat.le_of_ble_eq_true rfl), (Nat.le_of_ble_eq_true rfl)⟩ (⟨(by rw [xAddPort, if_neg (by omega)]), hC.cs, k_fr.refl⟩)
end
section
/-! ===== the waters take turns; between them the height goes one way ===== -/
theorem nx_at {h : Nat → Int} {c i : Nat} (h1 : c < i) (hi4 : i ≤ 4320) (h3 : ∀ j, c < j → j < i → h j = h (j - 1)) (e : i = 4320 ∨ h i ≠ h (i - 1)) : nx h c = i := by
  unfold nx
  refine nxt_run h (h c) hi4 (e.imp id (fun q q2 => q ?_)) 4320 (c + 1) (by omega) (by omega) (fun x hx1 hx2 => const_at h3 (by omega) hx2)
  rw [q2]
  exact (const_at h3 (by omega) (by omega)).symm
theorem isW_up {h : Nat → Int} {c i : Nat} (hc : 1 ≤ c) (h0 : h (c - 1) < h c) (h1 : c < i) (hi4 : i < 4320) (h3 : ∀ j, c < j → j < i → h j = h (j - 1)) (e : h i < h (i - 1)) : isW h c = true := by
  have hn := nx_at h1 (Nat.le_of_lt hi4) h3 (Or.inr (by omega))
  have h4 : h (i - 1) = h c := const_at h3 (by omega) (by omega)
  unfold isW
  rw [decide_eq_true_iff, hn]
  exact ⟨hc, hi4, Or.inl ⟨h0, by omega⟩⟩
theorem isW_dn {h : Nat → Int} {c i : Nat} (hc : 1 ≤ c) (h0 : h c < h (c - 1)) (h1 : c < i) (hi4 : i < 4320) (h3 : ∀ j, c < j → j < i → h j = h (j - 1)) (e : h (i - 1) < h i) : isW h c = true := by
  have hn := nx_at h1 (Nat.le_of_lt hi4) h3 (Or.inr (by omega))
  have h4 : h (i - 1) = h c := const_at h3 (by omega) (by omega)
  unfold isW
  rw [decide_eq_true_iff, hn]
  exact ⟨hc, hi4, Or.inr ⟨h0, by omega⟩⟩
theorem nxt_spec {h : Nat → Int} {v : Int} : ∀ (m j : Nat), j ≤ nxt h v m j ∧ ∀ x, j ≤ x → x < nxt h v m j → h x = v
  | 0, j => by
    rw [nxt]
    exact ⟨Nat.le_refl _, fun x a b => by omega⟩
  | m + 1, j => by
    rw [nxt]
    split
    · rename_i e
      obtain ⟨a, b⟩ := nxt_spec (h := h) (v := v) m (j + 1)
      refine ⟨by omega, fun x hx1 hx2 => ?_⟩
      rcases Nat.lt_or_ge j x with q | q
      · exact b x (by omega) hx2
      · have e2 : x = j := by omega
        rw [e2]
        exact e.2
    · exact ⟨Nat.le_refl _, fun x a b => by omega⟩
theorem isW_spec {h : Nat → Int} {t : Nat} (ht : isW h t = true) : 1 ≤ t ∧ t < nx h t ∧ nx h t < 4320 ∧ (∀ j, t < j → j < nx h t → h j = h (j - 1)) ∧ h (nx h t - 1) = h t ∧ ((h (t - 1) < h t ∧ h (nx h t) < h t) ∨ (h t < h (t - 1) ∧ h t < h (nx h t))) := by
  obtain ⟨a, b, c⟩ := of_decide_eq_true ht
  obtain ⟨d, e⟩ := nxt_spec (h := h) (v := h t) 4320 (t + 1)
  have d2 : t + 1 ≤ nx h t := d
  have e2 : ∀ x, t + 1 ≤ x → x < nx h t → h x = h t := e
  have g : ∀ j, t ≤ j → j < nx h t → h j = h t := fun j h1 h2 => by
    rcases Nat.lt_or_ge t j with q | q
    · exact e2 j q h2
    · rw [show j = t by omega]
  exact ⟨a, d2, b, fun j h1 h2 => (g j (by omega) h2).trans (g (j - 1) (by omega) (by omega)).symm, g _ (by omega) (by omega), c⟩
theorem up_run {h : Nat → Int} {a b : Nat} (ha : 1 ≤ a) (h0 : h (a - 1) < h a) (hb : b < 4320) (hn : ∀ j, a ≤ j → j < b → ¬ isW h j = true) : ∀ d : Nat, a + d ≤ b → (∃ c, a ≤ c ∧ c ≤ a + d ∧ h (c - 1) < h c ∧ ∀ j, c < j → j < a + d + 1 → h j = h (j - 1)) ∧ ∀ j, a ≤ j → j ≤ a + d → h (j - 1) ≤ h j
  | 0, _ => ⟨⟨a, Nat.le_refl _, by omega, h0, fun j h1 h2 => by omega⟩, fun j h1 h2 => by
    rw [show j = a by omega]
    omega⟩
  | d + 1, hd => by
    obtain ⟨⟨c, c1, c2, c3, c4⟩, g⟩ := up_run ha h0 hb hn d (by omega)
    have hx : h (a + d) ≤ h (a + (d + 1)) := by
      rcases Int.lt_or_le (h (a + (d + 1))) (h (a + d)) with q | q
      · exact absurd (isW_up (i := a + d + 1) (by omega) c3 (by omega) (by omega) c4 (by rw [show a + d + 1 - 1 = a + d by omega]; exact q)) (hn c c1 (by omega))
      · exact q
    refine ⟨?_, fun j h1 h2 => ?_⟩
    · by_cases e : h (a + (d + 1)) = h (a + d)
      · refine ⟨c, c1, by omega, c3, fun j h1 h2 => ?_⟩
        rcases Nat.lt_or_ge j (a + d + 1) with q | q
        · exact c4 j h1 q
        · rw [show j = a + (d + 1) by omega, show a + (d + 1) - 1 = a + d by omega]
          exact e
      · refine ⟨a + (d + 1), by omega, Nat.le_refl _, ?_, fun j h1 h2 => by omega⟩
        rw [show a + (d + 1) - 1 = a + d by omega]
        omega
    · rcases Nat.lt_or_ge j (a + (d + 1)) with q | q
      · exact g j h1 (by omega)
      · rw [show j = a + (d + 1) by omega, show a + (d + 1) - 1 = a + d by omega]
        exact hx
theorem dn_run {h : Nat → Int} {a b : Nat} (ha : 1 ≤ a) (h0 : h a < h (a - 1)) (hb : b < 4320) (hn : ∀ j, a ≤ j → j < b → ¬ isW h j = true) : ∀ d : Nat, a + d ≤ b → (∃ c, a ≤ c ∧ c ≤ a + d ∧ h c < h (c - 1) ∧ ∀ j, c < j → j < a + d + 1 → h j = h (j - 1)) ∧ ∀ j, a ≤ j → j ≤ a + d → h j ≤ h (j - 1)
  | 0, _ => ⟨⟨a, Nat.le_refl _, by omega, h0, fun j h1 h2 => by omega⟩, fun j h1 h2 => by
    rw [show j = a by omega]
    omega⟩
  | d + 1, hd => by
    obtain ⟨⟨c, c1, c2, c3, c4⟩, g⟩ := dn_run ha h0 hb hn d (by omega)
    have hx : h (a + (d + 1)) ≤ h (a + d) := by
      rcases Int.lt_or_le (h (a + d)) (h (a + (d + 1))) with q | q
      · exact absurd (isW_dn (i := a + d + 1) (by omega) c3 (by omega) (by omega) c4 (by rw [show a + d + 1 - 1 = a + d by omega]; exact q)) (hn c c1 (by omega))
      · exact q
    refine ⟨?_, fun j h1 h2 => ?_⟩
    · by_cases e : h (a + (d + 1)) = h (a + d)
      · refine ⟨c, c1, by omega, c3, fun j h1 h2 => ?_⟩
        rcases Nat.lt_or_ge j (a + d + 1) with q | q
        · exact c4 j h1 q
        · rw [show j = a + (d + 1) by omega, show a + (d + 1) - 1 = a + d by omega]
          exact e
      · refine ⟨a + (d + 1), by omega, Nat.le_refl _, ?_, fun j h1 h2 => by omega⟩
        rw [show a + (d + 1) - 1 = a + d by omega]
        omega
    · rcases Nat.lt_or_ge j (a + (d + 1)) with q | q
      · exact g j h1 (by omega)
      · rw [show j = a + (d + 1) by omega, show a + (d + 1) - 1 = a + d by omega]
        exact hx
theorem tm_next {h : Nat → Int} {k : Nat} (hk : k + 1 < nW h) : tm h k < tm h (k + 1) ∧ ∀ j, tm h k < j → j < tm h (k + 1) → ¬ isW h j = true := by
  obtain ⟨a1, a2, a3, a4⟩ := tm_spec (h := h) (k := k) (by omega)
  obtain ⟨b1, b2, b3, b4⟩ := tm_spec hk
  refine ⟨?_, fun j h1 h2 hw => ?_⟩
  · rcases Nat.lt_or_ge (tm h k) (tm h (k + 1)) with q | q
    · exact q
    · have := wc_mono h q
      omega
  · have e1 := wc_yes a2
    have e2 := wc_mono h (show tm h k + 1 ≤ j from h1)
    have e3 := wc_yes hw
    have e4 := wc_mono h (show j + 1 ≤ tm h (k + 1) from h2)
    omega
theorem mono_le {h : Nat → Int} {a : Nat} : ∀ d : Nat, (∀ j, a < j → j ≤ a + d → h j ≤ h (j - 1)) → h (a + d) ≤ h a
  | 0, _ => Int.le_refl _
  | d + 1, g => by
    have h1 := mono_le d (fun j q1 q2 => g j q1 (by omega))
    have h2 := g (a + (d + 1)) (by omega) (by omega)
    rw [show a + (d + 1) - 1 = a + d by omega] at h2
    omega
theorem mono_ge {h : Nat → Int} {a : Nat} : ∀ d : Nat, (∀ j, a < j → j ≤ a + d → h (j - 1) ≤ h j) → h a ≤ h (a + d)
  | 0, _ => Int.le_refl _
  | d + 1, g => by
    have h1 := mono_ge d (fun j q1 q2 => g j q1 (by omega))
    have h2 := g (a + (d + 1)) (by omega) (by omega)
    rw [show a + (d + 1) - 1 = a + d by omega] at h2
    omega
theorem wat_hi {h : Nat → Int} {k : Nat} (hk : k + 1 < nW h) (hh : hi h k = true) : hi h (k + 1) = false ∧ h (tm h (k + 1)) < h (tm h k) ∧ ∀ j, tm h k < j → j ≤ tm h (k + 1) → h j ≤ h (j - 1) := by
  obtain ⟨a1, a2, a3, a4⟩ := tm_spec (h := h) (k := k) (by omega)
  obtain ⟨b1, b2, b3, b4⟩ := tm_spec hk
  obtain ⟨c1, c2⟩ := tm_next hk
  obtain ⟨d1, d2, d3, d4, d5, d6⟩ := isW_spec a2
  have hh2 : h (tm h k - 1) < h (tm h k) := of_decide_eq_true hh
  have d7 : h (nx h (tm h k)) < h (tm h k) := by
    rcases d6 with q | q
    · exact q.2
    · omega
  have d8 : nx h (tm h k) ≤ tm h (k + 1) := by
    rcases Nat.lt_or_ge (tm h (k + 1)) (nx h (tm h k)) with q | q
    · exact absurd (d4 _ c1 q) (isW_chg b2)
    · exact q
  have hm : ∀ j, tm h k < j → j ≤ tm h (k + 1) → h j ≤ h (j - 1) := fun j h1 h2 => by
    rcases Nat.lt_or_ge j (nx h (tm h k)) with q | q
    · exact Int.le_of_eq (d4 j h1 q)
    · exact (dn_run (h := h) (a := nx h (tm h k)) (b := tm h (k + 1)) (by omega) (by rw [d5]; exact d7) b1 (fun i i1 i2 => c2 i (by omega) i2) (tm h (k + 1) - nx h (tm h k)) (by omega)).2 j q (by omega)
  refine ⟨?_, ?_, hm⟩
  · show decide (h (tm h (k + 1) - 1) < h (tm h (k + 1))) = false
    exact decide_eq_false (fun q => by
      have := hm _ c1 (Nat.le_refl _)
      omega)
  · have e := mono_le (h := h) (a := nx h (tm h k)) (tm h (k + 1) - nx h (tm h k)) (fun j q1 q2 => hm j (by omega) (by omega))
    rw [show nx h (tm h k) + (tm h (k + 1) - nx h (tm h k)) = tm h (k + 1) by omega] at e
    omega
theorem wat_lo {h : Nat → Int} {k : Nat} (hk : k + 1 < nW h) (hh : hi h k = false) : hi h (k + 1) = true ∧ h (tm h k) < h (tm h (k + 1)) ∧ ∀ j, tm h k < j → j ≤ tm h (k + 1) → h (j - 1) ≤ h j := by
  obtain ⟨a1, a2, a3, a4⟩ := tm_spec (h := h) (k := k) (by omega)
  obtain ⟨b1, b2, b3, b4⟩ := tm_spec hk
  obtain ⟨c1, c2⟩ := tm_next hk
  obtain ⟨d1, d2, d3, d4, d5, d6⟩ := isW_spec a2
  have hh2 : ¬ h (tm h k - 1) < h (tm h k) := of_decide_eq_false hh
  have d7 : h (tm h k) < h (nx h (tm h k)) := by
    rcases d6 with q | q
    · omega
    · exact q.2
  have d8 : nx h (tm h k) ≤ tm h (k + 1) := by
    rcases Nat.lt_or_ge (tm h (k + 1)) (nx h (tm h k)) with q | q
    · exact absurd (d4 _ c1 q) (isW_chg b2)
    · exact q
  have hm : ∀ j, tm h k < j → j ≤ tm h (k + 1) → h (j - 1) ≤ h j := fun j h1 h2 => by
    rcases Nat.lt_or_ge j (nx h (tm h k)) with q | q
    · exact Int.le_of_eq (d4 j h1 q).symm
    · exact (up_run (h := h) (a := nx h (tm h k)) (b := tm h (k + 1)) (by omega) (by rw [d5]; exact d7) b1 (fun i i1 i2 => c2 i (by omega) i2) (tm h (k + 1) - nx h (tm h k)) (by omega)).2 j q (by omega)
  have e := mono_ge (h := h) (a := nx h (tm h k)) (tm h (k + 1) - nx h (tm h k)) (fun j q1 q2 => hm j (by omega) (by omega))
  rw [show nx h (tm h k) + (tm h (k + 1) - nx h (tm h k)) = tm h (k + 1) by omega] at e
  refine ⟨?_, by omega, hm⟩
  show decide (h (tm h (k + 1) - 1) < h (tm h (k + 1))) = true
  have g1 := hm _ c1 (Nat.le_refl _)
  have g2 := isW_chg b2
  exact decide_eq_true (by omega)
theorem hi_alt {h : Nat → Int} {k : Nat} (hk : k + 1 < nW h) : hi h (k + 1) = !(hi h k) := by
  cases e : hi h k with
  | true => exact (wat_hi hk e).1
  | false => exact (wat_lo hk e).1
theorem tm_lt {h : Nat → Int} {i k : Nat} (hik : i < k) (hk : k < nW h) : tm h i < tm h k := by
  obtain ⟨a1, a2, a3, a4⟩ := tm_spec (h := h) (k := i) (by omega)
  obtain ⟨b1, b2, b3, b4⟩ := tm_spec hk
  rcases Nat.lt_or_ge (tm h i) (tm h k) with q | q
  · exact q
  · have := wc_mono h q
    omega
theorem tmF_lt (h : Nat → Int) (k : Nat) : ∀ n : Nat, tmF h k n ≤ n
  | 0 => Nat.le_refl _
  | n + 1 => by
    rw [tmF]
    split
    · omega
    · exact Nat.le_succ_of_le (tmF_lt h k n)
theorem tm_le (h : Nat → Int) (k : Nat) : tm h k ≤ 4320 := tmF_lt h k 4320
/-! the first water of a sort -/
theorem nextW_at {h : Nat → Int} {t : Int} {b : Bool} {k : Nat} (hk : k < nW h) (h1 : t ≤ (tm h k : Int)) (h2 : hi h k = b) : ∀ (m j : Nat), j ≤ k → k - j < m → (∀ i, j ≤ i → i < k → (tm h i : Int) < t) → nextW h t b m j = (k : Int)
  | 0, j, _, hm, _ => absurd hm (Nat.not_lt_zero _)
  | m + 1, j, hj, hm, g => by
    rw [nextW, if_pos (by omega)]
    rcases Nat.lt_or_ge j k with q | q
    · rw [if_neg (fun z => by
        have z1 := z.1
        have z2 := g j (Nat.le_refl _) q
        omega)]
      exact nextW_at hk h1 h2 m (j + 1) q (by omega) (fun i i1 i2 => g i (by omega) i2)
    · have e : j = k := by omega
      rw [e, if_pos ⟨h1, h2⟩]
theorem next_same {h : Nat → Int} {k : Nat} (hk : k < nW h) : nextW h (tm h k : Int) (hi h k) 4320 0 = (k : Int) := by
  have hn := nW_le h
  exact nextW_at hk (Int.le_refl _) rfl 4320 0 (Nat.zero_le _) (by omega) (fun i _ i2 => by
    have := tm_lt i2 hk
    omega)
theorem next_other {h : Nat → Int} {k : Nat} (hk : k + 1 < nW h) : nextW h ((tm h k : Int) + 1) (!(hi h k)) 4320 0 = ((k + 1 : Nat) : Int) := by
  have hn := nW_le h
  have h1 := (tm_next hk).1
  exact nextW_at hk (by omega) (hi_alt hk) 4320 0 (Nat.zero_le _) (by omega) (fun i _ i2 => by
    rcases Nat.lt_or_ge i k with q | q
    · have := tm_lt q (show k < nW h by omega)
      omega
    · rw [show i = k by omega]
      omega)
/-! ahead of the first water -/
def fstW (h : Nat → Int) : Nat := if nW h = 0 then 4319 else tm h 0
theorem fstW_lt (h : Nat → Int) : fstW h < 4320 := by
  unfold fstW
  split
  · omega
  · exact (tm_spec (h := h) (k := 0) (by omega)).1
theorem fstW_no {h : Nat → Int} {j : Nat} (hj : j < fstW h) : ¬ isW h j = true := by
  intro hw
  have e1 := wc_yes hw
  unfold fstW at hj
  split at hj
  · rename_i q
    have e2 := wc_mono h (show j + 1 ≤ 4320 by omega)
    have e3 : wc h 4320 = 0 := q
    omega
  · rename_i q
    obtain ⟨b1, b2, b3, b4⟩ := tm_spec (h := h) (k := 0) (by omega)
    have e2 := wc_mono h (show j + 1 ≤ tm h 0 from hj)
    omega
theorem first_chg (h : Nat → Int) : ∀ d : Nat, (∀ j, 0 < j → j ≤ d → h j = h (j - 1)) ∨ ∃ a, 0 < a ∧ a ≤ d ∧ (∀ j, 0 < j → j < a → h j = h (j - 1)) ∧ h a ≠ h (a - 1)
  | 0 => Or.inl (fun j h1 h2 => by omega)
  | d + 1 => by
    rcases first_chg h d with g | ⟨a, a1, a2, a3, a4⟩
    · by_cases e : h (d + 1) = h d
      · refine Or.inl (fun j h1 h2 => ?_)
        rcases Nat.lt_or_ge d j with q | q
        · rw [show j = d + 1 by omega, Nat.add_sub_cancel]
          exact e
        · exact g j h1 q
      · exact Or.inr ⟨d + 1, by omega, Nat.le_refl _, fun j h1 h2 => g j h1 (by omega), by rw [Nat.add_sub_cancel]; exact e⟩
    · exact Or.inr ⟨a, a1, by omega, a3, a4⟩
theorem head_run {h : Nat → Int} {f : Nat} (hf : f < 4320) (hn : ∀ j, j < f → ¬ isW h j = true) : (∀ j, 0 < j → j ≤ f → h (j - 1) ≤ h j) ∨ (∀ j, 0 < j → j ≤ f → h j ≤ h (j - 1)) := by
  rcases first_chg h f with g | ⟨a, a1, a2, a3, a4⟩
  · exact Or.inl (fun j h1 h2 => Int.le_of_eq (g j h1 h2).symm)
  · rcases Int.lt_or_gt_of_ne a4 with q | q
    · refine Or.inr (fun j h1 h2 => ?_)
      rcases Nat.lt_or_ge j a with e | e
      · exact Int.le_of_eq (a3 j h1 e)
      · exact (dn_run (h := h) (a := a) (b := f) a1 q hf (fun i _ i2 => hn i i2) (f - a) (by omega)).2 j e (by omega)
    · refine Or.inl (fun j h1 h2 => ?_)
      rcases Nat.lt_or_ge j a with e | e
      · exact Int.le_of_eq (a3 j h1 e).symm
      · exact (up_run (h := h) (a := a) (b := f) a1 q hf (fun i _ i2 => hn i i2) (f - a) (by omega)).2 j e (by omega)
/-- Integer.compare -/
def cmpI (a b : Int) : Int := if a < b then -1 else if a = b then 0 else 1
theorem cmpI_bd (a b : Int) : -1 ≤ cmpI a b ∧ cmpI a b ≤ 1 := by
  unfold cmpI
  repeat' split
  all_goals omega
theorem cmpI_ge {a b : Int} (q : b ≤ a) : 0 ≤ cmpI a b := by
  unfold cmpI
  repeat' split
  all_goals omega
theorem cmpI_le {a b : Int} (q : a ≤ b) : cmpI a b ≤ 0 := by
  unfold cmpI
  repeat' split
  all_goals omega
theorem head_sgn {h : Nat → Int} {m : Nat} (h1 : 1 ≤ m) (h2 : m ≤ fstW h) : 0 ≤ cmpI (h m) (h (m - 1)) * cmpI (h (fstW h)) (h 0) := by
  have hf := fstW_lt h
  rcases head_run hf (fun j hj => fstW_no hj) with g | g
  · have e := mono_ge (h := h) (a := 0) (fstW h) (fun j q1 q2 => g j q1 (by omega))
    rw [Nat.zero_add] at e
    exact Int.mul_nonneg (cmpI_ge (g m h1 h2)) (cmpI_ge e)
  · have e := mono_le (h := h) (a := 0) (fstW h) (fun j q1 q2 => g j q1 (by omega))
    rw [Nat.zero_add] at e
    have e1 := cmpI_le (g m h1 h2)
    have e2 := cmpI_le e
    exact Int.mul_nonneg_of_nonpos_of_nonpos e1 e2
/-! datums -/
theorem mxh_ge {h : Nat → Int} : ∀ n j : Nat, j < n → h j ≤ mxh h n
  | 0, j, hj => absurd hj (Nat.not_lt_zero _)
  | n + 1, j, hj => by
    rw [mxh]
    rcases Nat.lt_or_ge j n with q | q
    · have := mxh_ge (h := h) n j q
      omega
    · rw [show j = n by omega]
      omega
theorem mnh_le {h : Nat → Int} : ∀ n j : Nat, j < n → mnh h n ≤ h j
  | 0, j, hj => absurd hj (Nat.not_lt_zero _)
  | n + 1, j, hj => by
    rw [mnh]
    rcases Nat.lt_or_ge j n with q | q
    · have := mnh_le (h := h) n j q
      omega
    · rw [show j = n by omega]
      omega
theorem difW_le {h : Nat → Int} : ∀ k : Nat, k < nW h ∨ k = 0 → difW h k ≤ mxh h 4320 - mnh h 4320
  | 0, _ => by
    have h1 := mxh_ge (h := h) 4320 0 (by omega)
    have h2 := mnh_le (h := h) 4320 0 (by omega)
    rw [difW]
    omega
  | k + 1, hk => by
    have h0 := difW_le (h := h) k (Or.inl (by omega))
    have a1 := (tm_spec (h := h) (k := k) (by omega)).1
    have a2 := (tm_spec (h := h) (k := k + 1) (by omega)).1
    have b1 := mxh_ge (h := h) 4320 _ a1
    have b2 := mnh_le (h := h) 4320 _ a1
    have b3 := mxh_ge (h := h) 4320 _ a2
    have b4 := mnh_le (h := h) 4320 _ a2
    rw [difW]
    omega
theorem dat_01 (h : Nat → Int) : dat h 1 ≤ dat h 0 := by
  have h1 := mxh_ge (h := h) 4320 0 (by omega)
  have h2 := mnh_le (h := h) 4320 0 (by omega)
  have e0 : dat h 0 = mxh h 4320 := by
    unfold dat
    rw [if_pos rfl]
  have e1 : dat h 1 = mnh h 4320 := by
    unfold dat
    rw [if_neg (by decide), if_pos rfl]
  rw [e0, e1]
  omega
theorem dat_4 (h : Nat → Int) : dat h 4 ≤ dat h 0 - dat h 1 := by
  have e0 : dat h 0 = mxh h 4320 := by
    unfold dat
    rw [if_pos rfl]
  have e1 : dat h 1 = mnh h 4320 := by
    unfold dat
    rw [if_neg (by decide), if_pos rfl]
  have e4 : dat h 4 = difW h (nW h - 1) := by
    unfold dat
    rw [if_neg (by decide), if_neg (by decide), if_neg (by decide), if_neg (by decide)]
  rw [e0, e1, e4]
  refine difW_le _ ?_
  omega
/-! the twelfths -/
theorem tw_lin {e d : Int} (h0 : 0 ≤ e) (h1 : e < d) : (gone e d = 6 * e ∧ 6 * e ≤ d) ∨ (gone e d = d + 2 * (6 * e - d) ∧ d ≤ 6 * e ∧ 6 * e ≤ 2 * d) ∨ (gone e d = 3 * d + 3 * (6 * e - 2 * d) ∧ 2 * d ≤ 6 * e ∧ 6 * e ≤ 3 * d) ∨ (gone e d = 6 * d + 3 * (6 * e - 3 * d) ∧ 3 * d ≤ 6 * e ∧ 6 * e ≤ 4 * d) ∨ (gone e d = 9 * d + 2 * (6 * e - 4 * d) ∧ 4 * d ≤ 6 * e ∧ 6 * e ≤ 5 * d) ∨ (gone e d = 11 * d + (6 * e - 5 * d) ∧ 5 * d ≤ 6 * e ∧ 6 * e ≤ 6 * d) := by
  obtain ⟨a1, a2, a3, a4⟩ := sx_bd h0 h1
  unfold gone
  generalize (6 * e).tdiv d = s at a1 a2 a3 a4 ⊢
  rcases (by omega : s = 0 ∨ s = 1 ∨ s = 2 ∨ s = 3 ∨ s = 4 ∨ s = 5) with q | q | q | q | q | q <;> subst q
  · have e1 : twA 0 = 0 := by decide
    have e2 : twI 0 = 1 := by decide
    rw [e1, e2]
    exact Or.inl ⟨by omega, by omega⟩
  · have e1 : twA 1 = 1 := by decide
    have e2 : twI 1 = 2 := by decide
    rw [e1, e2]
    exact Or.inr (Or.inl ⟨by omega, by omega, by omega⟩)
  · have e1 : twA 2 = 3 := by decide
    have e2 : twI 2 = 3 := by decide
    rw [e1, e2]
    exact Or.inr (Or.inr (Or.inl ⟨by omega, by omega, by omega⟩))
  · have e1 : twA 3 = 6 := by decide
    have e2 : twI 3 = 3 := by decide
    rw [e1, e2]
    exact Or.inr (Or.inr (Or.inr (Or.inl ⟨by omega, by omega, by omega⟩)))
  · have e1 : twA 4 = 9 := by decide
    have e2 : twI 4 = 2 := by decide
    rw [e1, e2]
    exact Or.inr (Or.inr (Or.inr (Or.inr (Or.inl ⟨by omega, by omega, by omega⟩))))
  · have e1 : twA 5 = 11 := by decide
    have e2 : twI 5 = 1 := by decide
    rw [e1, e2]
    exact Or.inr (Or.inr (Or.inr (Or.inr (Or.inr ⟨by omega, by omega, by omega⟩))))
theorem gone_nn {e d : Int} (h0 : 0 ≤ e) (h1 : e < d) : 0 ≤ gone e d ∧ gone e d ≤ 12 * d := by
  rcases tw_lin h0 h1 with q | q | q | q | q | q <;> omega
theorem gone_0 {d : Int} (h1 : 0 < d) : gone 0 d = 0 := by
  rcases tw_lin (Int.le_refl 0) h1 with q | q | q | q | q | q <;> omega
theorem gone_mono {e e2 d : Int} (h0 : 0 ≤ e) (h1 : e ≤ e2) (h2 : e2 < d) : gone e d ≤ gone e2 d := by
  have h3 := tw_lin h0 (show e < d by omega)
  have h4 := tw_lin (show 0 ≤ e2 by omega) h2
  rcases h3 with q | q | q | q | q | q <;> rcases h4 with r | r | r | r | r | r <;> omega
theorem fr_le {c g g2 N : Int} (hc : 0 ≤ c) (h0 : 0 ≤ g) (h1 : g ≤ g2) (h2 : g2 ≤ N) (hN : 0 < N) : 0 ≤ (c * g).tdiv N ∧ (c * g).tdiv N ≤ (c * g2).tdiv N ∧ (c * g2).tdiv N ≤ c := by
  have e0 : 0 ≤ c * g := Int.mul_nonneg hc h0
  have e1 : c * g ≤ c * g2 := Int.mul_le_mul_of_nonneg_left h1 hc
  have e2 : c * g2 ≤ c * N := Int.mul_le_mul_of_nonneg_left h2 hc
  rw [Int.tdiv_eq_ediv_of_nonneg e0, Int.tdiv_eq_ediv_of_nonneg (Int.le_trans e0 e1)]
  refine ⟨Int.ediv_nonneg e0 (by omega), Int.ediv_le_ediv hN e1, ?_⟩
  have e3 := Int.ediv_le_ediv hN e2
  rwa [Int.mul_ediv_cancel c (by omega)] at e3
theorem fr_neg (c g N : Int) : (-c * g).tdiv N = -((c * g).tdiv N) := by rw [Int.neg_mul, Int.neg_tdiv]
theorem fr_ge {c g g2 N : Int} (hc : c ≤ 0) (h0 : 0 ≤ g) (h1 : g ≤ g2) (h2 : g2 ≤ N) (hN : 0 < N) : (c * g).tdiv N ≤ 0 ∧ (c * g2).tdiv N ≤ (c * g).tdiv N ∧ c ≤ (c * g2).tdiv N := by
  obtain ⟨a, b, d⟩ := fr_le (c := -c) (by omega) h0 h1 h2 hN
  have e1 := fr_neg c g N
  have e2 := fr_neg c g2 N
  omega
theorem pT_mono0 {h : Nat → Int} {q : Pt} (ho : ord h q = true) {i : Nat} : ∀ d : Nat, i + d < nW h → pT h q i ≤ pT h q (i + d)
  | 0, _ => Int.le_refl _
  | d + 1, hd => by
    have h1 := pT_mono0 ho d (show i + d < nW h by omega)
    have h2 := ord_lt (j := i + d) ho hd
    exact Int.le_trans h1 (Int.le_of_lt h2)
theorem pT_mono {h : Nat → Int} {q : Pt} (ho : ord h q = true) {i k : Nat} (hik : i ≤ k) (hk : k < nW h) : pT h q i ≤ pT h q k := by
  have h1 := pT_mono0 (i := i) ho (k - i) (by omega)
  rwa [show i + (k - i) = k by omega] at h1
theorem lat_at {h : Nat → Int} {q : Pt} {t : Int} {k : Nat} (ho : ord h q = true) (hk : k + 1 < nW h) (h1 : pT h q k ≤ t) (h2 : t < pT h q (k + 1)) : lat h q t 0 = k + 1 := by
  obtain ⟨a1, a2, a3, a4⟩ := lat_spec (h := h) (q := q) (t := t) (x := 0) (Nat.zero_le _)
  rcases Nat.lt_trichotomy (lat h q t 0) (k + 1) with e | e | e
  · exact absurd ⟨by omega, Int.le_trans (pT_mono ho (by omega) (by omega)) h1⟩ a4
  · exact e
  · have := a3 (k + 1) (Nat.zero_le _) e
    omega
theorem btw_eq (h : Nat → Int) (q : Pt) (k : Nat) (t : Int) : btw h q (k + 1) t = pH h q k + ((pH h q (k + 1) - pH h q k) * gone (t - pT h q k) (pT h q (k + 1) - pT h q k)).tdiv (12 * (pT h q (k + 1) - pT h q k)) := by
  unfold btw
  rw [Nat.add_sub_cancel]
theorem btw_up {h : Nat → Int} {q : Pt} {k : Nat} {t t2 : Int} (h1 : pT h q k ≤ t) (h2 : t ≤ t2) (h3 : t2 < pT h q (k + 1)) (hle : pH h q k ≤ pH h q (k + 1)) : pH h q k ≤ btw h q (k + 1) t ∧ btw h q (k + 1) t ≤ btw h q (k + 1) t2 ∧ btw h q (k + 1) t2 ≤ pH h q (k + 1) := by
  have a1 := gone_nn (e := t - pT h q k) (d := pT h q (k + 1) - pT h q k) (by omega) (by omega)
  have a2 := gone_nn (e := t2 - pT h q k) (d := pT h q (k + 1) - pT h q k) (by omega) (by omega)
  have a3 := gone_mono (e := t - pT h q k) (e2 := t2 - pT h q k) (d := pT h q (k + 1) - pT h q k) (by omega) (by omega) (by omega)
  have a4 := fr_le (c := pH h q (k + 1) - pH h q k) (N := 12 * (pT h q (k + 1) - pT h q k)) (by omega) a1.1 a3 a2.2 (by omega)
  rw [btw_eq, btw_eq]
  omega
theorem btw_dn {h : Nat → Int} {q : Pt} {k : Nat} {t t2 : Int} (h1 : pT h q k ≤ t) (h2 : t ≤ t2) (h3 : t2 < pT h q (k + 1)) (hle : pH h q (k + 1) ≤ pH h q k) : btw h q (k + 1) t ≤ pH h q k ∧ btw h q (k + 1) t2 ≤ btw h q (k + 1) t ∧ pH h q (k + 1) ≤ btw h q (k + 1) t2 := by
  have a1 := gone_nn (e := t - pT h q k) (d := pT h q (k + 1) - pT h q k) (by omega) (by omega)
  have a2 := gone_nn (e := t2 - pT h q k) (d := pT h q (k + 1) - pT h q k) (by omega) (by omega)
  have a3 := gone_mono (e := t - pT h q k) (e2 := t2 - pT h q k) (d := pT h q (k + 1) - pT h q k) (by omega) (by omega) (by omega)
  have a4 := fr_ge (c := pH h q (k + 1) - pH h q k) (N := 12 * (pT h q (k + 1) - pT h q k)) (by omega) a1.1 a3 a2.2 (by omega)
  rw [btw_eq, btw_eq]
  omega
theorem btw_0 {h : Nat → Int} {q : Pt} {k : Nat} (h1 : pT h q k < pT h q (k + 1)) : btw h q (k + 1) (pT h q k) = pH h q k := by
  rw [btw_eq, Int.sub_self, gone_0 (by omega), Int.mul_zero, Int.zero_tdiv, Int.add_zero]
end
section
/-! ===== the law's own methods: rows ===== -/
section ScriptRows
variable {θ : Kt} {κ : Kx} {cc : ByteArray} {nL : Nat} {ret : Option FieldType} {own : String} {R : Room} {Q : State → Prop} {L : List Nat} {f : Nat → wE} {k n pc : Nat} {lv : List (Nat × Value)} {st st0 : List Value}
variable {y : MethodName} {bytes : ByteArray} {maxL d mc ms idx nA : Nat} {ret' : Option FieldType} {post : Option Value → List Nat → (Nat → wE) → Prop} {As : List Value} {b tg ci : Nat} {fs : List Value} {C : String} {T : u_T} {N : Nat}
def k_SX (θ : Kt) (κ : Kx) (N : Nat) : Prop := ∃ xs : Nat → Int32, va_T .int (κ.2.2.2 2) N (fun j => Value.int (xs j)) (kA κ) θ.2.2.2.1 θ.2.2.2.1.heap
theorem k_slenT (dc : decode cc pc = .ok (.arraylength, 1)) (kk : ∀ N : Nat, N < 2147483648 → k_SX θ κ N → k_G θ κ cc nL ret own R Q L f k n (pc + 1) lv (.int (iI (N : Int)) :: st)) : k_G θ κ cc nL ret own R Q L f k n pc lv (.ref (κ.2.2.2 2) :: st) := by
  intro E H locs ls hH hS hl
  obtain ⟨N, xs, h1, h2⟩ := E.2.2.2.2.2.1.2.2.1
  exact va_tlen E.1 E.2.1 h2 hS (iI_nI N).symm dc (kk N h1 ⟨xs, h2⟩ E H locs ls hH hS hl)
theorem k_sldT {z : Int} (hX : k_SX θ κ N) (h0 : 0 ≤ z) (h1 : z < (N : Int)) (hN : N < 2147483648) (dc : decode cc pc = .ok (.iaload, 1)) (kk : ∀ w : Int, k_G θ κ cc nL ret own R Q L f k n (pc + 1) lv (.int (iI w) :: st)) : k_G θ κ cc nL ret own R Q L f k n pc lv (.int (iI z) :: .ref (κ.2.2.2 2) :: st) := by
  intro E H locs ls hH hS hl
  obtain ⟨xs, h2⟩ := hX
  have e : (fun j => Value.int (xs j)) (iI z).toNatClampNeg = .int (iI (xs (iI z).toNatClampNeg).toInt) := congrArg Value.int (iI_of _)
  exact va_ti E.1 E.2.1 h2 hS (iI_in (k := z.toNat) (by omega) (by omega) hN) e dc (kk _ E H locs ls hH hS hl)
theorem k_andM {x : Int} (dc : decode cc pc = .ok (.iand, 1)) (kk : ∀ z : Int, 0 ≤ z → z < 2147483648 → k_G θ κ cc nL ret own R Q L f k n (pc + 1) lv (.int (iI z) :: st)) : k_G θ κ cc nL ret own R Q L f k n pc lv (.int (iI 2147483647) :: .int (iI x) :: st) := by
  obtain ⟨j, hj, e⟩ := pk_andE (iI x) (m := iI 2147483647) 31 (by decide +kernel)
  have hj2 : j < 2147483648 := hj
  have e2 : iI x &&& iI 2147483647 = iI (j : Int) := e.trans (iI_nI j).symm
  exact fun E H locs ls hH hS hl => lv_iand E.1 E.2.1 dc (by
    rw [e2]
    exact kk (j : Int) (by omega) (by omega) E H locs ls hH hS hl)
theorem k_ishrR {x y : Int} (dc : decode cc pc = .ok (.ishr, 1)) (kk : ∀ z : Int, k_G θ κ cc nL ret own R Q L f k n (pc + 1) lv (.int (iI z) :: st)) : k_G θ κ cc nL ret own R Q L f k n pc lv (.int (iI y) :: .int (iI x) :: st) :=
  fun E H locs ls hH hS hl => lv_ishr E.1 E.2.1 dc (by
    rw [iI_of (iI x >>> (iI y &&& 31))]
    exact kk _ E H locs ls hH hS hl)
/-- an answer of which only something is known; nothing changes -/
def k_rp (L : List Nat) (f : Nat → wE) (P : Int → Prop) : Option Value → List Nat → (Nat → wE) → Prop := k_rn (fun w L' f' => (∃ z : Int, P z ∧ w = .int (iI z)) ∧ L' = L ∧ f' = f)
theorem k_useP {P : Int → Prop} (hr : k_C θ κ cc nL ret own R L f 0 0 pc lv st0 st (k_rp L f P)) (hf : k ≤ R.cells ∧ n ≤ R.slots) (kk : ∀ z : Int, P z → k_G θ κ cc nL ret own R Q L f k n (pc + 3) lv (.int (iI z) :: st)) : k_G θ κ cc nL ret own R Q L f k n pc lv st0 := by
  refine k_useV hr hf (fun w L' f' h => ?_)
  obtain ⟨⟨z, hz, e1⟩, e2, e3⟩ := h
  rw [e1, e2, e3]
  exact kk z hz
/-- an exception of class E over the frame at pc: here it never comes -/
theorem k_useN {P : String → List Nat → (Nat → wE) → Prop} (M : k_MX θ.2.1 κ y bytes maxL ret' d mc ms (.ref b :: As) L f post P) (w : k_wB own idx y bytes maxL ret' nA) (w2 : Cond.instanceMethod y ∈ lw_tbl ∧ Cond.selects C y y ∈ lw_tbl) (hn : As.length = nA) (hst : st0 = As.reverse ++ .ref b :: st) (hc : Cl L f b (tg, .inr (ci, fs))) (hci : vwCl[ci]? = some (C, T, N)) (hR : d + 1 ≤ R.frames ∧ 8 + (maxL + 11) + 30 * d ≤ R.locals) (hcat : (st.map fun v => v.category).sum ≤ 8) (dc : decode cc pc = .ok (.invokevirtual idx, 3)) (hf : k + mc ≤ R.cells ∧ n + ms ≤ R.slots)
    (kk : ∀ (v : Option Value) (L' : List Nat) (f' : Nat → wE), post v L' f' → k_G θ κ cc nL ret own R Q L' f' (k + mc) (n + ms) (pc + 3) lv (v.toList ++ st))
    (kx : ∀ (E : String) (L' : List Nat) (f' : Nat → wE), ¬ P E L' f') : k_G θ κ cc nL ret own R Q L f k n pc lv st0 := by
  intro E H locs ls hH hS hl T0 hT X
  have hrun := vx_runV (p := θ.1) (l := θ.2.1) (e := θ.2.2.1) (R := R) (below := θ.2.2.2.2.2.2.1) (meth := θ.2.2.2.2.2.2.2.1) (C := C) (g := F0 θ.2.2.2.2.1 pc ls st0) (H := H) (locs := locs) (cells := k) (slots := n) E.fix M ⟨w.cb E hR, E.word w2.1 rfl, E.word w2.2 rfl⟩ ⟨k_blind, k_recv E hH hc hci, fun U hU hW => ⟨rfl, E.start hH hS hU hW⟩⟩ rfl hn hl.1 hst (lv_room hcat) dc hf
  rcases hrun T0 hT X with ⟨v, s0, t, T', L9, h0, X', hL, e1, e2, ⟨⟨v', L', f', hv, hp, hH'⟩, hz, hkp⟩, stp⟩ | ⟨q, s0, t, T', L9, Ex, ce, h0, X', hL, e1, e2, ⟨⟨L', f', hp, hH'⟩, hz, hkp⟩, hce, hcv, hcl, stp⟩
  · cases hv
    rw [h0] at hz hkp
    have hS' : va_S (kA κ) θ.2.2.2.1.heap T'.heap (locs ++ L9) := ⟨Nat.le_trans hS.1 (by rw [e1]; exact hz), fun q h1 h2 => by rw [e1, hkp q (Nat.lt_of_lt_of_le h1 hS.1) h2]; exact hS.2.1 q h1 h2, fun q hq => by
      rcases List.mem_append.mp hq with h | h
      · exact hS.2.2 q h
      · exact hL q h⟩
    obtain ⟨t2, a1, b1⟩ := kk v L' f' hp E T'.heap (locs ++ L9) ls (by rw [e1]; exact hH') hS' hl T' rfl X'
    exact ⟨t2, stp t2 a1, b1⟩
  · exact absurd hp (kx Ex L' f')
end ScriptRows
set_option maxHeartbeats 4000000 in
set_option maxRecDepth 100000 in
theorem c_L_below (la : Launch) (κ : Kx) {L : List Nat} {f : Nat → wE} {x m : Int} (hm : 0 < m ∧ m ≤ 100000) : k_M la κ yL_below cL_below 2 (some .int) 1 0 0 [.int (iI x), .int (iI m)] L f (k_rp L f (fun z => 0 ≤ z ∧ z < m)) := by
  refine k_head RL [(0, .int (iI x)), (1, .int (iI m))] rfl (by decide) (Nat.le_of_ble_eq_true rfl) rfl (fun θ hθ hin => ?_)
  refine k_iload_n 0 0 dL_below_0 rfl rfl ?_
  refine k_ldc 2147483647 q_531 (by decide) dL_below_1 ?_
  refine k_andM dL_below_3 (fun z h0 h1 => ?_)
  refine k_iload_n 1 1 dL_below_4 rfl rfl ?_
  refine k_irem dL_below_5 (inI_mk (by omega) (by omega)) (inI_mk (by omega) (by omega)) (by omega) ?_
  have h2 := tm_bd h0 hm.1
  exact k_iret dL_below_6 rfl (Nat.le_of_ble_eq_true rfl) (Nat.le_of_ble_eq_true rfl) ⟨_, rfl, ⟨_, h2, rfl⟩, rfl, rfl⟩
set_option maxHeartbeats 4000000 in
set_option maxRecDepth 100000 in
theorem c_L_cell (la : Launch) (κ : Kx) {L : List Nat} {f : Nat → wE} {z : Int} (hz : 0 ≤ z ∧ z ≤ 1000) : k_M la κ yL_cell cL_cell 2 (some .int) 1 0 0 [.ref (κ.2.2.2 2), .int (iI z)] L f (k_rp L f (fun _ => True)) := by
  refine k_head RL [(0, .ref (κ.2.2.2 2)), (1, .int (iI z))] rfl (by decide) (Nat.le_of_ble_eq_true rfl) rfl (fun θ hθ hin => ?_)
  refine k_iload_n 1 1 dL_cell_0 rfl rfl ?_
  refine k_aload_n 0 0 dL_cell_1 rfl rfl ?_
  refine k_slenT dL_cell_2 (fun N hN hX => ?_)
  refine k_icmp_ge 12 dL_cell_3 (by decide) (inI_mk (by omega) (by omega)) (inI_mk (by omega) (by omega)) (fun _ => ?_) (fun h3 => ?_)
  · refine k_ldc 790386105 q_535 (by decide) dL_cell_12 ?_
    refine k_iload_n 1 1 dL_cell_14 rfl rfl ?_
    refine k_iconst dL_cell_15 ?_
    refine k_iadd dL_cell_16 ?_
    refine k_imul dL_cell_17 ?_
    exact k_iret dL_cell_18 rfl (Nat.le_of_ble_eq_true rfl) (Nat.le_of_ble_eq_true rfl) ⟨_, rfl, ⟨_, trivial, rfl⟩, rfl, rfl⟩
  · refine k_aload_n 0 0 dL_cell_6 rfl rfl ?_
    refine k_iload_n 1 1 dL_cell_7 rfl rfl ?_
    refine k_sldT hX hz.1 h3 hN dL_cell_8 (fun w => ?_)
    refine k_goto 18 dL_cell_9 (by decide) ?_
    exact k_iret dL_cell_18 rfl (Nat.le_of_ble_eq_true rfl) (Nat.le_of_ble_eq_true rfl) ⟨_, rfl, ⟨_, trivial, rfl⟩, rfl, rfl⟩
set_option maxHeartbeats 4000000 in
set_option maxRecDepth 100000 in
theorem c_J6_compare_7cf53 (la : Launch) (κ : Kx) {L : List Nat} {f : Nat → wE} {x y : Int}   (hx : inI x) (hy : inI y) : k_M la κ yJ6_compare_7cf53 cJ6_compare_7cf53 2 (some .int) 1 0 0 [.int (iI x), .int (iI y)] L f (k_ro L f (.int (iI (cmpI x y)))) := by
  refine k_head RJ6 [(0, .int (iI x)), (1, .int (iI y))] rfl (by decide) (Nat.le_of_ble_eq_true rfl) rfl (fun θ hθ hin => ?_)
  refine k_iload_n 0 0 dJ6_compare_7cf53_0 rfl rfl ?_
  refine k_iload_n 1 1 dJ6_compare_7cf53_1 rfl rfl ?_
  refine k_icmp_ge 9 dJ6_compare_7cf53_2 (by decide) hx hy (fun h2 => ?_) (fun h2 => ?_)
  · refine k_iload_n 0 0 dJ6_compare_7cf53_9 rfl rfl ?_
    refine k_iload_n 1 1 dJ6_compare_7cf53_10 rfl rfl ?_
    refine k_icmp_ne 18 dJ6_compare_7cf53_11 (by decide) hx hy (fun h11 => ?_) (fun h11 => ?_)
    · refine k_iconst dJ6_compare_7cf53_18 ?_
      exact k_iret dJ6_compare_7cf53_19 rfl (Nat.le_of_ble_eq_true rfl) (Nat.le_of_ble_eq_true rfl) (k_oki (by
      unfold cmpI
      repeat' split
      all_goals omega))
    · refine k_iconst dJ6_compare_7cf53_14 ?_
      refine k_goto 19 dJ6_compare_7cf53_15 (by decide) ?_
      exact k_iret dJ6_compare_7cf53_19 rfl (Nat.le_of_ble_eq_true rfl) (Nat.le_of_ble_eq_true rfl) (k_oki (by
      unfold cmpI
      repeat' split
      all_goals omega))
  · refine k_iconst dJ6_compare_7cf53_5 ?_
    refine k_goto 19 dJ6_compare_7cf53_6 (by decide) ?_
    exact k_iret dJ6_compare_7cf53_19 rfl (Nat.le_of_ble_eq_true rfl) (Nat.le_of_ble_eq_true rfl) (k_oki (by
      unfold cmpI
      repeat' split
      all_goals omega))
theorem cmpI_mul (a b c d : Int) : -1 ≤ cmpI a b * cmpI c d ∧ cmpI a b * cmpI c d ≤ 1 := by
  unfold cmpI
  repeat' split
  all_goals decide
theorem cmpI_in (a b : Int) : inI (cmpI a b) := by
  have := cmpI_bd a b
  exact inI_mk (by omega) (by omega)
theorem bI_ne1 {b : Bool} (h : bI b ≠ 1) : 0 = bI b := by
  cases b with
  | true => exact absurd rfl h
  | false => rfl
theorem bI_not (b : Bool) (h : b = false) : 1 = bI (!b) := by
  subst h
  rfl
theorem bI_not0 (b : Bool) (h : b = true) : 0 = bI (!b) := by
  subst h
  rfl
end
section
/-! ===== the class's calls, as the law makes them ===== -/
set_option maxHeartbeats 4000000 in
set_option maxRecDepth 100000 in
theorem a_height {θ : Kt} {κ : Kx} {cc : ByteArray} {nL : Nat} {ret : Option FieldType} {Q : State → Prop} {L : List Nat} {f : Nat → wE} {k n pc : Nat} {lv : List (Nat × Value)} {st : List Value} {tt : Nat} {σ : Sg} {z : Int} (t : Nat) (hts : θ.2.1.stackTraces = false) (hs : SgOk σ) (hC : CS κ L f tt σ) (hz : z = (t : Int)) (ht : t < 4320) (hk : k + 1 ≤ 600086) (hn : n + 6 ≤ 7301442) (hcat : (st.map fun v => v.category).sum ≤ 8) (dc : decode cc pc = .ok (.invokevirtual 64, 3)) (kk : ∀ (L' : List Nat) (f' : Nat → wE), CS κ L' f' tt σ → k_G θ κ cc nL ret RL room_1 Q L' f' (k + 1) (n + 6) (pc + 3) lv (.int (iI (hT σ.1 t)) :: st)) : k_G θ κ cc nL ret RL room_1 Q L f k n pc lv (.int (iI z) :: .ref tt :: st) := by
  obtain ⟨td, tb, pl, rl, old, hF⟩ := hC
  refine k_useN (c_X7_height θ.2.1 κ (t := z) hF hts hs (inI_mk (by omega) (by omega))) w_L_64 ⟨q_129, q_130⟩ rfl rfl hF.1 rfl ⟨(Nat.le_of_ble_eq_true rfl), (Nat.le_of_ble_eq_true rfl)⟩ hcat dc ⟨hk, hn⟩ (fun v L' f' hp => ?_) (fun E L' f' hp => ?_)
  · obtain ⟨w9, rfl, hx9, rfl, hC9, hr9⟩ := hp
    subst hz
    exact kk L' f' hC9
  · have hx9 := hp.1
    rw [xHeight, if_pos (by omega)] at hx9
    exact nomatch hx9
set_option maxHeartbeats 4000000 in
set_option maxRecDepth 100000 in
theorem a_count {θ : Kt} {κ : Kx} {cc : ByteArray} {nL : Nat} {ret : Option FieldType} {Q : State → Prop} {L : List Nat} {f : Nat → wE} {k n pc : Nat} {lv : List (Nat × Value)} {st : List Value} {tt : Nat} {σ : Sg}  (hts : θ.2.1.stackTraces = false) (hs : SgOk σ) (hC : CS κ L f tt σ)  (hk : k + 1 ≤ 600086) (hn : n + 6 ≤ 7301442) (hcat : (st.map fun v => v.category).sum ≤ 8) (dc : decode cc pc = .ok (.invokevirtual 57, 3)) (kk : ∀ (L' : List Nat) (f' : Nat → wE), CS κ L' f' tt σ → k_G θ κ cc nL ret RL room_1 Q L' f' (k + 1) (n + 6) (pc + 3) lv (.int (iI (nW (hT σ.1) : Int)) :: st)) : k_G θ κ cc nL ret RL room_1 Q L f k n pc lv (.int (iI 1) :: .ref tt :: st) := by
  obtain ⟨td, tb, pl, rl, old, hF⟩ := hC
  refine k_useN (c_X7_count θ.2.1 κ (what := 1) hF hts hs (inI_mk (by omega) (by omega))) w_L_57 ⟨q_235, q_236⟩ rfl rfl hF.1 rfl ⟨(Nat.le_of_ble_eq_true rfl), (Nat.le_of_ble_eq_true rfl)⟩ hcat dc ⟨hk, hn⟩ (fun v L' f' hp => ?_) (fun E L' f' hp => ?_)
  · obtain ⟨w9, rfl, hx9, rfl, hC9, hr9⟩ := hp
    exact kk L' f' hC9
  · have hx9 := hp.1
    rw [xCount, if_pos (by omega)] at hx9
    exact nomatch hx9
set_option maxHeartbeats 4000000 in
set_option maxRecDepth 100000 in
theorem a_water0 {θ : Kt} {κ : Kx} {cc : ByteArray} {nL : Nat} {ret : Option FieldType} {Q : State → Prop} {L : List Nat} {f : Nat → wE} {k n pc : Nat} {lv : List (Nat × Value)} {st : List Value} {tt : Nat} {σ : Sg} {z : Int} (w : Nat) (hts : θ.2.1.stackTraces = false) (hs : SgOk σ) (hC : CS κ L f tt σ) (hz : z = (w : Int)) (hw : w < nW (hT σ.1)) (hk : k + 1 ≤ 600086) (hn : n + 6 ≤ 7301442) (hcat : (st.map fun v => v.category).sum ≤ 8) (dc : decode cc pc = .ok (.invokevirtual 61, 3)) (kk : ∀ (L' : List Nat) (f' : Nat → wE), CS κ L' f' tt σ → k_G θ κ cc nL ret RL room_1 Q L' f' (k + 1) (n + 6) (pc + 3) lv (.int (iI ((tm (hT σ.1) w : Int))) :: st)) : k_G θ κ cc nL ret RL room_1 Q L f k n pc lv (.int (iI 0) :: .int (iI z) :: .ref tt :: st) := by
  obtain ⟨td, tb, pl, rl, old, hF⟩ := hC
  refine k_useN (c_X7_water θ.2.1 κ (w := z) (what := 0) hF hts hs (by have hnn := nW_le (hT σ.1); exact inI_mk (by omega) (by omega)) (inI_mk (by omega) (by omega))) w_L_61 ⟨q_277, q_278⟩ rfl rfl hF.1 rfl ⟨(Nat.le_of_ble_eq_true rfl), (Nat.le_of_ble_eq_true rfl)⟩ hcat dc ⟨hk, hn⟩ (fun v L' f' hp => ?_) (fun E L' f' hp => ?_)
  · obtain ⟨w9, rfl, hx9, rfl, hC9, hr9⟩ := hp
    subst hz
    exact kk L' f' hC9
  · have hx9 := hp.1
    rw [xWater, if_pos (by omega), if_pos (by omega)] at hx9
    exact nomatch hx9
set_option maxHeartbeats 4000000 in
set_option maxRecDepth 100000 in
theorem a_water1 {θ : Kt} {κ : Kx} {cc : ByteArray} {nL : Nat} {ret : Option FieldType} {Q : State → Prop} {L : List Nat} {f : Nat → wE} {k n pc : Nat} {lv : List (Nat × Value)} {st : List Value} {tt : Nat} {σ : Sg} {z : Int} (w : Nat) (hts : θ.2.1.stackTraces = false) (hs : SgOk σ) (hC : CS κ L f tt σ) (hz : z = (w : Int)) (hw : w < nW (hT σ.1)) (hk : k + 1 ≤ 600086) (hn : n + 6 ≤ 7301442) (hcat : (st.map fun v => v.category).sum ≤ 8) (dc : decode cc pc = .ok (.invokevirtual 61, 3)) (kk : ∀ (L' : List Nat) (f' : Nat → wE), CS κ L' f' tt σ → k_G θ κ cc nL ret RL room_1 Q L' f' (k + 1) (n + 6) (pc + 3) lv (.int (iI (hT σ.1 (tm (hT σ.1) w))) :: st)) : k_G θ κ cc nL ret RL room_1 Q L f k n pc lv (.int (iI 1) :: .int (iI z) :: .ref tt :: st) := by
  obtain ⟨td, tb, pl, rl, old, hF⟩ := hC
  refine k_useN (c_X7_water θ.2.1 κ (w := z) (what := 1) hF hts hs (by have hnn := nW_le (hT σ.1); exact inI_mk (by omega) (by omega)) (inI_mk (by omega) (by omega))) w_L_61 ⟨q_277, q_278⟩ rfl rfl hF.1 rfl ⟨(Nat.le_of_ble_eq_true rfl), (Nat.le_of_ble_eq_true rfl)⟩ hcat dc ⟨hk, hn⟩ (fun v L' f' hp => ?_) (fun E L' f' hp => ?_)
  · obtain ⟨w9, rfl, hx9, rfl, hC9, hr9⟩ := hp
    subst hz
    exact kk L' f' hC9
  · have hx9 := hp.1
    rw [xWater, if_pos (by omega), if_pos (by omega)] at hx9
    exact nomatch hx9
set_option maxHeartbeats 4000000 in
set_option maxRecDepth 100000 in
theorem a_water2 {θ : Kt} {κ : Kx} {cc : ByteArray} {nL : Nat} {ret : Option FieldType} {Q : State → Prop} {L : List Nat} {f : Nat → wE} {k n pc : Nat} {lv : List (Nat × Value)} {st : List Value} {tt : Nat} {σ : Sg} {z : Int} (w : Nat) (hts : θ.2.1.stackTraces = false) (hs : SgOk σ) (hC : CS κ L f tt σ) (hz : z = (w : Int)) (hw : w < nW (hT σ.1)) (hk : k + 1 ≤ 600086) (hn : n + 6 ≤ 7301442) (hcat : (st.map fun v => v.category).sum ≤ 8) (dc : decode cc pc = .ok (.invokevirtual 61, 3)) (kk : ∀ (L' : List Nat) (f' : Nat → wE), CS κ L' f' tt σ → k_G θ κ cc nL ret RL room_1 Q L' f' (k + 1) (n + 6) (pc + 3) lv (.int (iI (bI (hi (hT σ.1) w))) :: st)) : k_G θ κ cc nL ret RL room_1 Q L f k n pc lv (.int (iI 2) :: .int (iI z) :: .ref tt :: st) := by
  obtain ⟨td, tb, pl, rl, old, hF⟩ := hC
  refine k_useN (c_X7_water θ.2.1 κ (w := z) (what := 2) hF hts hs (by have hnn := nW_le (hT σ.1); exact inI_mk (by omega) (by omega)) (inI_mk (by omega) (by omega))) w_L_61 ⟨q_277, q_278⟩ rfl rfl hF.1 rfl ⟨(Nat.le_of_ble_eq_true rfl), (Nat.le_of_ble_eq_true rfl)⟩ hcat dc ⟨hk, hn⟩ (fun v L' f' hp => ?_) (fun E L' f' hp => ?_)
  · obtain ⟨w9, rfl, hx9, rfl, hC9, hr9⟩ := hp
    subst hz
    exact kk L' f' hC9
  · have hx9 := hp.1
    rw [xWater, if_pos (by omega), if_pos (by omega)] at hx9
    exact nomatch hx9
set_option maxHeartbeats 4000000 in
set_option maxRecDepth 100000 in
theorem a_next {θ : Kt} {κ : Kx} {cc : ByteArray} {nL : Nat} {ret : Option FieldType} {Q : State → Prop} {L : List Nat} {f : Nat → wE} {k n pc : Nat} {lv : List (Nat × Value)} {st : List Value} {tt : Nat} {σ : Sg} {z : Int} {b : Bool} (t : Nat) (hts : θ.2.1.stackTraces = false) (hs : SgOk σ) (hC : CS κ L f tt σ) (hz : z = (t : Int)) (ht : t < 4320) (hk : k + 1 ≤ 600086) (hn : n + 6 ≤ 7301442) (hcat : (st.map fun v => v.category).sum ≤ 8) (dc : decode cc pc = .ok (.invokevirtual 67, 3)) (kk : ∀ (L' : List Nat) (f' : Nat → wE), CS κ L' f' tt σ → k_G θ κ cc nL ret RL room_1 Q L' f' (k + 1) (n + 6) (pc + 3) lv (.int (iI (nextW (hT σ.1) (t : Int) b 4320 0)) :: st)) : k_G θ κ cc nL ret RL room_1 Q L f k n pc lv (.int (iI (bI b)) :: .int (iI z) :: .ref tt :: st) := by
  obtain ⟨td, tb, pl, rl, old, hF⟩ := hC
  refine k_useN (c_X7_next θ.2.1 κ (t := z) (b := b) hF hts hs (inI_mk (by omega) (by omega))) w_L_67 ⟨q_300, q_301⟩ rfl rfl hF.1 rfl ⟨(Nat.le_of_ble_eq_true rfl), (Nat.le_of_ble_eq_true rfl)⟩ hcat dc ⟨hk, hn⟩ (fun v L' f' hp => ?_) (fun E L' f' hp => ?_)
  · obtain ⟨w9, rfl, hx9, rfl, hC9, hr9⟩ := hp
    subst hz
    exact kk L' f' hC9
  · have hx9 := hp.1
    rw [xHeight, if_pos (by omega)] at hx9
    exact nomatch hx9
set_option maxHeartbeats 4000000 in
set_option maxRecDepth 100000 in
theorem a_datum {θ : Kt} {κ : Kx} {cc : ByteArray} {nL : Nat} {ret : Option FieldType} {Q : State → Prop} {L : List Nat} {f : Nat → wE} {k n pc : Nat} {lv : List (Nat × Value)} {st : List Value} {tt : Nat} {σ : Sg} (what : Int) (hts : θ.2.1.stackTraces = false) (hs : SgOk σ) (hC : CS κ L f tt σ) (hwh : 0 ≤ what ∧ what ≤ 4) (hk : k + 1 ≤ 600086) (hn : n + 6 ≤ 7301442) (hcat : (st.map fun v => v.category).sum ≤ 8) (dc : decode cc pc = .ok (.invokevirtual 94, 3)) (kk : ∀ (L' : List Nat) (f' : Nat → wE), CS κ L' f' tt σ → k_G θ κ cc nL ret RL room_1 Q L' f' (k + 1) (n + 6) (pc + 3) lv (.int (iI (dat (hT σ.1) what)) :: st)) : k_G θ κ cc nL ret RL room_1 Q L f k n pc lv (.int (iI what) :: .ref tt :: st) := by
  obtain ⟨td, tb, pl, rl, old, hF⟩ := hC
  refine k_useN (c_X7_datum θ.2.1 κ (what := what) hF hts hs (inI_mk (by omega) (by omega))) w_L_94 ⟨q_304, q_305⟩ rfl rfl hF.1 rfl ⟨(Nat.le_of_ble_eq_true rfl), (Nat.le_of_ble_eq_true rfl)⟩ hcat dc ⟨hk, hn⟩ (fun v L' f' hp => ?_) (fun E L' f' hp => ?_)
  · obtain ⟨w9, rfl, hx9, rfl, hC9, hr9⟩ := hp
    exact kk L' f' hC9
  · have hx9 := hp.1
    rw [xDatum, if_pos (by omega)] at hx9
    exact nomatch hx9
set_option maxHeartbeats 4000000 in
set_option maxRecDepth 100000 in
theorem a_isInOrder {θ : Kt} {κ : Kx} {cc : ByteArray} {nL : Nat} {ret : Option FieldType} {Q : State → Prop} {L : List Nat} {f : Nat → wE} {k n pc : Nat} {lv : List (Nat × Value)} {st : List Value} {tt : Nat} {σ : Sg}  (hts : θ.2.1.stackTraces = false) (hs : SgOk σ) (hC : CS κ L f tt σ) (hp : 0 < σ.2.1) (hk : k + 1 ≤ 600086) (hn : n + 6 ≤ 7301442) (hcat : (st.map fun v => v.category).sum ≤ 8) (dc : decode cc pc = .ok (.invokevirtual 71, 3)) (kk : ∀ (L' : List Nat) (f' : Nat → wE), CS κ L' f' tt σ → k_G θ κ cc nL ret RL room_1 Q L' f' (k + 1) (n + 6) (pc + 3) lv (.int (iI (bI (ord (hT σ.1) (σ.2.2.1 0)))) :: st)) : k_G θ κ cc nL ret RL room_1 Q L f k n pc lv (.int (iI 0) :: .ref tt :: st) := by
  obtain ⟨td, tb, pl, rl, old, hF⟩ := hC
  refine k_useN (c_X7_isInOrder θ.2.1 κ (p := 0) hF hts hs (inI_mk (by omega) (by omega))) w_L_71 ⟨q_475, q_476⟩ rfl rfl hF.1 rfl ⟨(Nat.le_of_ble_eq_true rfl), (Nat.le_of_ble_eq_true rfl)⟩ hcat dc ⟨hk, hn⟩ (fun v L' f' hp => ?_) (fun E L' f' hp => ?_)
  · obtain ⟨w9, rfl, hx9, rfl, hC9, hr9⟩ := hp
    exact kk L' f' hC9
  · have hx9 := hp.1
    rw [xPort, if_pos (by omega)] at hx9
    exact nomatch hx9
set_option maxHeartbeats 4000000 in
set_option maxRecDepth 100000 in
theorem a_portWater1 {θ : Kt} {κ : Kx} {cc : ByteArray} {nL : Nat} {ret : Option FieldType} {Q : State → Prop} {L : List Nat} {f : Nat → wE} {k n pc : Nat} {lv : List (Nat × Value)} {st : List Value} {tt : Nat} {σ : Sg} {z : Int} (w : Nat) (hts : θ.2.1.stackTraces = false) (hs : SgOk σ) (hC : CS κ L f tt σ) (hp : 0 < σ.2.1) (hz : z = (w : Int)) (hw : w < nW (hT σ.1)) (hk : k + 1 ≤ 600086) (hn : n + 6 ≤ 7301442) (hcat : (st.map fun v => v.category).sum ≤ 8) (dc : decode cc pc = .ok (.invokevirtual 75, 3)) (kk : ∀ (L' : List Nat) (f' : Nat → wE), CS κ L' f' tt σ → k_G θ κ cc nL ret RL room_1 Q L' f' (k + 1) (n + 6) (pc + 3) lv (.int (iI (pT (hT σ.1) (σ.2.2.1 0) w)) :: st)) : k_G θ κ cc nL ret RL room_1 Q L f k n pc lv (.int (iI 1) :: .int (iI z) :: .int (iI 0) :: .ref tt :: st) := by
  obtain ⟨td, tb, pl, rl, old, hF⟩ := hC
  refine k_useN (c_X7_portWater θ.2.1 κ (p := 0) (w := z) (b := true) hF hts hs (inI_mk (by omega) (by omega)) (by have hnn := nW_le (hT σ.1); exact inI_mk (by omega) (by omega))) w_L_75 ⟨q_490, q_491⟩ rfl rfl hF.1 rfl ⟨(Nat.le_of_ble_eq_true rfl), (Nat.le_of_ble_eq_true rfl)⟩ hcat dc ⟨hk, hn⟩ (fun v L' f' hp => ?_) (fun E L' f' hp => ?_)
  · obtain ⟨w9, rfl, hx9, rfl, hC9, hr9⟩ := hp
    subst hz
    exact kk L' f' hC9
  · have hx9 := hp.1
    rw [xPortWater, if_pos (by omega), if_pos (by omega)] at hx9
    exact nomatch hx9
set_option maxHeartbeats 4000000 in
set_option maxRecDepth 100000 in
theorem a_portWater0 {θ : Kt} {κ : Kx} {cc : ByteArray} {nL : Nat} {ret : Option FieldType} {Q : State → Prop} {L : List Nat} {f : Nat → wE} {k n pc : Nat} {lv : List (Nat × Value)} {st : List Value} {tt : Nat} {σ : Sg} {z : Int} (w : Nat) (hts : θ.2.1.stackTraces = false) (hs : SgOk σ) (hC : CS κ L f tt σ) (hp : 0 < σ.2.1) (hz : z = (w : Int)) (hw : w < nW (hT σ.1)) (hk : k + 1 ≤ 600086) (hn : n + 6 ≤ 7301442) (hcat : (st.map fun v => v.category).sum ≤ 8) (dc : decode cc pc = .ok (.invokevirtual 75, 3)) (kk : ∀ (L' : List Nat) (f' : Nat → wE), CS κ L' f' tt σ → k_G θ κ cc nL ret RL room_1 Q L' f' (k + 1) (n + 6) (pc + 3) lv (.int (iI (pH (hT σ.1) (σ.2.2.1 0) w)) :: st)) : k_G θ κ cc nL ret RL room_1 Q L f k n pc lv (.int (iI 0) :: .int (iI z) :: .int (iI 0) :: .ref tt :: st) := by
  obtain ⟨td, tb, pl, rl, old, hF⟩ := hC
  refine k_useN (c_X7_portWater θ.2.1 κ (p := 0) (w := z) (b := false) hF hts hs (inI_mk (by omega) (by omega)) (by have hnn := nW_le (hT σ.1); exact inI_mk (by omega) (by omega))) w_L_75 ⟨q_490, q_491⟩ rfl rfl hF.1 rfl ⟨(Nat.le_of_ble_eq_true rfl), (Nat.le_of_ble_eq_true rfl)⟩ hcat dc ⟨hk, hn⟩ (fun v L' f' hp => ?_) (fun E L' f' hp => ?_)
  · obtain ⟨w9, rfl, hx9, rfl, hC9, hr9⟩ := hp
    subst hz
    exact kk L' f' hC9
  · have hx9 := hp.1
    rw [xPortWater, if_pos (by omega), if_pos (by omega)] at hx9
    exact nomatch hx9
set_option maxHeartbeats 4000000 in
set_option maxRecDepth 100000 in
theorem a_portHeight {θ : Kt} {κ : Kx} {cc : ByteArray} {nL : Nat} {ret : Option FieldType} {Q : State → Prop} {L : List Nat} {f : Nat → wE} {k n pc : Nat} {lv : List (Nat × Value)} {st : List Value} {tt : Nat} {σ : Sg} {z : Int} (w t : Nat) (hts : θ.2.1.stackTraces = false) (hs : SgOk σ) (hC : CS κ L f tt σ) (hp : 0 < σ.2.1) (ho : ord (hT σ.1) (σ.2.2.1 0) = true) (hw : w + 1 < nW (hT σ.1)) (h1 : pT (hT σ.1) (σ.2.2.1 0) w ≤ (t : Int)) (h2 : (t : Int) < pT (hT σ.1) (σ.2.2.1 0) (w + 1)) (hz : z = (t : Int)) (ht : t < 4320) (hk : k + 1 ≤ 600086) (hn : n + 6 ≤ 7301442) (hcat : (st.map fun v => v.category).sum ≤ 8) (dc : decode cc pc = .ok (.invokevirtual 87, 3)) (kk : ∀ (L' : List Nat) (f' : Nat → wE), CS κ L' f' tt σ → k_G θ κ cc nL ret RL room_1 Q L' f' (k + 1) (n + 6) (pc + 3) lv (.int (iI (btw (hT σ.1) (σ.2.2.1 0) (w + 1) (t : Int))) :: st)) : k_G θ κ cc nL ret RL room_1 Q L f k n pc lv (.int (iI z) :: .int (iI 0) :: .ref tt :: st) := by
  obtain ⟨td, tb, pl, rl, old, hF⟩ := hC
  refine k_useN (c_X7_portHeight θ.2.1 κ (p := 0) (t := z) hF hts hs (inI_mk (by omega) (by omega)) (inI_mk (by omega) (by omega))) w_L_87 ⟨q_500, q_501⟩ rfl rfl hF.1 rfl ⟨(Nat.le_of_ble_eq_true rfl), (Nat.le_of_ble_eq_true rfl)⟩ hcat dc ⟨hk, hn⟩ (fun v L' f' hp => ?_) (fun E L' f' hp => ?_)
  · obtain ⟨w9, rfl, hx9, rfl, hC9, hr9⟩ := hp
    have hla : lat (hT σ.1) (σ.2.2.1 (0 : Int).toNat) z 0 = w + 1 := lat_at ho hw (by rw [hz]; exact h1) (by rw [hz]; exact h2)
    have e9 : aPortHeight σ 0 z = btw (hT σ.1) (σ.2.2.1 0) (w + 1) (t : Int) := by
      unfold aPortHeight
      rw [hla, hz]
      rfl
    rw [e9]
    exact kk L' f' hC9
  · have hx9 := hp.1
    have hla : lat (hT σ.1) (σ.2.2.1 (0 : Int).toNat) z 0 = w + 1 := lat_at ho hw (by rw [hz]; exact h1) (by rw [hz]; exact h2)
    have ho2 : ord (hT σ.1) (σ.2.2.1 (0 : Int).toNat) = true := ho
    rw [xPortHeight, if_pos (by omega), if_pos (by omega), if_pos ho2, if_pos (by rw [hla]; omega)] at hx9
    exact nomatch hx9
set_option maxHeartbeats 4000000 in
set_option maxRecDepth 100000 in
theorem a_addPort {θ : Kt} {κ : Kx} {cc : ByteArray} {nL : Nat} {ret : Option FieldType} {Q : State → Prop} {L : List Nat} {f : Nat → wE} {k n pc : Nat} {lv : List (Nat × Value)} {st : List Value} {tt : Nat} {σ : Sg}  (hts : θ.2.1.stackTraces = false) (hs : SgOk σ) (hC : CS κ L f tt σ) (hp : σ.2.1 = 0) (hk : k + 4 ≤ 600086) (hn : n + 67 ≤ 7301442) (hcat : (st.map fun v => v.category).sum ≤ 8) (dc : decode cc pc = .ok (.invokevirtual 46, 3)) (kk : ∀ (L' : List Nat) (f' : Nat → wE) (σ' : Sg), CS κ L' f' tt σ' → SgOk σ' → σ'.2.1 = 1 → k_G θ κ cc nL ret RL room_1 Q L' f' (k + 4) (n + 67) (pc + 3) lv (.int (iI 0) :: st)) : k_G θ κ cc nL ret RL room_1 Q L f k n pc lv (.ref tt :: st) := by
  obtain ⟨td, tb, pl, rl, old, hF⟩ := hC
  refine k_useN (c_X7_addPort θ.2.1 κ  hF hts hs) w_L_46 ⟨q_348, q_349⟩ rfl rfl hF.1 rfl ⟨(Nat.le_of_ble_eq_true rfl), (Nat.le_of_ble_eq_true rfl)⟩ hcat dc ⟨hk, hn⟩ (fun v L' f' hp => ?_) (fun E L' f' hp => ?_)
  · obtain ⟨w9, rfl, hx9, rfl, hC9, hr9⟩ := hp
    have e9 : ((σ.2.1 : Nat) : Int) = 0 := by omega
    rw [e9]
    exact kk L' f' _ hC9 (sAddPort_ok hs hx9) (show σ.2.1 + 1 = 1 by omega)
  · have hx9 := hp.1
    rw [xAddPort, if_pos (by omega)] at hx9
    exact nomatch hx9
set_option maxHeartbeats 4000000 in
set_option maxRecDepth 100000 in
theorem a_setPort {θ : Kt} {κ : Kx} {cc : ByteArray} {nL : Nat} {ret : Option FieldType} {Q : State → Prop} {L : List Nat} {f : Nat → wE} {k n pc : Nat} {lv : List (Nat × Value)} {st : List Value} {tt : Nat} {σ : Sg} {sh fa : Int} {b : Bool} (hts : θ.2.1.stackTraces = false) (hs : SgOk σ) (hC : CS κ L f tt σ) (hp : σ.2.1 = 1) (h1 : -300 ≤ sh ∧ sh ≤ 300) (h2 : 0 ≤ fa ∧ fa ≤ 300) (hk : k + 1 ≤ 600086) (hn : n + 6 ≤ 7301442) (hcat : (st.map fun v => v.category).sum ≤ 8) (dc : decode cc pc = .ok (.invokevirtual 50, 3)) (kk : ∀ (L' : List Nat) (f' : Nat → wE) (σ' : Sg) (v : Int), CS κ L' f' tt σ' → SgOk σ' → σ'.2.1 = 1 → k_G θ κ cc nL ret RL room_1 Q L' f' (k + 1) (n + 6) (pc + 3) lv (.int (iI v) :: st)) : k_G θ κ cc nL ret RL room_1 Q L f k n pc lv (.int (iI fa) :: .int (iI sh) :: .int (iI (bI b)) :: .int (iI 0) :: .ref tt :: st) := by
  obtain ⟨td, tb, pl, rl, old, hF⟩ := hC
  refine k_useN (c_X7_setPort θ.2.1 κ (p := 0) (b := b) (sh := sh) (fa := fa) hF hts hs (inI_mk (by omega) (by omega)) (inI_mk (by omega) (by omega)) (inI_mk (by omega) (by omega))) w_L_50 ⟨q_454, q_455⟩ rfl rfl hF.1 rfl ⟨(Nat.le_of_ble_eq_true rfl), (Nat.le_of_ble_eq_true rfl)⟩ hcat dc ⟨hk, hn⟩ (fun v L' f' hp => ?_) (fun E L' f' hp => ?_)
  · obtain ⟨w9, rfl, hx9, rfl, hC9, hr9⟩ := hp
    exact kk L' f' _ _ hC9 (sSetPort_ok hs hx9) hp
  · have hx9 := hp.1
    rw [xSetPort, if_pos (by omega), if_pos h1, if_pos h2] at hx9
    exact nomatch hx9
set_option maxHeartbeats 4000000 in
set_option maxRecDepth 100000 in
theorem a_setAdd {θ : Kt} {κ : Kx} {cc : ByteArray} {nL : Nat} {ret : Option FieldType} {Q : State → Prop} {L : List Nat} {f : Nat → wE} {k n pc : Nat} {lv : List (Nat × Value)} {st : List Value} {tt : Nat} {σ : Sg} {ad : Int} (hts : θ.2.1.stackTraces = false) (hs : SgOk σ) (hC : CS κ L f tt σ) (hp : σ.2.1 = 1) (h1 : -3000 ≤ ad ∧ ad ≤ 3000) (hk : k + 1 ≤ 600086) (hn : n + 6 ≤ 7301442) (hcat : (st.map fun v => v.category).sum ≤ 8) (dc : decode cc pc = .ok (.invokevirtual 54, 3)) (kk : ∀ (L' : List Nat) (f' : Nat → wE) (σ' : Sg) (v : Int), CS κ L' f' tt σ' → SgOk σ' → σ'.2.1 = 1 → k_G θ κ cc nL ret RL room_1 Q L' f' (k + 1) (n + 6) (pc + 3) lv (.int (iI v) :: st)) : k_G θ κ cc nL ret RL room_1 Q L f k n pc lv (.int (iI ad) :: .int (iI 0) :: .ref tt :: st) := by
  obtain ⟨td, tb, pl, rl, old, hF⟩ := hC
  refine k_useN (c_X7_setAddition θ.2.1 κ (p := 0) (ad := ad) hF hts hs (inI_mk (by omega) (by omega)) (inI_mk (by omega) (by omega))) w_L_54 ⟨q_470, q_471⟩ rfl rfl hF.1 rfl ⟨(Nat.le_of_ble_eq_true rfl), (Nat.le_of_ble_eq_true rfl)⟩ hcat dc ⟨hk, hn⟩ (fun v L' f' hp => ?_) (fun E L' f' hp => ?_)
  · obtain ⟨w9, rfl, hx9, rfl, hC9, hr9⟩ := hp
    exact kk L' f' _ _ hC9 (sSetAdd_ok hs hx9) hp
  · have hx9 := hp.1
    rw [xSetAdd, if_pos (by omega), if_pos h1] at hx9
    exact nomatch hx9
set_option maxHeartbeats 4000000 in
set_option maxRecDepth 100000 in
theorem a_addWave {θ : Kt} {κ : Kx} {cc : ByteArray} {nL : Nat} {ret : Option FieldType} {Q : State → Prop} {L : List Nat} {f : Nat → wE} {k n pc : Nat} {lv : List (Nat × Value)} {st : List Value} {tt : Nat} {σ : Sg} {r p o : Int} (hts : θ.2.1.stackTraces = false) (hs : SgOk σ) (hC : CS κ L f tt σ) (hw : σ.1.2.1 ≤ 7) (h1 : 0 ≤ r ∧ r ≤ 5000) (h2 : 60 ≤ p ∧ p ≤ 20000) (h3 : 0 ≤ o ∧ o ≤ p - 1) (hk : k + 2 ≤ 6) (hn : n + 63 ≤ 189) (hcat : (st.map fun v => v.category).sum ≤ 8) (dc : decode cc pc = .ok (.invokevirtual 19, 3)) (kk : ∀ (L' : List Nat) (f' : Nat → wE) (σ' : Sg), CS κ L' f' tt σ' → SgOk σ' → σ'.1.2.1 = σ.1.2.1 + 1 → σ'.2.1 = σ.2.1 → k_fr SC L f L' f' → k_G θ κ cc nL ret RL (k_rm 9 6 189) Q L' f' (k + 2) (n + 63) (pc + 3) lv (.int (iI (σ.1.2.1 : Int)) :: st)) : k_G θ κ cc nL ret RL (k_rm 9 6 189) Q L f k n pc lv (.int (iI o) :: .int (iI p) :: .int (iI r) :: .ref tt :: st) := by
  obtain ⟨td, tb, pl, rl, old, hF⟩ := hC
  refine k_useN (c_X7_addWave θ.2.1 κ (r := r) (p := p) (o := o) hF hts hs (inI_mk (by omega) (by omega)) (inI_mk (by omega) (by omega)) (inI_mk (by omega) (by omega))) w_L_19 ⟨q_540, q_541⟩ rfl rfl hF.1 rfl ⟨(Nat.le_of_ble_eq_true rfl), (Nat.le_of_ble_eq_true rfl)⟩ hcat dc ⟨hk, hn⟩ (fun v L' f' hp => ?_) (fun E L' f' hp => ?_)
  · obtain ⟨w9, rfl, hx9, rfl, hC9, hr9⟩ := hp
    exact kk L' f' _ hC9 (sAddWave_ok hs hx9) rfl rfl hr9
  · have hx9 := hp.1
    rw [xAddWave, if_pos h1, if_pos h2, if_pos h3, if_pos (by omega)] at hx9
    exact nomatch hx9
end
section
/-! ===== the law: its waves ===== -/
set_option maxHeartbeats 4000000 in
set_option maxRecDepth 100000 in
/-- the loop of waves: at most j rounds more -/
theorem wv_loop {θ : Kt} {κ : Kx} {tt ww : Nat} {mn : Int} (hts : θ.2.1.stackTraces = false) (hmn : 0 ≤ mn ∧ mn ≤ 3) : ∀ (j i : Nat) (L : List Nat) (f : Nat → wE) (k n : Nat) (σ : Sg) (A : Nat → Int), mn ≤ (i : Int) + (j : Int) → (i : Int) ≤ mn → k ≤ 2 * i → n ≤ 63 * i → SgOk σ → σ.1.2.1 = i → σ.2.1 = 0 → CS κ L f tt σ → Cl L f ww (31, .inl (κ.2.2.1 0, 9, .inl (fun u9 => iI (A u9)))) → k_G θ κ cL_waves 8 (some .int) RL (k_rm 9 6 189) (k_MQ θ κ (k_rn (fun w L' f' => ∃ (z : Int) (σ' : Sg), w = .int (iI z) ∧ (0 ≤ z ∧ z ≤ 3) ∧ CS κ L' f' tt σ' ∧ SgOk σ' ∧ σ'.2.1 = 0)) 6 189) L f k n 14 [(5, .int (iI (i : Int))), (4, .int (iI mn)), (3, .ref ww), (2, .int (iI 0)), (1, .ref (κ.2.2.2 2)), (0, .ref tt)] [] := by
  intro j
  induction j with
  | zero =>
    intro i L f k n σ A h1 h2 hk hn hs h0 h00 hC cw
    refine k_iload 0 dL_waves_14 rfl ?_
    refine k_iload 1 dL_waves_16 rfl ?_
    refine k_icmp_ge 202 dL_waves_18 (by decide) (inI_mk (by omega) (by omega)) (inI_mk (by omega) (by omega)) (fun h18 => ?_) (fun h18 => ?_)
    · refine k_iload 1 dL_waves_202 rfl ?_
      exact k_iret dL_waves_204 rfl (by omega) (by omega) ⟨_, rfl, mn, σ, rfl, hmn, hC, hs, h00⟩
    · omega
  | succ j ih =>
    intro i L f k n σ A h1 h2 hk hn hs h0 h00 hC cw
    refine k_iload 0 dL_waves_14 rfl ?_
    refine k_iload 1 dL_waves_16 rfl ?_
    refine k_icmp_ge 202 dL_waves_18 (by decide) (inI_mk (by omega) (by omega)) (inI_mk (by omega) (by omega)) (fun h18 => ?_) (fun h18 => ?_)
    · refine k_iload 1 dL_waves_202 rfl ?_
      exact k_iret dL_waves_204 rfl (by omega) (by omega) ⟨_, rfl, mn, σ, rfl, hmn, hC, hs, h00⟩
    · refine k_aload_n 4 1 dL_waves_21 rfl rfl ?_
      refine k_iload_n 3 2 dL_waves_22 rfl rfl ?_
      refine k_iconst dL_waves_23 ?_
      refine k_iadd dL_waves_24 ?_
      refine k_iload 0 dL_waves_25 rfl ?_
      refine k_iadd dL_waves_27 ?_
      refine k_useP (k_runS (c_L_cell θ.2.1 κ (z := ((0 + 1) + (i : Int))) ⟨by omega, by omega⟩) w_L_9 q_533 rfl rfl ⟨(Nat.le_of_ble_eq_true rfl), (Nat.le_of_ble_eq_true rfl)⟩ (Nat.le_of_ble_eq_true rfl) dL_waves_28) ⟨(by show _ ≤ 6; omega), (by show _ ≤ 189; omega)⟩ (fun z1 hz1 => ?_)
      refine k_istore [(6, .int (iI z1)), (5, .int (iI (i : Int))), (4, .int (iI mn)), (3, .ref ww), (2, .int (iI 0)), (1, .ref (κ.2.2.2 2)), (0, .ref tt)] dL_waves_31 (by decide) rfl ?_
      refine k_iload 0 dL_waves_33 rfl ?_
      refine k_iconst dL_waves_35 ?_
      refine k_useP (k_runS (c_L_below θ.2.1 κ (x := z1) (m := 5) ⟨by omega, by omega⟩) w_L_15 q_529 rfl rfl ⟨(Nat.le_of_ble_eq_true rfl), (Nat.le_of_ble_eq_true rfl)⟩ (Nat.le_of_ble_eq_true rfl) dL_waves_36) ⟨(by show _ ≤ 6; omega), (by show _ ≤ 189; omega)⟩ (fun z2 hz2 => ?_)
      have J99 : ∀ pe9 : Int, 60 ≤ pe9 → pe9 ≤ 20000 → k_G θ κ cL_waves 8 (some .int) RL (k_rm 9 6 189) (k_MQ θ κ (k_rn (fun w L' f' => ∃ (z : Int) (σ' : Sg), w = .int (iI z) ∧ (0 ≤ z ∧ z ≤ 3) ∧ CS κ L' f' tt σ' ∧ SgOk σ' ∧ σ'.2.1 = 0)) 6 189) L f k n 99 [(6, .int (iI z1)), (5, .int (iI (i : Int))), (4, .int (iI mn)), (3, .ref ww), (2, .int (iI 0)), (1, .ref (κ.2.2.2 2)), (0, .ref tt)] [.int (iI pe9)] := by
        intro pe9 hp1 hp2
        refine k_istore [(7, .int (iI pe9)), (6, .int (iI z1)), (5, .int (iI (i : Int))), (4, .int (iI mn)), (3, .ref ww), (2, .int (iI 0)), (1, .ref (κ.2.2.2 2)), (0, .ref tt)] dL_waves_99 (by decide) rfl ?_
        refine k_aload_n 4 3 dL_waves_101 rfl rfl ?_
        refine k_iconst dL_waves_102 ?_
        refine k_iload 2 dL_waves_103 rfl ?_
        refine k_imul dL_waves_105 ?_
        refine k_iload 1 dL_waves_106 rfl ?_
        refine k_iconst dL_waves_108 ?_
        refine k_ishrR dL_waves_109 (fun z3 => ?_)
        refine k_bipush dL_waves_110 (by decide) ?_
        refine k_useP (k_runS (c_L_below θ.2.1 κ (x := z3) (m := 9) ⟨by omega, by omega⟩) w_L_15 q_529 rfl rfl ⟨(Nat.le_of_ble_eq_true rfl), (Nat.le_of_ble_eq_true rfl)⟩ (Nat.le_of_ble_eq_true rfl) dL_waves_112) ⟨(by show _ ≤ 6; omega), (by show _ ≤ 189; omega)⟩ (fun z4 hz4 => ?_)
        have J140 : ∀ ra9 : Int, 0 ≤ ra9 → ra9 ≤ 5000 → k_G θ κ cL_waves 8 (some .int) RL (k_rm 9 6 189) (k_MQ θ κ (k_rn (fun w L' f' => ∃ (z : Int) (σ' : Sg), w = .int (iI z) ∧ (0 ≤ z ∧ z ≤ 3) ∧ CS κ L' f' tt σ' ∧ SgOk σ' ∧ σ'.2.1 = 0)) 6 189) L f k n 140 [(7, .int (iI pe9)), (6, .int (iI z1)), (5, .int (iI (i : Int))), (4, .int (iI mn)), (3, .ref ww), (2, .int (iI 0)), (1, .ref (κ.2.2.2 2)), (0, .ref tt)] [.int (iI ra9), .int (iI (3 * (i : Int))), .ref ww] := by
          intro ra9 hr1 hr2
          refine k_iast (3 * i) cw (by omega) (by omega) (by omega) dL_waves_140 (fun f5 hf5 hc5 => ?_)
          have hr5 := k_fr.put hf5 cw
          replace hC := hC.fr hr5 rfl
          replace cw : Cl L f5 ww (31, .inl (κ.2.2.1 0, 9, .inl (fun u9 => iI ((va_up A (3 * i) ra9) u9)))) := hc5
          refine k_aload_n 4 3 dL_waves_141 rfl rfl ?_
          refine k_iconst dL_waves_142 ?_
          refine k_iload 2 dL_waves_143 rfl ?_
          refine k_imul dL_waves_145 ?_
          refine k_iconst dL_waves_146 ?_
          refine k_iadd dL_waves_147 ?_
          refine k_iload 0 dL_waves_148 rfl ?_
          refine k_iast (3 * i + 1) cw (by omega) (by omega) (by omega) dL_waves_150 (fun f6 hf6 hc6 => ?_)
          have hr6 := k_fr.put hf6 cw
          replace hC := hC.fr hr6 rfl
          replace cw : Cl L f6 ww (31, .inl (κ.2.2.1 0, 9, .inl (fun u9 => iI ((va_up (va_up A (3 * i) ra9) (3 * i + 1) pe9) u9)))) := hc6
          refine k_aload_n 4 3 dL_waves_151 rfl rfl ?_
          refine k_iconst dL_waves_152 ?_
          refine k_iload 2 dL_waves_153 rfl ?_
          refine k_imul dL_waves_155 ?_
          refine k_iconst dL_waves_156 ?_
          refine k_iadd dL_waves_157 ?_
          refine k_iload 1 dL_waves_158 rfl ?_
          refine k_bipush dL_waves_160 (by decide) ?_
          refine k_ishrR dL_waves_162 (fun z7 => ?_)
          refine k_iload 0 dL_waves_163 rfl ?_
          refine k_useP (k_runS (c_L_below θ.2.1 κ (x := z7) (m := pe9) ⟨by omega, by omega⟩) w_L_15 q_529 rfl rfl ⟨(Nat.le_of_ble_eq_true rfl), (Nat.le_of_ble_eq_true rfl)⟩ (Nat.le_of_ble_eq_true rfl) dL_waves_165) ⟨(by show _ ≤ 6; omega), (by show _ ≤ 189; omega)⟩ (fun z8 hz8 => ?_)
          refine k_iast (3 * i + 2) cw (by omega) (by omega) (by omega) dL_waves_168 (fun f9 hf9 hc9 => ?_)
          have hr9 := k_fr.put hf9 cw
          replace hC := hC.fr hr9 rfl
          replace cw : Cl L f9 ww (31, .inl (κ.2.2.1 0, 9, .inl (fun u9 => iI ((va_up (va_up (va_up A (3 * i) ra9) (3 * i + 1) pe9) (3 * i + 2) z8) u9)))) := hc9
          refine k_aload_n 7 0 dL_waves_169 rfl rfl ?_
          refine k_aload_n 4 3 dL_waves_170 rfl rfl ?_
          refine k_iconst dL_waves_171 ?_
          refine k_iload 2 dL_waves_172 rfl ?_
          refine k_imul dL_waves_174 ?_
          refine k_iald (3 * i) cw (by omega) (by omega) (by omega) dL_waves_175 ?_
          refine k_topi ra9 (by rw [va_up_ne _ _ (by omega), va_up_ne _ _ (by omega), va_up_self]) ?_
          refine k_iload 0 dL_waves_176 rfl ?_
          refine k_aload_n 4 3 dL_waves_178 rfl rfl ?_
          refine k_iconst dL_waves_179 ?_
          refine k_iload 2 dL_waves_180 rfl ?_
          refine k_imul dL_waves_182 ?_
          refine k_iconst dL_waves_183 ?_
          refine k_iadd dL_waves_184 ?_
          refine k_iald (3 * i + 2) cw (by omega) (by omega) (by omega) dL_waves_185 ?_
          refine k_topi z8 (by rw [va_up_self]) ?_
          refine a_addWave hts hs hC (by omega) ⟨hr1, hr2⟩ ⟨hp1, hp2⟩ ⟨by omega, by omega⟩ (by omega) (by omega) (Nat.le_of_ble_eq_true rfl) dL_waves_186 (fun L10 f10 σ2 hC hs2 e1 e2 hr9 => ?_)
          replace cw := cw.fr hr9 rfl
          refine k_iload 2 dL_waves_189 rfl ?_
          refine k_icmp_eq 196 dL_waves_191 (by decide) (inI_mk (by omega) (by omega)) (inI_mk (by omega) (by omega)) (fun h191 => ?_) (fun h191 => ?_)
          · refine k_iinc 2 [(5, .int (iI ((i : Int) + 1))), (7, .int (iI pe9)), (6, .int (iI z1)), (4, .int (iI mn)), (3, .ref ww), (2, .int (iI 0)), (1, .ref (κ.2.2.2 2)), (0, .ref tt)] dL_waves_196 rfl (by decide) rfl ?_
            refine k_goto 14 dL_waves_199 (by decide) ?_
            refine k_perm [0, 3, 4, 5, 6, 7] [(5, .int (iI ((i : Int) + 1))), (4, .int (iI mn)), (3, .ref ww), (2, .int (iI 0)), (1, .ref (κ.2.2.2 2)), (0, .ref tt)] rfl ?_
            exact ih (i + 1) _ _ _ _ σ2 _ (by omega) (by omega) (by omega) (by omega) hs2 (by omega) (by omega) hC cw
          · omega
        refine k_if_ne 130 dL_waves_115 (by decide) (inI_mk (by omega) (by omega)) (fun h115 => ?_) (fun h115 => ?_)
        · refine k_iload 1 dL_waves_130 rfl ?_
          refine k_iconst dL_waves_132 ?_
          refine k_ishrR dL_waves_133 (fun z11 => ?_)
          refine k_sipush dL_waves_134 (by decide) ?_
          refine k_useP (k_runS (c_L_below θ.2.1 κ (x := z11) (m := 5001) ⟨by omega, by omega⟩) w_L_15 q_529 rfl rfl ⟨(Nat.le_of_ble_eq_true rfl), (Nat.le_of_ble_eq_true rfl)⟩ (Nat.le_of_ble_eq_true rfl) dL_waves_137) ⟨(by show _ ≤ 6; omega), (by show _ ≤ 189; omega)⟩ (fun z12 hz12 => ?_)
          exact J140 _ (by omega) (by omega)
        · refine k_iload 1 dL_waves_118 rfl ?_
          refine k_bipush dL_waves_120 (by decide) ?_
          refine k_ishrR dL_waves_122 (fun z13 => ?_)
          refine k_iconst dL_waves_123 ?_
          refine k_useP (k_runS (c_L_below θ.2.1 κ (x := z13) (m := 4) ⟨by omega, by omega⟩) w_L_15 q_529 rfl rfl ⟨(Nat.le_of_ble_eq_true rfl), (Nat.le_of_ble_eq_true rfl)⟩ (Nat.le_of_ble_eq_true rfl) dL_waves_124) ⟨(by show _ ≤ 6; omega), (by show _ ≤ 189; omega)⟩ (fun z14 hz14 => ?_)
          refine k_goto 140 dL_waves_127 (by decide) ?_
          exact J140 _ (by omega) (by omega)
      refine k_if_ne 58 dL_waves_39 (by decide) (inI_mk (by omega) (by omega)) (fun h39 => ?_) (fun h39 => ?_)
      · refine k_iload 0 dL_waves_58 rfl ?_
        refine k_iconst dL_waves_60 ?_
        refine k_useP (k_runS (c_L_below θ.2.1 κ (x := z1) (m := 5) ⟨by omega, by omega⟩) w_L_15 q_529 rfl rfl ⟨(Nat.le_of_ble_eq_true rfl), (Nat.le_of_ble_eq_true rfl)⟩ (Nat.le_of_ble_eq_true rfl) dL_waves_61) ⟨(by show _ ≤ 6; omega), (by show _ ≤ 189; omega)⟩ (fun z15 hz15 => ?_)
        refine k_iconst dL_waves_64 ?_
        refine k_icmp_ne 85 dL_waves_65 (by decide) (inI_mk (by omega) (by omega)) (inI_mk (by omega) (by omega)) (fun h65 => ?_) (fun h65 => ?_)
        · refine k_sipush dL_waves_85 (by decide) ?_
          refine k_iload 0 dL_waves_88 rfl ?_
          refine k_iconst dL_waves_90 ?_
          refine k_ishrR dL_waves_91 (fun z16 => ?_)
          refine k_sipush dL_waves_92 (by decide) ?_
          refine k_useP (k_runS (c_L_below θ.2.1 κ (x := z16) (m := 1200) ⟨by omega, by omega⟩) w_L_15 q_529 rfl rfl ⟨(Nat.le_of_ble_eq_true rfl), (Nat.le_of_ble_eq_true rfl)⟩ (Nat.le_of_ble_eq_true rfl) dL_waves_95) ⟨(by show _ ≤ 6; omega), (by show _ ≤ 189; omega)⟩ (fun z17 hz17 => ?_)
          refine k_iadd dL_waves_98 ?_
          exact J99 _ (by omega) (by omega)
        · refine k_sipush dL_waves_68 (by decide) ?_
          refine k_iload 0 dL_waves_71 rfl ?_
          refine k_iconst dL_waves_73 ?_
          refine k_ishrR dL_waves_74 (fun z18 => ?_)
          refine k_sipush dL_waves_75 (by decide) ?_
          refine k_useP (k_runS (c_L_below θ.2.1 κ (x := z18) (m := 15000) ⟨by omega, by omega⟩) w_L_15 q_529 rfl rfl ⟨(Nat.le_of_ble_eq_true rfl), (Nat.le_of_ble_eq_true rfl)⟩ (Nat.le_of_ble_eq_true rfl) dL_waves_78) ⟨(by show _ ≤ 6; omega), (by show _ ≤ 189; omega)⟩ (fun z19 hz19 => ?_)
          refine k_iadd dL_waves_81 ?_
          refine k_goto 99 dL_waves_82 (by decide) ?_
          exact J99 _ (by omega) (by omega)
      · refine k_bipush dL_waves_42 (by decide) ?_
        refine k_iload 0 dL_waves_44 rfl ?_
        refine k_iconst dL_waves_46 ?_
        refine k_ishrR dL_waves_47 (fun z20 => ?_)
        refine k_sipush dL_waves_48 (by decide) ?_
        refine k_useP (k_runS (c_L_below θ.2.1 κ (x := z20) (m := 300) ⟨by omega, by omega⟩) w_L_15 q_529 rfl rfl ⟨(Nat.le_of_ble_eq_true rfl), (Nat.le_of_ble_eq_true rfl)⟩ (Nat.le_of_ble_eq_true rfl) dL_waves_51) ⟨(by show _ ≤ 6; omega), (by show _ ≤ 189; omega)⟩ (fun z21 hz21 => ?_)
        refine k_iadd dL_waves_54 ?_
        refine k_goto 99 dL_waves_55 (by decide) ?_
        exact J99 _ (by omega) (by omega)
set_option maxHeartbeats 4000000 in
set_option maxRecDepth 100000 in
theorem c_L_waves (la : Launch) (κ : Kx) {L : List Nat} {f : Nat → wE} {tt ww : Nat} {σ : Sg} {A : Nat → Int} (hts : la.stackTraces = false) (hs : SgOk σ) (h0 : σ.1.2.1 = 0) (h00 : σ.2.1 = 0) (hC : CS κ L f tt σ) (cw : Cl L f ww (31, .inl (κ.2.2.1 0, 9, .inl (fun u9 => iI (A u9))))) : k_M la κ yL_waves cL_waves 8 (some .int) 9 6 189 [.ref tt, .ref (κ.2.2.2 2), .int (iI 0), .ref ww] L f (k_rn (fun w L' f' => ∃ (z : Int) (σ' : Sg), w = .int (iI z) ∧ (0 ≤ z ∧ z ≤ 3) ∧ CS κ L' f' tt σ' ∧ SgOk σ' ∧ σ'.2.1 = 0)) := by
  refine k_head RL [(0, .ref tt), (1, .ref (κ.2.2.2 2)), (2, .int (iI 0)), (3, .ref ww)] rfl (by decide) (Nat.le_of_ble_eq_true rfl) rfl (fun θ hθ hin => ?_)
  have hts2 : θ.2.1.stackTraces = false := by rw [hθ]; exact hts
  refine k_aload_n 1 1 dL_waves_0 rfl rfl ?_
  refine k_iload_n 2 2 dL_waves_1 rfl rfl ?_
  refine k_useP (k_runS (c_L_cell θ.2.1 κ (z := 0) ⟨by omega, by omega⟩) w_L_9 q_533 rfl rfl ⟨(Nat.le_of_ble_eq_true rfl), (Nat.le_of_ble_eq_true rfl)⟩ (Nat.le_of_ble_eq_true rfl) dL_waves_2) ⟨(by show _ ≤ 6; omega), (by show _ ≤ 189; omega)⟩ (fun z22 hz22 => ?_)
  refine k_iconst dL_waves_5 ?_
  refine k_useP (k_runS (c_L_below θ.2.1 κ (x := z22) (m := 4) ⟨by omega, by omega⟩) w_L_15 q_529 rfl rfl ⟨(Nat.le_of_ble_eq_true rfl), (Nat.le_of_ble_eq_true rfl)⟩ (Nat.le_of_ble_eq_true rfl) dL_waves_6) ⟨(by show _ ≤ 6; omega), (by show _ ≤ 189; omega)⟩ (fun z23 hz23 => ?_)
  refine k_istore [(4, .int (iI z23)), (0, .ref tt), (1, .ref (κ.2.2.2 2)), (2, .int (iI 0)), (3, .ref ww)] dL_waves_9 (by decide) rfl ?_
  refine k_iconst dL_waves_11 ?_
  refine k_istore [(5, .int (iI 0)), (4, .int (iI z23)), (0, .ref tt), (1, .ref (κ.2.2.2 2)), (2, .int (iI 0)), (3, .ref ww)] dL_waves_12 (by decide) rfl ?_
  refine k_perm [0, 1, 5, 4, 3, 2] [(5, .int (iI 0)), (4, .int (iI z23)), (3, .ref ww), (2, .int (iI 0)), (1, .ref (κ.2.2.2 2)), (0, .ref tt)] rfl ?_
  exact wv_loop hts2 ⟨by omega, by omega⟩ 3 0 _ _ _ _ σ A (by omega) (by omega) (by omega) (by omega) hs h0 h00 hC cw
end
section
/-! ===== the law's own method: its end ===== -/
/-- how the law ends: with true -/
def LEnd (θ : Kt) (κ : Kx) (Q : State → Prop) : Prop := ∀ (L : List Nat) (f : Nat → wE) (k n : Nat) (lv : List (Nat × Value)), k ≤ 600086 → n ≤ 7301442 → k_G θ κ cL_law 16 (some .boolean) RL room_1 Q L f k n 641 lv []
theorem cmpI_mulin (a b c d : Int) : inI (cmpI a b * cmpI c d) := by
  have := cmpI_mul a b c d
  exact inI_mk (by omega) (by omega)
set_option maxHeartbeats 4000000 in
set_option maxRecDepth 100000 in
theorem law_609 {θ : Kt} {κ : Kx} {Q : State → Prop} {tt : Nat} {σ : Sg} (hts : θ.2.1.stackTraces = false) (hs : SgOk σ) (hend : LEnd θ κ Q) {L : List Nat} {f : Nat → wE} {k n : Nat} (hk : k ≤ 400000) (hn : n ≤ 6 * k + 30000) (hC : CS κ L f tt σ) : k_G θ κ cL_law 16 (some .boolean) RL room_1 Q L f k n 609 [(1, .ref tt)] [] := by
  have hd0 := datum_bd (fun t => hT_bd hs.1 t) 0
  have hd1 := datum_bd (fun t => hT_bd hs.1 t) 1
  have hd4 := datum_bd (fun t => hT_bd hs.1 t) 4
  have hd01 := dat_01 (hT σ.1)
  have hd40 := dat_4 (hT σ.1)
  refine k_aload_n 0 1 dL_law_609 rfl rfl ?_
  refine k_iconst dL_law_610 ?_
  refine a_datum 0 hts hs hC (by omega) (by omega) (by omega) (Nat.le_of_ble_eq_true rfl) dL_law_611 (fun L1 f1 hC => ?_)
  refine k_aload_n 0 1 dL_law_614 rfl rfl ?_
  refine k_iconst dL_law_615 ?_
  refine a_datum 1 hts hs hC (by omega) (by omega) (by omega) (Nat.le_of_ble_eq_true rfl) dL_law_616 (fun L2 f2 hC => ?_)
  refine k_icmp_lt 645 dL_law_619 (by decide) (inI_mk (by omega) (by omega)) (inI_mk (by omega) (by omega)) (fun h619 => ?_) (fun h619 => ?_)
  · omega
  · refine k_aload_n 0 1 dL_law_622 rfl rfl ?_
    refine k_iconst dL_law_623 ?_
    refine a_datum 4 hts hs hC (by omega) (by omega) (by omega) (Nat.le_of_ble_eq_true rfl) dL_law_624 (fun L3 f3 hC => ?_)
    refine k_aload_n 0 1 dL_law_627 rfl rfl ?_
    refine k_iconst dL_law_628 ?_
    refine a_datum 0 hts hs hC (by omega) (by omega) (by omega) (Nat.le_of_ble_eq_true rfl) dL_law_629 (fun L4 f4 hC => ?_)
    refine k_aload_n 0 1 dL_law_632 rfl rfl ?_
    refine k_iconst dL_law_633 ?_
    refine a_datum 1 hts hs hC (by omega) (by omega) (by omega) (Nat.le_of_ble_eq_true rfl) dL_law_634 (fun L5 f5 hC => ?_)
    refine k_isub dL_law_637 ?_
    refine k_icmp_gt 645 dL_law_638 (by decide) (inI_mk (by omega) (by omega)) (inI_mk (by omega) (by omega)) (fun h638 => ?_) (fun h638 => ?_)
    · omega
    · exact hend _ _ _ _ _ (by omega) (by omega)
set_option maxHeartbeats 4000000 in
set_option maxRecDepth 100000 in
theorem law_571 {θ : Kt} {κ : Kx} {Q : State → Prop} {tt : Nat} {σ : Sg} (hts : θ.2.1.stackTraces = false) (hs : SgOk σ) (hend : LEnd θ κ Q) : ∀ (j m : Nat) (L : List Nat) (f : Nat → wE) (k n : Nat), fstW (hT σ.1) + 1 ≤ m + j → 1 ≤ m → m ≤ fstW (hT σ.1) + 1 → k + 2 * j ≤ 400000 → n ≤ 6 * k + 30000 → CS κ L f tt σ → k_G θ κ cL_law 16 (some .boolean) RL room_1 Q L f k n 571 [(8, .int (iI (m : Int))), (7, .int (iI (cmpI (hT σ.1 (fstW (hT σ.1))) (hT σ.1 0)))), (6, .int (iI (fstW (hT σ.1) : Int))), (1, .ref tt)] [] := by
  intro j
  have hfl := fstW_lt (hT σ.1)
  induction j with
  | zero =>
    intro m L f k n h1 h2 h3 hk hn hC
    have hbm := hT_bd hs.1 m
    have hbm1 := hT_bd hs.1 (m - 1)
    refine k_iload 0 dL_law_571 rfl ?_
    refine k_iload 2 dL_law_573 rfl ?_
    refine k_icmp_gt 609 dL_law_575 (by decide) (inI_mk (by omega) (by omega)) (inI_mk (by omega) (by omega)) (fun h575 => ?_) (fun h575 => ?_)
    · refine k_perm [3] [(1, .ref tt)] rfl ?_
      exact law_609 hts hs hend (by omega) (by omega) hC
    · omega
  | succ j ih =>
    intro m L f k n h1 h2 h3 hk hn hC
    have hbm := hT_bd hs.1 m
    have hbm1 := hT_bd hs.1 (m - 1)
    refine k_iload 0 dL_law_571 rfl ?_
    refine k_iload 2 dL_law_573 rfl ?_
    refine k_icmp_gt 609 dL_law_575 (by decide) (inI_mk (by omega) (by omega)) (inI_mk (by omega) (by omega)) (fun h575 => ?_) (fun h575 => ?_)
    · refine k_perm [3] [(1, .ref tt)] rfl ?_
      exact law_609 hts hs hend (by omega) (by omega) hC
    · refine k_aload_n 3 1 dL_law_578 rfl rfl ?_
      refine k_iload 0 dL_law_579 rfl ?_
      refine a_height m hts hs hC (by omega) (by omega) (by omega) (by omega) (Nat.le_of_ble_eq_true rfl) dL_law_581 (fun L6 f6 hC => ?_)
      refine k_aload_n 3 1 dL_law_584 rfl rfl ?_
      refine k_iload 0 dL_law_585 rfl ?_
      refine k_iconst dL_law_587 ?_
      refine k_isub dL_law_588 ?_
      refine a_height (m - 1) hts hs hC (by omega) (by omega) (by omega) (by omega) (Nat.le_of_ble_eq_true rfl) dL_law_589 (fun L7 f7 hC => ?_)
      refine k_useR (k_runS (c_J6_compare_7cf53 θ.2.1 κ (x := (hT σ.1 m)) (y := (hT σ.1 (m - 1))) (inI_mk (by omega) (by omega)) (inI_mk (by omega) (by omega))) w_L_90 q_564 rfl rfl ⟨(Nat.le_of_ble_eq_true rfl), (Nat.le_of_ble_eq_true rfl)⟩ (Nat.le_of_ble_eq_true rfl) dL_law_592) ⟨(by show _ ≤ 600086; omega), (by show _ ≤ 7301442; omega)⟩ ?_
      refine k_iload 1 dL_law_595 rfl ?_
      refine k_imul dL_law_597 ?_
      refine k_if_ge 603 dL_law_598 (by decide) (cmpI_mulin _ _ _ _) (fun h598 => ?_) (fun h598 => ?_)
      · refine k_iinc 0 [(8, .int (iI ((m : Int) + 1))), (7, .int (iI (cmpI (hT σ.1 (fstW (hT σ.1))) (hT σ.1 0)))), (6, .int (iI (fstW (hT σ.1) : Int))), (1, .ref tt)] dL_law_603 rfl (by decide) rfl ?_
        refine k_goto 571 dL_law_606 (by decide) ?_
        exact ih (m + 1) _ _ _ _ (by omega) (by omega) (by omega) (by omega) (by omega) hC
      · exact absurd (head_sgn (h := hT σ.1) h2 (by omega)) (Int.not_le.mpr h598)
set_option maxHeartbeats 4000000 in
set_option maxRecDepth 100000 in
theorem law_550 {θ : Kt} {κ : Kx} {Q : State → Prop} {tt : Nat} {σ : Sg} (hts : θ.2.1.stackTraces = false) (hs : SgOk σ) (hend : LEnd θ κ Q) {L : List Nat} {f : Nat → wE} {k n : Nat} (hk : k ≤ 300000) (hn : n ≤ 6 * k + 30000) (hC : CS κ L f tt σ) : k_G θ κ cL_law 16 (some .boolean) RL room_1 Q L f k n 550 [(1, .ref tt)] [.int (iI (fstW (hT σ.1) : Int))] := by
  have hfl := fstW_lt (hT σ.1)
  have hb0 := hT_bd hs.1 0
  have hbf := hT_bd hs.1 (fstW (hT σ.1))
  refine k_istore [(6, .int (iI (fstW (hT σ.1) : Int))), (1, .ref tt)] dL_law_550 (by decide) rfl ?_
  refine k_aload_n 1 1 dL_law_552 rfl rfl ?_
  refine k_iload 0 dL_law_553 rfl ?_
  refine a_height (fstW (hT σ.1)) hts hs hC (by omega) (by omega) (by omega) (by omega) (Nat.le_of_ble_eq_true rfl) dL_law_555 (fun L8 f8 hC => ?_)
  refine k_aload_n 1 1 dL_law_558 rfl rfl ?_
  refine k_iconst dL_law_559 ?_
  refine a_height 0 hts hs hC (by omega) (by omega) (by omega) (by omega) (Nat.le_of_ble_eq_true rfl) dL_law_560 (fun L9 f9 hC => ?_)
  refine k_useR (k_runS (c_J6_compare_7cf53 θ.2.1 κ (x := (hT σ.1 (fstW (hT σ.1)))) (y := (hT σ.1 0)) (inI_mk (by omega) (by omega)) (inI_mk (by omega) (by omega))) w_L_90 q_564 rfl rfl ⟨(Nat.le_of_ble_eq_true rfl), (Nat.le_of_ble_eq_true rfl)⟩ (Nat.le_of_ble_eq_true rfl) dL_law_563) ⟨(by show _ ≤ 600086; omega), (by show _ ≤ 7301442; omega)⟩ ?_
  refine k_istore [(7, .int (iI (cmpI (hT σ.1 (fstW (hT σ.1))) (hT σ.1 0)))), (6, .int (iI (fstW (hT σ.1) : Int))), (1, .ref tt)] dL_law_566 (by decide) rfl ?_
  refine k_iconst dL_law_568 ?_
  refine k_istore [(8, .int (iI 1)), (7, .int (iI (cmpI (hT σ.1 (fstW (hT σ.1))) (hT σ.1 0)))), (6, .int (iI (fstW (hT σ.1) : Int))), (1, .ref tt)] dL_law_569 (by decide) rfl ?_
  exact law_571 hts hs hend (fstW (hT σ.1)) 1 _ _ _ _ (by omega) (by omega) (by omega) (by omega) (by omega) hC
set_option maxHeartbeats 4000000 in
set_option maxRecDepth 100000 in
theorem law_533 {θ : Kt} {κ : Kx} {Q : State → Prop} {tt : Nat} {σ : Sg} (hts : θ.2.1.stackTraces = false) (hs : SgOk σ) (hend : LEnd θ κ Q) {L : List Nat} {f : Nat → wE} {k n : Nat} {w : Nat} (hk : k ≤ 290000) (hn : n ≤ 6 * k + 30000) (hC : CS κ L f tt σ) : k_G θ κ cL_law 16 (some .boolean) RL room_1 Q L f k n 533 [(6, .int (iI (w : Int))), (5, .int (iI (nW (hT σ.1) : Int))), (3, .int (iI 0)), (1, .ref tt)] [] := by
  have hnn := nW_le (hT σ.1)
  refine k_iload 1 dL_law_533 rfl ?_
  refine k_if_ne 544 dL_law_535 (by decide) (inI_mk (by omega) (by omega)) (fun h535 => ?_) (fun h535 => ?_)
  · refine k_aload_n 3 1 dL_law_544 rfl rfl ?_
    refine k_iconst dL_law_545 ?_
    refine k_iconst dL_law_546 ?_
    refine a_water0 0 hts hs hC (by omega) (by omega) (by omega) (by omega) (Nat.le_of_ble_eq_true rfl) dL_law_547 (fun L10 f10 hC => ?_)
    refine k_topi (fstW (hT σ.1) : Int) (by unfold fstW; rw [if_neg (by omega)]) ?_
    refine k_perm [3] [(1, .ref tt)] rfl ?_
    exact law_550 hts hs hend (by omega) (by omega) hC
  · refine k_sipush dL_law_538 (by decide) ?_
    refine k_goto 550 dL_law_541 (by decide) ?_
    refine k_topi (fstW (hT σ.1) : Int) (by unfold fstW; rw [if_pos (by omega)]; rfl) ?_
    refine k_perm [3] [(1, .ref tt)] rfl ?_
    exact law_550 hts hs hend (by omega) (by omega) hC
end
section
/-! ===== the law's own method: between two waters, at the chief port and at the other one ===== -/
theorem in1_step {h : Nat → Int} {k m : Nat} {last : Int} (hk : k + 1 < nW h) (h1 : tm h k ≤ m) (h2 : m ≤ tm h (k + 1)) (hl : (m = tm h k ∧ last = h (tm h k)) ∨ (tm h k < m ∧ last = h (m - 1))) : (hi h k = true → h m ≤ last) ∧ (hi h k = false → last ≤ h m) := by
  rcases hl with ⟨a, b⟩ | ⟨a, b⟩
  · subst a
    subst b
    exact ⟨fun _ => Int.le_refl _, fun _ => Int.le_refl _⟩
  · subst b
    exact ⟨fun e => (wat_hi hk e).2.2 m a h2, fun e => (wat_lo hk e).2.2 m a h2⟩
/-- the heights that are still to come do not turn -/
def Inv2 (h : Nat → Int) (q : Pt) (w m : Nat) (bef : Int) : Prop := ∀ t : Int, (m : Int) ≤ t → t < pT h q (w + 1) → (pH h q w ≤ pH h q (w + 1) → bef ≤ btw h q (w + 1) t) ∧ (pH h q (w + 1) ≤ pH h q w → btw h q (w + 1) t ≤ bef)
theorem inv2_0 {h : Nat → Int} {q : Pt} {w m : Nat} (h1 : pT h q w ≤ (m : Int)) : Inv2 h q w m (pH h q w) := fun t a b => ⟨fun c => (btw_up (Int.le_trans h1 a) (Int.le_refl t) b c).1, fun c => (btw_dn (Int.le_trans h1 a) (Int.le_refl t) b c).1⟩
theorem inv2_s {h : Nat → Int} {q : Pt} {w m m2 : Nat} (h1 : pT h q w ≤ (m : Int)) (h2 : m ≤ m2) : Inv2 h q w m2 (btw h q (w + 1) (m : Int)) := fun t a b => ⟨fun c => (btw_up h1 (show (m : Int) ≤ t by omega) b c).2.1, fun c => (btw_dn h1 (show (m : Int) ≤ t by omega) b c).2.1⟩
theorem btw_in {h : Nat → Int} {q : Pt} (ok : PtOk q) (hb : ∀ t, -50000 ≤ h t ∧ h t ≤ 50000) {w : Nat} {t : Int} (h1 : pT h q w ≤ t) (h2 : t < pT h q (w + 1)) : -153000 ≤ btw h q (w + 1) t ∧ btw h q (w + 1) t ≤ 153000 := by
  have a1 := pH_bd ok hb w
  have a2 := pH_bd ok hb (w + 1)
  rcases Int.le_total (pH h q w) (pH h q (w + 1)) with c | c
  · have e := btw_up h1 (Int.le_refl t) h2 c
    omega
  · have e := btw_dn h1 (Int.le_refl t) h2 c
    omega
set_option maxHeartbeats 4000000 in
set_option maxRecDepth 100000 in
theorem law_232 {θ : Kt} {κ : Kx} {Q : State → Prop} {tt : Nat} {σ : Sg} (hts : θ.2.1.stackTraces = false) (hs : SgOk σ) {w K : Nat} (hw : w + 1 < nW (hT σ.1)) (hK : K ≤ 300000) (cont : ∀ (L : List Nat) (f : Nat → wE) (k n : Nat), k ≤ K → n ≤ 6 * k + 30000 → CS κ L f tt σ → k_G θ κ cL_law 16 (some .boolean) RL room_1 Q L f k n 288 [(8, .int (iI (hT σ.1 (tm (hT σ.1) (w + 1))))), (7, .int (iI (bI (hi (hT σ.1) w)))), (6, .int (iI (w : Int))), (5, .int (iI (nW (hT σ.1) : Int))), (3, .int (iI 0)), (1, .ref tt)] []) : ∀ (j m : Nat) (last : Int) (L : List Nat) (f : Nat → wE) (k n : Nat), tm (hT σ.1) (w + 1) + 1 ≤ m + j → tm (hT σ.1) w ≤ m → m ≤ tm (hT σ.1) (w + 1) + 1 → ((m = tm (hT σ.1) w ∧ last = hT σ.1 (tm (hT σ.1) w)) ∨ (tm (hT σ.1) w < m ∧ last = hT σ.1 (m - 1))) → k + 2 * j + 1 ≤ K → n ≤ 6 * k + 30000 → CS κ L f tt σ → k_G θ κ cL_law 16 (some .boolean) RL room_1 Q L f k n 232 [(9, .int (iI (m : Int))), (8, .int (iI last)), (7, .int (iI (bI (hi (hT σ.1) w)))), (6, .int (iI (w : Int))), (5, .int (iI (nW (hT σ.1) : Int))), (3, .int (iI 0)), (1, .ref tt)] [] := by
  intro j
  have hnn := nW_le (hT σ.1)
  have ht1 := (tm_spec hw).1
  have ht0 := (tm_next hw).1
  have hb1 := hT_bd hs.1 (tm (hT σ.1) (w + 1))
  induction j with
  | zero =>
    intro m last L f k n h1 h2 h3 hl hk hn hC
    have hbm := hT_bd hs.1 m
    have hbl : -50000 ≤ last ∧ last ≤ 50000 := by
      rcases hl with ⟨a, b⟩ | ⟨a, b⟩
      · rw [b]
        exact hT_bd hs.1 _
      · rw [b]
        exact hT_bd hs.1 _
    refine k_iload 0 dL_law_232 rfl ?_
    refine k_aload_n 6 1 dL_law_234 rfl rfl ?_
    refine k_iload 3 dL_law_235 rfl ?_
    refine k_iconst dL_law_237 ?_
    refine k_iadd dL_law_238 ?_
    refine k_iconst dL_law_239 ?_
    refine a_water0 (w + 1) hts hs hC (by omega) (by omega) (by omega) (by omega) (Nat.le_of_ble_eq_true rfl) dL_law_240 (fun L11 f11 hC => ?_)
    refine k_icmp_gt 288 dL_law_243 (by decide) (inI_mk (by omega) (by omega)) (inI_mk (by omega) (by omega)) (fun h243 => ?_) (fun h243 => ?_)
    · refine k_perm [1, 2, 3, 4, 5, 6] [(8, .int (iI last)), (7, .int (iI (bI (hi (hT σ.1) w)))), (6, .int (iI (w : Int))), (5, .int (iI (nW (hT σ.1) : Int))), (3, .int (iI 0)), (1, .ref tt)] rfl ?_
      have e9 : last = hT σ.1 (tm (hT σ.1) (w + 1)) := by
        rcases hl with ⟨a, b⟩ | ⟨a, b⟩
        · omega
        · rw [b, show m - 1 = tm (hT σ.1) (w + 1) by omega]
      rw [e9]
      exact cont _ _ _ _ (by omega) (by omega) hC
    · omega
  | succ j ih =>
    intro m last L f k n h1 h2 h3 hl hk hn hC
    have hbm := hT_bd hs.1 m
    have hbl : -50000 ≤ last ∧ last ≤ 50000 := by
      rcases hl with ⟨a, b⟩ | ⟨a, b⟩
      · rw [b]
        exact hT_bd hs.1 _
      · rw [b]
        exact hT_bd hs.1 _
    refine k_iload 0 dL_law_232 rfl ?_
    refine k_aload_n 6 1 dL_law_234 rfl rfl ?_
    refine k_iload 3 dL_law_235 rfl ?_
    refine k_iconst dL_law_237 ?_
    refine k_iadd dL_law_238 ?_
    refine k_iconst dL_law_239 ?_
    refine a_water0 (w + 1) hts hs hC (by omega) (by omega) (by omega) (by omega) (Nat.le_of_ble_eq_true rfl) dL_law_240 (fun L12 f12 hC => ?_)
    refine k_icmp_gt 288 dL_law_243 (by decide) (inI_mk (by omega) (by omega)) (inI_mk (by omega) (by omega)) (fun h243 => ?_) (fun h243 => ?_)
    · refine k_perm [1, 2, 3, 4, 5, 6] [(8, .int (iI last)), (7, .int (iI (bI (hi (hT σ.1) w)))), (6, .int (iI (w : Int))), (5, .int (iI (nW (hT σ.1) : Int))), (3, .int (iI 0)), (1, .ref tt)] rfl ?_
      have e9 : last = hT σ.1 (tm (hT σ.1) (w + 1)) := by
        rcases hl with ⟨a, b⟩ | ⟨a, b⟩
        · omega
        · rw [b, show m - 1 = tm (hT σ.1) (w + 1) by omega]
      rw [e9]
      exact cont _ _ _ _ (by omega) (by omega) hC
    · refine k_aload_n 6 1 dL_law_246 rfl rfl ?_
      refine k_iload 0 dL_law_247 rfl ?_
      refine a_height m hts hs hC (by omega) (by omega) (by omega) (by omega) (Nat.le_of_ble_eq_true rfl) dL_law_249 (fun L13 f13 hC => ?_)
      refine k_istore [(10, .int (iI (hT σ.1 m))), (9, .int (iI (m : Int))), (8, .int (iI last)), (7, .int (iI (bI (hi (hT σ.1) w)))), (6, .int (iI (w : Int))), (5, .int (iI (nW (hT σ.1) : Int))), (3, .int (iI 0)), (1, .ref tt)] dL_law_252 (by decide) rfl ?_
      have hst := in1_step hw h2 (show m ≤ tm (hT σ.1) (w + 1) by omega) hl
      have J278 : k_G θ κ cL_law 16 (some .boolean) RL room_1 Q L13 f13 ((k + 1) + 1) ((n + 6) + 6) 278 [(10, .int (iI (hT σ.1 m))), (9, .int (iI (m : Int))), (8, .int (iI last)), (7, .int (iI (bI (hi (hT σ.1) w)))), (6, .int (iI (w : Int))), (5, .int (iI (nW (hT σ.1) : Int))), (3, .int (iI 0)), (1, .ref tt)] [] := by
        refine k_iload 0 dL_law_278 rfl ?_
        refine k_istore [(8, .int (iI (hT σ.1 m))), (10, .int (iI (hT σ.1 m))), (9, .int (iI (m : Int))), (7, .int (iI (bI (hi (hT σ.1) w)))), (6, .int (iI (w : Int))), (5, .int (iI (nW (hT σ.1) : Int))), (3, .int (iI 0)), (1, .ref tt)] dL_law_280 (by decide) rfl ?_
        refine k_iinc 2 [(9, .int (iI ((m : Int) + 1))), (8, .int (iI (hT σ.1 m))), (10, .int (iI (hT σ.1 m))), (7, .int (iI (bI (hi (hT σ.1) w)))), (6, .int (iI (w : Int))), (5, .int (iI (nW (hT σ.1) : Int))), (3, .int (iI 0)), (1, .ref tt)] dL_law_282 rfl (by decide) rfl ?_
        refine k_goto 232 dL_law_285 (by decide) ?_
        refine k_perm [0, 1, 3, 4, 5, 6, 7] [(9, .int (iI ((m : Int) + 1))), (8, .int (iI (hT σ.1 m))), (7, .int (iI (bI (hi (hT σ.1) w)))), (6, .int (iI (w : Int))), (5, .int (iI (nW (hT σ.1) : Int))), (3, .int (iI 0)), (1, .ref tt)] rfl ?_
        exact ih (m + 1) _ _ _ _ _ (by omega) (by omega) (by omega) (Or.inr ⟨by omega, by rw [Nat.add_sub_cancel]⟩) (by omega) (by omega) hC
      refine k_iload 3 dL_law_254 rfl ?_
      refine k_ifb_eq 269 dL_law_256 (by decide) (fun h256 => ?_) (fun h256 => ?_)
      · refine k_iload 0 dL_law_269 rfl ?_
        refine k_iload 2 dL_law_271 rfl ?_
        refine k_icmp_ge 278 dL_law_273 (by decide) (inI_mk (by omega) (by omega)) (inI_mk (by omega) (by omega)) (fun h273 => ?_) (fun h273 => ?_)
        · exact J278
        · exact absurd (hst.2 h256) (Int.not_le.mpr h273)
      · refine k_iload 0 dL_law_259 rfl ?_
        refine k_iload 2 dL_law_261 rfl ?_
        refine k_icmp_le 278 dL_law_263 (by decide) (inI_mk (by omega) (by omega)) (inI_mk (by omega) (by omega)) (fun h263 => ?_) (fun h263 => ?_)
        · exact J278
        · exact absurd (hst.1 h256) (Int.not_le.mpr h263)
set_option maxHeartbeats 4000000 in
set_option maxRecDepth 100000 in
theorem law_433 {θ : Kt} {κ : Kx} {Q : State → Prop} {tt : Nat} {σ : Sg} (hts : θ.2.1.stackTraces = false) (hs : SgOk σ) {w K : Nat} (hp : 0 < σ.2.1) (ho : ord (hT σ.1) (σ.2.2.1 0) = true) (hw : w + 1 < nW (hT σ.1)) (hK : K ≤ 300000) (cont : ∀ (L : List Nat) (f : Nat → wE) (k n : Nat), k ≤ K → n ≤ 6 * k + 30000 → CS κ L f tt σ → k_G θ κ cL_law 16 (some .boolean) RL room_1 Q L f k n 527 [(6, .int (iI (w : Int))), (5, .int (iI (nW (hT σ.1) : Int))), (3, .int (iI 0)), (1, .ref tt)] []) : ∀ (j m : Nat) (bef : Int) (L : List Nat) (f : Nat → wE) (k n : Nat), min 4320 (pT (hT σ.1) (σ.2.2.1 0) (w + 1)) ≤ (m : Int) + (j : Int) → m ≤ 5000 → (pT (hT σ.1) (σ.2.2.1 0) w) ≤ (m : Int) → Inv2 (hT σ.1) (σ.2.2.1 0) w m bef → (-153000 ≤ bef ∧ bef ≤ 153000) → k + j ≤ K → n ≤ 6 * k + 30000 → CS κ L f tt σ → k_G θ κ cL_law 16 (some .boolean) RL room_1 Q L f k n 433 [(14, .int (iI (m : Int))), (13, .int (iI bef)), (12, .int (iI (pH (hT σ.1) (σ.2.2.1 0) (w + 1)))), (11, .int (iI (pH (hT σ.1) (σ.2.2.1 0) w))), (10, .int (iI (pT (hT σ.1) (σ.2.2.1 0) (w + 1)))), (9, .int (iI (pT (hT σ.1) (σ.2.2.1 0) w))), (6, .int (iI (w : Int))), (5, .int (iI (nW (hT σ.1) : Int))), (3, .int (iI 0)), (1, .ref tt)] [] := by
  intro j
  have hok : PtOk (σ.2.2.1 0) := hs.2.1.2 0 hp
  have hnn := nW_le (hT σ.1)
  have ht0 := pT_bd (h := hT σ.1) hok (show w < nW (hT σ.1) by omega)
  have ht1 := pT_bd (h := hT σ.1) hok hw
  have hq0 := pH_bd hok (fun t => hT_bd hs.1 t) w
  have hq1 := pH_bd hok (fun t => hT_bd hs.1 t) (w + 1)
  have hlt0 := ord_lt ho hw
  induction j with
  | zero =>
    intro m bef L f k n h1 h2 hfm hinv hbb hk hn hC
    refine k_iload 0 dL_law_433 rfl ?_
    refine k_sipush dL_law_435 (by decide) ?_
    refine k_iload 4 dL_law_438 rfl ?_
    refine k_min q_567 q_329 q_27 q_330 (inI_mk (by omega) (by omega)) (inI_mk (by omega) (by omega)) (Nat.le_of_ble_eq_true rfl) (Nat.le_of_ble_eq_true rfl) ⟨(by show _ ≤ 600086; omega), (by show _ ≤ 7301442; omega)⟩ dL_law_440 ?_
    refine k_icmp_ge 527 dL_law_443 (by decide) (inI_mk (by omega) (by omega)) (inI_mk (by omega) (by omega)) (fun h443 => ?_) (fun h443 => ?_)
    · refine k_perm [6, 7, 8, 9] [(6, .int (iI (w : Int))), (5, .int (iI (nW (hT σ.1) : Int))), (3, .int (iI 0)), (1, .ref tt)] rfl ?_
      exact cont _ _ _ _ (by omega) (by omega) hC
    · omega
  | succ j ih =>
    intro m bef L f k n h1 h2 hfm hinv hbb hk hn hC
    refine k_iload 0 dL_law_433 rfl ?_
    refine k_sipush dL_law_435 (by decide) ?_
    refine k_iload 4 dL_law_438 rfl ?_
    refine k_min q_567 q_329 q_27 q_330 (inI_mk (by omega) (by omega)) (inI_mk (by omega) (by omega)) (Nat.le_of_ble_eq_true rfl) (Nat.le_of_ble_eq_true rfl) ⟨(by show _ ≤ 600086; omega), (by show _ ≤ 7301442; omega)⟩ dL_law_440 ?_
    refine k_icmp_ge 527 dL_law_443 (by decide) (inI_mk (by omega) (by omega)) (inI_mk (by omega) (by omega)) (fun h443 => ?_) (fun h443 => ?_)
    · refine k_perm [6, 7, 8, 9] [(6, .int (iI (w : Int))), (5, .int (iI (nW (hT σ.1) : Int))), (3, .int (iI 0)), (1, .ref tt)] rfl ?_
      exact cont _ _ _ _ (by omega) (by omega) hC
    · have hlt : (m : Int) < (pT (hT σ.1) (σ.2.2.1 0) (w + 1)) := by omega
      have hbt := btw_in hok (fun t => hT_bd hs.1 t) hfm hlt
      refine k_aload_n 9 1 dL_law_446 rfl rfl ?_
      refine k_iload_n 8 3 dL_law_447 rfl rfl ?_
      refine k_iload 0 dL_law_448 rfl ?_
      refine a_portHeight w m hts hs hC hp ho hw hfm hlt (by omega) (by omega) (by omega) (by omega) (Nat.le_of_ble_eq_true rfl) dL_law_450 (fun L14 f14 hC => ?_)
      refine k_istore [(15, .int (iI (btw (hT σ.1) (σ.2.2.1 0) (w + 1) (m : Int)))), (14, .int (iI (m : Int))), (13, .int (iI bef)), (12, .int (iI (pH (hT σ.1) (σ.2.2.1 0) (w + 1)))), (11, .int (iI (pH (hT σ.1) (σ.2.2.1 0) w))), (10, .int (iI (pT (hT σ.1) (σ.2.2.1 0) (w + 1)))), (9, .int (iI (pT (hT σ.1) (σ.2.2.1 0) w))), (6, .int (iI (w : Int))), (5, .int (iI (nW (hT σ.1) : Int))), (3, .int (iI 0)), (1, .ref tt)] dL_law_453 (by decide) rfl ?_
      have J509 : k_G θ κ cL_law 16 (some .boolean) RL room_1 Q L14 f14 (k + 1) (n + 6) 509 [(15, .int (iI (btw (hT σ.1) (σ.2.2.1 0) (w + 1) (m : Int)))), (14, .int (iI (m : Int))), (13, .int (iI bef)), (12, .int (iI (pH (hT σ.1) (σ.2.2.1 0) (w + 1)))), (11, .int (iI (pH (hT σ.1) (σ.2.2.1 0) w))), (10, .int (iI (pT (hT σ.1) (σ.2.2.1 0) (w + 1)))), (9, .int (iI (pT (hT σ.1) (σ.2.2.1 0) w))), (6, .int (iI (w : Int))), (5, .int (iI (nW (hT σ.1) : Int))), (3, .int (iI 0)), (1, .ref tt)] [] := by
        refine k_iload 0 dL_law_509 rfl ?_
        refine k_istore [(13, .int (iI (btw (hT σ.1) (σ.2.2.1 0) (w + 1) (m : Int)))), (15, .int (iI (btw (hT σ.1) (σ.2.2.1 0) (w + 1) (m : Int)))), (14, .int (iI (m : Int))), (12, .int (iI (pH (hT σ.1) (σ.2.2.1 0) (w + 1)))), (11, .int (iI (pH (hT σ.1) (σ.2.2.1 0) w))), (10, .int (iI (pT (hT σ.1) (σ.2.2.1 0) (w + 1)))), (9, .int (iI (pT (hT σ.1) (σ.2.2.1 0) w))), (6, .int (iI (w : Int))), (5, .int (iI (nW (hT σ.1) : Int))), (3, .int (iI 0)), (1, .ref tt)] dL_law_511 (by decide) rfl ?_
        refine k_iload 2 dL_law_513 rfl ?_
        refine k_iconst dL_law_515 ?_
        refine k_iload 2 dL_law_516 rfl ?_
        refine k_iconst dL_law_518 ?_
        refine k_irem dL_law_519 (inI_mk (by omega) (by omega)) (inI_mk (by omega) (by omega)) (by omega) ?_
        refine k_iadd dL_law_520 ?_
        refine k_iadd dL_law_521 ?_
        have htm := tm_bd (a := (m : Int)) (p := 5) (by omega) (by omega)
        refine k_topi ((m + 1 + ((m : Int).tmod 5).toNat : Nat) : Int) (by omega) ?_
        refine k_istore [(14, .int (iI ((m + 1 + ((m : Int).tmod 5).toNat : Nat) : Int))), (13, .int (iI (btw (hT σ.1) (σ.2.2.1 0) (w + 1) (m : Int)))), (15, .int (iI (btw (hT σ.1) (σ.2.2.1 0) (w + 1) (m : Int)))), (12, .int (iI (pH (hT σ.1) (σ.2.2.1 0) (w + 1)))), (11, .int (iI (pH (hT σ.1) (σ.2.2.1 0) w))), (10, .int (iI (pT (hT σ.1) (σ.2.2.1 0) (w + 1)))), (9, .int (iI (pT (hT σ.1) (σ.2.2.1 0) w))), (6, .int (iI (w : Int))), (5, .int (iI (nW (hT σ.1) : Int))), (3, .int (iI 0)), (1, .ref tt)] dL_law_522 (by decide) rfl ?_
        refine k_goto 433 dL_law_524 (by decide) ?_
        refine k_perm [0, 1, 3, 4, 5, 6, 7, 8, 9, 10] [(14, .int (iI ((m + 1 + ((m : Int).tmod 5).toNat : Nat) : Int))), (13, .int (iI (btw (hT σ.1) (σ.2.2.1 0) (w + 1) (m : Int)))), (12, .int (iI (pH (hT σ.1) (σ.2.2.1 0) (w + 1)))), (11, .int (iI (pH (hT σ.1) (σ.2.2.1 0) w))), (10, .int (iI (pT (hT σ.1) (σ.2.2.1 0) (w + 1)))), (9, .int (iI (pT (hT σ.1) (σ.2.2.1 0) w))), (6, .int (iI (w : Int))), (5, .int (iI (nW (hT σ.1) : Int))), (3, .int (iI 0)), (1, .ref tt)] rfl ?_
        exact ih _ _ _ _ _ _ (by omega) (by omega) (by omega) (inv2_s hfm (by omega)) hbt (by omega) (by omega) hC
      have J469 : k_G θ κ cL_law 16 (some .boolean) RL room_1 Q L14 f14 (k + 1) (n + 6) 469 [(15, .int (iI (btw (hT σ.1) (σ.2.2.1 0) (w + 1) (m : Int)))), (14, .int (iI (m : Int))), (13, .int (iI bef)), (12, .int (iI (pH (hT σ.1) (σ.2.2.1 0) (w + 1)))), (11, .int (iI (pH (hT σ.1) (σ.2.2.1 0) w))), (10, .int (iI (pT (hT σ.1) (σ.2.2.1 0) (w + 1)))), (9, .int (iI (pT (hT σ.1) (σ.2.2.1 0) w))), (6, .int (iI (w : Int))), (5, .int (iI (nW (hT σ.1) : Int))), (3, .int (iI 0)), (1, .ref tt)] [] := by
        refine k_iload 4 dL_law_469 rfl ?_
        refine k_iload 3 dL_law_471 rfl ?_
        refine k_icmp_gt 493 dL_law_473 (by decide) (inI_mk (by omega) (by omega)) (inI_mk (by omega) (by omega)) (fun h473 => ?_) (fun h473 => ?_)
        · refine k_iload 0 dL_law_493 rfl ?_
          refine k_iload 2 dL_law_495 rfl ?_
          refine k_icmp_gt 507 dL_law_497 (by decide) (inI_mk (by omega) (by omega)) (inI_mk (by omega) (by omega)) (fun h497 => ?_) (fun h497 => ?_)
          · exact absurd ((hinv _ (Int.le_refl _) hlt).2 (Int.le_of_lt h473)) (Int.not_le.mpr h497)
          · refine k_iload 0 dL_law_500 rfl ?_
            refine k_iload 3 dL_law_502 rfl ?_
            refine k_icmp_ge 509 dL_law_504 (by decide) (inI_mk (by omega) (by omega)) (inI_mk (by omega) (by omega)) (fun h504 => ?_) (fun h504 => ?_)
            · exact J509
            · exact absurd (btw_dn hfm (Int.le_refl _) hlt (Int.le_of_lt h473)).2.2 (Int.not_le.mpr h504)
        · refine k_iload 0 dL_law_476 rfl ?_
          refine k_iload 2 dL_law_478 rfl ?_
          refine k_icmp_lt 507 dL_law_480 (by decide) (inI_mk (by omega) (by omega)) (inI_mk (by omega) (by omega)) (fun h480 => ?_) (fun h480 => ?_)
          · exact absurd ((hinv _ (Int.le_refl _) hlt).1 h473) (Int.not_le.mpr h480)
          · refine k_iload 0 dL_law_483 rfl ?_
            refine k_iload 3 dL_law_485 rfl ?_
            refine k_icmp_le 509 dL_law_487 (by decide) (inI_mk (by omega) (by omega)) (inI_mk (by omega) (by omega)) (fun h487 => ?_) (fun h487 => ?_)
            · exact J509
            · exact absurd (btw_up hfm (Int.le_refl _) hlt h473).2.2 (Int.not_le.mpr h487)
      refine k_iload 1 dL_law_455 rfl ?_
      refine k_iload 6 dL_law_457 rfl ?_
      refine k_icmp_ne 469 dL_law_459 (by decide) (inI_mk (by omega) (by omega)) (inI_mk (by omega) (by omega)) (fun h459 => ?_) (fun h459 => ?_)
      · exact J469
      · refine k_iload 0 dL_law_462 rfl ?_
        refine k_iload 4 dL_law_464 rfl ?_
        refine k_icmp_ne 507 dL_law_466 (by decide) (inI_mk (by omega) (by omega)) (inI_mk (by omega) (by omega)) (fun h466 => ?_) (fun h466 => ?_)
        · exact absurd (by rw [h459]; exact btw_0 hlt0) h466
        · exact J469
end
section
/-! ===== the law's own method: its loop over the waters ===== -/
def bU (h : Nat → Int) (q : Pt) (w : Nat) : Nat := if ord h q = true then (min 4320 (max 0 (pT h q w))).toNat else 0
/-- the room that w rounds take -/
def bud (h : Nat → Int) (q : Pt) (w : Nat) : Nat := 25 * w + 2 * tm h w + bU h q w
theorem bU_le (h : Nat → Int) (q : Pt) (w : Nat) : bU h q w ≤ 4320 := by
  unfold bU
  split
  · omega
  · exact Nat.zero_le _
theorem bud_le {h : Nat → Int} {q : Pt} {w : Nat} (hw : w ≤ 4320) : bud h q w ≤ 130000 := by
  have h1 := bU_le h q w
  have h2 := tm_le h w
  unfold bud
  omega
theorem bU_t {h : Nat → Int} {q : Pt} (ho : ord h q = true) (w : Nat) : bU h q w = (min 4320 (max 0 (pT h q w))).toNat := if_pos ho
theorem bU_f {h : Nat → Int} {q : Pt} (ho : ord h q = false) (w : Nat) : bU h q w = 0 := if_neg (by rw [ho]; decide)
theorem wat_ne {h : Nat → Int} {k : Nat} (hk : k + 1 < nW h) (e : h (tm h k) = h (tm h (k + 1))) : False := by
  cases ex : hi h k with
  | true =>
    have := (wat_hi hk ex).2.1
    omega
  | false =>
    have := (wat_lo hk ex).2.1
    omega
set_option maxHeartbeats 4000000 in
set_option maxRecDepth 100000 in
theorem law_147 {θ : Kt} {κ : Kx} {Q : State → Prop} {tt : Nat} {σ : Sg} (hts : θ.2.1.stackTraces = false) (hs : SgOk σ) (hend : LEnd θ κ Q) (hp : 0 < σ.2.1) : ∀ (j w : Nat) (L : List Nat) (f : Nat → wE) (k n : Nat), nW (hT σ.1) ≤ w + j → w ≤ nW (hT σ.1) → k ≤ 100 + bud (hT σ.1) (σ.2.2.1 0) w → n ≤ 6 * k + 30000 → CS κ L f tt σ → k_G θ κ cL_law 16 (some .boolean) RL room_1 Q L f k n 147 [(6, .int (iI (w : Int))), (5, .int (iI (nW (hT σ.1) : Int))), (3, .int (iI 0)), (1, .ref tt)] [] := by
  intro j
  have hnn := nW_le (hT σ.1)
  have hok : PtOk (σ.2.2.1 0) := hs.2.1.2 0 hp
  induction j with
  | zero =>
    intro w L f k n h1 h2 hk hn hC
    refine k_iload 0 dL_law_147 rfl ?_
    refine k_iconst dL_law_149 ?_
    refine k_iadd dL_law_150 ?_
    refine k_iload 1 dL_law_151 rfl ?_
    refine k_icmp_ge 533 dL_law_153 (by decide) (inI_mk (by omega) (by omega)) (inI_mk (by omega) (by omega)) (fun h153 => ?_) (fun h153 => ?_)
    · have hbd := bud_le (h := hT σ.1) (q := σ.2.2.1 0) (w := w) (by omega)
      exact law_533 hts hs hend (by omega) (by omega) hC
    · omega
  | succ j ih =>
    intro w L f k n h1 h2 hk hn hC
    refine k_iload 0 dL_law_147 rfl ?_
    refine k_iconst dL_law_149 ?_
    refine k_iadd dL_law_150 ?_
    refine k_iload 1 dL_law_151 rfl ?_
    refine k_icmp_ge 533 dL_law_153 (by decide) (inI_mk (by omega) (by omega)) (inI_mk (by omega) (by omega)) (fun h153 => ?_) (fun h153 => ?_)
    · have hbd := bud_le (h := hT σ.1) (q := σ.2.2.1 0) (w := w) (by omega)
      exact law_533 hts hs hend (by omega) (by omega) hC
    · have hw : w + 1 < nW (hT σ.1) := by omega
      have hb0 := hT_bd hs.1 (tm (hT σ.1) w)
      have hb1 := hT_bd hs.1 (tm (hT σ.1) (w + 1))
      have htn := (tm_next hw).1
      have ht0 := (tm_spec (h := hT σ.1) (k := w) (by omega)).1
      have ht1 := (tm_spec hw).1
      have halt := hi_alt hw
      have hbd := bud_le (h := hT σ.1) (q := σ.2.2.1 0) (w := w) (by omega)
      have hbd1 := bud_le (h := hT σ.1) (q := σ.2.2.1 0) (w := w + 1) (by omega)
      have hbu : bU (hT σ.1) (σ.2.2.1 0) w ≤ bU (hT σ.1) (σ.2.2.1 0) (w + 1) := by
        cases ho : ord (hT σ.1) (σ.2.2.1 0) with
        | true =>
          have e := ord_lt ho hw
          rw [bU_t ho, bU_t ho]
          omega
        | false =>
          rw [bU_f ho, bU_f ho]
          exact Nat.le_refl _
      have ebd : bud (hT σ.1) (σ.2.2.1 0) w = 25 * w + 2 * tm (hT σ.1) w + bU (hT σ.1) (σ.2.2.1 0) w := rfl
      have ebd1 : bud (hT σ.1) (σ.2.2.1 0) (w + 1) = 25 * (w + 1) + 2 * tm (hT σ.1) (w + 1) + bU (hT σ.1) (σ.2.2.1 0) (w + 1) := rfl
      have J527 : ∀ (L8 : List Nat) (f8 : Nat → wE) (k8 n8 : Nat), k8 ≤ 100 + bud (hT σ.1) (σ.2.2.1 0) (w + 1) → n8 ≤ 6 * k8 + 30000 → CS κ L8 f8 tt σ → k_G θ κ cL_law 16 (some .boolean) RL room_1 Q L8 f8 k8 n8 527 [(6, .int (iI (w : Int))), (5, .int (iI (nW (hT σ.1) : Int))), (3, .int (iI 0)), (1, .ref tt)] [] := by
        intro L8 f8 k8 n8 hk8 hn8 hC
        refine k_iinc 0 [(6, .int (iI ((w : Int) + 1))), (5, .int (iI (nW (hT σ.1) : Int))), (3, .int (iI 0)), (1, .ref tt)] dL_law_527 rfl (by decide) rfl ?_
        refine k_goto 147 dL_law_530 (by decide) ?_
        exact ih (w + 1) _ _ _ _ (by omega) (by omega) hk8 hn8 hC
      refine k_aload_n 3 1 dL_law_156 rfl rfl ?_
      refine k_iload 0 dL_law_157 rfl ?_
      refine k_iconst dL_law_159 ?_
      refine a_water2 w hts hs hC (by omega) (by omega) (by omega) (by omega) (Nat.le_of_ble_eq_true rfl) dL_law_160 (fun L15 f15 hC => ?_)
      have J172 : k_G θ κ cL_law 16 (some .boolean) RL room_1 Q L15 f15 (k + 1) (n + 6) 172 [(6, .int (iI (w : Int))), (5, .int (iI (nW (hT σ.1) : Int))), (3, .int (iI 0)), (1, .ref tt)] [.int (iI (bI (hi (hT σ.1) w)))] := by
        refine k_istore [(7, .int (iI (bI (hi (hT σ.1) w)))), (6, .int (iI (w : Int))), (5, .int (iI (nW (hT σ.1) : Int))), (3, .int (iI 0)), (1, .ref tt)] dL_law_172 (by decide) rfl ?_
        refine k_aload_n 4 1 dL_law_174 rfl rfl ?_
        refine k_iload 1 dL_law_175 rfl ?_
        refine k_iconst dL_law_177 ?_
        refine k_iadd dL_law_178 ?_
        refine k_iconst dL_law_179 ?_
        refine a_water2 (w + 1) hts hs hC (by omega) (by omega) (by omega) (by omega) (Nat.le_of_ble_eq_true rfl) dL_law_180 (fun L16 f16 hC => ?_)
        refine k_aload_n 4 1 dL_law_183 rfl rfl ?_
        refine k_iload 1 dL_law_184 rfl ?_
        refine k_iconst dL_law_186 ?_
        refine a_water2 w hts hs hC (by omega) (by omega) (by omega) (by omega) (Nat.le_of_ble_eq_true rfl) dL_law_187 (fun L17 f17 hC => ?_)
        refine k_icmp_eq 212 dL_law_190 (by decide) (bI_in _) (bI_in _) (fun h190 => ?_) (fun h190 => ?_)
        · exact absurd (halt.symm.trans (bI_inj h190)) (by cases hi (hT σ.1) w <;> decide)
        · refine k_aload_n 4 1 dL_law_193 rfl rfl ?_
          refine k_iload 1 dL_law_194 rfl ?_
          refine k_iconst dL_law_196 ?_
          refine k_iadd dL_law_197 ?_
          refine k_iconst dL_law_198 ?_
          refine a_water0 (w + 1) hts hs hC (by omega) (by omega) (by omega) (by omega) (Nat.le_of_ble_eq_true rfl) dL_law_199 (fun L18 f18 hC => ?_)
          refine k_aload_n 4 1 dL_law_202 rfl rfl ?_
          refine k_iload 1 dL_law_203 rfl ?_
          refine k_iconst dL_law_205 ?_
          refine a_water0 w hts hs hC (by omega) (by omega) (by omega) (by omega) (Nat.le_of_ble_eq_true rfl) dL_law_206 (fun L19 f19 hC => ?_)
          refine k_icmp_gt 214 dL_law_209 (by decide) (inI_mk (by omega) (by omega)) (inI_mk (by omega) (by omega)) (fun h209 => ?_) (fun h209 => ?_)
          · refine k_aload_n 4 1 dL_law_214 rfl rfl ?_
            refine k_iload 1 dL_law_215 rfl ?_
            refine k_iconst dL_law_217 ?_
            refine a_water1 w hts hs hC (by omega) (by omega) (by omega) (by omega) (Nat.le_of_ble_eq_true rfl) dL_law_218 (fun L20 f20 hC => ?_)
            refine k_istore [(8, .int (iI (hT σ.1 (tm (hT σ.1) w)))), (7, .int (iI (bI (hi (hT σ.1) w)))), (6, .int (iI (w : Int))), (5, .int (iI (nW (hT σ.1) : Int))), (3, .int (iI 0)), (1, .ref tt)] dL_law_221 (by decide) rfl ?_
            refine k_aload_n 5 1 dL_law_223 rfl rfl ?_
            refine k_iload 2 dL_law_224 rfl ?_
            refine k_iconst dL_law_226 ?_
            refine a_water0 w hts hs hC (by omega) (by omega) (by omega) (by omega) (Nat.le_of_ble_eq_true rfl) dL_law_227 (fun L21 f21 hC => ?_)
            refine k_istore [(9, .int (iI (tm (hT σ.1) w : Int))), (8, .int (iI (hT σ.1 (tm (hT σ.1) w)))), (7, .int (iI (bI (hi (hT σ.1) w)))), (6, .int (iI (w : Int))), (5, .int (iI (nW (hT σ.1) : Int))), (3, .int (iI 0)), (1, .ref tt)] dL_law_230 (by decide) rfl ?_
            refine law_232 hts hs (K := ((((((((k + 1) + 1) + 1) + 1) + 1) + 1) + 1) + 2 * (tm (hT σ.1) (w + 1) + 1 - tm (hT σ.1) w) + 1)) hw (by omega) (fun L9 f9 k9 n9 hk9 hn9 hC => ?_) (tm (hT σ.1) (w + 1) + 1 - tm (hT σ.1) w) _ _ _ _ _ _ (by omega) (Nat.le_refl _) (by omega) (Or.inl ⟨rfl, rfl⟩) (Nat.le_refl _) (by omega) hC
            refine k_iload 0 dL_law_288 rfl ?_
            refine k_aload_n 5 1 dL_law_290 rfl rfl ?_
            refine k_iload 2 dL_law_291 rfl ?_
            refine k_iconst dL_law_293 ?_
            refine k_iadd dL_law_294 ?_
            refine k_iconst dL_law_295 ?_
            refine a_water1 (w + 1) hts hs hC (by omega) (by omega) (by omega) (by omega) (Nat.le_of_ble_eq_true rfl) dL_law_296 (fun L22 f22 hC => ?_)
            refine k_icmp_ne 314 dL_law_299 (by decide) (inI_mk (by omega) (by omega)) (inI_mk (by omega) (by omega)) (fun h299 => ?_) (fun h299 => ?_)
            · exact absurd rfl h299
            · refine k_aload_n 5 1 dL_law_302 rfl rfl ?_
              refine k_iload 2 dL_law_303 rfl ?_
              refine k_iconst dL_law_305 ?_
              refine a_water1 w hts hs hC (by omega) (by omega) (by omega) (by omega) (Nat.le_of_ble_eq_true rfl) dL_law_306 (fun L23 f23 hC => ?_)
              refine k_iload 0 dL_law_309 rfl ?_
              refine k_icmp_ne 316 dL_law_311 (by decide) (inI_mk (by omega) (by omega)) (inI_mk (by omega) (by omega)) (fun h311 => ?_) (fun h311 => ?_)
              · refine k_aload_n 5 1 dL_law_316 rfl rfl ?_
                refine k_aload_n 5 1 dL_law_317 rfl rfl ?_
                refine k_iload 2 dL_law_318 rfl ?_
                refine k_iconst dL_law_320 ?_
                refine a_water0 w hts hs hC (by omega) (by omega) (by omega) (by omega) (Nat.le_of_ble_eq_true rfl) dL_law_321 (fun L24 f24 hC => ?_)
                refine k_iload 1 dL_law_324 rfl ?_
                refine a_next (b := (hi (hT σ.1) w)) (tm (hT σ.1) w) hts hs hC (by omega) (by omega) (by omega) (by omega) (Nat.le_of_ble_eq_true rfl) dL_law_326 (fun L25 f25 hC => ?_)
                refine k_topi (w : Int) (next_same (by omega)) ?_
                refine k_iload 2 dL_law_329 rfl ?_
                refine k_icmp_ne 364 dL_law_331 (by decide) (inI_mk (by omega) (by omega)) (inI_mk (by omega) (by omega)) (fun h331 => ?_) (fun h331 => ?_)
                · exact absurd rfl h331
                · refine k_aload_n 5 1 dL_law_334 rfl rfl ?_
                  refine k_aload_n 5 1 dL_law_335 rfl rfl ?_
                  refine k_iload 2 dL_law_336 rfl ?_
                  refine k_iconst dL_law_338 ?_
                  refine a_water0 w hts hs hC (by omega) (by omega) (by omega) (by omega) (Nat.le_of_ble_eq_true rfl) dL_law_339 (fun L26 f26 hC => ?_)
                  refine k_iconst dL_law_342 ?_
                  refine k_iadd dL_law_343 ?_
                  refine k_iload 1 dL_law_344 rfl ?_
                  have J354 : k_G θ κ cL_law 16 (some .boolean) RL room_1 Q L26 f26 (((((k9 + 1) + 1) + 1) + 1) + 1) (((((n9 + 6) + 6) + 6) + 6) + 6) 354 [(8, .int (iI (hT σ.1 (tm (hT σ.1) (w + 1))))), (7, .int (iI (bI (hi (hT σ.1) w)))), (6, .int (iI (w : Int))), (5, .int (iI (nW (hT σ.1) : Int))), (3, .int (iI 0)), (1, .ref tt)] [.int (iI (bI (!(hi (hT σ.1) w)))), .int (iI ((tm (hT σ.1) w : Int) + 1)), .ref tt] := by
                    refine a_next (b := (!(hi (hT σ.1) w))) (tm (hT σ.1) w + 1) hts hs hC (by omega) (by omega) (by omega) (by omega) (Nat.le_of_ble_eq_true rfl) dL_law_354 (fun L27 f27 hC => ?_)
                    refine k_topi ((w + 1 : Nat) : Int) (next_other hw) ?_
                    refine k_iload 2 dL_law_357 rfl ?_
                    refine k_iconst dL_law_359 ?_
                    refine k_iadd dL_law_360 ?_
                    refine k_icmp_eq 366 dL_law_361 (by decide) (inI_mk (by omega) (by omega)) (inI_mk (by omega) (by omega)) (fun h361 => ?_) (fun h361 => ?_)
                    · refine k_aload_n 5 1 dL_law_366 rfl rfl ?_
                      refine k_iload_n 4 3 dL_law_367 rfl rfl ?_
                      refine a_isInOrder  hts hs hC hp (by omega) (by omega) (Nat.le_of_ble_eq_true rfl) dL_law_368 (fun L28 f28 hC => ?_)
                      refine k_ifb_ne 377 dL_law_371 (by decide) (fun h371 => ?_) (fun h371 => ?_)
                      · have ho : ord (hT σ.1) (σ.2.2.1 0) = true := h371
                        have hlt0 := ord_lt ho hw
                        have hq0 := pH_bd hok (fun t => hT_bd hs.1 t) w
                        have hq1 := pH_bd hok (fun t => hT_bd hs.1 t) (w + 1)
                        have hp0 := pT_bd (h := hT σ.1) hok (show w < nW (hT σ.1) by omega)
                        have hp1 := pT_bd (h := hT σ.1) hok hw
                        have hu0 := bU_t ho w
                        have hu1 := bU_t ho (w + 1)
                        refine k_aload_n 5 1 dL_law_377 rfl rfl ?_
                        refine k_iload_n 4 3 dL_law_378 rfl rfl ?_
                        refine k_iload 2 dL_law_379 rfl ?_
                        refine k_iconst dL_law_381 ?_
                        refine a_portWater1 w hts hs hC hp (by omega) (by omega) (by omega) (by omega) (Nat.le_of_ble_eq_true rfl) dL_law_382 (fun L29 f29 hC => ?_)
                        refine k_istore [(9, .int (iI (pT (hT σ.1) (σ.2.2.1 0) w))), (8, .int (iI (hT σ.1 (tm (hT σ.1) (w + 1))))), (7, .int (iI (bI (hi (hT σ.1) w)))), (6, .int (iI (w : Int))), (5, .int (iI (nW (hT σ.1) : Int))), (3, .int (iI 0)), (1, .ref tt)] dL_law_385 (by decide) rfl ?_
                        refine k_aload_n 6 1 dL_law_387 rfl rfl ?_
                        refine k_iload_n 5 3 dL_law_388 rfl rfl ?_
                        refine k_iload 3 dL_law_389 rfl ?_
                        refine k_iconst dL_law_391 ?_
                        refine k_iadd dL_law_392 ?_
                        refine k_iconst dL_law_393 ?_
                        refine a_portWater1 (w + 1) hts hs hC hp (by omega) (by omega) (by omega) (by omega) (Nat.le_of_ble_eq_true rfl) dL_law_394 (fun L30 f30 hC => ?_)
                        refine k_istore [(10, .int (iI (pT (hT σ.1) (σ.2.2.1 0) (w + 1)))), (9, .int (iI (pT (hT σ.1) (σ.2.2.1 0) w))), (8, .int (iI (hT σ.1 (tm (hT σ.1) (w + 1))))), (7, .int (iI (bI (hi (hT σ.1) w)))), (6, .int (iI (w : Int))), (5, .int (iI (nW (hT σ.1) : Int))), (3, .int (iI 0)), (1, .ref tt)] dL_law_397 (by decide) rfl ?_
                        refine k_aload_n 7 1 dL_law_399 rfl rfl ?_
                        refine k_iload_n 6 3 dL_law_400 rfl rfl ?_
                        refine k_iload 4 dL_law_401 rfl ?_
                        refine k_iconst dL_law_403 ?_
                        refine a_portWater0 w hts hs hC hp (by omega) (by omega) (by omega) (by omega) (Nat.le_of_ble_eq_true rfl) dL_law_404 (fun L31 f31 hC => ?_)
                        refine k_istore [(11, .int (iI (pH (hT σ.1) (σ.2.2.1 0) w))), (10, .int (iI (pT (hT σ.1) (σ.2.2.1 0) (w + 1)))), (9, .int (iI (pT (hT σ.1) (σ.2.2.1 0) w))), (8, .int (iI (hT σ.1 (tm (hT σ.1) (w + 1))))), (7, .int (iI (bI (hi (hT σ.1) w)))), (6, .int (iI (w : Int))), (5, .int (iI (nW (hT σ.1) : Int))), (3, .int (iI 0)), (1, .ref tt)] dL_law_407 (by decide) rfl ?_
                        refine k_aload_n 8 1 dL_law_409 rfl rfl ?_
                        refine k_iload_n 7 3 dL_law_410 rfl rfl ?_
                        refine k_iload 5 dL_law_411 rfl ?_
                        refine k_iconst dL_law_413 ?_
                        refine k_iadd dL_law_414 ?_
                        refine k_iconst dL_law_415 ?_
                        refine a_portWater0 (w + 1) hts hs hC hp (by omega) (by omega) (by omega) (by omega) (Nat.le_of_ble_eq_true rfl) dL_law_416 (fun L32 f32 hC => ?_)
                        refine k_istore [(12, .int (iI (pH (hT σ.1) (σ.2.2.1 0) (w + 1)))), (11, .int (iI (pH (hT σ.1) (σ.2.2.1 0) w))), (10, .int (iI (pT (hT σ.1) (σ.2.2.1 0) (w + 1)))), (9, .int (iI (pT (hT σ.1) (σ.2.2.1 0) w))), (8, .int (iI (hT σ.1 (tm (hT σ.1) (w + 1))))), (7, .int (iI (bI (hi (hT σ.1) w)))), (6, .int (iI (w : Int))), (5, .int (iI (nW (hT σ.1) : Int))), (3, .int (iI 0)), (1, .ref tt)] dL_law_419 (by decide) rfl ?_
                        refine k_iload 1 dL_law_421 rfl ?_
                        refine k_istore [(13, .int (iI (pH (hT σ.1) (σ.2.2.1 0) w))), (12, .int (iI (pH (hT σ.1) (σ.2.2.1 0) (w + 1)))), (11, .int (iI (pH (hT σ.1) (σ.2.2.1 0) w))), (10, .int (iI (pT (hT σ.1) (σ.2.2.1 0) (w + 1)))), (9, .int (iI (pT (hT σ.1) (σ.2.2.1 0) w))), (8, .int (iI (hT σ.1 (tm (hT σ.1) (w + 1))))), (7, .int (iI (bI (hi (hT σ.1) w)))), (6, .int (iI (w : Int))), (5, .int (iI (nW (hT σ.1) : Int))), (3, .int (iI 0)), (1, .ref tt)] dL_law_423 (by decide) rfl ?_
                        refine k_iconst dL_law_425 ?_
                        refine k_iload 4 dL_law_426 rfl ?_
                        refine k_max q_566 q_322 q_27 q_323 (inI_mk (by omega) (by omega)) (inI_mk (by omega) (by omega)) (Nat.le_of_ble_eq_true rfl) (Nat.le_of_ble_eq_true rfl) ⟨(by show _ ≤ 600086; omega), (by show _ ≤ 7301442; omega)⟩ dL_law_428 ?_
                        refine k_topi ((max 0 (pT (hT σ.1) (σ.2.2.1 0) w)).toNat : Int) (by omega) ?_
                        refine k_istore [(14, .int (iI ((max 0 (pT (hT σ.1) (σ.2.2.1 0) w)).toNat : Int))), (13, .int (iI (pH (hT σ.1) (σ.2.2.1 0) w))), (12, .int (iI (pH (hT σ.1) (σ.2.2.1 0) (w + 1)))), (11, .int (iI (pH (hT σ.1) (σ.2.2.1 0) w))), (10, .int (iI (pT (hT σ.1) (σ.2.2.1 0) (w + 1)))), (9, .int (iI (pT (hT σ.1) (σ.2.2.1 0) w))), (8, .int (iI (hT σ.1 (tm (hT σ.1) (w + 1))))), (7, .int (iI (bI (hi (hT σ.1) w)))), (6, .int (iI (w : Int))), (5, .int (iI (nW (hT σ.1) : Int))), (3, .int (iI 0)), (1, .ref tt)] dL_law_431 (by decide) rfl ?_
                        refine k_perm [0, 1, 2, 3, 4, 5, 8, 9, 10, 11] [(14, .int (iI ((max 0 (pT (hT σ.1) (σ.2.2.1 0) w)).toNat : Int))), (13, .int (iI (pH (hT σ.1) (σ.2.2.1 0) w))), (12, .int (iI (pH (hT σ.1) (σ.2.2.1 0) (w + 1)))), (11, .int (iI (pH (hT σ.1) (σ.2.2.1 0) w))), (10, .int (iI (pT (hT σ.1) (σ.2.2.1 0) (w + 1)))), (9, .int (iI (pT (hT σ.1) (σ.2.2.1 0) w))), (6, .int (iI (w : Int))), (5, .int (iI (nW (hT σ.1) : Int))), (3, .int (iI 0)), (1, .ref tt)] rfl ?_
                        exact law_433 hts hs (K := (((((((((((k9 + 1) + 1) + 1) + 1) + 1) + 1) + 1) + 1) + 1) + 1) + 1) + (bU (hT σ.1) (σ.2.2.1 0) (w + 1) - bU (hT σ.1) (σ.2.2.1 0) w)) hp ho hw (by omega) (fun L7 f7 k7 n7 hk7 hn7 hC => J527 _ _ _ _ (by omega) (by omega) hC) (bU (hT σ.1) (σ.2.2.1 0) (w + 1) - bU (hT σ.1) (σ.2.2.1 0) w) _ _ _ _ _ _ (by omega) (by omega) (by omega) (inv2_0 (by omega)) hq0 (Nat.le_refl _) (by omega) hC
                      · refine k_goto 527 dL_law_374 (by decide) ?_
                        refine k_perm [2, 3, 4, 5] [(6, .int (iI (w : Int))), (5, .int (iI (nW (hT σ.1) : Int))), (3, .int (iI 0)), (1, .ref tt)] rfl ?_
                        exact J527 _ _ _ _ (by omega) (by omega) hC
                    · omega
                  refine k_ifb_ne 353 dL_law_346 (by decide) (fun h346 => ?_) (fun h346 => ?_)
                  · refine k_iconst dL_law_353 ?_
                    refine k_topi (bI (!(hi (hT σ.1) w))) (bI_not0 _ h346) ?_
                    exact J354
                  · refine k_iconst dL_law_349 ?_
                    refine k_goto 354 dL_law_350 (by decide) ?_
                    refine k_topi (bI (!(hi (hT σ.1) w))) (bI_not _ h346) ?_
                    exact J354
              · exact (wat_ne hw h311).elim
          · omega
      refine k_iconst dL_law_163 ?_
      refine k_icmp_ne 171 dL_law_164 (by decide) (bI_in _) (inI_mk (by omega) (by omega)) (fun h164 => ?_) (fun h164 => ?_)
      · refine k_iconst dL_law_171 ?_
        refine k_topi (bI (hi (hT σ.1) w)) (bI_ne1 h164) ?_
        exact J172
      · refine k_iconst dL_law_167 ?_
        refine k_goto 172 dL_law_168 (by decide) ?_
        refine k_topi (bI (hi (hT σ.1) w)) h164.symm ?_
        exact J172
end
section
/-! ===== the law, from its entry to its loop ===== -/
set_option maxHeartbeats 4000000 in
set_option maxRecDepth 100000 in
theorem law_18 {θ : Kt} {κ : Kx} {Q : State → Prop} {tt : Nat} {σ : Sg} (hts : θ.2.1.stackTraces = false) (hs : SgOk σ) (hend : LEnd θ κ Q) {L : List Nat} {f : Nat → wE} {k n : Nat} {mn : Int} (hp0 : σ.2.1 = 0) (hk : k ≤ 60) (hn : n ≤ 20000) (hmn : 0 ≤ mn ∧ mn ≤ 3) (hC : CS κ L f tt σ) : k_G θ κ cL_law 16 (some .boolean) RL room_1 Q L f k n 18 [(1, .ref tt), (0, .ref (κ.2.2.2 2))] [.int (iI mn)] := by
  refine k_istore_n 2 [(2, .int (iI mn)), (1, .ref tt), (0, .ref (κ.2.2.2 2))] dL_law_18 rfl (by decide) rfl ?_
  refine k_iload_n 0 2 dL_law_19 rfl rfl ?_
  refine k_if_ge 25 dL_law_20 (by decide) (inI_mk (by omega) (by omega)) (fun h20 => ?_) (fun h20 => ?_)
  · refine k_aload_n 1 1 dL_law_25 rfl rfl ?_
    refine a_addPort hts hs hC hp0 (by omega) (by omega) (Nat.le_of_ble_eq_true rfl) dL_law_26 (fun L33 f33 σ2 hC hs2 hp2 => ?_)
    refine k_istore_n 3 [(3, .int (iI 0)), (2, .int (iI mn)), (1, .ref tt), (0, .ref (κ.2.2.2 2))] dL_law_29 rfl (by decide) rfl ?_
    refine k_aload_n 3 0 dL_law_30 rfl rfl ?_
    refine k_iconst dL_law_31 ?_
    refine k_useP (k_runS (c_L_cell θ.2.1 κ (z := 5) ⟨by omega, by omega⟩) w_L_9 q_533 rfl rfl ⟨(Nat.le_of_ble_eq_true rfl), (Nat.le_of_ble_eq_true rfl)⟩ (Nat.le_of_ble_eq_true rfl) dL_law_32) ⟨(by show _ ≤ 600086; omega), (by show _ ≤ 7301442; omega)⟩ (fun z34 hz34 => ?_)
    refine k_sipush dL_law_35 (by decide) ?_
    refine k_useP (k_runS (c_L_below θ.2.1 κ (x := z34) (m := 601) ⟨by omega, by omega⟩) w_L_15 q_529 rfl rfl ⟨(Nat.le_of_ble_eq_true rfl), (Nat.le_of_ble_eq_true rfl)⟩ (Nat.le_of_ble_eq_true rfl) dL_law_38) ⟨(by show _ ≤ 600086; omega), (by show _ ≤ 7301442; omega)⟩ (fun z35 hz35 => ?_)
    refine k_sipush dL_law_41 (by decide) ?_
    refine k_isub dL_law_44 ?_
    obtain ⟨sh, hsh⟩ : ∃ sh : Int, sh = (z35 - 300) := ⟨_, rfl⟩
    refine k_topi sh hsh.symm ?_
    refine k_istore [(4, .int (iI sh)), (3, .int (iI 0)), (2, .int (iI mn)), (1, .ref tt), (0, .ref (κ.2.2.2 2))] dL_law_45 (by decide) rfl ?_
    refine k_aload_n 3 1 dL_law_47 rfl rfl ?_
    refine k_iload_n 1 3 dL_law_48 rfl rfl ?_
    refine k_iconst dL_law_49 ?_
    refine k_iload 0 dL_law_50 rfl ?_
    refine k_iconst dL_law_52 ?_
    refine k_aload_n 4 0 dL_law_53 rfl rfl ?_
    refine k_bipush dL_law_54 (by decide) ?_
    refine k_useP (k_runS (c_L_cell θ.2.1 κ (z := 6) ⟨by omega, by omega⟩) w_L_9 q_533 rfl rfl ⟨(Nat.le_of_ble_eq_true rfl), (Nat.le_of_ble_eq_true rfl)⟩ (Nat.le_of_ble_eq_true rfl) dL_law_56) ⟨(by show _ ≤ 600086; omega), (by show _ ≤ 7301442; omega)⟩ (fun z36 hz36 => ?_)
    refine k_sipush dL_law_59 (by decide) ?_
    refine k_useP (k_runS (c_L_below θ.2.1 κ (x := z36) (m := 300) ⟨by omega, by omega⟩) w_L_15 q_529 rfl rfl ⟨(Nat.le_of_ble_eq_true rfl), (Nat.le_of_ble_eq_true rfl)⟩ (Nat.le_of_ble_eq_true rfl) dL_law_62) ⟨(by show _ ≤ 600086; omega), (by show _ ≤ 7301442; omega)⟩ (fun z37 hz37 => ?_)
    refine k_iadd dL_law_65 ?_
    refine a_setPort (b := true) hts hs2 hC hp2 ⟨by omega, by omega⟩ ⟨by omega, by omega⟩ (by omega) (by omega) (Nat.le_of_ble_eq_true rfl) dL_law_66 (fun L38 f38 σ3 v3 hC hs3 hp3 => ?_)
    refine k_pop dL_law_69 rfl ?_
    refine k_aload_n 3 1 dL_law_70 rfl rfl ?_
    refine k_iload_n 1 3 dL_law_71 rfl rfl ?_
    refine k_iconst dL_law_72 ?_
    refine k_iload 0 dL_law_73 rfl ?_
    refine k_iload 0 dL_law_75 rfl ?_
    refine k_sipush dL_law_77 (by decide) ?_
    have J98 : ∀ ls9 : Int, 0 ≤ ls9 → -300 ≤ sh + ls9 ∧ sh + ls9 ≤ 300 → k_G θ κ cL_law 16 (some .boolean) RL room_1 Q L38 f38 ((k + 4) + 1) ((n + 67) + 6) 98 [(4, .int (iI sh)), (3, .int (iI 0)), (2, .int (iI mn)), (1, .ref tt), (0, .ref (κ.2.2.2 2))] [.int (iI ls9), .int (iI sh), .int (iI 0), .int (iI 0), .ref tt] := by
      intro ls9 hl1 hl2
      refine k_iadd dL_law_98 ?_
      refine k_aload_n 4 0 dL_law_99 rfl rfl ?_
      refine k_bipush dL_law_100 (by decide) ?_
      refine k_useP (k_runS (c_L_cell θ.2.1 κ (z := 8) ⟨by omega, by omega⟩) w_L_9 q_533 rfl rfl ⟨(Nat.le_of_ble_eq_true rfl), (Nat.le_of_ble_eq_true rfl)⟩ (Nat.le_of_ble_eq_true rfl) dL_law_102) ⟨(by show _ ≤ 600086; omega), (by show _ ≤ 7301442; omega)⟩ (fun z39 hz39 => ?_)
      refine k_sipush dL_law_105 (by decide) ?_
      refine k_useP (k_runS (c_L_below θ.2.1 κ (x := z39) (m := 301) ⟨by omega, by omega⟩) w_L_15 q_529 rfl rfl ⟨(Nat.le_of_ble_eq_true rfl), (Nat.le_of_ble_eq_true rfl)⟩ (Nat.le_of_ble_eq_true rfl) dL_law_108) ⟨(by show _ ≤ 600086; omega), (by show _ ≤ 7301442; omega)⟩ (fun z40 hz40 => ?_)
      refine a_setPort (b := false) hts hs3 hC hp3 ⟨by omega, by omega⟩ ⟨by omega, by omega⟩ (by omega) (by omega) (Nat.le_of_ble_eq_true rfl) dL_law_111 (fun L41 f41 σ4 v4 hC hs4 hp4 => ?_)
      refine k_pop dL_law_114 rfl ?_
      refine k_aload_n 3 1 dL_law_115 rfl rfl ?_
      refine k_iload_n 1 3 dL_law_116 rfl rfl ?_
      refine k_aload_n 4 0 dL_law_117 rfl rfl ?_
      refine k_bipush dL_law_118 (by decide) ?_
      refine k_useP (k_runS (c_L_cell θ.2.1 κ (z := 9) ⟨by omega, by omega⟩) w_L_9 q_533 rfl rfl ⟨(Nat.le_of_ble_eq_true rfl), (Nat.le_of_ble_eq_true rfl)⟩ (Nat.le_of_ble_eq_true rfl) dL_law_120) ⟨(by show _ ≤ 600086; omega), (by show _ ≤ 7301442; omega)⟩ (fun z42 hz42 => ?_)
      refine k_sipush dL_law_123 (by decide) ?_
      refine k_useP (k_runS (c_L_below θ.2.1 κ (x := z42) (m := 6001) ⟨by omega, by omega⟩) w_L_15 q_529 rfl rfl ⟨(Nat.le_of_ble_eq_true rfl), (Nat.le_of_ble_eq_true rfl)⟩ (Nat.le_of_ble_eq_true rfl) dL_law_126) ⟨(by show _ ≤ 600086; omega), (by show _ ≤ 7301442; omega)⟩ (fun z43 hz43 => ?_)
      refine k_sipush dL_law_129 (by decide) ?_
      refine k_isub dL_law_132 ?_
      refine a_setAdd hts hs4 hC hp4 ⟨by omega, by omega⟩ (by omega) (by omega) (Nat.le_of_ble_eq_true rfl) dL_law_133 (fun L44 f44 σ5 v5 hC hs5 hp5 => ?_)
      refine k_pop dL_law_136 rfl ?_
      refine k_aload_n 3 1 dL_law_137 rfl rfl ?_
      refine k_iconst dL_law_138 ?_
      refine a_count hts hs5 hC (by omega) (by omega) (Nat.le_of_ble_eq_true rfl) dL_law_139 (fun L45 f45 hC => ?_)
      refine k_istore [(5, .int (iI (nW (hT σ5.1) : Int))), (4, .int (iI sh)), (3, .int (iI 0)), (2, .int (iI mn)), (1, .ref tt), (0, .ref (κ.2.2.2 2))] dL_law_142 (by decide) rfl ?_
      refine k_iconst dL_law_144 ?_
      refine k_istore [(6, .int (iI 0)), (5, .int (iI (nW (hT σ5.1) : Int))), (4, .int (iI sh)), (3, .int (iI 0)), (2, .int (iI mn)), (1, .ref tt), (0, .ref (κ.2.2.2 2))] dL_law_145 (by decide) rfl ?_
      refine k_perm [0, 1, 3, 5] [(6, .int (iI 0)), (5, .int (iI (nW (hT σ5.1) : Int))), (3, .int (iI 0)), (1, .ref tt)] rfl ?_
      exact law_147 hts hs5 hend (by omega) (nW (hT σ5.1)) 0 _ _ _ _ (by omega) (Nat.zero_le _) (by omega) (by omega) hC
    refine k_icmp_ge 97 dL_law_80 (by decide) (inI_mk (by omega) (by omega)) (inI_mk (by omega) (by omega)) (fun h80 => ?_) (fun h80 => ?_)
    · refine k_iconst dL_law_97 ?_
      exact J98 _ (by omega) (by omega)
    · refine k_aload_n 4 0 dL_law_83 rfl rfl ?_
      refine k_bipush dL_law_84 (by decide) ?_
      refine k_useP (k_runS (c_L_cell θ.2.1 κ (z := 7) ⟨by omega, by omega⟩) w_L_9 q_533 rfl rfl ⟨(Nat.le_of_ble_eq_true rfl), (Nat.le_of_ble_eq_true rfl)⟩ (Nat.le_of_ble_eq_true rfl) dL_law_86) ⟨(by show _ ≤ 600086; omega), (by show _ ≤ 7301442; omega)⟩ (fun z46 hz46 => ?_)
      refine k_bipush dL_law_89 (by decide) ?_
      refine k_useP (k_runS (c_L_below θ.2.1 κ (x := z46) (m := 9) ⟨by omega, by omega⟩) w_L_15 q_529 rfl rfl ⟨(Nat.le_of_ble_eq_true rfl), (Nat.le_of_ble_eq_true rfl)⟩ (Nat.le_of_ble_eq_true rfl) dL_law_91) ⟨(by show _ ≤ 600086; omega), (by show _ ≤ 7301442; omega)⟩ (fun z47 hz47 => ?_)
      refine k_goto 98 dL_law_94 (by decide) ?_
      exact J98 _ (by omega) (by omega)
  · omega
set_option maxHeartbeats 4000000 in
set_option maxRecDepth 100000 in
theorem law_from0 {θ : Kt} {κ : Kx} {Q : State → Prop} (hts : θ.2.1.stackTraces = false) (hend : LEnd θ κ Q) : k_G θ κ cL_law 16 (some .boolean) RL room_1 Q [] (fun _ => (0, .inr (0, []))) 0 0 0 [(0, .ref (κ.2.2.2 2))] [] := by
  refine k_new (ci := 8) 1 [.null, .null, .null, .null, .int (iI (bI false))] i_X7 tyX7_ok q_36 q_37 q_14 rfl dv_X7 (Nat.le_of_ble_eq_true rfl) (Nat.le_of_ble_eq_true rfl) dL_law_0 (fun tt L1 f1 hz1 hn1 ct => ?_)
  refine k_dup dL_law_3 rfl ?_
  refine k_useU (k_runI (c_X7_init θ.2.1 κ ct) w_L_41 q_39 rfl rfl rfl ⟨(Nat.le_of_ble_eq_true rfl), (Nat.le_of_ble_eq_true rfl)⟩ (Nat.le_of_ble_eq_true rfl) dL_law_4) ⟨(Nat.le_of_ble_eq_true rfl), (Nat.le_of_ble_eq_true rfl)⟩ (fun L2 f2 hw => ?_)
  obtain ⟨hC, hr2⟩ := hw
  refine k_astore_n 1 [(1, .ref tt), (0, .ref (κ.2.2.2 2))] dL_law_7 rfl (by decide) rfl ?_
  refine k_aload_n 0 1 dL_law_8 rfl rfl ?_
  refine k_aload_n 1 0 dL_law_9 rfl rfl ?_
  refine k_iconst dL_law_10 ?_
  refine k_bipush dL_law_11 (by decide) ?_
  refine k_newai 31 9 q_108 rfl (by omega) (Nat.le_of_ble_eq_true rfl) (Nat.le_of_ble_eq_true rfl) dL_law_13 (fun ww L3 f3 hz3 hn3 cw => ?_)
  replace hC := hC.fr (k_fr.new hz3) rfl
  refine k_useV (k_runS (c_L_waves θ.2.1 κ (A := fun _ => 0) hts sg0_ok rfl rfl hC cw) w_L_42 q_537 rfl rfl ⟨(Nat.le_of_ble_eq_true rfl), (Nat.le_of_ble_eq_true rfl)⟩ (Nat.le_of_ble_eq_true rfl) dL_law_15) ⟨(Nat.le_of_ble_eq_true rfl), (Nat.le_of_ble_eq_true rfl)⟩ (fun w L4 f4 hw => ?_)
  obtain ⟨mn, σ, rfl, hmn, hC, hs, hp0⟩ := hw
  exact law_18 hts hs hend hp0 (Nat.le_of_ble_eq_true rfl) (Nat.le_of_ble_eq_true rfl) hmn hC
end
section
/-! ===== the world at the start ===== -/
def st_ad (t0 t1 t2 t3 t4 t5 : Nat) (g : Nat → Nat) : Nat → Nat
  | 0 => t0
  | 1 => t1
  | 2 => t2
  | 3 => t3
  | 4 => t4
  | 5 => t5
  | j + 6 => g (j - 4)
def st_cl (c0 c1 c2 c3 : ClassId) : Nat → ClassId
  | 0 => c0
  | 1 => c1
  | 2 => c2
  | _ => c3
theorem st_ad_g {t0 t1 t2 t3 t4 t5 : Nat} {g : Nat → Nat} (i : Nat) : st_ad t0 t1 t2 t3 t4 t5 g (10 + i) = g i := by
  rw [Nat.add_comm]
  show g (i + 4 - 4) = g i
  rw [Nat.add_sub_cancel]
theorem st_arr {args : Array Value} {s : State} {A : Nat → Prop} (C nm : String) (l : List Int) (h1 : (Cond.laysStatic C nm "[I").before args s = true) (h2 : (Cond.initialized C).before args s = true) (h3 : (Cond.arrayOf (.static C nm "[I") .int).before args s = true) (h4 : (Cond.eq (.length (.static C nm "[I")) (.int 6)).before args s = true) (h5 : ∀ j : Nat, j < 6 → (Cond.eq (.elem (.static C nm "[I") (.int (Int32.ofNat j))) (.int (iI (l.getD j 0)))).before args s = true) (hA : ∀ a : Nat, a < s.heap.size → ¬ A a) : ∃ t : Nat, va_Z C nm "[I" (.ref t) A s s.heap ∧ va_T .int t 6 (k_arr l) A s s.heap := by
  obtain ⟨t, ht, hT⟩ := va_Tof (N := 6) (f := k_arr l) (by decide) h3 (va_eqt h4) (fun j hj => va_eqt (h5 j hj)) hA
  exact ⟨t, va_Zref h1 h2 ht hA, hT⟩
theorem st_arrK {args : Array Value} {s : State} {t : FieldType} (h : (Cond.arrayClass t).before args s = true) : ∃ c : ClassId, ArrOfT s c t ∧ s.vm.findClass ("[" ++ t.toString) = some c := by
  obtain ⟨c, k, comp, h1, h2, h3⟩ := Cond.arrayClass_spec h
  exact ⟨c, fun n z => ⟨fun k h => (by cases h), k, h2, comp, h3⟩, h1⟩
theorem st_strs_ok : (k_strs.all fun q => decide (Cond.stringRef "TideTable" q.1 q.2 ∈ lw_tbl)) = true := by decide +kernel
theorem st_str {args : Array Value} {s : State} {cur : ClassId} (hts : ∀ w ∈ lw_tbl, w.before args s = true) (hcur : s.vm.findClass "TideTable" = some cur) : ∃ g : Nat → Nat, ∀ (i : Nat) (q : Nat × String), k_strs[i]? = some q → vk_R "TideTable" q.1 q.2 (g i) s := by
  have h : ∀ i : Nat, ∃ a : Nat, ∀ q : Nat × String, k_strs[i]? = some q → vk_R "TideTable" q.1 q.2 a s := by
    intro i
    cases hq : k_strs[i]? with
    | none => exact ⟨0, fun q h => by cases h⟩
    | some q0 =>
      have hm : q0 ∈ k_strs := List.mem_of_getElem? hq
      have h1 := hts _ (of_decide_eq_true (List.all_eq_true.mp st_strs_ok q0 hm))
      obtain ⟨k, cf, j, a, -, -, -, -, -, h2⟩ := Cond.stringRef_spec hcur h1
      refine ⟨a, fun q h => ?_⟩
      cases h
      exact vk_R.of h1 h2
  exact ⟨fun i => Classical.choose (h i), fun i => Classical.choose_spec (h i)⟩
theorem st_nw {args : Array Value} {s : State} {w : Cond} (hk : k_ok w = true) (h : w.before args s = true) : va_Nw w s := by
  simp only [k_ok, Bool.or_eq_true] at hk
  rcases hk with hg | hn
  · exact word_at (State.WarmedH.refl s) (good_of_word hg) h
  · refine va_Nw.of ?_ h
    cases w <;> first | rfl | cases hn
theorem st_e0 : ∀ j : Nat, j < 6 → Cond.eq (.elem (.static "TideTable" "TWELFTHS_OF_SIXTH" "[I") (.int (Int32.ofNat j))) (.int (iI (List.getD [1, 2, 3, 3, 2, 1] j 0))) ∈ flatC (Jvm.Cond.and given_1 narrow_1) := by decide +kernel
theorem st_e1 : ∀ j : Nat, j < 6 → Cond.eq (.elem (.static "TideTable" "TWELFTHS_AHEAD_OF_SIXTH" "[I") (.int (Int32.ofNat j))) (.int (iI (List.getD [0, 1, 3, 6, 9, 11] j 0))) ∈ flatC (Jvm.Cond.and given_1 narrow_1) := by decide +kernel
set_option maxHeartbeats 4000000 in
set_option maxRecDepth 100000 in
/-- what the Statement gives of the start, in our words -/
theorem st_world {args : Array Value} {s : State} {b N : Nat} {xs : Nat → Int32} (hts : ∀ w ∈ lw_tbl, w.before args s = true) (hgv : (Jvm.Cond.and given_1 narrow_1).before args s = true) (hX : va_X b N xs s s.heap) (hbl : b < s.heap.size) (hN : N < 2147483648) : ∃ κ : Kx, κ.2.1 = s.heap.size ∧ κ.2.2.2 2 = b ∧ k_V κ s ∧ k_Z κ s s.heap := by
  have hfl : ∀ w ∈ flatC (Jvm.Cond.and given_1 narrow_1), w.before args s = true := flat_of_before _ hgv
  obtain ⟨c0, iS0, hKn0⟩ := u_known (C := RJx4a65c) (T := TJx4a65c) (N := 3) (n := 3) hts i_Jx4a65c (hts _ q_51)
  obtain ⟨c1, iS1, hKn1⟩ := u_known (C := RX0) (T := TX0) (N := 2) (n := 2) hts i_X0 (hts _ q_374)
  obtain ⟨c2, iS2, hKn2⟩ := u_known (C := RX1) (T := TX1) (N := 3) (n := 3) hts i_X1 (hts _ q_368)
  obtain ⟨c3, iS3, hKn3⟩ := u_known (C := RX0) (T := TX0) (N := 2) (n := 2) hts i_X0 (hts _ q_374)
  obtain ⟨c4, iS4, hKn4⟩ := u_known (C := RX3) (T := TX3) (N := 5) (n := 5) hts i_X3 (hts _ q_85)
  obtain ⟨c5, iS5, hKn5⟩ := u_known (C := RX0) (T := TX0) (N := 2) (n := 2) hts i_X0 (hts _ q_374)
  obtain ⟨c6, iS6, hKn6⟩ := u_known (C := RX5) (T := TX5) (N := 2) (n := 2) hts i_X5 (hts _ q_45)
  obtain ⟨c7, iS7, hKn7⟩ := u_known (C := RX6) (T := TX6) (N := 3) (n := 3) hts i_X6 (hts _ q_548)
  obtain ⟨c8, iS8, hKn8⟩ := u_known (C := RX7) (T := TX7) (N := 5) (n := 5) hts i_X7 (hts _ q_37)
  obtain ⟨dC, dI, hKc⟩ : ∃ (dC : Nat → ClassId) (dI : Nat → Nat → Nat), ∀ (k : Nat) (q : vw_C), vwCl[k]? = some q → u_Kn s q.1 q.2.1 q.2.2 (dC k) (dI k) := by
    refine ⟨fun k => if k = 0 then c0 else if k = 1 then c1 else if k = 2 then c2 else if k = 3 then c3 else if k = 4 then c4 else if k = 5 then c5 else if k = 6 then c6 else if k = 7 then c7 else c8, fun k => if k = 0 then iS0 else if k = 1 then iS1 else if k = 2 then iS2 else if k = 3 then iS3 else if k = 4 then iS4 else if k = 5 then iS5 else if k = 6 then iS6 else if k = 7 then iS7 else iS8, ?_⟩
    intro k q hq
    match k, hq with
    | 0, hq => cases hq; exact hKn0
    | 1, hq => cases hq; exact hKn1
    | 2, hq => cases hq; exact hKn2
    | 3, hq => cases hq; exact hKn3
    | 4, hq => cases hq; exact hKn4
    | 5, hq => cases hq; exact hKn5
    | 6, hq => cases hq; exact hKn6
    | 7, hq => cases hq; exact hKn7
    | 8, hq => cases hq; exact hKn8
    | k + 9, hq => simp [vwCl] at hq
  obtain ⟨cI, hI1, hI2⟩ := st_arrK (hts (.arrayClass .int) (by decide +kernel))
  obtain ⟨cZ, hZ1, hZ2⟩ := st_arrK (hts (.arrayClass .boolean) (by decide +kernel))
  have hAO : (Cond.arrayOver (.object "java/lang/Object")).before args s = true := hts _ (by decide +kernel)
  obtain ⟨comp, cO, kO, g1, -, g2, g3, g4⟩ := Cond.arrayOver_spec hAO
  obtain ⟨mi, hmi⟩ := va_Mi.of (hfl (.isRef (.mirror "[Ljava/lang/Object;")) (by decide +kernel))
  obtain ⟨g, hg⟩ := st_str hts hKn8.2.1
  have hA : ∀ a : Nat, a < s.heap.size → ¬ (fun q : Nat => s.heap.size ≤ q) a := fun a h => Nat.not_le.mpr h
  obtain ⟨t0, hz0, ht0⟩ := st_arr (A := fun q : Nat => s.heap.size ≤ q) "TideTable" "TWELFTHS_OF_SIXTH" [1, 2, 3, 3, 2, 1] (hts _ (by decide +kernel)) (hts _ (by decide +kernel)) (hfl _ (by decide +kernel)) (hfl _ (by decide +kernel)) (fun j hj => hfl _ (st_e0 j hj)) hA
  obtain ⟨t1, hz1, ht1⟩ := st_arr (A := fun q : Nat => s.heap.size ≤ q) "TideTable" "TWELFTHS_AHEAD_OF_SIXTH" [0, 1, 3, 6, 9, 11] (hts _ (by decide +kernel)) (hts _ (by decide +kernel)) (hfl _ (by decide +kernel)) (hfl _ (by decide +kernel)) (fun j hj => hfl _ (st_e1 j hj)) hA
  obtain ⟨t4, e4, ht4⟩ := va_Tof (tm := .static "java/util/ArrayList" "DEFAULTCAPACITY_EMPTY_ELEMENTDATA" "[Ljava/lang/Object;") (ty := .object "java/lang/Object") (N := 0) (f := fun _ => Value.null) (A := fun q : Nat => s.heap.size ≤ q) (by decide) (hfl _ (by decide +kernel)) (va_eqt (hfl (.eq (.length (.static "java/util/ArrayList" "DEFAULTCAPACITY_EMPTY_ELEMENTDATA" "[Ljava/lang/Object;")) (.int 0)) (by decide +kernel))) (fun j hj => absurd hj (Nat.not_lt_zero j)) hA
  have hz4 := va_Zref (A := fun q : Nat => s.heap.size ≤ q) (hts (.laysStatic "java/util/ArrayList" "DEFAULTCAPACITY_EMPTY_ELEMENTDATA" "[Ljava/lang/Object;") (by decide +kernel)) (hts (.initialized "java/util/ArrayList") (by decide +kernel)) e4 hA
  have hu := vx_Zqof (A := fun q : Nat => s.heap.size ≤ q) (hts (.laysStatic Bundle.tN "UNASSIGNED_STACK" Bundle.steD) (by decide +kernel)) (hts (.initialized Bundle.tN) (by decide +kernel)) (hfl (.isRef (.static Bundle.tN "UNASSIGNED_STACK" Bundle.steD)) (by decide +kernel)) hA
  have hv := vx_Zqof (A := fun q : Nat => s.heap.size ≤ q) (hts (.laysStatic Bundle.tN "SUPPRESSED_SENTINEL" Bundle.listD) (by decide +kernel)) (hts (.initialized Bundle.tN) (by decide +kernel)) (hfl (.isRef (.static Bundle.tN "SUPPRESSED_SENTINEL" Bundle.listD)) (by decide +kernel)) hA
  obtain ⟨scr, x1, x2, x3, x4, x5⟩ := hX
  refine ⟨((dC, dI), s.heap.size, st_cl cI cI cZ cO, st_ad t0 t1 b 0 t4 mi g), rfl, rfl, ⟨⟨hKc, ?_⟩, fun w hw hk => st_nw hk (hts w hw), fun i q hq => ?_, va_AO.of hAO, hmi⟩, ⟨⟨hz0, ht0⟩, ⟨hz1, ht1⟩, ⟨N, xs, hN, scr, x1, x2, x3, Nat.le_of_eq x4.symm, by rw [x4], x5, hA b hbl⟩, trivial, ⟨hz4, ht4⟩, hu, hv⟩⟩
  · intro k q hq
    match k, hq with
    | 0, hq => cases hq; exact ⟨hI1, hI2⟩
    | 1, hq => cases hq; exact ⟨hI1, hI2⟩
    | 2, hq => cases hq; exact ⟨hZ1, hZ2⟩
    | 3, hq => cases hq; exact ⟨fun n z => ⟨fun k h => (by cases h), kO, g2, comp, g3⟩, kO, comp, g2, g3, g1, g4⟩
    | k + 4, hq => simp [k_tys] at hq
  · show vk_R "TideTable" q.1 q.2 (st_ad t0 t1 b 0 t4 mi g (10 + i)) s
    rw [st_ad_g]
    exact hg i q hq
end
section
/-! THE CLAIM OUT OF ONE WALK OF THE LAW'S BODY. Your part is whole_start (and what it stands on); all else here is the same for every law, but numbers. -/
def R_law : String := "TideTableLaw"
def lw_P (b : Addr) (xs : List Int32) (args : Array Value) (s : State) : Prop := args = #[.ref b] ∧ s.IntsAt b xs ∧ xs.length ≤ 260 ∧ (Jvm.Cond.and given_1 narrow_1).before args s = true
def lw_Q (_ : Array Value) (s : State) (o : Outcome) (t : State) : Prop := o = .returned (some (.int 1)) ∧ Framed s o t [] 600086 7301442
def lw_Z (below : List Frame) (a : Array Value) (s : State) : State → Prop := fun t => ∃ o, t.status = .running ∧ Ended t below o ∧ lw_Q a s o t
/-- the law's own end, with 1 on the stack, nothing written that was there before, its room as the claim has it -/
theorem lw_ret {p : Program} {l : Launch} {e : Env} {s : State} {m : MethodId} {below : List Frame} {meth : Method} {c : Code} {b : Nat} (hx : p.tables.exec = Jvm.exec) (hb : c.code = code) (hr : meth.sig.returnType = ret) (hlocks : meth.locks = false) {pc : Nat} {H : Heap} {ls : Array Slot} (hdg : decode code pc = .ok (.ireturn, 1)) : W p l e room_1 s m #[Value.ref b] below meth c H [] 600086 7301442 (lw_Z below #[Value.ref b] s) (F0 m pc ls [.int 1]) := by
  intro T hT X
  obtain ⟨fs, hret, hrun, hended, hW, hframe⟩ := X.leave (v := some (.int 1)) (hlocks := hlocks) (fun h => by rw [hr] at h; cases h)
  have hmeth' : T.vm.method? m = some meth := X.method'
  refine ⟨T.setFrames fs, ?_, .returned (some (.int 1)), hrun, hended, rfl, ⟨_, rfl⟩, hW, hframe⟩
  jvm_step X.here [X.here.top, hx, hb, hdg, hmeth', hr, ret, narrow_b1]
  (try refine ⟨rfl, ?_⟩); (try refine ⟨rfl, ?_⟩)
  first | (intro acts; rw [hret _ acts rfl rfl rfl]) | rw [hret _ _ rfl rfl rfl]
  exact Steps.refl _
/-- what holds at the law's entry: the machine, the code, the tables' words (any of lw_tbl by 'hts w (by decide +kernel)'), the script of L ints xs at the cell b, what the Statement gives of the start (any of its parts by flat_of_before) -/
def lw_At (p : Program) (s : State) (m : MethodId) (meth : Method) (c : Code) (b L : Nat) (xs : Nat → Int32) : Prop :=
  p.tables.exec = Jvm.exec ∧ c.code = code ∧ meth.sig.returnType = ret ∧ c.maxLocals = 16 ∧ s.vm.findClass R_law = some m.cls ∧ (∀ w ∈ lw_tbl, w.before #[Value.ref b] s = true) ∧ va_X b L xs s s.heap ∧ b < s.heap.size ∧ meth.locks = false ∧ (Jvm.Cond.and given_1 narrow_1).before #[Value.ref b] s = true
-- ===== YOUR PART BEGINS =====
/-- YOUR PART: from the entry, for every script of at most 260 ints, the law comes to its end with true ('hflags': the launch's flags, for a law that throws: no stack traces) -/
theorem whole_start {p : Program} {e : Env} {s : State} {m : MethodId} {below : List Frame} {meth : Method} {c : Code} (l : Launch) (hflags : l.flags = flags0) {b L : Nat} {xs : Nat → Int32} (hL : L ≤ 260) (C0 : lw_At p s m meth c b L xs) : W p l e room_1 s m #[Value.ref b] below meth c s.heap [] 0 0 (lw_Z below #[Value.ref b] s) (entryFrame m ([Value.ref b] : List Value).toArray 16) := by
  obtain ⟨hx, hb, hr, hml, hown, hts, hX, hbl, hlocks, hgv⟩ := id C0
  obtain ⟨κ, hκ, hκb, hV, hZ⟩ := st_world hts hgv hX hbl (by omega)
  have hE : k_E (p, l, e, s, m, #[Value.ref b], below, meth, c) κ cL_law 16 (some .boolean) RL := ⟨hx, hb, hml, hown, hV, hZ, Nat.le_of_eq hκ, hr, hlocks⟩
  have hts2 : l.stackTraces = false := by
    show (!l.flags.contains noTraceFlag) = false
    rw [hflags]
    decide
  have hend : LEnd (p, l, e, s, m, #[Value.ref b], below, meth, c) κ (lw_Z below #[Value.ref b] s) := by
    intro L1 f1 k n lv hk hn E H locs ls hH hS hl
    refine lv_iconst (v := 1) hx hb dL_law_641 (by decide) ?_
    refine lv_goto (tgt := 646) hx hb dL_law_642 (by decide) ?_
    refine va_forget (fun q hq => by
      have h9 : κ.2.1 ≤ q.base := hS.2.2 q hq
      rw [hκ] at h9
      exact h9) ?_
    refine W.widen hk hn ?_
    exact lw_ret hx hb hr hlocks dL_law_646
  have hG := law_from0 (θ := (p, l, e, s, m, #[Value.ref b], below, meth, c)) hts2 hend
  have hl := lv_entry ([.ref b]) (n := 16) (Nat.le_of_ble_eq_true rfl)
  rw [lg_entry_eq]
  rw [hκb] at hG
  refine hG hE s.heap [] _ ⟨fun k q h => by simp [va_pl] at h, ⟨fun i j p q h => by simp [va_pl] at h, fun k q h => by simp [va_pl] at h⟩⟩ va_S.rf hl
-- ===== YOUR PART ENDS =====
set_option maxHeartbeats 4000000 in
theorem lw_walk (l : Launch) (hflags : l.flags = flags0) (b : Addr) (xs : List Int32) : MetFree l x (headSpec (Jvm.Cond.code x code maxLocals ret :: tables_1) room_1) (lw_P b xs) (fun _ _ _ _ _ => True) lw_Q := by
  refine MetFree.of_bodyS (code := code) (maxLocals := maxLocals) (ret := ret) (by decide) ?_ ?_
  · intro args s m h hn
    obtain ⟨meth, c, h1, h2, h3, h4, h5, h6, -, -⟩ := Cond.code_spec hn (atoms_spec (ws := Jvm.Cond.code x code maxLocals ret :: tables_1) h _ List.mem_cons_self)
    exact ⟨meth, c, h1, h2, h3, h4, h5, h6⟩
  · intro p e s m args below meth c s₁ B hml0 hP _
    obtain ⟨rfl, hx, hbd, hgv⟩ := hP
    obtain ⟨scr, harrAt, hlist, hof, hsmall⟩ := hx
    obtain ⟨hcb, hkn, -, -⟩ := State.arrayAt?_spec harrAt
    have hown : s.vm.findClass R_law = some m.cls := findClass_of_methodNamed B.named
    have hts0 : ∀ c ∈ (Jvm.Cond.code x code maxLocals ret :: tables_1), c.before #[Value.ref b] s = true := atoms_spec (ws := Jvm.Cond.code x code maxLocals ret :: tables_1) B.pre
    have hts : ∀ w ∈ lw_tbl, w.before #[Value.ref b] s = true := k2_hts_sels lw_privs (fun w hw => hts0 w (List.mem_cons_of_mem _ hw)) lw_privs_ok
    have hml : c.maxLocals = 16 := B.maxLocals_eq (hts0 _ List.mem_cons_self)
    have X₀ : Stand p l e room_1 s m #[Value.ref b] below meth c s₁ [] 0 0 := Stand.of_body B
    have hh0 : s₁.heap = s.heap := by rw [B.state]; rfl
    have hsz : scr.slots.size = xs.length := by rw [← Array.length_toList, hlist, List.length_map]
    have hval : ∀ j : Nat, j < xs.length → scr.slots[j]? = some (.int (xs.getD j 0)) := fun j hj => by
      rw [← Array.getElem?_toList, hlist]
      simp [hj]
    have hbl : b < s.heap.size := (Array.getElem?_eq_some_iff.mp hcb).1
    have hX : va_X b xs.length (fun j => xs.getD j 0) s s.heap := ⟨scr, hcb, hof, hkn, hsz, hval⟩
    have K : W p l e room_1 s m #[Value.ref b] below meth c s₁.heap [] 0 0 (lw_Z below #[Value.ref b] s) (entryFrame m ([Value.ref b] : List Value).toArray 16) := by
      rw [hh0]
      exact whole_start l hflags hbd ⟨B.exec, B.bytes, B.returns, hml, hown, hts, hX, hbl, B.notSynchronized, hgv⟩
    obtain ⟨t, a1, o, b1, b2, b3⟩ := K s₁ rfl X₀
    exact ⟨t, o, a1, b1, b2, b3⟩
theorem lw_pre_spec {args : Array Value} {s : State} (h : (Jvm.Cond.and given_1 narrow_1).before args s = true) (hr : rest_1_c.before args s = true) : ∃ (b : Addr) (xs : List Int32), lw_P b xs args s := by
  have hs := flat_of_before _ h
  have hq := flat_of_before _ hr
  have hc : (Cond.count 1).before args s = true := hs _ (by decide +kernel)
  have harr : (Cond.arrayOf (.arg 0) .int).before args s = true := hs _ (by decide +kernel)
  have hle : (Cond.le (.length (.arg 0)) (.int 260)).before args s = true := hs _ (by decide +kernel)
  have hlen : (Cond.isInt (.length (.arg 0))).before args s = true := hq _ (by decide +kernel)
  have hall : (Cond.all (.arg 0) (.isInt (.elem (.arg 0) (.index 0)))).before args s = true := hq _ (by decide +kernel)
  obtain ⟨b, xs, hb, hx⟩ := State.ints_of_pre rfl harr hlen hall
  have hsm : xs.length < 2 ^ 31 := hx.choose_spec.2.2.2
  have hev : (Term.length (.arg 0)).eval args s none [] s = some (.int xs.length.toInt32) := hx.length_eval hb
  have hv := Cond.le_ints hev (show (Term.int 260).eval args s none [] s = some (.int 260) from rfl)
  have hd : xs.length.toInt32 ≤ 260 := by
    simpa [Cond.before, Cond.holds, hv] using hle
  have hN : xs.length ≤ 260 := (Int32.ofNat_le_ofNat hsm (by decide)).mp (show Int32.ofNat xs.length ≤ Int32.ofNat 260 from hd)
  exact ⟨b, xs, Cond.one_arg hc (show args[0]? = some (.ref b) from hb), hx, hN, h⟩
theorem lw_comes (l : Launch) (hflags : l.flags = flags0) : Comes l x (Jvm.Cond.code x code maxLocals ret :: tables_1) room_1 (fun tb e args s => Calls_1 tb e args s ∧ rest_1 tb e args s ∧ Pre_1 tb e args s)
    (fun _ _ args s o t => lw_Q args s o t) := by
  intro p e ha hc hk s m args below hf hfit hheap happ hpre
  obtain ⟨b, xs, hP⟩ := lw_pre_spec hpre.2.2 hpre.2.1
  obtain ⟨k, o, h1, h2, h3, hQ⟩ := lw_walk l hflags b xs p e ha hc hk s m args below hf ((Spec.applies_iff_loose hf).mp happ).1 hP trivial
  exact ⟨k, o, h1, h2, h3, hQ⟩
theorem lw_frame {s t : State} {o : Outcome} {args : Array Value} (h : Framed s o t [] 600086 7301442) :
    Framed s o t (fieldLocs frame_1_writes args s ++ arrayLocs frame_1_arrays args s ++ staticLocs frame_1_statics s) 600086 7301442 := h
theorem lw_limb (L : Cond) (hL : ∀ (args : Array Value) (s t : State), L.after args s (.returned (some (.int 1))) t = true) :
    ArmFor flags0 classFile x code maxLocals ret World_1 tables_1 room_1 Calls_1 rest_1 Pre_1
      (fun tb e a s o t => postC L tb e a s o t ∧ Framed s o t (fieldLocs frame_1_writes a s ++ arrayLocs frame_1_arrays a s ++ staticLocs frame_1_statics s) 600086 7301442) := by
  intro l hflags _ _ p e ha hc hk s m args below hf hfit hheap happ hpre
  obtain ⟨k, o, h1, h2, h3, rfl, hF⟩ := lw_comes l hflags p e ha hc hk s m args below hf hfit hheap happ hpre
  exact ⟨k, _, h1, h2, h3, hL args s _, lw_frame hF⟩
theorem i_vc : Claimed_1_1 ∧ Claimed_1_2 := ⟨lw_limb limb_1_1 (fun args s t => by simp [limb_1_1, Cond.after, Cond.holds, Cond.value]), lw_limb limb_1_2 (fun args s t => Cond.after_iff.mpr (by
  first | (rw [show limb_1_2 = Cond.eq .result (.int 1) from rfl, Cond.eq_ints (x := 1) (y := 1) rfl rfl]; simp; done) | (simp [limb_1_2, Cond.value, Term.eval]; done)))⟩
end
