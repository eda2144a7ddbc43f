section
-- ===== PART A: goes FIRST, ahead of the names: the tables' words, and 'selects' of the private methods out of them =====
/-- a private method of a class that the tables say can be made, by its rows of tables_1 -/
def lw_okq (q : MethodName × Nat) : Prop := (q.1.cls ≠ "java/lang/invoke/MethodHandle" ∧ q.1.cls ≠ "java/lang/invoke/VarHandle") ∧ Cond.instantiable q.1.cls q.2 ∈ tables_1 ∧ Cond.privateMethod q.1 ∈ tables_1 ∧ Cond.instanceMethod q.1 ∈ tables_1
theorem lw_p0 : lw_okq (⟨"java/lang/Throwable", "fillInStackTrace", "(I)Ljava/lang/Throwable;"⟩, 6) := ⟨⟨by decide +kernel, by decide +kernel⟩, List.mem_of_getElem? (i := 152) (by decide +kernel), List.mem_of_getElem? (i := 150) (by decide +kernel), List.mem_of_getElem? (i := 151) (by decide +kernel)⟩
theorem lw_p1 : lw_okq (⟨"SceneTimes", "isWriter", "(I)Z"⟩, 6) := ⟨⟨by decide +kernel, by decide +kernel⟩, List.mem_of_getElem? (i := 17) (by decide +kernel), List.mem_of_getElem? (i := 190) (by decide +kernel), List.mem_of_getElem? (i := 191) (by decide +kernel)⟩
theorem lw_p2 : lw_okq (⟨"SceneTimes", "hasCome", "(I)Z"⟩, 6) := ⟨⟨by decide +kernel, by decide +kernel⟩, List.mem_of_getElem? (i := 17) (by decide +kernel), List.mem_of_getElem? (i := 216) (by decide +kernel), List.mem_of_getElem? (i := 217) (by decide +kernel)⟩
theorem lw_p3 : lw_okq (⟨"SceneTimes", "noteOf", "(I)LSceneTimes$Note;"⟩, 6) := ⟨⟨by decide +kernel, by decide +kernel⟩, List.mem_of_getElem? (i := 17) (by decide +kernel), List.mem_of_getElem? (i := 341) (by decide +kernel), List.mem_of_getElem? (i := 342) (by decide +kernel)⟩
theorem lw_p4 : lw_okq (⟨"SceneTimes", "refuseActWithoutRoom", "()V"⟩, 6) := ⟨⟨by decide +kernel, by decide +kernel⟩, List.mem_of_getElem? (i := 17) (by decide +kernel), List.mem_of_getElem? (i := 363) (by decide +kernel), List.mem_of_getElem? (i := 364) (by decide +kernel)⟩
theorem lw_p5 : lw_okq (⟨"SceneTimes$Sheet", "putNumber", "(CI)V"⟩, 2) := ⟨⟨by decide +kernel, by decide +kernel⟩, List.mem_of_getElem? (i := 70) (by decide +kernel), List.mem_of_getElem? (i := 488) (by decide +kernel), List.mem_of_getElem? (i := 489) (by decide +kernel)⟩
theorem lw_p6 : lw_okq (⟨"SceneTimes$Sheet", "put", "(C)V"⟩, 2) := ⟨⟨by decide +kernel, by decide +kernel⟩, List.mem_of_getElem? (i := 70) (by decide +kernel), List.mem_of_getElem? (i := 492) (by decide +kernel), List.mem_of_getElem? (i := 493) (by decide +kernel)⟩
theorem lw_p7 : lw_okq (⟨"SceneTimes$Sheet", "putDigits", "(I)V"⟩, 2) := ⟨⟨by decide +kernel, by decide +kernel⟩, List.mem_of_getElem? (i := 70) (by decide +kernel), List.mem_of_getElem? (i := 496) (by decide +kernel), List.mem_of_getElem? (i := 497) (by decide +kernel)⟩
theorem lw_p8 : lw_okq (⟨"SceneTimesModel", "goes", "(IZZZZ)Z"⟩, 21) := ⟨⟨by decide +kernel, by decide +kernel⟩, List.mem_of_getElem? (i := 538) (by decide +kernel), List.mem_of_getElem? (i := 617) (by decide +kernel), List.mem_of_getElem? (i := 618) (by decide +kernel)⟩
theorem lw_p9 : lw_okq (⟨"SceneTimesModel", "isGone", "(I)Z"⟩, 21) := ⟨⟨by decide +kernel, by decide +kernel⟩, List.mem_of_getElem? (i := 538) (by decide +kernel), List.mem_of_getElem? (i := 628) (by decide +kernel), List.mem_of_getElem? (i := 629) (by decide +kernel)⟩
theorem lw_p10 : lw_okq (⟨"SceneTimesModel", "isNote", "(I)Z"⟩, 21) := ⟨⟨by decide +kernel, by decide +kernel⟩, List.mem_of_getElem? (i := 538) (by decide +kernel), List.mem_of_getElem? (i := 636) (by decide +kernel), List.mem_of_getElem? (i := 637) (by decide +kernel)⟩
theorem lw_p11 : lw_okq (⟨"SceneTimesModel", "isStruck", "(II)Z"⟩, 21) := ⟨⟨by decide +kernel, by decide +kernel⟩, List.mem_of_getElem? (i := 538) (by decide +kernel), List.mem_of_getElem? (i := 640) (by decide +kernel), List.mem_of_getElem? (i := 641) (by decide +kernel)⟩
theorem lw_p12 : lw_okq (⟨"SceneTimesModel", "does", "(III)V"⟩, 21) := ⟨⟨by decide +kernel, by decide +kernel⟩, List.mem_of_getElem? (i := 538) (by decide +kernel), List.mem_of_getElem? (i := 644) (by decide +kernel), List.mem_of_getElem? (i := 645) (by decide +kernel)⟩
theorem lw_p13 : lw_okq (⟨"SceneTimesModel", "many", "(IZ)I"⟩, 21) := ⟨⟨by decide +kernel, by decide +kernel⟩, List.mem_of_getElem? (i := 538) (by decide +kernel), List.mem_of_getElem? (i := 648) (by decide +kernel), List.mem_of_getElem? (i := 649) (by decide +kernel)⟩
theorem lw_p14 : lw_okq (⟨"SceneTimesModel", "following", "(IZIII)I"⟩, 21) := ⟨⟨by decide +kernel, by decide +kernel⟩, List.mem_of_getElem? (i := 538) (by decide +kernel), List.mem_of_getElem? (i := 660) (by decide +kernel), List.mem_of_getElem? (i := 661) (by decide +kernel)⟩
theorem lw_p15 : lw_okq (⟨"SceneTimesModel", "isBefore", "(II)Z"⟩, 21) := ⟨⟨by decide +kernel, by decide +kernel⟩, List.mem_of_getElem? (i := 538) (by decide +kernel), List.mem_of_getElem? (i := 664) (by decide +kernel), List.mem_of_getElem? (i := 665) (by decide +kernel)⟩
def lw_privs_1 : List (MethodName × Nat) := [(⟨"java/lang/Throwable", "fillInStackTrace", "(I)Ljava/lang/Throwable;"⟩, 6), (⟨"SceneTimes", "isWriter", "(I)Z"⟩, 6), (⟨"SceneTimes", "hasCome", "(I)Z"⟩, 6), (⟨"SceneTimes", "noteOf", "(I)LSceneTimes$Note;"⟩, 6), (⟨"SceneTimes", "refuseActWithoutRoom", "()V"⟩, 6), (⟨"SceneTimes$Sheet", "putNumber", "(CI)V"⟩, 2), (⟨"SceneTimes$Sheet", "put", "(C)V"⟩, 2), (⟨"SceneTimes$Sheet", "putDigits", "(I)V"⟩, 2), (⟨"SceneTimesModel", "goes", "(IZZZZ)Z"⟩, 21), (⟨"SceneTimesModel", "isGone", "(I)Z"⟩, 21), (⟨"SceneTimesModel", "isNote", "(I)Z"⟩, 21), (⟨"SceneTimesModel", "isStruck", "(II)Z"⟩, 21), (⟨"SceneTimesModel", "does", "(III)V"⟩, 21), (⟨"SceneTimesModel", "many", "(IZ)I"⟩, 21), (⟨"SceneTimesModel", "following", "(IZIII)I"⟩, 21), (⟨"SceneTimesModel", "isBefore", "(II)Z"⟩, 21)]
theorem lw_r1 : ∀ q ∈ lw_privs_1, lw_okq q := List.forall_mem_cons.mpr ⟨lw_p0, List.forall_mem_cons.mpr ⟨lw_p1, List.forall_mem_cons.mpr ⟨lw_p2, List.forall_mem_cons.mpr ⟨lw_p3, List.forall_mem_cons.mpr ⟨lw_p4, List.forall_mem_cons.mpr ⟨lw_p5, List.forall_mem_cons.mpr ⟨lw_p6, List.forall_mem_cons.mpr ⟨lw_p7, List.forall_mem_cons.mpr ⟨lw_p8, List.forall_mem_cons.mpr ⟨lw_p9, List.forall_mem_cons.mpr ⟨lw_p10, List.forall_mem_cons.mpr ⟨lw_p11, List.forall_mem_cons.mpr ⟨lw_p12, List.forall_mem_cons.mpr ⟨lw_p13, List.forall_mem_cons.mpr ⟨lw_p14, List.forall_mem_cons.mpr ⟨lw_p15, fun _ h => absurd h List.not_mem_nil⟩⟩⟩⟩⟩⟩⟩⟩⟩⟩⟩⟩⟩⟩⟩⟩
theorem lw_p16 : lw_okq (⟨"SceneTimesModel", "value", "(II)I"⟩, 21) := ⟨⟨by decide +kernel, by decide +kernel⟩, List.mem_of_getElem? (i := 538) (by decide +kernel), List.mem_of_getElem? (i := 672) (by decide +kernel), List.mem_of_getElem? (i := 673) (by decide +kernel)⟩
theorem lw_p17 : lw_okq (⟨"SceneTimesModel", "number", "(II)V"⟩, 21) := ⟨⟨by decide +kernel, by decide +kernel⟩, List.mem_of_getElem? (i := 538) (by decide +kernel), List.mem_of_getElem? (i := 703) (by decide +kernel), List.mem_of_getElem? (i := 704) (by decide +kernel)⟩
theorem lw_p18 : lw_okq (⟨"SceneTimesModel", "put", "(I)V"⟩, 21) := ⟨⟨by decide +kernel, by decide +kernel⟩, List.mem_of_getElem? (i := 538) (by decide +kernel), List.mem_of_getElem? (i := 707) (by decide +kernel), List.mem_of_getElem? (i := 708) (by decide +kernel)⟩
def lw_privs_2 : List (MethodName × Nat) := [(⟨"SceneTimesModel", "value", "(II)I"⟩, 21), (⟨"SceneTimesModel", "number", "(II)V"⟩, 21), (⟨"SceneTimesModel", "put", "(I)V"⟩, 21)]
theorem lw_r2 : ∀ q ∈ lw_privs_2, lw_okq q := List.forall_mem_cons.mpr ⟨lw_p16, List.forall_mem_cons.mpr ⟨lw_p17, List.forall_mem_cons.mpr ⟨lw_p18, fun _ h => absurd h List.not_mem_nil⟩⟩⟩
def lw_privs : List (MethodName × Nat) := lw_privs_1 ++ (lw_privs_2)
def lw_tbl : List Cond := k2_sels lw_privs ++ tables_1
theorem lw_privs_ok : ∀ q ∈ lw_privs, lw_okq q := by
  show ∀ q ∈ lw_privs_1 ++ (lw_privs_2), lw_okq q
  exact List.forall_mem_append.mpr ⟨lw_r1, lw_r2⟩
end
section
/-! ===== BEGIN words of one list among another's, by their places ===== -/
theorem goodIn_r {big : List Cond} (ws : List Cond) (ps : List Nat) (hp : ws = ps.filterMap (fun i => big[i]?)) (h : ws.all goodWord = true) : GoodIn big ws := by
  intro w hw
  have h1 := List.all_eq_true.mp h w hw
  rw [hp] at hw
  obtain ⟨i, -, hi⟩ := List.mem_filterMap.mp hw
  have hm : w ∈ big := by first | exact List.mem_of_getElem? hi | exact List.getElem?_mem hi
  exact ⟨hm, good_of_word h1⟩
theorem goodIn_app {big a b : List Cond} (ha : GoodIn big a) (hb : GoodIn big b) : GoodIn big (a ++ b) := fun w h => (List.mem_append.mp h).elim (ha w) (hb w)
theorem goodIn_ca {big a b : List Cond} {c : Cond} (ha : GoodIn big (c :: a)) (hb : GoodIn big b) : GoodIn big (c :: (a ++ b)) := fun w h => (List.mem_cons.mp h).elim (fun e => ha w (List.mem_cons.mpr (Or.inl e))) (fun h => (List.mem_append.mp h).elim (fun h => ha w (List.mem_cons.mpr (Or.inr h))) (hb w))
theorem goodIn_sub {big ws : List Cond} (hm : ∀ w ∈ ws, w ∈ big) (h : ws.all goodWord = true) : GoodIn big ws := fun w hw => ⟨hm w hw, good_of_word (List.all_eq_true.mp h w hw)⟩
/-! ===== END ===== -/

/-! ===== BEGIN exceptions that leave a method, and their catching by the caller (launches without stack traces) ===== -/
section VXA
/-! The laws vx_back, vx_callV, vx_callS, vx_callSW, vx_throw0, vx_throwS follow proofs of the library, with one case more: JvmDerived/Free/Laws.lean (Back.of_free), Shelf42/LK1.lean (callV, callS), Shelf/KitTraced.lean (throwNew0V, throwNewS). -/
/-- where a method has thrown q: the class by its name, the cell, what was written, the world -/
def vx_T (XC : String → State → State → Prop) (st : State) (q : Addr) (t : State) (mc ms : Nat) (free : Addr → Prop) : Prop :=
  ∃ (E : String) (ce : Cell) (L : List Loc), XC E st t ∧ t.heap[q]? = some ce ∧ ce.vm = .none ∧ st.vm.findClass E = some ce.cls ∧ st.WarmedH t.vm ∧ st.sameButNew ({ t with vm := st.vm } : State) L mc ms ∧ ∀ z ∈ L, free z.base
def vx_Q (Qc : Array Value → State → Outcome → State → Prop) (XC : String → State → State → Prop) (mc ms : Nat) (free : Addr → Prop) : Array Value → State → Outcome → State → Prop := fun a st o t =>
  (Qc a st o t ∧ ∃ L, FrameEnd st o t L mc ms ∧ ∀ q ∈ L, free q.base) ∨ ∃ q, o = .threw q ∧ vx_T XC st q t mc ms free
/-- a callee that returns or throws -/
def vx_Met (l : Launch) (y : MethodName) (ws : List Cond) (rm : Room) (Pc : Array Value → State → Prop) (Qc : Array Value → State → Outcome → State → Prop) (XC : String → State → State → Prop) (mc ms : Nat) (free : Addr → Prop) : Prop :=
  MetFree l y (headSpec ws rm) Pc (fun _ _ _ _ _ => True) (vx_Q Qc XC mc ms free)
def vx_Post (XC : String → State → State → Prop) (mc ms : Nat) (free : Addr → Prop) : Pt → Array Value → Addr → Pt → Prop := fun A a q B =>
  ∃ (g : JFrame) (mk : MethodId) (t : State) (L : List Loc) (E : String) (ce : Cell), B.U.heap = t.heap ∧ B.U.vm = t.vm ∧ XC E (A.U.calling g mk a) t ∧ t.heap[q]? = some ce ∧ ce.vm = .none ∧ A.U.vm.findClass E = some ce.cls ∧ B.locs = A.locs ++ L ∧ (∀ z ∈ L, free z.base) ∧ B.cells = A.cells + mc ∧ B.slots = A.slots + ms
def vx_Back (l : Launch) (R : Room) (p : Program) (e : Env) (below : List Frame) (s : State) (sargs : Array Value) (y : MethodName) (len W9 : Nat)
    (Pre : Pt → Array Value → Prop) (Post : Pt → Array Value → Option Value → Pt → Prop) (PostX : Pt → Array Value → Addr → Pt → Prop) : Prop :=
  ∀ (m : MethodId) (meth : Method) (c : Code) (A : Pt) (g : JFrame) (ig : Instr) (mk : MethodId) (a : Array Value),
    Stand p l e R s m sargs below meth c A.U A.locs A.cells A.slots → g.method = m → g.locals.size = c.maxLocals → decode c.code g.pc = .ok (ig, len) →
    2 * g.monitorRoom + (g.stack.map fun v => v.category).sum ≤ W9 → A.U.methodNamed? y = some mk → Pre A a →
    (∃ (v : Option Value) (B : Pt), Stand p l e R s m sargs below meth c B.U B.locs B.cells B.slots ∧ Post A a v B ∧
      Steps p.tables e below (doInvoke e (A.U.setTop g) [] mk a).1 (B.U.setTop { g with pc := g.pc + len, stack := v.toList ++ g.stack })) ∨
    (∃ (q : Addr) (B : Pt), Stand p l e R s m sargs below meth c B.U B.locs B.cells B.slots ∧ PostX A a q B ∧
      Steps p.tables e below (doInvoke e (A.U.setTop g) [] mk a).1 ((B.U.setTop g).pushFrame (.throwing q)))
section Payer
variable {l : Launch} {R : Room} {p : Program} {e : Env} {below : List Frame} {s : State} {sargs : Array Value} {y : MethodName} {len W9 : Nat}
theorem vx_back {ws : List Cond} {rm : Room} {Pc : Array Value → State → Prop} {Qc : Array Value → State → Outcome → State → Prop} {XC : String → State → State → Prop} {mc ms : Nat} {free : Addr → Prop} {bytes : ByteArray} {maxL : Nat} {ret : Option FieldType}
    (hM : vx_Met l y ws rm Pc Qc XC mc ms free) (hblind : FrameBlind Pc) (hrc : rm.cells = mc) (hrs : rm.slots = ms)
    (hframes : rm.frames + 1 ≤ R.frames) (hlocals : W9 + (maxL + 11) + rm.locals ≤ R.locals)
    (hws : ∀ w ∈ ws, ∀ a' U, s.WarmedH U.vm → w.before a' U = true) (hcode : Cond.code y bytes maxL ret ∈ ws) (hinit : ∀ a' U, s.WarmedH U.vm → (Cond.initialized y.cls).before a' U = true) :
    vx_Back l R p e below s sargs y len W9 (PreOf R mc ms Pc) (PostOf Qc mc ms free) (vx_Post XC mc ms free) := by
  intro m meth c A g ig mk a X hg hsize hdg hW hn hp
  have h1 : (headSpec ws rm).pre.before a A.U = true := atoms_intro fun w hw => hws w hw _ _ X.warmed
  have h2 : (Cond.code y bytes maxL ret).before a A.U = true := hws _ hcode _ _ X.warmed
  have h3 : (Cond.initialized y.cls).before a A.U = true := hinit _ _ X.warmed
  have h4 : A.cells + (headSpec ws rm).room.cells ≤ R.cells := by rw [show (headSpec ws rm).room.cells = mc from hrc]; exact hp.1
  have h5 : A.slots + (headSpec ws rm).room.slots ≤ R.slots := by rw [show (headSpec ws rm).room.slots = ms from hrs]; exact hp.2.1
  have hPc : Pc a (A.U.calling g mk a) := hblind _ _ _ _ hp.2.2
  obtain ⟨U, Ls, c0, s0⟩ := A
  dsimp only [Pt.U, Pt.locs, Pt.cells, Pt.slots] at h1 h2 h3 h4 h5 X hn hPc ⊢
  obtain ⟨methY, cY, hmY, hcY, -, hlY, -, -, -, -⟩ := Cond.code_spec hn h2
  obtain ⟨kY, hkY, -⟩ := className_of_methodNamed hn
  have hinitY : kY.init = .initialized := Cond.initialized_spec (findClass_of_methodNamed hn) hkY h3
  have h : At U g.method c below := by rw [hg]; exact X.here
  have hlocals9 : W9 + (maxL + 11) + (headSpec ws rm).room.locals ≤ R.locals := hlocals
  have happ : (headSpec ws rm).appliesLoose y e.platform (U.calling g mk a) = true :=
    Spec.appliesLoose_calling (g := g) h hdg hn hkY hinitY
      (X.room_calling (g := g) (R' := (headSpec ws rm).room) hsize hmY hcY hframes (by rw [hlY]; omega) h4 h5) h1
  obtain ⟨mid, hmid⟩ := h.above
  have hfr : (U.setTop g).frames = (.java g :: mid) ++ below := by rw [State.frames_setTop' g h.top, hmid]; rfl
  obtain ⟨o, s₂, hsteps, -, hend, hq⟩ := Steps.callFree hM p X.admits X.cas X.clock (acts := []) hfr happ hPc trivial
  have hq' : vx_Q Qc XC mc ms free a (U.calling g mk a) o s₂ := hq
  rw [State.frames_setTop' g h.top] at hend
  obtain ⟨g₀, hg0⟩ := Option.isSome_iff_exists.mp h.top
  obtain ⟨r, hr⟩ := State.topJava?_eq_some.mp hg0
  have hr' : (({ U with heap := s₂.heap, slotsUsed := s₂.slotsUsed } : State).setVm s₂.vm).frames = .java g₀ :: r := hr
  rcases hq' with ⟨hqc, L, hfe, hL⟩ | ⟨q, rfl, E, ce, L, hx, hce, hcv, hcl, hW₂, hsm, hL⟩
  · obtain ⟨⟨v, rfl⟩, hW₂, e2, q2, q3, q4, q5, q6⟩ := id hfe
    have e3 : s₂ = ({ (U.calling g mk a).setFrames s₂.frames with heap := s₂.heap, slotsUsed := s₂.slotsUsed } : State).setVm s₂.vm := by
      have : s₂ = ({ s₂ with vm := (U.calling g mk a).vm } : State).setVm s₂.vm := rfl
      rw [e2] at this
      exact this
    obtain ⟨c₂, i₂, len₂, hc₂, hd₂, hf₂⟩ := hend
    have hW' : U.WarmedH s₂.vm := hW₂
    have hcc : c₂ = c := by
      have h1 : s₂.code? g.method = U.code? g.method := by
        rw [State.code?_eq, State.code?_eq, hW'.alike.method?]
      exact Option.some.inj (hc₂.symm.trans (h1.trans h.code))
    subst hcc
    have hlen : len₂ = len := by rw [hdg] at hd₂; cases hd₂; rfl
    subst hlen
    have hs₂ : s₂ = (({ U with heap := s₂.heap, slotsUsed := s₂.slotsUsed } : State).setVm s₂.vm).setTop { g with pc := g.pc + len₂, stack := v.toList ++ g.stack } := by
      refine e3.trans ?_
      rw [hf₂, State.calling_eq h.top, State.setFrames_setFrames, State.setTop_of_frames _ hr', hr]
      rfl
    have hsame : U.sameButNew ({ U with heap := s₂.heap, slotsUsed := s₂.slotsUsed } : State) L mc ms := by
      refine ⟨?_, q2, q3, q4, q5, q6⟩
      obtain ⟨t, ht, -⟩ := State.frames_cons hr
      show ({ U with heap := s₂.heap, slotsUsed := s₂.slotsUsed } : State) = { U.setFrames U.frames with heap := s₂.heap, slotsUsed := s₂.slotsUsed }
      rw [State.setFrames_self ht]
    subst hg
    refine Or.inl ⟨v, ⟨(({ U with heap := s₂.heap, slotsUsed := s₂.slotsUsed } : State).setVm s₂.vm), Ls ++ L, c0 + mc, s0 + ms⟩,
      ⟨X.admits, X.cas, X.clock, X.frames, X.room, X.hears, X.method, X.code, (X.here.setHeapUsed s₂.heap s₂.slotsUsed).setVm hW'.alike, X.tail, State.WarmedH.trans X.warmed hW', X.limits, X.bytes, X.same.trans (hsame.setVm s.vm)⟩,
      ⟨g, mk, s₂, L, rfl, rfl, hqc, rfl, hL, rfl, rfl⟩, ?_⟩
    show Steps p.tables e below _ ((({ U with heap := s₂.heap, slotsUsed := s₂.slotsUsed } : State).setVm s₂.vm).setTop { g with pc := g.pc + len₂, stack := v.toList ++ g.stack })
    rw [← hs₂]
    exact hsteps
  · obtain ⟨e2, q2, q3, q4, q5, q6⟩ := id hsm
    have e3 : s₂ = ({ (U.calling g mk a).setFrames s₂.frames with heap := s₂.heap, slotsUsed := s₂.slotsUsed } : State).setVm s₂.vm := by
      have : s₂ = ({ s₂ with vm := (U.calling g mk a).vm } : State).setVm s₂.vm := rfl
      rw [e2] at this
      exact this
    have hf₂ : s₂.frames = .throwing q :: .java g :: U.frames.tail := hend
    have hW' : U.WarmedH s₂.vm := hW₂
    have hs₂ : s₂ = ((({ U with heap := s₂.heap, slotsUsed := s₂.slotsUsed } : State).setVm s₂.vm).setTop g).pushFrame (.throwing q) := by
      refine e3.trans ?_
      rw [hf₂, State.calling_eq h.top, State.setFrames_setFrames, State.pushFrame, State.frames_setTop _ hr', State.setTop_of_frames _ hr', State.setFrames_setFrames, hr]
      rfl
    have hsame : U.sameButNew ({ U with heap := s₂.heap, slotsUsed := s₂.slotsUsed } : State) L mc ms := by
      refine ⟨?_, q2, q3, q4, q5, q6⟩
      obtain ⟨t, ht, -⟩ := State.frames_cons hr
      show ({ U with heap := s₂.heap, slotsUsed := s₂.slotsUsed } : State) = { U.setFrames U.frames with heap := s₂.heap, slotsUsed := s₂.slotsUsed }
      rw [State.setFrames_self ht]
    subst hg
    refine Or.inr ⟨q, ⟨(({ U with heap := s₂.heap, slotsUsed := s₂.slotsUsed } : State).setVm s₂.vm), Ls ++ L, c0 + mc, s0 + ms⟩,
      ⟨X.admits, X.cas, X.clock, X.frames, X.room, X.hears, X.method, X.code, (X.here.setHeapUsed s₂.heap s₂.slotsUsed).setVm hW'.alike, X.tail, State.WarmedH.trans X.warmed hW', X.limits, X.bytes, X.same.trans (hsame.setVm s.vm)⟩,
      ⟨g, mk, s₂, L, E, ce, rfl, rfl, hx, hce, hcv, hcl, rfl, hL, rfl, rfl⟩, ?_⟩
    show Steps p.tables e below _ (((({ U with heap := s₂.heap, slotsUsed := s₂.slotsUsed } : State).setVm s₂.vm).setTop g).pushFrame (.throwing q))
    rw [← hs₂]
    exact hsteps
end Payer
section Calls
variable {p : Program} {l : Launch} {e : Env} {R : Room} {s : State} {m : MethodId} {args : Array Value} {below : List Frame} {meth : Method} {c : Code} {T : State} {locs : List Loc} {cells slots : Nat}
theorem vx_callV (X : Stand p l e R s m args below meth c T locs cells slots) (hexec : p.tables.exec = Jvm.exec) {own C : String} {index : Nat} {y : MethodName} {bytes : ByteArray} {maxL : Nat} {ret : Option FieldType}
    (hown : s.vm.findClass own = some m.cls) (hlink : (Cond.methodLink own index y).before args s = true) (hinst : (Cond.instanceMethod y).before args s = true) (hsel : (Cond.selects C y y).before args s = true)
    (hcode : (Cond.code y bytes maxL ret).before args s = true) (hy : y.cls ≠ "java/lang/invoke/MethodHandle" ∧ y.cls ≠ "java/lang/invoke/VarHandle")
    {W9 : Nat} {Pre : Pt → Array Value → Prop} {Post : Pt → Array Value → Option Value → Pt → Prop} {PostX : Pt → Array Value → Addr → Pt → Prop} (hK : vx_Back l R p e below s args y 3 W9 Pre Post PostX)
    {b : Addr} {cellB : Cell} (hcell : T.heap[b]? = some cellB) (hobj : cellB.vm.isStatics = false) (hcls : s.vm.findClass C = some cellB.cls)
    {g : JFrame} (hg : g.method = m) (hsize : g.locals.size = c.maxLocals) {argsL rest : List Value} (hlen : ∀ sig, parseMethodDescriptor y.desc = some sig → argsL.length = sig.parameters.length)
    (hstack : g.stack = argsL.reverse ++ .ref b :: rest) (hW : 2 * g.monitorRoom + (rest.map fun v => v.category).sum ≤ W9) (hdg : decode c.code g.pc = .ok (.invokevirtual index, 3))
    (hpre : ∀ vm₁, s.WarmedH vm₁ → Pre ⟨T.setVm vm₁, locs, cells, slots⟩ (Value.ref b :: argsL).toArray) :
    (∃ (v : Option Value) (vm₁ : Vm) (B : Pt), s.WarmedH vm₁ ∧ Stand p l e R s m args below meth c B.U B.locs B.cells B.slots ∧ Post ⟨T.setVm vm₁, locs, cells, slots⟩ (Value.ref b :: argsL).toArray v B ∧
      ∀ target, Steps p.tables e below (B.U.setTop { g with pc := g.pc + 3, stack := v.toList ++ rest }) target → Steps p.tables e below (T.setTop g) target) ∨
    (∃ (q : Addr) (vm₁ : Vm) (B : Pt), s.WarmedH vm₁ ∧ Stand p l e R s m args below meth c B.U B.locs B.cells B.slots ∧ PostX ⟨T.setVm vm₁, locs, cells, slots⟩ (Value.ref b :: argsL).toArray q B ∧
      Steps p.tables e below (T.setTop g) ((B.U.setTop { g with stack := rest }).pushFrame (.throwing q))) := by
  obtain ⟨mk, methM, hnamed, hmethM, hstM, habM⟩ := Cond.instanceMethod_spec hinst
  obtain ⟨methM', cM, hmethM', -, -, -, -, -, -, hsigM⟩ := Cond.code_spec hnamed hcode
  cases hmethM.symm.trans hmethM'
  obtain ⟨c2, r2, m2, q1, q2, q3, q4, kP, hkP, hkPi⟩ := Cond.selects_spec hsel
  cases hcls.symm.trans q1
  cases (State.methodFound?_of_named hnamed hy).symm.trans q2
  cases hnamed.symm.trans q3
  have hselP : selectMethod e.platform s.vm cellB.cls mk = .method mk := by rw [Launch.admits_selectMethod X.admits]; exact q4
  obtain ⟨vm₁, X₁, hstep₁⟩ := X.invokevirtual hexec hown hlink hnamed hmethM hstM hkP hkPi hy (a := b) (cell := cellB) hcell
    (fun z h => by rw [h] at hobj; cases hobj) hselP hmethM habM hkP hkPi (g := g) hg (argsL := argsL) (rest := rest) (hlen _ hsigM) hstack hdg
  rcases hK m meth c ⟨T.setVm vm₁, locs, cells, slots⟩ { g with stack := rest } (.invokevirtual index) mk (Value.ref b :: argsL).toArray X₁ hg hsize hdg hW (X₁.named hnamed) (hpre vm₁ X₁.warmed) with ⟨v, B, X', hpost, hsteps⟩ | ⟨q, B, X', hpost, hsteps⟩
  · exact Or.inl ⟨v, vm₁, B, X₁.warmed, X', hpost, fun target h => hstep₁ _ fun acts => by rw [doInvoke_state]; exact hsteps.trans h⟩
  · exact Or.inr ⟨q, vm₁, B, X₁.warmed, X', hpost, hstep₁ _ fun acts => by rw [doInvoke_state]; exact hsteps⟩
theorem vx_callS (X : Stand p l e R s m args below meth c T locs cells slots) (hexec : p.tables.exec = Jvm.exec) {own : String} {index : Nat} {y : MethodName} {bytes : ByteArray} {maxL : Nat} {ret : Option FieldType}
    (hown : s.vm.findClass own = some m.cls) (hlink : (Cond.methodLink own index y).before args s = true) (hstat : (Cond.static y).before args s = true) (hinit : (Cond.initialized y.cls).before args s = true)
    (hcode : (Cond.code y bytes maxL ret).before args s = true) (hy : y.cls ≠ "java/lang/invoke/MethodHandle" ∧ y.cls ≠ "java/lang/invoke/VarHandle")
    {W9 : Nat} {Pre : Pt → Array Value → Prop} {Post : Pt → Array Value → Option Value → Pt → Prop} {PostX : Pt → Array Value → Addr → Pt → Prop} (hK : vx_Back l R p e below s args y 3 W9 Pre Post PostX)
    {g : JFrame} (hg : g.method = m) (hsize : g.locals.size = c.maxLocals) {argsL rest : List Value} (hlen : ∀ sig, parseMethodDescriptor y.desc = some sig → argsL.length = sig.parameters.length)
    (hstack : g.stack = argsL.reverse ++ rest) (hW : 2 * g.monitorRoom + (rest.map fun v => v.category).sum ≤ W9) (hdg : decode c.code g.pc = .ok (.invokestatic index, 3))
    (hpre : ∀ vm₁, s.WarmedH vm₁ → Pre ⟨T.setVm vm₁, locs, cells, slots⟩ argsL.toArray) :
    (∃ (v : Option Value) (vm₁ : Vm) (B : Pt), s.WarmedH vm₁ ∧ Stand p l e R s m args below meth c B.U B.locs B.cells B.slots ∧ Post ⟨T.setVm vm₁, locs, cells, slots⟩ argsL.toArray v B ∧
      ∀ target, Steps p.tables e below (B.U.setTop { g with pc := g.pc + 3, stack := v.toList ++ rest }) target → Steps p.tables e below (T.setTop g) target) ∨
    (∃ (q : Addr) (vm₁ : Vm) (B : Pt), s.WarmedH vm₁ ∧ Stand p l e R s m args below meth c B.U B.locs B.cells B.slots ∧ PostX ⟨T.setVm vm₁, locs, cells, slots⟩ argsL.toArray q B ∧
      Steps p.tables e below (T.setTop g) ((B.U.setTop { g with stack := rest }).pushFrame (.throwing q))) := by
  obtain ⟨mk, hnamed⟩ := Cond.code_named hcode
  obtain ⟨methM, cM, hmethM, -, -, -, -, -, -, hsigM⟩ := Cond.code_spec hnamed hcode
  have hstatic : methM.isStatic = true := Cond.static_spec hnamed hmethM hstat
  obtain ⟨kP, hkP, -⟩ := className_of_methodNamed hnamed
  have hinitP : kP.init = .initialized := Cond.initialized_spec (findClass_of_methodNamed hnamed) hkP hinit
  obtain ⟨vm₁, X₁, hstep₁⟩ := X.invokestatic hexec hown hlink hnamed hmethM hstatic hkP hinitP hy (g := g) hg (argsL := argsL) (rest := rest) (hlen _ hsigM) hstack hdg
  rcases hK m meth c ⟨T.setVm vm₁, locs, cells, slots⟩ { g with stack := rest } (.invokestatic index) mk argsL.toArray X₁ hg hsize hdg hW (X₁.named hnamed) (hpre vm₁ X₁.warmed) with ⟨v, B, X', hpost, hsteps⟩ | ⟨q, B, X', hpost, hsteps⟩
  · exact Or.inl ⟨v, vm₁, B, X₁.warmed, X', hpost, fun target h => hstep₁ _ fun acts => by rw [doInvoke_state]; exact hsteps.trans h⟩
  · exact Or.inr ⟨q, vm₁, B, X₁.warmed, X', hpost, hstep₁ _ fun acts => by rw [doInvoke_state]; exact hsteps⟩
end Calls
theorem vx_cls {s : State} {T : State} {vm₁ : Vm} {E : String} {k : ClassId} (hW : s.WarmedH vm₁) (h : (T.setVm vm₁).vm.findClass E = some k) : s.vm.findClass E = some k := by
  have h1 : vm₁.findClass E = some k := h
  rw [hW.alike.findClass] at h1
  exact h1
/-- the method's frame g, with q thrown over it -/
def vx_W (p : Program) (l : Launch) (e : Env) (R : Room) (s : State) (m : MethodId) (args : Array Value) (below : List Frame) (meth : Method) (c : Code) (H : Heap) (locs : List Loc) (cells slots : Nat) (Q : State → Prop) (g : JFrame) (q : Addr) : Prop :=
  ∀ T : State, T.heap = H → Stand p l e R s m args below meth c T locs cells slots → ∃ t, Steps p.tables e below ((T.setTop g).pushFrame (.throwing q)) t ∧ Q t
def vx_Run (p : Program) (l : Launch) (e : Env) (R : Room) (s : State) (m : MethodId) (args : Array Value) (below : List Frame) (meth : Method) (c : Code) (H : Heap) (locs : List Loc) (cells slots mc ms : Nat) (g : JFrame) (rest : List Value) (Qa : State → Outcome → State → Prop) (XC : String → State → State → Prop) (free : Addr → Prop) : Prop :=
  ∀ T : State, T.heap = H → Stand p l e R s m args below meth c T locs cells slots →
    (∃ (v : Option Value) (st₀ t T' : State) (L : List Loc), st₀.heap = H ∧ Stand p l e R s m args below meth c T' (locs ++ L) (cells + mc) (slots + ms) ∧ (∀ q ∈ L, free q.base) ∧ T'.heap = t.heap ∧ T'.vm = t.vm ∧ Qa st₀ (.returned v) t ∧
      Goes p e below T g T' { g with pc := g.pc + 3, stack := v.toList ++ rest }) ∨
    (∃ (q : Addr) (st₀ t T' : State) (L : List Loc) (E : String) (ce : Cell), st₀.heap = H ∧ Stand p l e R s m args below meth c T' (locs ++ L) (cells + mc) (slots + ms) ∧ (∀ z ∈ L, free z.base) ∧ T'.heap = t.heap ∧ T'.vm = t.vm ∧ XC E st₀ t ∧ t.heap[q]? = some ce ∧ ce.vm = .none ∧ s.vm.findClass E = some ce.cls ∧
      Steps p.tables e below (T.setTop g) ((T'.setTop { g with stack := rest }).pushFrame (.throwing q)))
def vx_X {S : Type} (px : S → Prop) (B : String → S → State → Prop) (A : Nat → Prop) : String → State → State → Prop := fun E st t => ∃ u : S, px u ∧ B E u t ∧ va_F A st t
section Runs
variable {p : Program} {l : Launch} {e : Env} {R : Room} {s : State} {m : MethodId} {args : Array Value} {below : List Frame} {meth : Method} {c : Code} {H : Heap} {locs : List Loc} {cells slots : Nat}
variable {y : MethodName} {bytes cc : ByteArray} {maxL nL mc ms n index : Nat} {ret : Option FieldType} {ws : List Cond} {rm : Room} {Pc : Array Value → State → Prop} {Qc : Array Value → State → Outcome → State → Prop} {XC : String → State → State → Prop} {free : Addr → Prop} {Ts : List Cond} {own C : String} {b : Addr} {As rest : List Value} {g : JFrame}
theorem vx_callBack (cb : CallB R s args own index y bytes maxL ret ws rm mc ms n) (hM : vx_Met l y ws rm Pc Qc XC mc ms free) (hbl : FrameBlind Pc) : vx_Back l R p e below s args y 3 8 (PreOf R mc ms Pc) (PostOf Qc mc ms free) (vx_Post XC mc ms free) := by
  obtain ⟨hrc, hrs, hfr, hlo, hws, hcw, -, hini, -⟩ := cb
  exact vx_back (bytes := bytes) (maxL := maxL) (ret := ret) hM hbl hrc hrs hfr hlo hws hcw (fun a' U hW => word_at hW (Or.inl (by first | rfl | simp [Cond.onTables, Cond.keeps, Cond.steady])) hini)
theorem vx_runV (S : CallFix p m c cc nL s args Ts own) (hM : vx_Met l y ws rm Pc Qc XC mc ms free) (cw : CallW R s args own C index y bytes maxL ret ws rm mc ms n) (hp : PreV s H C b Pc As)
    (hg : g.method = m) (hn : As.length = n) (hsize : g.locals.size = nL) (hstack : g.stack = As.reverse ++ .ref b :: rest) (hW : 2 * g.monitorRoom + (rest.map fun v => v.category).sum ≤ 8) (hdg : decode cc g.pc = .ok (.invokevirtual index, 3)) (hf : cells + mc ≤ R.cells ∧ slots + ms ≤ R.slots) :
    vx_Run p l e R s m args below meth c H locs cells slots mc ms g rest (Qc (Value.ref b :: As).toArray) XC free := by
  have hK : vx_Back l R p e below s args y 3 8 (PreOf R mc ms Pc) (PostOf Qc mc ms free) (vx_Post XC mc ms free) := vx_callBack cw.1 hM hp.1
  obtain ⟨⟨-, -, -, -, -, -, hcode, -, hy, hlen, hl⟩, hin, hse⟩ := cw
  obtain ⟨hx, hb, hml, ho, -⟩ := S
  obtain ⟨-, ⟨cellB, hcB, hoB, hclB⟩, hPc⟩ := hp
  intro T hT X
  rcases vx_callV X hx (C := C) (bytes := bytes) (maxL := maxL) (ret := ret) ho hl hin hse hcode hy hK (by rw [hT]; exact hcB) hoB hclB hg (hsize.trans hml.symm) (argsL := As) (rest := rest) (fun sig h => hn.trans (hlen sig h)) hstack hW (by rw [hb]; exact hdg)
    (fun vm₁ hW₁ => ⟨hf.1, hf.2, hPc (T.setVm vm₁) hT hW₁⟩) with ⟨v, vm₁, ⟨U', l2, c2, s2⟩, hW₁, X', ⟨g', mk, t, L, e1, e2, hq, h1, hL, h2, h3⟩, st⟩ | ⟨q, vm₁, ⟨U', l2, c2, s2⟩, hW₁, X', ⟨g', mk, t, L, E, ce, e1, e2, hq, hce, hcv, hcl, h1, hL, h2, h3⟩, st⟩
  · dsimp only [Pt.U, Pt.locs, Pt.cells, Pt.slots] at X' e1 e2 h1 h2 h3 st
    subst h1; subst h2; subst h3
    exact Or.inl ⟨v, (T.setVm vm₁).calling g' mk (Value.ref b :: As).toArray, t, U', L, hT, X', hL, e1, e2, hq, st⟩
  · dsimp only [Pt.U, Pt.locs, Pt.cells, Pt.slots] at X' e1 e2 h1 h2 h3 st hcl
    subst h1; subst h2; subst h3
    exact Or.inr ⟨q, (T.setVm vm₁).calling g' mk (Value.ref b :: As).toArray, t, U', L, E, ce, hT, X', hL, e1, e2, hq, hce, hcv, vx_cls hW₁ hcl, st⟩
theorem vx_runS (S : CallFix p m c cc nL s args Ts own) (hM : vx_Met l y ws rm Pc Qc XC mc ms free) (cw : CallB R s args own index y bytes maxL ret ws rm mc ms n ∧ (Cond.static y).before args s = true) (hp : PreS s H Pc As)
    (hg : g.method = m) (hn : As.length = n) (hsize : g.locals.size = nL) (hstack : g.stack = As.reverse ++ rest) (hW : 2 * g.monitorRoom + (rest.map fun v => v.category).sum ≤ 8) (hdg : decode cc g.pc = .ok (.invokestatic index, 3)) (hf : cells + mc ≤ R.cells ∧ slots + ms ≤ R.slots) :
    vx_Run p l e R s m args below meth c H locs cells slots mc ms g rest (Qc As.toArray) XC free := by
  have hK : vx_Back l R p e below s args y 3 8 (PreOf R mc ms Pc) (PostOf Qc mc ms free) (vx_Post XC mc ms free) := vx_callBack cw.1 hM hp.1
  obtain ⟨⟨-, -, -, -, -, -, hcode, hini, hy, hlen, hl⟩, hstt⟩ := cw
  obtain ⟨hx, hb, hml, ho, -⟩ := S
  intro T hT X
  rcases vx_callS X hx (bytes := bytes) (maxL := maxL) (ret := ret) ho hl hstt hini hcode hy hK hg (hsize.trans hml.symm) (argsL := As) (rest := rest) (fun sig h => hn.trans (hlen sig h)) hstack hW (by rw [hb]; exact hdg)
    (fun vm₁ hW₁ => ⟨hf.1, hf.2, hp.2 (T.setVm vm₁) hT hW₁⟩) with ⟨v, vm₁, ⟨U', l2, c2, s2⟩, hW₁, X', ⟨g', mk, t, L, e1, e2, hq, h1, hL, h2, h3⟩, st⟩ | ⟨q, vm₁, ⟨U', l2, c2, s2⟩, hW₁, X', ⟨g', mk, t, L, E, ce, e1, e2, hq, hce, hcv, hcl, h1, hL, h2, h3⟩, st⟩
  · dsimp only [Pt.U, Pt.locs, Pt.cells, Pt.slots] at X' e1 e2 h1 h2 h3 st
    subst h1; subst h2; subst h3
    exact Or.inl ⟨v, (T.setVm vm₁).calling g' mk As.toArray, t, U', L, hT, X', hL, e1, e2, hq, st⟩
  · dsimp only [Pt.U, Pt.locs, Pt.cells, Pt.slots] at X' e1 e2 h1 h2 h3 st hcl
    subst h1; subst h2; subst h3
    exact Or.inr ⟨q, (T.setVm vm₁).calling g' mk As.toArray, t, U', L, E, ce, hT, X', hL, e1, e2, hq, hce, hcv, vx_cls hW₁ hcl, st⟩
end Runs
section Rows
variable {p : Program} {l : Launch} {e : Env} {R : Room} {s : State} {m : MethodId} {args : Array Value} {below : List Frame} {meth : Method} {c : Code} {H : Heap} {locs : List Loc} {cells slots : Nat} {Q : State → Prop}
variable {mc ms : Nat} {free : Addr → Prop} {A0 A1 : Nat → Prop} {H0 : Heap} {a : Array Value} {pc : Nat} {ls : Array Slot} {st0 rest : List Value}
theorem vx_keep {st₀ t T' : State} {L : List Loc} (h0 : st₀.heap = H) (e1 : T'.heap = t.heap) (hS : va_S A0 H0 H locs) (hA : ∀ q, q < H.size → A1 q → A0 q) (hf : ∀ q, free q → A0 q) (hL : ∀ q ∈ L, free q.base) (hF : va_F A1 st₀ t) :
    H.size ≤ T'.heap.size ∧ (∀ q : Nat, q < H.size → ¬ A1 q → T'.heap[q]? = H[q]?) ∧ va_S A0 H0 T'.heap (locs ++ L) := by
  obtain ⟨hz, hk⟩ := hF
  rw [h0] at hz hk
  exact ⟨by rw [e1]; exact hz, fun q h1 h2 => by rw [e1]; exact hk q h1 h2,
    ⟨Nat.le_trans hS.1 (by rw [e1]; exact hz), fun q h1 h2 => by rw [e1, hk q (Nat.lt_of_lt_of_le h1 hS.1) (fun z => h2 (hA q (Nat.lt_of_lt_of_le h1 hS.1) z))]; exact hS.2.1 q h1 h2, fun q hq => by
      rcases List.mem_append.mp hq with h | h
      · exact hS.2.2 q h
      · exact hf _ (hL q h)⟩⟩
theorem vx_calli {S SX : Type} {post : Int32 → S → Prop} {px : SX → Prop} {B : S → State → Prop} {BX : String → SX → State → Prop} {AX : Nat → Prop} (hr : vx_Run p l e R s m args below meth c H locs cells slots mc ms (F0 m pc ls st0) rest (va_Qi post B A1 a) (vx_X px BX AX) free) (hS : va_S A0 H0 H locs) (hA : ∀ q, q < H.size → A1 q → A0 q) (hf : ∀ q, free q → A0 q) (hAX : ∀ q, q < H.size → AX q → A0 q)
    (kx : ∀ (E : String) (ce : Cell) (q9 : Addr) (u : SX) (t : State) (H1 : Heap) (locs1 : List Loc), t.heap = H1 → s.vm.Alike t.vm → px u → BX E u t → H.size ≤ H1.size → (∀ q : Nat, q < H.size → ¬ AX q → H1[q]? = H[q]?) → va_S A0 H0 H1 locs1 → H1[q9]? = some ce → ce.vm = .none → s.vm.findClass E = some ce.cls → vx_W p l e R s m args below meth c H1 locs1 (cells + mc) (slots + ms) Q (F0 m pc ls rest) q9)
    (kk : ∀ (r : Int32) (u : S) (t : State) (H1 : Heap) (locs1 : List Loc), t.heap = H1 → s.vm.Alike t.vm → post r u → B u t → H.size ≤ H1.size → (∀ q : Nat, q < H.size → ¬ A1 q → H1[q]? = H[q]?) → va_S A0 H0 H1 locs1 → W p l e R s m args below meth c H1 locs1 (cells + mc) (slots + ms) Q (F0 m (pc + 3) ls (.int r :: rest))) : W p l e R s m args below meth c H locs cells slots Q (F0 m pc ls st0) := by
  intro T hT X
  rcases hr T hT X with ⟨v, st₀, t, T', L, h0, X', hL, e1, e2, ⟨⟨r, u, hv, hp, hb⟩, hF⟩, st⟩ | ⟨q, st₀, t, T', L, E, ce, h0, X', hL, e1, e2, ⟨u, hp, hb, hF⟩, hce, hcv, hcl, st⟩
  · cases hv
    obtain ⟨k1, k2, k3⟩ := vx_keep h0 e1 hS hA hf hL hF
    obtain ⟨t2, a1, b1⟩ := kk r u t T'.heap (locs ++ L) e1.symm (by rw [← e2]; exact X'.warmed.alike) hp hb k1 k2 k3 T' rfl X'
    exact ⟨t2, st t2 a1, b1⟩
  · obtain ⟨k1, k2, k3⟩ := vx_keep h0 e1 hS hAX hf hL hF
    obtain ⟨t2, a1, b1⟩ := kx E ce q u t T'.heap (locs ++ L) e1.symm (by rw [← e2]; exact X'.warmed.alike) hp hb k1 k2 k3 (by rw [e1]; exact hce) hcv hcl T' rfl X'
    exact ⟨t2, st.trans a1, b1⟩
theorem vx_calll {S SX : Type} {post : Int64 → S → Prop} {px : SX → Prop} {B : S → State → Prop} {BX : String → SX → State → Prop} {AX : Nat → Prop} (hr : vx_Run p l e R s m args below meth c H locs cells slots mc ms (F0 m pc ls st0) rest (va_Ql post B A1 a) (vx_X px BX AX) free) (hS : va_S A0 H0 H locs) (hA : ∀ q, q < H.size → A1 q → A0 q) (hf : ∀ q, free q → A0 q) (hAX : ∀ q, q < H.size → AX q → A0 q)
    (kx : ∀ (E : String) (ce : Cell) (q9 : Addr) (u : SX) (t : State) (H1 : Heap) (locs1 : List Loc), t.heap = H1 → s.vm.Alike t.vm → px u → BX E u t → H.size ≤ H1.size → (∀ q : Nat, q < H.size → ¬ AX q → H1[q]? = H[q]?) → va_S A0 H0 H1 locs1 → H1[q9]? = some ce → ce.vm = .none → s.vm.findClass E = some ce.cls → vx_W p l e R s m args below meth c H1 locs1 (cells + mc) (slots + ms) Q (F0 m pc ls rest) q9)
    (kk : ∀ (r : Int64) (u : S) (t : State) (H1 : Heap) (locs1 : List Loc), t.heap = H1 → s.vm.Alike t.vm → post r u → B u t → H.size ≤ H1.size → (∀ q : Nat, q < H.size → ¬ A1 q → H1[q]? = H[q]?) → va_S A0 H0 H1 locs1 → W p l e R s m args below meth c H1 locs1 (cells + mc) (slots + ms) Q (F0 m (pc + 3) ls (.long r :: rest))) : W p l e R s m args below meth c H locs cells slots Q (F0 m pc ls st0) := by
  intro T hT X
  rcases hr T hT X with ⟨v, st₀, t, T', L, h0, X', hL, e1, e2, ⟨⟨r, u, hv, hp, hb⟩, hF⟩, st⟩ | ⟨q, st₀, t, T', L, E, ce, h0, X', hL, e1, e2, ⟨u, hp, hb, hF⟩, hce, hcv, hcl, st⟩
  · cases hv
    obtain ⟨k1, k2, k3⟩ := vx_keep h0 e1 hS hA hf hL hF
    obtain ⟨t2, a1, b1⟩ := kk r u t T'.heap (locs ++ L) e1.symm (by rw [← e2]; exact X'.warmed.alike) hp hb k1 k2 k3 T' rfl X'
    exact ⟨t2, st t2 a1, b1⟩
  · obtain ⟨k1, k2, k3⟩ := vx_keep h0 e1 hS hAX hf hL hF
    obtain ⟨t2, a1, b1⟩ := kx E ce q u t T'.heap (locs ++ L) e1.symm (by rw [← e2]; exact X'.warmed.alike) hp hb k1 k2 k3 (by rw [e1]; exact hce) hcv hcl T' rfl X'
    exact ⟨t2, st.trans a1, b1⟩
theorem vx_callf {S SX : Type} {post : UInt32 → S → Prop} {px : SX → Prop} {B : S → State → Prop} {BX : String → SX → State → Prop} {AX : Nat → Prop} (hr : vx_Run p l e R s m args below meth c H locs cells slots mc ms (F0 m pc ls st0) rest (va_Qf post B A1 a) (vx_X px BX AX) free) (hS : va_S A0 H0 H locs) (hA : ∀ q, q < H.size → A1 q → A0 q) (hf : ∀ q, free q → A0 q) (hAX : ∀ q, q < H.size → AX q → A0 q)
    (kx : ∀ (E : String) (ce : Cell) (q9 : Addr) (u : SX) (t : State) (H1 : Heap) (locs1 : List Loc), t.heap = H1 → s.vm.Alike t.vm → px u → BX E u t → H.size ≤ H1.size → (∀ q : Nat, q < H.size → ¬ AX q → H1[q]? = H[q]?) → va_S A0 H0 H1 locs1 → H1[q9]? = some ce → ce.vm = .none → s.vm.findClass E = some ce.cls → vx_W p l e R s m args below meth c H1 locs1 (cells + mc) (slots + ms) Q (F0 m pc ls rest) q9)
    (kk : ∀ (r : UInt32) (u : S) (t : State) (H1 : Heap) (locs1 : List Loc), t.heap = H1 → s.vm.Alike t.vm → post r u → B u t → H.size ≤ H1.size → (∀ q : Nat, q < H.size → ¬ A1 q → H1[q]? = H[q]?) → va_S A0 H0 H1 locs1 → W p l e R s m args below meth c H1 locs1 (cells + mc) (slots + ms) Q (F0 m (pc + 3) ls (.float r :: rest))) : W p l e R s m args below meth c H locs cells slots Q (F0 m pc ls st0) := by
  intro T hT X
  rcases hr T hT X with ⟨v, st₀, t, T', L, h0, X', hL, e1, e2, ⟨⟨r, u, hv, hp, hb⟩, hF⟩, st⟩ | ⟨q, st₀, t, T', L, E, ce, h0, X', hL, e1, e2, ⟨u, hp, hb, hF⟩, hce, hcv, hcl, st⟩
  · cases hv
    obtain ⟨k1, k2, k3⟩ := vx_keep h0 e1 hS hA hf hL hF
    obtain ⟨t2, a1, b1⟩ := kk r u t T'.heap (locs ++ L) e1.symm (by rw [← e2]; exact X'.warmed.alike) hp hb k1 k2 k3 T' rfl X'
    exact ⟨t2, st t2 a1, b1⟩
  · obtain ⟨k1, k2, k3⟩ := vx_keep h0 e1 hS hAX hf hL hF
    obtain ⟨t2, a1, b1⟩ := kx E ce q u t T'.heap (locs ++ L) e1.symm (by rw [← e2]; exact X'.warmed.alike) hp hb k1 k2 k3 (by rw [e1]; exact hce) hcv hcl T' rfl X'
    exact ⟨t2, st.trans a1, b1⟩
theorem vx_calld {S SX : Type} {post : UInt64 → S → Prop} {px : SX → Prop} {B : S → State → Prop} {BX : String → SX → State → Prop} {AX : Nat → Prop} (hr : vx_Run p l e R s m args below meth c H locs cells slots mc ms (F0 m pc ls st0) rest (va_Qd post B A1 a) (vx_X px BX AX) free) (hS : va_S A0 H0 H locs) (hA : ∀ q, q < H.size → A1 q → A0 q) (hf : ∀ q, free q → A0 q) (hAX : ∀ q, q < H.size → AX q → A0 q)
    (kx : ∀ (E : String) (ce : Cell) (q9 : Addr) (u : SX) (t : State) (H1 : Heap) (locs1 : List Loc), t.heap = H1 → s.vm.Alike t.vm → px u → BX E u t → H.size ≤ H1.size → (∀ q : Nat, q < H.size → ¬ AX q → H1[q]? = H[q]?) → va_S A0 H0 H1 locs1 → H1[q9]? = some ce → ce.vm = .none → s.vm.findClass E = some ce.cls → vx_W p l e R s m args below meth c H1 locs1 (cells + mc) (slots + ms) Q (F0 m pc ls rest) q9)
    (kk : ∀ (r : UInt64) (u : S) (t : State) (H1 : Heap) (locs1 : List Loc), t.heap = H1 → s.vm.Alike t.vm → post r u → B u t → H.size ≤ H1.size → (∀ q : Nat, q < H.size → ¬ A1 q → H1[q]? = H[q]?) → va_S A0 H0 H1 locs1 → W p l e R s m args below meth c H1 locs1 (cells + mc) (slots + ms) Q (F0 m (pc + 3) ls (.double r :: rest))) : W p l e R s m args below meth c H locs cells slots Q (F0 m pc ls st0) := by
  intro T hT X
  rcases hr T hT X with ⟨v, st₀, t, T', L, h0, X', hL, e1, e2, ⟨⟨r, u, hv, hp, hb⟩, hF⟩, st⟩ | ⟨q, st₀, t, T', L, E, ce, h0, X', hL, e1, e2, ⟨u, hp, hb, hF⟩, hce, hcv, hcl, st⟩
  · cases hv
    obtain ⟨k1, k2, k3⟩ := vx_keep h0 e1 hS hA hf hL hF
    obtain ⟨t2, a1, b1⟩ := kk r u t T'.heap (locs ++ L) e1.symm (by rw [← e2]; exact X'.warmed.alike) hp hb k1 k2 k3 T' rfl X'
    exact ⟨t2, st t2 a1, b1⟩
  · obtain ⟨k1, k2, k3⟩ := vx_keep h0 e1 hS hAX hf hL hF
    obtain ⟨t2, a1, b1⟩ := kx E ce q u t T'.heap (locs ++ L) e1.symm (by rw [← e2]; exact X'.warmed.alike) hp hb k1 k2 k3 (by rw [e1]; exact hce) hcv hcl T' rfl X'
    exact ⟨t2, st.trans a1, b1⟩
theorem vx_callv {S SX : Type} {post : S → Prop} {px : SX → Prop} {B : S → State → Prop} {BX : String → SX → State → Prop} {AX : Nat → Prop} (hr : vx_Run p l e R s m args below meth c H locs cells slots mc ms (F0 m pc ls st0) rest (va_Qv post B A1 a) (vx_X px BX AX) free) (hS : va_S A0 H0 H locs) (hA : ∀ q, q < H.size → A1 q → A0 q) (hf : ∀ q, free q → A0 q) (hAX : ∀ q, q < H.size → AX q → A0 q)
    (kx : ∀ (E : String) (ce : Cell) (q9 : Addr) (u : SX) (t : State) (H1 : Heap) (locs1 : List Loc), t.heap = H1 → s.vm.Alike t.vm → px u → BX E u t → H.size ≤ H1.size → (∀ q : Nat, q < H.size → ¬ AX q → H1[q]? = H[q]?) → va_S A0 H0 H1 locs1 → H1[q9]? = some ce → ce.vm = .none → s.vm.findClass E = some ce.cls → vx_W p l e R s m args below meth c H1 locs1 (cells + mc) (slots + ms) Q (F0 m pc ls rest) q9)
    (kk : ∀ (u : S) (t : State) (H1 : Heap) (locs1 : List Loc), t.heap = H1 → s.vm.Alike t.vm → post u → B u t → H.size ≤ H1.size → (∀ q : Nat, q < H.size → ¬ A1 q → H1[q]? = H[q]?) → va_S A0 H0 H1 locs1 → W p l e R s m args below meth c H1 locs1 (cells + mc) (slots + ms) Q (F0 m (pc + 3) ls (rest))) : W p l e R s m args below meth c H locs cells slots Q (F0 m pc ls st0) := by
  intro T hT X
  rcases hr T hT X with ⟨v, st₀, t, T', L, h0, X', hL, e1, e2, ⟨⟨u, hv, hp, hb⟩, hF⟩, st⟩ | ⟨q, st₀, t, T', L, E, ce, h0, X', hL, e1, e2, ⟨u, hp, hb, hF⟩, hce, hcv, hcl, st⟩
  · cases hv
    obtain ⟨k1, k2, k3⟩ := vx_keep h0 e1 hS hA hf hL hF
    obtain ⟨t2, a1, b1⟩ := kk u t T'.heap (locs ++ L) e1.symm (by rw [← e2]; exact X'.warmed.alike) hp hb k1 k2 k3 T' rfl X'
    exact ⟨t2, st t2 a1, b1⟩
  · obtain ⟨k1, k2, k3⟩ := vx_keep h0 e1 hS hAX hf hL hF
    obtain ⟨t2, a1, b1⟩ := kx E ce q u t T'.heap (locs ++ L) e1.symm (by rw [← e2]; exact X'.warmed.alike) hp hb k1 k2 k3 (by rw [e1]; exact hce) hcv hcl T' rfl X'
    exact ⟨t2, st.trans a1, b1⟩
/-- caught by the row x of this method's table; the rows ahead don't take it -/
theorem vx_catch {own name : String} {E : String} {ce : Cell} {q : Addr} (hown : s.vm.findClass own = some m.cls) (pre : List ExceptionTableEntry) (x : ExceptionTableEntry) (suf : List ExceptionTableEntry) (hsplit : c.exceptionTable.toList = pre ++ x :: suf)
    (hpass : ∀ z ∈ pre, covers z pc = false ∨ (z.catchType ≠ 0 ∧ ∃ nm : String, (Cond.classLink own z.catchType nm).before args s = true ∧ va_Nc E nm s)) (hx : covers x pc = true) (h0 : x.catchType ≠ 0)
    (hlink : (Cond.classLink own x.catchType name).before args s = true) (hcast : (Cond.castable E name).before args s = true) (hcell : H[q]? = some ce) (hv : ce.vm = .none) (hcl : s.vm.findClass E = some ce.cls)
    (kk : W p l e R s m args below meth c H locs cells slots Q (F0 m x.handlerPc ls [.ref q])) : vx_W p l e R s m args below meth c H locs cells slots Q (F0 m pc ls rest) q := by
  intro T hT X
  have hpl : e.platform.magicAccessors = ({} : Platform).magicAccessors := by rw [X.admits.platform]
  obtain ⟨c3, c4, hc3, hc4, hasg⟩ := Cond.castable_spec hcast
  cases Option.some.inj (hc3.symm.trans hcl)
  obtain ⟨c5, hc5, hcl5⟩ := Cond.classLink_spec hown hlink e.platform hpl
  cases Option.some.inj (hc4.symm.trans hc5)
  obtain ⟨vm', X', st⟩ := X.thenCaughtThrough q (g := F0 m pc ls rest) rfl (Steps.refl _) (by rw [hT]; exact hcell) (by rw [hv]; rfl) (by obtain ⟨k9, h9, -⟩ := Vm.findClass_spec hcl; exact ⟨k9, h9⟩) pre x suf hsplit
    (fun z hz => by
      rcases hpass z hz with h | ⟨hz0, nm, hl1, hn1⟩
      · exact Or.inl h
      · obtain ⟨c6, hc6, hcl6⟩ := Cond.classLink_spec hown hl1 e.platform hpl
        obtain ⟨a8, b8, h1, h2, h3⟩ := hn1
        cases Option.some.inj (h1.symm.trans hcl)
        cases Option.some.inj (h2.symm.trans hc6)
        exact Or.inr ⟨hz0, _, hcl6, h3⟩) hx (Or.inr ⟨h0, c4, hcl5, hasg⟩)
  obtain ⟨t, a1, b1⟩ := kk (T.setVm vm') hT X'
  exact ⟨t, st.trans a1, b1⟩
end Rows
section Ends
variable {p : Program} {l : Launch} {e : Env} {R : Room} {s : State} {m : MethodId} {args : Array Value} {below : List Frame} {meth : Method} {c : Code} {H : Heap} {locs : List Loc} {cells slots : Nat} {Q : State → Prop}
variable {mc ms : Nat} {free : Addr → Prop} {A0 A1 : Nat → Prop} {H0 : Heap} {a : Array Value} {ls : Array Slot} {st0 rest : List Value}
variable {Qc : Array Value → State → Outcome → State → Prop} {XC : String → State → State → Prop}
/-- what a body that may throw owes at its end -/
def vx_MQ (below : List Frame) (Qc : Array Value → State → Outcome → State → Prop) (XC : String → State → State → Prop) (a : Array Value) (s : State) (mc ms : Nat) (free : Addr → Prop) : State → Prop := fun t =>
  ∃ o, t.status = .running ∧ Ended t below o ∧ vx_Q Qc XC mc ms free a s o t
theorem vx_ret {g : JFrame} {mc ms : Nat} (k : W p l e R s m args below meth c H locs cells slots (MQ below Qc args s mc ms free) g) : W p l e R s m args below meth c H locs cells slots (vx_MQ below Qc XC args s mc ms free) g := by
  intro T hT X
  obtain ⟨t, a1, o, b1, b2, b3, b4⟩ := k T hT X
  exact ⟨t, a1, o, b1, b2, Or.inl ⟨b3, b4⟩⟩
/-- not caught here: it goes on to the caller -/
theorem vx_widen {g : JFrame} {q : Addr} {k n : Nat} (h1 : cells ≤ k) (h2 : slots ≤ n) (kk : vx_W p l e R s m args below meth c H locs k n Q g q) : vx_W p l e R s m args below meth c H locs cells slots Q g q := fun T hT X => kk T hT (stand_widen X h1 h2)
theorem vx_out {pc : Nat} {E : String} {ce : Cell} {q : Addr} {mc ms : Nat} (hout : ∀ x ∈ c.exceptionTable.toList, covers x pc = false) (hlocks : meth.locks = false) (hcell : H[q]? = some ce) (hv : ce.vm = .none) (hcl : s.vm.findClass E = some ce.cls)
    (hx : ∀ t : State, t.heap = H → s.vm.Alike t.vm → XC E s t) (hf : ∀ z ∈ locs, free z.base) (hc : cells ≤ mc) (hs : slots ≤ ms) :
    vx_W p l e R s m args below meth c H locs cells slots (vx_MQ below Qc XC args s mc ms free) (F0 m pc ls rest) q := by
  intro T hT X
  obtain ⟨st1, hrun, hend, hW, hsm⟩ := X.leaveThrown q (g := F0 m pc ls rest) rfl rfl rfl hout hlocks
  have hcell9 : (T.setFrames (.throwing q :: below)).heap[q]? = some ce := by
    show T.heap[q]? = some ce
    rw [hT]; exact hcell
  exact ⟨_, st1, .threw q, hrun, hend, Or.inr ⟨q, rfl, E, ce, locs, hx _ hT hW.alike, hcell9, hv, hcl, hW, hsm.mono hc hs, hf⟩⟩
theorem vx_frame {U : State} {k n : Nat} (h : s.sameButNew ({ U with vm := s.vm } : State) locs k n) : s.heap.size ≤ U.heap.size ∧ ∀ q : Nat, q < s.heap.size → (∀ z ∈ locs, z.base ≠ q) → U.heap[q]? = s.heap[q]? := by
  obtain ⟨-, h2, -, -, -, h6⟩ := h
  refine ⟨h2, fun q hq hz => ?_⟩
  obtain ⟨c9, e1, e2, e3, e4⟩ := h6 q _ (Array.getElem?_eq_getElem hq)
  have hs : c9.slots = (s.heap[q]).slots := Array.ext_getElem? fun i => e4 i fun hm => hz _ hm rfl
  have h9 : c9 = s.heap[q] := by
    rw [hs] at e2
    exact e2
  have e5 : U.heap[q]? = some c9 := e1
  rw [e5, h9, Array.getElem?_eq_getElem hq]
/-- the words of a throw but the four that speak of the heap -/
def vx_no (w : Cond) : Bool := decide (w ≠ .isRef (.static Bundle.tN "UNASSIGNED_STACK" Bundle.steD)) && decide (w ≠ .isRef (.static Bundle.tN "SUPPRESSED_SENTINEL" Bundle.listD)) && decide (w ≠ .laysStatic Bundle.tN "UNASSIGNED_STACK" Bundle.steD) && decide (w ≠ .laysStatic Bundle.tN "SUPPRESSED_SENTINEL" Bundle.listD)
def vx_at0 (own : String) (ic : Nat) (X : String) (names : List String) : List Cond := (Bundle.ownAtoms0 own ic X names).filter vx_no
def vx_atS (own : String) (ic : Nat) (X : String) (names : List String) : List Cond := (Bundle.ownAtoms own ic X names).filter vx_no
/-- a word that the tables alone decide, or a good one -/
def vx_ot (w : Cond) : Bool := w.onTables || goodWord w
theorem vx_ot_at {args a' : Array Value} {s U : State} {w : Cond} (hW : s.WarmedH U.vm) (hvm : s.vm = U.vm) (hg : vx_ot w = true) (h : w.before args s = true) : w.before a' U = true := by
  simp only [vx_ot, Bool.or_eq_true] at hg
  rcases hg with hg | hg
  · exact va_tabs hg hvm h
  · exact word_at hW (good_of_word hg) h
/-- a list's words: the good ones out of the method's own list, the others by premises of their own -/
theorem vx_hat {args : Array Value} {s : State} {L B : List Cond} (h1 : ∀ w ∈ L.filter goodWord, w.before args s = true) (h2 : ∀ w ∈ L.filter (fun w => !goodWord w), w ∈ B) (h3 : ∀ w ∈ B, w.before args s = true) : ∀ w ∈ L, w.before args s = true := by
  intro w hw
  by_cases g : goodWord w = true
  · exact h1 w (List.mem_filter.mpr ⟨hw, g⟩)
  · refine h3 w (h2 w (List.mem_filter.mpr ⟨hw, ?_⟩))
    show (!goodWord w) = true
    cases hgw : goodWord w
    · rfl
    · exact absurd hgw g
theorem vx_c {args : Array Value} {s : State} {w : Cond} {B : List Cond} (h : w.before args s = true) (t : ∀ w ∈ B, w.before args s = true) : ∀ w' ∈ w :: B, w'.before args s = true := fun w' h' => (List.mem_cons.mp h').elim (fun e => by rw [e]; exact h) (t w')
theorem vx_n {args : Array Value} {s : State} : ∀ w ∈ ([] : List Cond), w.before args s = true := fun _ h => nomatch h
theorem vx_own {args : Array Value} {s : State} {L : List Cond} (h1 : ∀ w ∈ L.filter vx_no, w.before args s = true)
    (hU : (Cond.isRef (.static Bundle.tN "UNASSIGNED_STACK" Bundle.steD)).before args s = true) (hN : (Cond.isRef (.static Bundle.tN "SUPPRESSED_SENTINEL" Bundle.listD)).before args s = true)
    (lU : (Cond.laysStatic Bundle.tN "UNASSIGNED_STACK" Bundle.steD).before args s = true) (lN : (Cond.laysStatic Bundle.tN "SUPPRESSED_SENTINEL" Bundle.listD).before args s = true) : ∀ w ∈ L, w.before args s = true := by
  intro w hw
  by_cases e1 : w = .isRef (.static Bundle.tN "UNASSIGNED_STACK" Bundle.steD)
  · rw [e1]; exact hU
  · by_cases e2 : w = .isRef (.static Bundle.tN "SUPPRESSED_SENTINEL" Bundle.listD)
    · rw [e2]; exact hN
    · by_cases e3 : w = .laysStatic Bundle.tN "UNASSIGNED_STACK" Bundle.steD
      · rw [e3]; exact lU
      · by_cases e4 : w = .laysStatic Bundle.tN "SUPPRESSED_SENTINEL" Bundle.listD
        · rw [e4]; exact lN
        · exact h1 w (List.mem_filter.mpr ⟨hw, by unfold vx_no; rw [decide_eq_true e1, decide_eq_true e2, decide_eq_true e3, decide_eq_true e4]; rfl⟩)
/-- where a static field lies, its class's statics cell in H -/
def vx_L (C n d : String) (A : Nat → Prop) (U : State) (H : Heap) : Prop := ∃ (c : ClassId) (k : Class) (i : Nat) (f : Field) (a : Nat) (cell : Cell), U.vm.findClass C = some c ∧ U.fieldFound? C n d = some (c, k, i, f) ∧ f.isStatic = true ∧ k.statics = some a ∧ H[a]? = some cell ∧ cell.vm.isStatics = true ∧ cell.cls = c ∧ f.slot < cell.slots.size ∧ k.staticTypes[f.slot]? = some f.type ∧ ¬ A a
theorem vx_L.moved {C n d : String} {A : Nat → Prop} {u U : State} {H : Heap} (hvm : u.vm.Alike U.vm) (h : vx_L C n d A u H) : vx_L C n d A U H := by
  obtain ⟨c, k, i, f, a, cell, h1, h2, h3, h4, h5, h6, h7, h8, h9, h10⟩ := h
  obtain ⟨k', hi', he⟩ := State.fieldFound?_setVm hvm h2
  exact ⟨c, k', i, f, a, cell, by rw [hvm.findClass]; exact h1, hi', h3, by rw [he]; exact h4, h5, h6, h7, h8, by rw [he]; exact h9, h10⟩
theorem vx_L.kept {C n d : String} {A : Nat → Prop} {U : State} {H H1 : Heap} (h : vx_L C n d A U H) (hq : ∀ a : Nat, a < H.size → ¬ A a → H1[a]? = H[a]?) : vx_L C n d A U H1 := by
  obtain ⟨c, k, i, f, a, cell, h1, h2, h3, h4, h5, h6, h7, h8, h9, h10⟩ := h
  exact ⟨c, k, i, f, a, cell, h1, h2, h3, h4, by rw [hq a (Array.getElem?_eq_some_iff.mp h5).1 h10]; exact h5, h6, h7, h8, h9, h10⟩
theorem vx_L.narrow {C n d : String} {A B : Nat → Prop} {U : State} {H : Heap} (h : vx_L C n d A U H) (hAB : ∀ q, B q → A q) : vx_L C n d B U H := by
  obtain ⟨c, k, i, f, a, cell, h1, h2, h3, h4, h5, h6, h7, h8, h9, h10⟩ := h
  exact ⟨c, k, i, f, a, cell, h1, h2, h3, h4, h5, h6, h7, h8, h9, fun z => h10 (hAB _ z)⟩
theorem vx_L.word {C n d : String} {A : Nat → Prop} {s : State} {args : Array Value} (h : vx_L C n d A s s.heap) : (Cond.laysStatic C n d).before args s = true := by
  obtain ⟨c, k, i, f, a, cell, h1, h2, h3, h4, h5, h6, h7, h8, h9, -⟩ := h
  show (Cond.laysStatic C n d).holds args s none s [] = true
  exact Cond.laysStatic_of h1 h2 h3 h4 h5 h6 h7 h8 h9
/-- .. and what it holds: null or some reference -/
def vx_Zq (C n d : String) (A : Nat → Prop) (U : State) (H : Heap) : Prop := va_Zq C n d A U H ∧ vx_L C n d A U H
theorem vx_Zq.moved {C n d : String} {A : Nat → Prop} {u U : State} {H : Heap} (hvm : u.vm.Alike U.vm) (h : vx_Zq C n d A u H) : vx_Zq C n d A U H := ⟨va_Zq.moved hvm h.1, vx_L.moved hvm h.2⟩
theorem vx_Zq.kept {C n d : String} {A : Nat → Prop} {U : State} {H H1 : Heap} (h : vx_Zq C n d A U H) (hq : ∀ a : Nat, a < H.size → ¬ A a → H1[a]? = H[a]?) : vx_Zq C n d A U H1 := ⟨va_Zq.kept h.1 hq, vx_L.kept h.2 hq⟩
theorem vx_Zq.narrow {C n d : String} {A B : Nat → Prop} {U : State} {H : Heap} (h : vx_Zq C n d A U H) (hAB : ∀ q, B q → A q) : vx_Zq C n d B U H := ⟨va_Zq.narrow h.1 hAB, vx_L.narrow h.2 hAB⟩
theorem vx_Zqof {args : Array Value} {s : State} {C n d : String} {A : Nat → Prop} (hl : (Cond.laysStatic C n d).before args s = true) (hini : (Cond.initialized C).before args s = true) (h : (Cond.isRef (.static C n d)).before args s = true) (hA : ∀ a : Nat, a < s.heap.size → ¬ A a) : vx_Zq C n d A s s.heap := by
  refine ⟨va_Zqof hl hini h hA, ?_⟩
  obtain ⟨c, k, i, f, a, cell, h1, h2, h3, h4, h5, h6, h7, h8, h9⟩ := Cond.laysStatic_spec hl
  exact ⟨c, k, i, f, a, cell, h1, h2, h3, h4, h5, h6, h7, h8, h9, hA a (Array.getElem?_eq_some_iff.mp h5).1⟩
theorem vx_isRef {C n d : String} {v : Value} {A : Nat → Prop} {s : State} {args : Array Value} (h : va_Z C n d v A s s.heap) (hv : v.isRef = true) : (Cond.isRef (.static C n d)).before args s = true := by
  obtain ⟨cf, kf, fi, f, a, cell, h1, h2, h3, h4, h5, h6, h7, -⟩ := h
  have he : (Term.static C n d).eval args s none [] s = some v := by
    simp [Term.eval, State.fieldNamed?, h1, h2, h4, h5, h6, h7]
  simp only [Cond.before, Cond.holds, Cond.value, he]
  cases v <;> simp_all [Value.isRef]
theorem vx_isRefq {C n d : String} {A : Nat → Prop} {s : State} {args : Array Value} (h : va_Zq C n d A s s.heap) : (Cond.isRef (.static C n d)).before args s = true := by
  rcases h with h | ⟨t, h⟩
  · exact vx_isRef h rfl
  · exact vx_isRef h rfl
/-- the same frame, seen from here: as if the method were called anew in this heap -/
theorem vx_rebase {T : State} (X : Stand p l e R s m args below meth c T locs cells slots) {R' : Room} (hf : R'.frames ≤ R.frames) (hl : R'.locals ≤ R.locals) (hc : cells + R'.cells ≤ R.cells) (hs : slots + R'.slots ≤ R.slots) :
    Stand p l e R' ((T.setVm s.vm).setFrames (.invoking m args :: below)) m args below meth c T [] 0 0 := by
  have htop : (T.setVm s.vm).topJava?.isSome := X.here.top
  have hF : ((T.setVm s.vm).setFrames (.invoking m args :: below)).frames = .invoking m args :: below := State.frames_setFrames _ (State.cur_lt_of_top htop)
  obtain ⟨g₀, hg0⟩ := Option.isSome_iff_exists.mp htop
  obtain ⟨r, hr⟩ := State.topJava?_eq_some.mp hg0
  have hl9 : e.platform.stackLimits (T.setVm s.vm).me = e.platform.stackLimits s.me := X.limits
  have hb9 : (T.setVm s.vm).me.stackBytes = s.me.stackBytes := X.bytes
  refine ⟨X.admits, X.cas, X.clock, hF, ?_, X.hears, X.method, X.code, X.here, X.tail, X.warmed, ?_, ?_, ?_⟩
  · have h := X.room
    have hU : ((T.setVm s.vm).setFrames (.invoking m args :: below)).localsInUse = s.localsInUse := by
      rw [State.localsInUse_invoking hF (meth := meth) (c := c) X.method X.code, State.localsInUse_invoking X.frames X.method X.code]
    simp only [State.hasRoom, Bool.and_eq_true, decide_eq_true_eq] at h ⊢
    obtain ⟨⟨⟨⟨h1, h2, h3, h4, h5, h6⟩, h7⟩, h8⟩, h9⟩ := h
    rw [X.frames, List.length_cons] at h2 h3
    have q1 := X.heapSize
    have q2 := X.used
    simp only [hF, hU, List.length_cons, State.stackLimits_setFrames, State.stackBytes_setFrames, hl9, hb9]
    refine ⟨⟨⟨⟨by omega, by omega, by omega, by omega, by omega, h6⟩, ?_⟩, ?_⟩, X.book⟩
    · show T.heap.size + R'.cells ≤ e.platform.maxCells
      omega
    · show T.slotsUsed + R'.slots ≤ e.platform.maxSlots
      omega
  · rw [State.stackLimits_setFrames]; rfl
  · rw [State.stackBytes_setFrames]; rfl
  · refine ⟨?_, Nat.le_refl _, Nat.le_refl _, ?_, ?_, fun a c9 h9 => ⟨c9, h9, rfl, rfl, fun _ _ => rfl⟩⟩
    · obtain ⟨t, ht, -⟩ := State.frames_cons hr
      show T.setVm s.vm = { ((T.setVm s.vm).setFrames (.invoking m args :: below)).setFrames (T.setVm s.vm).frames with heap := T.heap, slotsUsed := T.slotsUsed }
      rw [State.setFrames_setFrames, State.setFrames_self ht]
      rfl
    · show T.slotsUsed = T.slotsUsed + ((T.heap.toList.drop T.heap.size).map (·.slots.size)).sum
      rw [List.drop_eq_nil_of_le (Nat.le_of_eq Array.length_toList)]
      rfl
    · show ((T.heap.toList.drop T.heap.size).map (·.slots.size)).sum ≤ 0
      rw [List.drop_eq_nil_of_le (Nat.le_of_eq Array.length_toList)]
      exact Nat.le_refl _
/-- 'throw new E()': new; dup; invokespecial; athrow -/
theorem vx_throw0 {cc : ByteArray} {pc : Nat} (hexec : p.tables.exec = Jvm.exec) (hb : c.code = cc) (hl : l.stackTraces = false) {own cls : String} {names : List String} {ik ic mc ms : Nat} {A : Nat → Prop}
    (hown : s.vm.findClass own = some m.cls) (hcls : Bundle.fit cls = true) (hnames : ∀ n ∈ names, Bundle.fit n = true)
    (hk : (Cond.classLink own ik cls).before args s = true) (hini : (Cond.initialized cls).before args s = true) (hat : ∀ w ∈ vx_at0 own ic cls names, w.before args s = true)
    (hgood : ∀ w ∈ Cond.classLink own ik cls :: Cond.initialized cls :: vx_at0 own ic cls names, vx_ot w = true)
    (hU : vx_Zq Bundle.tN "UNASSIGNED_STACK" Bundle.steD A s s.heap) (hN : vx_Zq Bundle.tN "SUPPRESSED_SENTINEL" Bundle.listD A s s.heap) (hS : va_S A s.heap H locs) (hsize : ls.size = c.maxLocals)
    (d0 : decode cc pc = .ok (.new ik, 3)) (d3 : decode cc (pc + 3) = .ok (.dup, 1)) (d4 : decode cc (pc + 4) = .ok (.invokespecial ic, 3)) (d7 : decode cc (pc + 7) = .ok (.athrow, 1))
    (hout : ∀ x ∈ c.exceptionTable.toList, covers x (pc + 7) = false)
    (hRframes : names.length + 3 < R.frames) (hRlocals : (rest.map fun v => v.category).sum + (13 * (names.length + 1) + 42) ≤ R.locals) (hRcells : cells + 1 ≤ R.cells) (hRslots : slots + 6 ≤ R.slots) (hlocks : meth.locks = false)
    (hx : ∀ t : State, s.vm.Alike t.vm → H.size ≤ t.heap.size → (∀ q : Nat, q < H.size → t.heap[q]? = H[q]?) → XC cls s t)
    (hf : ∀ z ∈ locs, free z.base) (hc : cells + 1 ≤ mc) (hs : slots + 6 ≤ ms) :
    W p l e R s m args below meth c H locs cells slots (vx_MQ below Qc XC args s mc ms free) (F0 m pc ls rest) := by
  intro T hT X
  have htr : e.platform.stackTraces = false := (show e.platform.stackTraces = l.stackTraces by rw [X.admits.platform]).trans hl
  have Y := vx_rebase X (R' := { frames := R.frames, locals := R.locals, cells := 1, slots := 6 }) (Nat.le_refl _) (Nat.le_refl _) hRcells hRslots
  obtain ⟨s', hA⟩ : ∃ z, z = (T.setVm s.vm).setFrames (.invoking m args :: below) := ⟨_, rfl⟩
  rw [← hA] at Y
  have hvm : s'.vm = s.vm := by rw [hA]; rfl
  have hhp : s'.heap = H := by rw [hA]; exact hT
  have hW0 : s.WarmedH s'.vm := by rw [hvm]; exact State.WarmedH.refl s
  have hat' : ∀ w ∈ vx_at0 own ic cls names, w.before args s' = true := fun w hw => vx_ot_at hW0 hvm.symm (hgood w (List.mem_cons_of_mem _ (List.mem_cons_of_mem _ hw))) (hat w hw)
  have hk' : (Cond.classLink own ik cls).before args s' = true := vx_ot_at hW0 hvm.symm (hgood _ List.mem_cons_self) hk
  have hini' : (Cond.initialized cls).before args s' = true := vx_ot_at hW0 hvm.symm (hgood _ (List.mem_cons_of_mem _ List.mem_cons_self)) hini
  have hU' : vx_Zq Bundle.tN "UNASSIGNED_STACK" Bundle.steD A s' s'.heap := by rw [hhp]; exact vx_Zq.moved hW0.alike (hU.kept hS.2.1)
  have hN' : vx_Zq Bundle.tN "SUPPRESSED_SENTINEL" Bundle.listD A s' s'.heap := by rw [hhp]; exact vx_Zq.moved hW0.alike (hN.kept hS.2.1)
  have h : ∀ w ∈ Bundle.ownAtoms0 own ic cls names, w.before args s' = true := vx_own hat' (vx_isRefq hU'.1) (vx_isRefq hN'.1) hU'.2.word hN'.2.word
  have hown' : s'.vm.findClass own = some m.cls := by rw [hvm]; exact hown
  have hins : (Cond.instantiable cls 6).before args s' = true := h _ (by simp [Bundle.ownAtoms0])
  obtain ⟨vm₁, cX, kX, hfX, hkX, -, -, X₁, st1⟩ := Y.newCold hexec (own := own) (C := cls) (index := ik) (n := 6) hown' hk' hins hini'
    (g := F0 m pc ls rest) rfl (by rw [hb]; exact d0) (Nat.le_refl _) (Nat.le_refl _)
  generalize hT1 : (T.setVm vm₁).pushCell { cls := cX, slots := kX.instanceTypes.map defaultValue, vm := .none } = T1 at X₁ st1
  have hcat : (Value.ref T.heap.size).category = 1 := rfl
  have hcellA : T1.heap[T.heap.size]? = some (freshCell cX kX) := by rw [← hT1]; exact State.heap_pushCell_size _ _
  have d3' : decode c.code (pc + 3) = .ok (.dup, 1) := by rw [hb]; exact d3
  obtain ⟨U, hsteps, hrun, hend, hW, hsame, ce, hce, hO⟩ := X₁.ctorThrow0 hexec htr (own := own) (cls := cls) (names := names) (ic := ic) hown' hcls hnames h (fun x hx => nomatch hx) hfX hkX hcellA (by rw [hhp, hT]; exact Nat.le_refl _)
    (g := { method := m, pc := pc + 4, locals := ls, stack := .ref T.heap.size :: .ref T.heap.size :: rest, locked := none }) rfl hsize rfl rfl (rest := rest) rfl
    (by rw [hb]; exact d4) (by rw [hb]; exact d7) hout hRframes (by simp only [List.map_cons, List.sum_cons, hcat]; omega) hlocks
  obtain ⟨f1, f2⟩ := vx_frame hsame
  rw [hhp] at f1 f2
  have hWs : s.WarmedH U.vm := State.WarmedH.trans hW0 hW
  have hcl : s.vm.findClass cls = some ce.cls := by
    have h9 := hO.cls
    rw [hvm] at h9
    exact h9
  have hall : s.sameButNew ({ U with vm := s.vm } : State) locs mc ms := by
    subst hA
    obtain ⟨e1, e2⟩ := hsame
    rw [State.setFrames_setFrames] at e1
    have h2 : (T.setVm s.vm).sameButNew ({ U with vm := s.vm } : State) [] (0 + 1) (0 + 6) := ⟨e1, e2⟩
    have h3 := X.same.trans h2
    rw [List.append_nil] at h3
    exact h3.mono hc hs
  refine ⟨U, ?_, .threw T.heap.size, hrun, hend, Or.inr ⟨T.heap.size, rfl, cls, ce, locs, hx U hWs.alike f1 (fun q hq => f2 q hq (fun z hz => nomatch hz)), hce, hO.vm, hcl, hWs, hall, hf⟩⟩
  refine st1 _ ?_
  show Steps p.tables e below (T1.setTop { method := m, pc := pc + 3, locals := ls, stack := .ref T.heap.size :: rest, locked := none }) _
  jvm_step X₁.here [X₁.here.top, hexec, d3', Value.category]
  exact hsteps
/-- 'throw new E("text")': new; dup; ldc; invokespecial; athrow -/
theorem vx_throwS {cc : ByteArray} {pc : Nat} (hexec : p.tables.exec = Jvm.exec) (hb : c.code = cc) (hl : l.stackTraces = false) {own cls text : String} {names : List String} {ik is ic mc ms sa : Nat} {A : Nat → Prop}
    (hown : s.vm.findClass own = some m.cls) (hcls : Bundle.fit cls = true) (hnames : ∀ n ∈ names, Bundle.fit n = true)
    (hk : (Cond.classLink own ik cls).before args s = true) (hini : (Cond.initialized cls).before args s = true) (hstr : vk_R own is text sa s) (hat : ∀ w ∈ vx_atS own ic cls names, w.before args s = true)
    (hgood : ∀ w ∈ Cond.classLink own ik cls :: Cond.initialized cls :: vx_atS own ic cls names, vx_ot w = true)
    (hU : vx_Zq Bundle.tN "UNASSIGNED_STACK" Bundle.steD A s s.heap) (hN : vx_Zq Bundle.tN "SUPPRESSED_SENTINEL" Bundle.listD A s s.heap) (hS : va_S A s.heap H locs) (hsize : ls.size = c.maxLocals)
    (d0 : decode cc pc = .ok (.new ik, 3)) (d3 : decode cc (pc + 3) = .ok (.dup, 1)) (d4 : decode cc (pc + 4) = .ok (.ldc is, 2)) (d6 : decode cc (pc + 6) = .ok (.invokespecial ic, 3)) (d9 : decode cc (pc + 9) = .ok (.athrow, 1))
    (hout : ∀ x ∈ c.exceptionTable.toList, covers x (pc + 9) = false)
    (hRframes : names.length + 3 < R.frames) (hRlocals : (rest.map fun v => v.category).sum + (13 * (names.length + 1) + 43) ≤ R.locals) (hRcells : cells + 1 ≤ R.cells) (hRslots : slots + 6 ≤ R.slots) (hlocks : meth.locks = false)
    (hx : ∀ t : State, s.vm.Alike t.vm → H.size ≤ t.heap.size → (∀ q : Nat, q < H.size → t.heap[q]? = H[q]?) → XC cls s t)
    (hf : ∀ z ∈ locs, free z.base) (hc : cells + 1 ≤ mc) (hs : slots + 6 ≤ ms) :
    W p l e R s m args below meth c H locs cells slots (vx_MQ below Qc XC args s mc ms free) (F0 m pc ls rest) := by
  intro T hT X
  have htr : e.platform.stackTraces = false := (show e.platform.stackTraces = l.stackTraces by rw [X.admits.platform]).trans hl
  have Y := vx_rebase X (R' := { frames := R.frames, locals := R.locals, cells := 1, slots := 6 }) (Nat.le_refl _) (Nat.le_refl _) hRcells hRslots
  obtain ⟨s', hA⟩ : ∃ z, z = (T.setVm s.vm).setFrames (.invoking m args :: below) := ⟨_, rfl⟩
  rw [← hA] at Y
  have hvm : s'.vm = s.vm := by rw [hA]; rfl
  have hhp : s'.heap = H := by rw [hA]; exact hT
  have hW0 : s.WarmedH s'.vm := by rw [hvm]; exact State.WarmedH.refl s
  have hat' : ∀ w ∈ vx_atS own ic cls names, w.before args s' = true := fun w hw => vx_ot_at hW0 hvm.symm (hgood w (List.mem_cons_of_mem _ (List.mem_cons_of_mem _ hw))) (hat w hw)
  have hk' : (Cond.classLink own ik cls).before args s' = true := vx_ot_at hW0 hvm.symm (hgood _ List.mem_cons_self) hk
  have hini' : (Cond.initialized cls).before args s' = true := vx_ot_at hW0 hvm.symm (hgood _ (List.mem_cons_of_mem _ List.mem_cons_self)) hini
  have hU' : vx_Zq Bundle.tN "UNASSIGNED_STACK" Bundle.steD A s' s'.heap := by rw [hhp]; exact vx_Zq.moved hW0.alike (hU.kept hS.2.1)
  have hN' : vx_Zq Bundle.tN "SUPPRESSED_SENTINEL" Bundle.listD A s' s'.heap := by rw [hhp]; exact vx_Zq.moved hW0.alike (hN.kept hS.2.1)
  have h : ∀ w ∈ Bundle.ownAtoms own ic cls names, w.before args s' = true := vx_own hat' (vx_isRefq hU'.1) (vx_isRefq hN'.1) hU'.2.word hN'.2.word
  have hown' : s'.vm.findClass own = some m.cls := by rw [hvm]; exact hown
  have hins : (Cond.instantiable cls 6).before args s' = true := h _ (by simp [Bundle.ownAtoms])
  obtain ⟨vm₁, cX, kX, hfX, hkX, -, -, X₁, st1⟩ := Y.newCold hexec (own := own) (C := cls) (index := ik) (n := 6) hown' hk' hins hini'
    (g := F0 m pc ls rest) rfl (by rw [hb]; exact d0) (Nat.le_refl _) (Nat.le_refl _)
  generalize hT1 : (T.setVm vm₁).pushCell { cls := cX, slots := kX.instanceTypes.map defaultValue, vm := .none } = T1 at X₁ st1
  have hcat : (Value.ref T.heap.size).category = 1 := rfl
  have hcellA : T1.heap[T.heap.size]? = some (freshCell cX kX) := by rw [← hT1]; exact State.heap_pushCell_size _ _
  have d3' : decode c.code (pc + 3) = .ok (.dup, 1) := by rw [hb]; exact d3
  have d4' : decode c.code (pc + 4) = .ok (.ldc is, 2) := by rw [hb]; exact d4
  have hstr' : vk_R own is text sa s' := vk_R.warm hW0 hstr
  obtain ⟨U, hsteps, hrun, hend, hW, hsame, ce, hce, hO⟩ := X₁.ctorThrowS hexec htr (own := own) (cls := cls) (names := names) (ic := ic) hown' hcls hnames h (fun x hx => nomatch hx) hfX hkX hcellA (by rw [hhp, hT]; exact Nat.le_refl _) (msg := .ref sa) rfl
    (g := { method := m, pc := pc + 6, locals := ls, stack := .ref sa :: .ref T.heap.size :: .ref T.heap.size :: rest, locked := none }) rfl hsize rfl rfl (rest := rest) rfl
    (by rw [hb]; exact d6) (by rw [hb]; exact d9) hout hRframes (by simp only [List.map_cons, List.sum_cons, hcat]; omega) hlocks
  obtain ⟨f1, f2⟩ := vx_frame hsame
  rw [hhp] at f1 f2
  have hWs : s.WarmedH U.vm := State.WarmedH.trans hW0 hW
  have hcl : s.vm.findClass cls = some ce.cls := by
    have h9 := hO.cls
    rw [hvm] at h9
    exact h9
  have hall : s.sameButNew ({ U with vm := s.vm } : State) locs mc ms := by
    subst hA
    obtain ⟨e1, e2⟩ := hsame
    rw [State.setFrames_setFrames] at e1
    have h2 : (T.setVm s.vm).sameButNew ({ U with vm := s.vm } : State) [] (0 + 1) (0 + 6) := ⟨e1, e2⟩
    have h3 := X.same.trans h2
    rw [List.append_nil] at h3
    exact h3.mono hc hs
  refine ⟨U, ?_, .threw T.heap.size, hrun, hend, Or.inr ⟨T.heap.size, rfl, cls, ce, locs, hx U hWs.alike f1 (fun q hq => f2 q hq (fun z hz => nomatch hz)), hce, hO.vm, hcl, hWs, hall, hf⟩⟩
  refine st1 _ ?_
  show Steps p.tables e below (T1.setTop { method := m, pc := pc + 3, locals := ls, stack := .ref T.heap.size :: rest, locked := none }) _
  jvm_step X₁.here [X₁.here.top, hexec, d3', Value.category]
  exact X₁.ldcString hexec (own := own) (text := text) (index := is) (a := sa) hown' hstr'.1 hstr'.2
    (g := { method := m, pc := pc + 4, locals := ls, stack := .ref T.heap.size :: .ref T.heap.size :: rest, locked := none }) rfl d4' _ hsteps
/-- 'throw new E("text")', the text by a wide index -/
theorem vx_throwSW {cc : ByteArray} {pc : Nat} (hexec : p.tables.exec = Jvm.exec) (hb : c.code = cc) (hl : l.stackTraces = false) {own cls text : String} {names : List String} {ik is ic mc ms sa : Nat} {A : Nat → Prop}
    (hown : s.vm.findClass own = some m.cls) (hcls : Bundle.fit cls = true) (hnames : ∀ n ∈ names, Bundle.fit n = true)
    (hk : (Cond.classLink own ik cls).before args s = true) (hini : (Cond.initialized cls).before args s = true) (hstr : vk_R own is text sa s) (hat : ∀ w ∈ vx_atS own ic cls names, w.before args s = true)
    (hgood : ∀ w ∈ Cond.classLink own ik cls :: Cond.initialized cls :: vx_atS own ic cls names, vx_ot w = true)
    (hU : vx_Zq Bundle.tN "UNASSIGNED_STACK" Bundle.steD A s s.heap) (hN : vx_Zq Bundle.tN "SUPPRESSED_SENTINEL" Bundle.listD A s s.heap) (hS : va_S A s.heap H locs) (hsize : ls.size = c.maxLocals)
    (d0 : decode cc pc = .ok (.new ik, 3)) (d3 : decode cc (pc + 3) = .ok (.dup, 1)) (d4 : decode cc (pc + 4) = .ok (.ldc_w is, 3)) (d7 : decode cc (pc + 7) = .ok (.invokespecial ic, 3)) (d10 : decode cc (pc + 10) = .ok (.athrow, 1))
    (hout : ∀ x ∈ c.exceptionTable.toList, covers x (pc + 10) = false)
    (hRframes : names.length + 3 < R.frames) (hRlocals : (rest.map fun v => v.category).sum + (13 * (names.length + 1) + 43) ≤ R.locals) (hRcells : cells + 1 ≤ R.cells) (hRslots : slots + 6 ≤ R.slots) (hlocks : meth.locks = false)
    (hx : ∀ t : State, s.vm.Alike t.vm → H.size ≤ t.heap.size → (∀ q : Nat, q < H.size → t.heap[q]? = H[q]?) → XC cls s t)
    (hf : ∀ z ∈ locs, free z.base) (hc : cells + 1 ≤ mc) (hs : slots + 6 ≤ ms) :
    W p l e R s m args below meth c H locs cells slots (vx_MQ below Qc XC args s mc ms free) (F0 m pc ls rest) := by
  intro T hT X
  have htr : e.platform.stackTraces = false := (show e.platform.stackTraces = l.stackTraces by rw [X.admits.platform]).trans hl
  have Y := vx_rebase X (R' := { frames := R.frames, locals := R.locals, cells := 1, slots := 6 }) (Nat.le_refl _) (Nat.le_refl _) hRcells hRslots
  obtain ⟨s', hA⟩ : ∃ z, z = (T.setVm s.vm).setFrames (.invoking m args :: below) := ⟨_, rfl⟩
  rw [← hA] at Y
  have hvm : s'.vm = s.vm := by rw [hA]; rfl
  have hhp : s'.heap = H := by rw [hA]; exact hT
  have hW0 : s.WarmedH s'.vm := by rw [hvm]; exact State.WarmedH.refl s
  have hat' : ∀ w ∈ vx_atS own ic cls names, w.before args s' = true := fun w hw => vx_ot_at hW0 hvm.symm (hgood w (List.mem_cons_of_mem _ (List.mem_cons_of_mem _ hw))) (hat w hw)
  have hk' : (Cond.classLink own ik cls).before args s' = true := vx_ot_at hW0 hvm.symm (hgood _ List.mem_cons_self) hk
  have hini' : (Cond.initialized cls).before args s' = true := vx_ot_at hW0 hvm.symm (hgood _ (List.mem_cons_of_mem _ List.mem_cons_self)) hini
  have hU' : vx_Zq Bundle.tN "UNASSIGNED_STACK" Bundle.steD A s' s'.heap := by rw [hhp]; exact vx_Zq.moved hW0.alike (hU.kept hS.2.1)
  have hN' : vx_Zq Bundle.tN "SUPPRESSED_SENTINEL" Bundle.listD A s' s'.heap := by rw [hhp]; exact vx_Zq.moved hW0.alike (hN.kept hS.2.1)
  have h : ∀ w ∈ Bundle.ownAtoms own ic cls names, w.before args s' = true := vx_own hat' (vx_isRefq hU'.1) (vx_isRefq hN'.1) hU'.2.word hN'.2.word
  have hown' : s'.vm.findClass own = some m.cls := by rw [hvm]; exact hown
  have hins : (Cond.instantiable cls 6).before args s' = true := h _ (by simp [Bundle.ownAtoms])
  obtain ⟨vm₁, cX, kX, hfX, hkX, -, -, X₁, st1⟩ := Y.newCold hexec (own := own) (C := cls) (index := ik) (n := 6) hown' hk' hins hini'
    (g := F0 m pc ls rest) rfl (by rw [hb]; exact d0) (Nat.le_refl _) (Nat.le_refl _)
  generalize hT1 : (T.setVm vm₁).pushCell { cls := cX, slots := kX.instanceTypes.map defaultValue, vm := .none } = T1 at X₁ st1
  have hcat : (Value.ref T.heap.size).category = 1 := rfl
  have hcellA : T1.heap[T.heap.size]? = some (freshCell cX kX) := by rw [← hT1]; exact State.heap_pushCell_size _ _
  have d3' : decode c.code (pc + 3) = .ok (.dup, 1) := by rw [hb]; exact d3
  have d4' : decode c.code (pc + 4) = .ok (.ldc_w is, 3) := by rw [hb]; exact d4
  have hstr' : vk_R own is text sa s' := vk_R.warm hW0 hstr
  obtain ⟨U, hsteps, hrun, hend, hW, hsame, ce, hce, hO⟩ := X₁.ctorThrowS hexec htr (own := own) (cls := cls) (names := names) (ic := ic) hown' hcls hnames h (fun x hx => nomatch hx) hfX hkX hcellA (by rw [hhp, hT]; exact Nat.le_refl _) (msg := .ref sa) rfl
    (g := { method := m, pc := pc + 7, locals := ls, stack := .ref sa :: .ref T.heap.size :: .ref T.heap.size :: rest, locked := none }) rfl hsize rfl rfl (rest := rest) rfl
    (by rw [hb]; exact d7) (by rw [hb]; exact d10) hout hRframes (by simp only [List.map_cons, List.sum_cons, hcat]; omega) hlocks
  obtain ⟨f1, f2⟩ := vx_frame hsame
  rw [hhp] at f1 f2
  have hWs : s.WarmedH U.vm := State.WarmedH.trans hW0 hW
  have hcl : s.vm.findClass cls = some ce.cls := by
    have h9 := hO.cls
    rw [hvm] at h9
    exact h9
  have hall : s.sameButNew ({ U with vm := s.vm } : State) locs mc ms := by
    subst hA
    obtain ⟨e1, e2⟩ := hsame
    rw [State.setFrames_setFrames] at e1
    have h2 : (T.setVm s.vm).sameButNew ({ U with vm := s.vm } : State) [] (0 + 1) (0 + 6) := ⟨e1, e2⟩
    have h3 := X.same.trans h2
    rw [List.append_nil] at h3
    exact h3.mono hc hs
  refine ⟨U, ?_, .threw T.heap.size, hrun, hend, Or.inr ⟨T.heap.size, rfl, cls, ce, locs, hx U hWs.alike f1 (fun q hq => f2 q hq (fun z hz => nomatch hz)), hce, hO.vm, hcl, hWs, hall, hf⟩⟩
  refine st1 _ ?_
  show Steps p.tables e below (T1.setTop { method := m, pc := pc + 3, locals := ls, stack := .ref T.heap.size :: rest, locked := none }) _
  jvm_step X₁.here [X₁.here.top, hexec, d3', Value.category]
  exact X₁.ldcStringW hexec (own := own) (text := text) (index := is) (a := sa) hown' hstr'.1 hstr'.2
    (g := { method := m, pc := pc + 4, locals := ls, stack := .ref T.heap.size :: .ref T.heap.size :: rest, locked := none }) rfl d4' _ hsteps
end Ends
section Bodies
variable {l : Launch}
theorem vx_ofW {y : MethodName} {ws ws' : List Cond} {rm : Room} {Pc : Array Value → State → Prop} {Qc : Array Value → State → Outcome → State → Prop} {XC : String → State → State → Prop} {mc ms : Nat} {free : Addr → Prop} {cc : ByteArray} {maxL : Nat} {ret : Option FieldType}
    (hy : plainName y.cls = true) (hw : ws = Cond.code y cc maxL ret :: ws')
    (body : ∀ p e s m args below meth c s₁, BodyLoose p l y (headSpec ws rm) cc maxL ret e s m args below meth c s₁ → c.maxLocals = maxL → (∀ x ∈ c.exceptionTable.toList, False) → Pc args s →
      W p l e (headSpec ws rm).room s m args below meth c s.heap [] 0 0 (vx_MQ below Qc XC args s mc ms free) (entryFrame m args maxL)) : vx_Met l y ws rm Pc Qc XC mc ms free := by
  refine MetFree.of_bodyS (code := cc) (maxLocals := maxL) (ret := ret) hy ?_ ?_
  · intro args s m h hn
    obtain ⟨meth, c, h1, h2, h3, h4, h5, h6, -, -⟩ := Cond.code_spec hn (atoms_spec (ws := ws) h _ (by rw [hw]; exact List.mem_cons_self))
    exact ⟨meth, c, h1, h2, h3, h4, h5, h6⟩
  · intro p e s m args below meth c s₁ B hml hP _
    have hh0 : s₁.heap = s.heap := by rw [B.state]; rfl
    have ht : ∀ x ∈ c.exceptionTable.toList, False := by
      obtain ⟨meth9, c9, h1, h2, -, -, -, -, h7, -⟩ := Cond.code_spec B.named (atoms_spec (ws := ws) B.pre _ (by rw [hw]; exact List.mem_cons_self))
      cases Option.some.inj (h1.symm.trans B.method)
      cases Option.some.inj (h2.symm.trans (Stand.of_body B).code)
      intro x hx
      rw [Array.isEmpty_iff.mp h7] at hx
      cases hx
    obtain ⟨t, a1, o, b1, b2, b3⟩ := body p e s m args below meth c s₁ B hml ht hP s₁ hh0 (Stand.of_body B)
    exact ⟨t, o, a1, b1, b2, b3⟩
/-- the table of a body with handlers -/
theorem vx_table {p : Program} {x y : MethodName} {S : Spec} {cc bytes : ByteArray} {maxL maxL' : Nat} {ret ret' : Option FieldType} {e : Env} {s s₁ : State} {m : MethodId} {args : Array Value} {below : List Frame} {meth : Method} {c : Code} {hh : List (Nat × Nat × Nat × Nat)}
    (B : BodyLoose p l y S cc maxL ret e s m args below meth c s₁) (h : (Cond.codeWith y bytes maxL' ret' hh).before args s = true) : c.exceptionTable.toList = tableOf hh := by
  obtain ⟨m9, meth9, c9, hn9, h1, h2, -, -, h6, -⟩ := Cond.codeWith_spec h
  cases Option.some.inj (hn9.symm.trans B.named)
  cases Option.some.inj (h1.symm.trans B.method)
  cases Option.some.inj (h2.symm.trans (Stand.of_body B).code)
  rw [← h6, table_eq]
end Bodies
end VXA
/-! ===== END ===== -/
/-! ===== BEGIN a static call of a method with an exception table ===== -/
section VXS
variable {p : Program} {l : Launch} {e : Env} {R : Room} {s : State} {m : MethodId} {args : Array Value} {below : List Frame} {meth : Method} {c : Code} {T : State} {H : Heap} {locs : List Loc} {cells slots : Nat}
abbrev vx_CSW (R : Room) (s : State) (args : Array Value) (own : String) (index : Nat) (y : MethodName) (bytes : ByteArray) (maxL : Nat) (ret : Option FieldType) (hh : List (Nat × Nat × Nat × Nat)) (ws : List Cond) (rm : Room) (mc ms n : Nat) : Prop :=
  (rm.cells = mc ∧ rm.slots = ms ∧ rm.frames + 1 ≤ R.frames ∧ 8 + (maxL + 11) + rm.locals ≤ R.locals ∧ (∀ w ∈ ws, ∀ (a' : Array Value) (U : State), s.WarmedH U.vm → w.before a' U = true) ∧ Cond.codeWith y bytes maxL ret hh ∈ ws) ∧
  (Cond.codeWith y bytes maxL ret hh).before args s = true ∧ (Cond.initialized y.cls).before args s = true ∧ (y.cls ≠ "java/lang/invoke/MethodHandle" ∧ y.cls ≠ "java/lang/invoke/VarHandle") ∧
  (∀ sig, parseMethodDescriptor y.desc = some sig → n = sig.parameters.length) ∧ (Cond.methodLink own index y).before args s = true ∧ (Cond.static y).before args s = true
theorem vx_cwSW {own : String} {index maxL mc ms : Nat} {y : MethodName} {bytes : ByteArray} {ret : Option FieldType} {hh : List (Nat × Nat × Nat × Nat)} {Ts ws ws' : List Cond} {rm : Room} (n : Nat) (ht : ∀ w ∈ Ts, w.before args s = true) (hT : GoodIn Ts (va_wsS own index y ws)) (hw : ws = Cond.codeWith y bytes maxL ret hh :: ws') (hrc : rm.cells = mc) (hrs : rm.slots = ms)
    (hd : y.cls ≠ "java/lang/invoke/MethodHandle" ∧ y.cls ≠ "java/lang/invoke/VarHandle" ∧ (parseMethodDescriptor y.desc).map (fun d => d.parameters.length) = some n) (hR : rm.frames + 1 ≤ R.frames ∧ 8 + (maxL + 11) + rm.locals ≤ R.locals) :
    vx_CSW R s args own index y bytes maxL ret hh ws rm mc ms n := by
  have ok : ∀ w ∈ va_wsS own index y ws, w.before args s = true := fun w h => ht w (hT w h).1
  have hG : GoodIn Ts ws := fun w h => hT w (by unfold va_wsS; exact List.mem_append_right _ h)
  have hc : Cond.codeWith y bytes maxL ret hh ∈ ws := by rw [hw]; exact List.mem_cons_self
  refine ⟨⟨hrc, hrs, hR.1, hR.2, pay_in ht hG, hc⟩, ht _ (hG _ hc).1, ok _ (by simp [va_wsS]), ⟨hd.1, hd.2.1⟩, fun sig h => ?_, ok _ (by simp [va_wsS]), ok _ (by simp [va_wsS])⟩
  have h2 := hd.2.2
  rw [h] at h2
  exact (Option.some.inj h2).symm
theorem vx_callSW (X : Stand p l e R s m args below meth c T locs cells slots) (hexec : p.tables.exec = Jvm.exec) {own : String} {index : Nat} {y : MethodName} {bytes : ByteArray} {maxL : Nat} {ret : Option FieldType} {hh : List (Nat × Nat × Nat × Nat)}
    (hown : s.vm.findClass own = some m.cls) (hlink : (Cond.methodLink own index y).before args s = true) (hstat : (Cond.static y).before args s = true) (hinit : (Cond.initialized y.cls).before args s = true)
    (hcode : (Cond.codeWith y bytes maxL ret hh).before args s = true) (hy : y.cls ≠ "java/lang/invoke/MethodHandle" ∧ y.cls ≠ "java/lang/invoke/VarHandle")
    {W9 : Nat} {Pre : Pt → Array Value → Prop} {Post : Pt → Array Value → Option Value → Pt → Prop} (hK : Back l R p e below s args y 3 W9 Pre Post)
    {g : JFrame} (hg : g.method = m) (hsize : g.locals.size = c.maxLocals) {argsL rest : List Value} (hlen : ∀ sig, parseMethodDescriptor y.desc = some sig → argsL.length = sig.parameters.length)
    (hstack : g.stack = argsL.reverse ++ rest) (hW : 2 * g.monitorRoom + (rest.map fun v => v.category).sum ≤ W9) (hdg : decode c.code g.pc = .ok (.invokestatic index, 3))
    (hpre : ∀ vm₁, s.WarmedH vm₁ → Pre ⟨T.setVm vm₁, locs, cells, slots⟩ argsL.toArray) :
    ∃ (v : Option Value) (vm₁ : Vm) (B : Pt), s.WarmedH vm₁ ∧ Stand p l e R s m args below meth c B.U B.locs B.cells B.slots ∧ Post ⟨T.setVm vm₁, locs, cells, slots⟩ argsL.toArray v B ∧
      ∀ target, Steps p.tables e below (B.U.setTop { g with pc := g.pc + 3, stack := v.toList ++ rest }) target → Steps p.tables e below (T.setTop g) target := by
  obtain ⟨mk, methM, cM, hnamed, hmethM, -, -, -, -, -, -, hsigM⟩ := Cond.codeWith_spec hcode
  have hstatic : methM.isStatic = true := Cond.static_spec hnamed hmethM hstat
  obtain ⟨kP, hkP, -⟩ := className_of_methodNamed hnamed
  have hinitP : kP.init = .initialized := Cond.initialized_spec (findClass_of_methodNamed hnamed) hkP hinit
  obtain ⟨vm₁, X₁, hstep₁⟩ := X.invokestatic hexec hown hlink hnamed hmethM hstatic hkP hinitP hy (g := g) hg (argsL := argsL) (rest := rest) (hlen _ hsigM) hstack hdg
  obtain ⟨v, B, X', hpost, hsteps⟩ := hK m meth c ⟨T.setVm vm₁, locs, cells, slots⟩ { g with stack := rest } (.invokestatic index) mk argsL.toArray X₁ hg hsize hdg hW (X₁.named hnamed) (hpre vm₁ X₁.warmed)
  exact ⟨v, vm₁, B, X₁.warmed, X', hpost, fun target h => hstep₁ _ fun acts => by rw [doInvoke_state]; exact hsteps.trans h⟩
theorem vx_runSW {y : MethodName} {bytes cc : ByteArray} {maxL nL mc ms n index : Nat} {ret : Option FieldType} {hh : List (Nat × Nat × Nat × Nat)} {ws : List Cond} {rm : Room} {Pc : Array Value → State → Prop} {Qc : Array Value → State → Outcome → State → Prop} {free : Addr → Prop} {Ts : List Cond} {own : String} {As rest : List Value} {g : JFrame}
    (S : CallFix p m c cc nL s args Ts own) (hM : Met l y ws rm Pc Qc mc ms free) (cw : vx_CSW R s args own index y bytes maxL ret hh ws rm mc ms n) (hp : PreS s H Pc As)
    (hg : g.method = m) (hn : As.length = n) (hsize : g.locals.size = nL) (hstack : g.stack = As.reverse ++ rest) (hW : 2 * g.monitorRoom + (rest.map fun v => v.category).sum ≤ 8) (hdg : decode cc g.pc = .ok (.invokestatic index, 3)) (hf : cells + mc ≤ R.cells ∧ slots + ms ≤ R.slots) :
    va_Run p l e R s m args below meth c H locs cells slots mc ms g rest (Qc As.toArray) (free) := by
  obtain ⟨⟨hrc, hrs, hfr, hlo, hws, hcw⟩, hcode, hini, hy, hlen, hl, hstt⟩ := cw
  have hK : Back l R p e below s args y 3 8 (PreOf R mc ms Pc) (PostOf Qc mc ms free) := va_backW (hh := hh) (bytes := bytes) (maxL := maxL) (ret := ret) hM hp.1 hrc hrs hfr hlo hws hcw (fun a' U hW => word_at hW (Or.inl (by first | rfl | simp [Cond.onTables, Cond.keeps, Cond.steady])) hini)
  obtain ⟨hx, hb, hml, ho, -⟩ := S
  intro T hT X
  obtain ⟨v, vm₁, ⟨U', l2, c2, s2⟩, hW₁, X', ⟨g', mk, t, L, e1, e2, hq, h1, hL, h2, h3⟩, st⟩ := vx_callSW X hx (hh := hh) (bytes := bytes) (maxL := maxL) (ret := ret) ho hl hstt hini hcode hy hK hg (hsize.trans hml.symm) (argsL := As) (rest := rest) (fun sig h => hn.trans (hlen sig h)) hstack hW (by rw [hb]; exact hdg)
    (fun vm₁ hW₁ => ⟨hf.1, hf.2, hp.2 (T.setVm vm₁) hT hW₁⟩)
  dsimp only [Pt.U, Pt.locs, Pt.cells, Pt.slots] at X' e1 e2 h1 h2 h3 st
  subst h1; subst h2; subst h3
  exact ⟨v, (T.setVm vm₁).calling g' mk As.toArray, t, U', L, hT, X', hL, e1, e2, hq, st⟩
/-- not caught here, past rows that name other classes: it goes on to the caller -/
theorem vx_outP {p : Program} {l : Launch} {e : Env} {R : Room} {s : State} {m : MethodId} {args : Array Value} {below : List Frame} {meth : Method} {c : Code} {H : Heap} {locs : List Loc} {cells slots : Nat} {free : Addr → Prop} {ls : Array Slot} {rest : List Value} {Qc : Array Value → State → Outcome → State → Prop} {XC : String → State → State → Prop}
    {pc : Nat} {own E : String} {ce : Cell} {q : Addr} {mc ms : Nat} (hown : s.vm.findClass own = some m.cls) (hlocks : meth.locks = false)
    (hpass : ∀ z ∈ c.exceptionTable.toList, covers z pc = false ∨ (z.catchType ≠ 0 ∧ ∃ nm : String, (Cond.classLink own z.catchType nm).before args s = true ∧ va_Nc E nm s)) (hcell : H[q]? = some ce) (hv : ce.vm = .none) (hcl : s.vm.findClass E = some ce.cls)
    (hx : ∀ t : State, t.heap = H → s.vm.Alike t.vm → XC E s t) (hf : ∀ z ∈ locs, free z.base) (hc : cells ≤ mc) (hs : slots ≤ ms) :
    vx_W p l e R s m args below meth c H locs cells slots (vx_MQ below Qc XC args s mc ms free) (F0 m pc ls rest) q := by
  intro T hT X
  have hpl : e.platform.magicAccessors = ({} : Platform).magicAccessors := by rw [X.admits.platform]
  obtain ⟨vm', hW', X', st⟩ := X.outThrough hlocks q (g := F0 m pc ls rest) rfl rfl rfl (cell := ce) (by rw [hT]; exact hcell) (by rw [hv]; rfl)
    (by obtain ⟨k9, h9, -⟩ := Vm.findClass_spec hcl; exact ⟨k9, h9⟩) (fun z hz => by
      rcases hpass z hz with h | ⟨hz0, nm, hl1, hn1⟩
      · exact Or.inl h
      · obtain ⟨c6, hc6, hcl6⟩ := Cond.classLink_spec hown hl1 e.platform hpl
        obtain ⟨a8, b8, h1, h2, h3⟩ := hn1
        cases Option.some.inj (h1.symm.trans hcl)
        cases Option.some.inj (h2.symm.trans hc6)
        exact Or.inr ⟨hz0, _, hcl6, h3⟩)
  obtain ⟨g₀, hfr⟩ := X'.frames_eq
  have hcell9 : ((T.setVm vm').setFrames (.throwing q :: below)).heap[q]? = some ce := by
    show T.heap[q]? = some ce
    rw [hT]; exact hcell
  have hend : Ended ((T.setVm vm').setFrames (.throwing q :: below)) below (.threw q) := State.frames_setFrames _ (State.cur_lt_of_frames hfr)
  refine ⟨(T.setVm vm').setFrames (.throwing q :: below), ?_, .threw q, X'.here.running, hend, Or.inr ⟨q, rfl, E, ce, locs, hx _ hT (X'.ends _).1.alike, hcell9, hv, hcl, (X'.ends _).1, (X'.ends _).2.mono hc hs, hf⟩⟩
  rw [X.pushThrowing_eq]
  exact st
/-- a thing of a world lies in the heap -/
theorem vx_lt {D : va_G} {cl : List vw_C} {ws : va_W} {H1 : Heap} (h : va_P D cl ws H1) {k : Nat} {q : Nat × va_E} (hk : ws[k]? = some q) : q.1 < H1.size := (h k q hk).lt
end VXS
/-! ===== END ===== -/
/-! ===== BEGIN methods with a table of their own: called by a name, returning or throwing ===== -/
section VXH
/-! vx_backW, vx_callVX, vx_callSX, vx_callVW, vx_runVW, vx_runVX, vx_runSX, vx_ofWH follow the same proofs as their sisters above (Free/Laws.lean, Shelf42/LK1.lean); vx_outP calls Shelf42/NT130.lean (outThrough). -/
section
variable {l : Launch} {R : Room} {p : Program} {e : Env} {below : List Frame} {s : State} {sargs : Array Value} {y : MethodName} {len W9 : Nat}
theorem vx_backW {ws : List Cond} {rm : Room} {Pc : Array Value → State → Prop} {Qc : Array Value → State → Outcome → State → Prop} {XC : String → State → State → Prop} {mc ms : Nat} {free : Addr → Prop} {bytes : ByteArray} {maxL : Nat} {ret : Option FieldType} {hh : List (Nat × Nat × Nat × Nat)}
    (hM : vx_Met l y ws rm Pc Qc XC mc ms free) (hblind : FrameBlind Pc) (hrc : rm.cells = mc) (hrs : rm.slots = ms)
    (hframes : rm.frames + 1 ≤ R.frames) (hlocals : W9 + (maxL + 11) + rm.locals ≤ R.locals)
    (hws : ∀ w ∈ ws, ∀ a' U, s.WarmedH U.vm → w.before a' U = true) (hcode : Cond.codeWith y bytes maxL ret hh ∈ ws) (hinit : ∀ a' U, s.WarmedH U.vm → (Cond.initialized y.cls).before a' U = true) :
    vx_Back l R p e below s sargs y len W9 (PreOf R mc ms Pc) (PostOf Qc mc ms free) (vx_Post XC mc ms free) := by
  intro m meth c A g ig mk a X hg hsize hdg hW hn hp
  have h1 : (headSpec ws rm).pre.before a A.U = true := atoms_intro fun w hw => hws w hw _ _ X.warmed
  have h2 : (Cond.codeWith y bytes maxL ret hh).before a A.U = true := hws _ hcode _ _ X.warmed
  have h3 : (Cond.initialized y.cls).before a A.U = true := hinit _ _ X.warmed
  have h4 : A.cells + (headSpec ws rm).room.cells ≤ R.cells := by rw [show (headSpec ws rm).room.cells = mc from hrc]; exact hp.1
  have h5 : A.slots + (headSpec ws rm).room.slots ≤ R.slots := by rw [show (headSpec ws rm).room.slots = ms from hrs]; exact hp.2.1
  have hPc : Pc a (A.U.calling g mk a) := hblind _ _ _ _ hp.2.2
  obtain ⟨U, Ls, c0, s0⟩ := A
  dsimp only [Pt.U, Pt.locs, Pt.cells, Pt.slots] at h1 h2 h3 h4 h5 X hn hPc ⊢
  obtain ⟨m9, methY, cY, hn9, hmY, hcY, -, hlY, -⟩ := Cond.codeWith_spec h2
  cases Option.some.inj (hn9.symm.trans hn)
  obtain ⟨kY, hkY, -⟩ := className_of_methodNamed hn
  have hinitY : kY.init = .initialized := Cond.initialized_spec (findClass_of_methodNamed hn) hkY h3
  have h : At U g.method c below := by rw [hg]; exact X.here
  have hlocals9 : W9 + (maxL + 11) + (headSpec ws rm).room.locals ≤ R.locals := hlocals
  have happ : (headSpec ws rm).appliesLoose y e.platform (U.calling g mk a) = true :=
    Spec.appliesLoose_calling (g := g) h hdg hn hkY hinitY
      (X.room_calling (g := g) (R' := (headSpec ws rm).room) hsize hmY hcY hframes (by rw [hlY]; omega) h4 h5) h1
  obtain ⟨mid, hmid⟩ := h.above
  have hfr : (U.setTop g).frames = (.java g :: mid) ++ below := by rw [State.frames_setTop' g h.top, hmid]; rfl
  obtain ⟨o, s₂, hsteps, -, hend, hq⟩ := Steps.callFree hM p X.admits X.cas X.clock (acts := []) hfr happ hPc trivial
  have hq' : vx_Q Qc XC mc ms free a (U.calling g mk a) o s₂ := hq
  rw [State.frames_setTop' g h.top] at hend
  obtain ⟨g₀, hg0⟩ := Option.isSome_iff_exists.mp h.top
  obtain ⟨r, hr⟩ := State.topJava?_eq_some.mp hg0
  have hr' : (({ U with heap := s₂.heap, slotsUsed := s₂.slotsUsed } : State).setVm s₂.vm).frames = .java g₀ :: r := hr
  rcases hq' with ⟨hqc, L, hfe, hL⟩ | ⟨q, rfl, E, ce, L, hx, hce, hcv, hcl, hW₂, hsm, hL⟩
  · obtain ⟨⟨v, rfl⟩, hW₂, e2, q2, q3, q4, q5, q6⟩ := id hfe
    have e3 : s₂ = ({ (U.calling g mk a).setFrames s₂.frames with heap := s₂.heap, slotsUsed := s₂.slotsUsed } : State).setVm s₂.vm := by
      have : s₂ = ({ s₂ with vm := (U.calling g mk a).vm } : State).setVm s₂.vm := rfl
      rw [e2] at this
      exact this
    obtain ⟨c₂, i₂, len₂, hc₂, hd₂, hf₂⟩ := hend
    have hW' : U.WarmedH s₂.vm := hW₂
    have hcc : c₂ = c := by
      have h1 : s₂.code? g.method = U.code? g.method := by
        rw [State.code?_eq, State.code?_eq, hW'.alike.method?]
      exact Option.some.inj (hc₂.symm.trans (h1.trans h.code))
    subst hcc
    have hlen : len₂ = len := by rw [hdg] at hd₂; cases hd₂; rfl
    subst hlen
    have hs₂ : s₂ = (({ U with heap := s₂.heap, slotsUsed := s₂.slotsUsed } : State).setVm s₂.vm).setTop { g with pc := g.pc + len₂, stack := v.toList ++ g.stack } := by
      refine e3.trans ?_
      rw [hf₂, State.calling_eq h.top, State.setFrames_setFrames, State.setTop_of_frames _ hr', hr]
      rfl
    have hsame : U.sameButNew ({ U with heap := s₂.heap, slotsUsed := s₂.slotsUsed } : State) L mc ms := by
      refine ⟨?_, q2, q3, q4, q5, q6⟩
      obtain ⟨t, ht, -⟩ := State.frames_cons hr
      show ({ U with heap := s₂.heap, slotsUsed := s₂.slotsUsed } : State) = { U.setFrames U.frames with heap := s₂.heap, slotsUsed := s₂.slotsUsed }
      rw [State.setFrames_self ht]
    subst hg
    refine Or.inl ⟨v, ⟨(({ U with heap := s₂.heap, slotsUsed := s₂.slotsUsed } : State).setVm s₂.vm), Ls ++ L, c0 + mc, s0 + ms⟩,
      ⟨X.admits, X.cas, X.clock, X.frames, X.room, X.hears, X.method, X.code, (X.here.setHeapUsed s₂.heap s₂.slotsUsed).setVm hW'.alike, X.tail, State.WarmedH.trans X.warmed hW', X.limits, X.bytes, X.same.trans (hsame.setVm s.vm)⟩,
      ⟨g, mk, s₂, L, rfl, rfl, hqc, rfl, hL, rfl, rfl⟩, ?_⟩
    show Steps p.tables e below _ ((({ U with heap := s₂.heap, slotsUsed := s₂.slotsUsed } : State).setVm s₂.vm).setTop { g with pc := g.pc + len₂, stack := v.toList ++ g.stack })
    rw [← hs₂]
    exact hsteps
  · obtain ⟨e2, q2, q3, q4, q5, q6⟩ := id hsm
    have e3 : s₂ = ({ (U.calling g mk a).setFrames s₂.frames with heap := s₂.heap, slotsUsed := s₂.slotsUsed } : State).setVm s₂.vm := by
      have : s₂ = ({ s₂ with vm := (U.calling g mk a).vm } : State).setVm s₂.vm := rfl
      rw [e2] at this
      exact this
    have hf₂ : s₂.frames = .throwing q :: .java g :: U.frames.tail := hend
    have hW' : U.WarmedH s₂.vm := hW₂
    have hs₂ : s₂ = ((({ U with heap := s₂.heap, slotsUsed := s₂.slotsUsed } : State).setVm s₂.vm).setTop g).pushFrame (.throwing q) := by
      refine e3.trans ?_
      rw [hf₂, State.calling_eq h.top, State.setFrames_setFrames, State.pushFrame, State.frames_setTop _ hr', State.setTop_of_frames _ hr', State.setFrames_setFrames, hr]
      rfl
    have hsame : U.sameButNew ({ U with heap := s₂.heap, slotsUsed := s₂.slotsUsed } : State) L mc ms := by
      refine ⟨?_, q2, q3, q4, q5, q6⟩
      obtain ⟨t, ht, -⟩ := State.frames_cons hr
      show ({ U with heap := s₂.heap, slotsUsed := s₂.slotsUsed } : State) = { U.setFrames U.frames with heap := s₂.heap, slotsUsed := s₂.slotsUsed }
      rw [State.setFrames_self ht]
    subst hg
    refine Or.inr ⟨q, ⟨(({ U with heap := s₂.heap, slotsUsed := s₂.slotsUsed } : State).setVm s₂.vm), Ls ++ L, c0 + mc, s0 + ms⟩,
      ⟨X.admits, X.cas, X.clock, X.frames, X.room, X.hears, X.method, X.code, (X.here.setHeapUsed s₂.heap s₂.slotsUsed).setVm hW'.alike, X.tail, State.WarmedH.trans X.warmed hW', X.limits, X.bytes, X.same.trans (hsame.setVm s.vm)⟩,
      ⟨g, mk, s₂, L, E, ce, rfl, rfl, hx, hce, hcv, hcl, rfl, hL, rfl, rfl⟩, ?_⟩
    show Steps p.tables e below _ (((({ U with heap := s₂.heap, slotsUsed := s₂.slotsUsed } : State).setVm s₂.vm).setTop g).pushFrame (.throwing q))
    rw [← hs₂]
    exact hsteps
end
variable {p : Program} {l : Launch} {e : Env} {R : Room} {s : State} {m : MethodId} {args : Array Value} {below : List Frame} {meth : Method} {c : Code} {T : State} {H : Heap} {locs : List Loc} {cells slots : Nat}
theorem vx_callVX (X : Stand p l e R s m args below meth c T locs cells slots) (hexec : p.tables.exec = Jvm.exec) {own C : String} {index : Nat} {y : MethodName} {bytes : ByteArray} {maxL : Nat} {ret : Option FieldType} {hh : List (Nat × Nat × Nat × Nat)}
    (hown : s.vm.findClass own = some m.cls) (hlink : (Cond.methodLink own index y).before args s = true) (hinst : (Cond.instanceMethod y).before args s = true) (hsel : (Cond.selects C y y).before args s = true)
    (hcode : (Cond.codeWith y bytes maxL ret hh).before args s = true) (hy : y.cls ≠ "java/lang/invoke/MethodHandle" ∧ y.cls ≠ "java/lang/invoke/VarHandle")
    {W9 : Nat} {Pre : Pt → Array Value → Prop} {Post : Pt → Array Value → Option Value → Pt → Prop} {PostX : Pt → Array Value → Addr → Pt → Prop} (hK : vx_Back l R p e below s args y 3 W9 Pre Post PostX)
    {b : Addr} {cellB : Cell} (hcell : T.heap[b]? = some cellB) (hobj : cellB.vm.isStatics = false) (hcls : s.vm.findClass C = some cellB.cls)
    {g : JFrame} (hg : g.method = m) (hsize : g.locals.size = c.maxLocals) {argsL rest : List Value} (hlen : ∀ sig, parseMethodDescriptor y.desc = some sig → argsL.length = sig.parameters.length)
    (hstack : g.stack = argsL.reverse ++ .ref b :: rest) (hW : 2 * g.monitorRoom + (rest.map fun v => v.category).sum ≤ W9) (hdg : decode c.code g.pc = .ok (.invokevirtual index, 3))
    (hpre : ∀ vm₁, s.WarmedH vm₁ → Pre ⟨T.setVm vm₁, locs, cells, slots⟩ (Value.ref b :: argsL).toArray) :
    (∃ (v : Option Value) (vm₁ : Vm) (B : Pt), s.WarmedH vm₁ ∧ Stand p l e R s m args below meth c B.U B.locs B.cells B.slots ∧ Post ⟨T.setVm vm₁, locs, cells, slots⟩ (Value.ref b :: argsL).toArray v B ∧
      ∀ target, Steps p.tables e below (B.U.setTop { g with pc := g.pc + 3, stack := v.toList ++ rest }) target → Steps p.tables e below (T.setTop g) target) ∨
    (∃ (q : Addr) (vm₁ : Vm) (B : Pt), s.WarmedH vm₁ ∧ Stand p l e R s m args below meth c B.U B.locs B.cells B.slots ∧ PostX ⟨T.setVm vm₁, locs, cells, slots⟩ (Value.ref b :: argsL).toArray q B ∧
      Steps p.tables e below (T.setTop g) ((B.U.setTop { g with stack := rest }).pushFrame (.throwing q))) := by
  obtain ⟨mk, methM, hnamed, hmethM, hstM, habM⟩ := Cond.instanceMethod_spec hinst
  obtain ⟨m8, methM', cM, hn8, hmethM', -, -, -, -, -, -, hsigM⟩ := Cond.codeWith_spec hcode
  cases Option.some.inj (hn8.symm.trans hnamed)
  cases hmethM.symm.trans hmethM'
  obtain ⟨c2, r2, m2, q1, q2, q3, q4, kP, hkP, hkPi⟩ := Cond.selects_spec hsel
  cases hcls.symm.trans q1
  cases (State.methodFound?_of_named hnamed hy).symm.trans q2
  cases hnamed.symm.trans q3
  have hselP : selectMethod e.platform s.vm cellB.cls mk = .method mk := by rw [Launch.admits_selectMethod X.admits]; exact q4
  obtain ⟨vm₁, X₁, hstep₁⟩ := X.invokevirtual hexec hown hlink hnamed hmethM hstM hkP hkPi hy (a := b) (cell := cellB) hcell
    (fun z h => by rw [h] at hobj; cases hobj) hselP hmethM habM hkP hkPi (g := g) hg (argsL := argsL) (rest := rest) (hlen _ hsigM) hstack hdg
  rcases hK m meth c ⟨T.setVm vm₁, locs, cells, slots⟩ { g with stack := rest } (.invokevirtual index) mk (Value.ref b :: argsL).toArray X₁ hg hsize hdg hW (X₁.named hnamed) (hpre vm₁ X₁.warmed) with ⟨v, B, X', hpost, hsteps⟩ | ⟨q, B, X', hpost, hsteps⟩
  · exact Or.inl ⟨v, vm₁, B, X₁.warmed, X', hpost, fun target h => hstep₁ _ fun acts => by rw [doInvoke_state]; exact hsteps.trans h⟩
  · exact Or.inr ⟨q, vm₁, B, X₁.warmed, X', hpost, hstep₁ _ fun acts => by rw [doInvoke_state]; exact hsteps⟩
theorem vx_callSX (X : Stand p l e R s m args below meth c T locs cells slots) (hexec : p.tables.exec = Jvm.exec) {own : String} {index : Nat} {y : MethodName} {bytes : ByteArray} {maxL : Nat} {ret : Option FieldType} {hh : List (Nat × Nat × Nat × Nat)}
    (hown : s.vm.findClass own = some m.cls) (hlink : (Cond.methodLink own index y).before args s = true) (hstat : (Cond.static y).before args s = true) (hinit : (Cond.initialized y.cls).before args s = true)
    (hcode : (Cond.codeWith y bytes maxL ret hh).before args s = true) (hy : y.cls ≠ "java/lang/invoke/MethodHandle" ∧ y.cls ≠ "java/lang/invoke/VarHandle")
    {W9 : Nat} {Pre : Pt → Array Value → Prop} {Post : Pt → Array Value → Option Value → Pt → Prop} {PostX : Pt → Array Value → Addr → Pt → Prop} (hK : vx_Back l R p e below s args y 3 W9 Pre Post PostX)
    {g : JFrame} (hg : g.method = m) (hsize : g.locals.size = c.maxLocals) {argsL rest : List Value} (hlen : ∀ sig, parseMethodDescriptor y.desc = some sig → argsL.length = sig.parameters.length)
    (hstack : g.stack = argsL.reverse ++ rest) (hW : 2 * g.monitorRoom + (rest.map fun v => v.category).sum ≤ W9) (hdg : decode c.code g.pc = .ok (.invokestatic index, 3))
    (hpre : ∀ vm₁, s.WarmedH vm₁ → Pre ⟨T.setVm vm₁, locs, cells, slots⟩ argsL.toArray) :
    (∃ (v : Option Value) (vm₁ : Vm) (B : Pt), s.WarmedH vm₁ ∧ Stand p l e R s m args below meth c B.U B.locs B.cells B.slots ∧ Post ⟨T.setVm vm₁, locs, cells, slots⟩ argsL.toArray v B ∧
      ∀ target, Steps p.tables e below (B.U.setTop { g with pc := g.pc + 3, stack := v.toList ++ rest }) target → Steps p.tables e below (T.setTop g) target) ∨
    (∃ (q : Addr) (vm₁ : Vm) (B : Pt), s.WarmedH vm₁ ∧ Stand p l e R s m args below meth c B.U B.locs B.cells B.slots ∧ PostX ⟨T.setVm vm₁, locs, cells, slots⟩ argsL.toArray q B ∧
      Steps p.tables e below (T.setTop g) ((B.U.setTop { g with stack := rest }).pushFrame (.throwing q))) := by
  obtain ⟨mk, methM, cM, hnamed, hmethM, -, -, -, -, -, -, hsigM⟩ := Cond.codeWith_spec hcode
  have hstatic : methM.isStatic = true := Cond.static_spec hnamed hmethM hstat
  obtain ⟨kP, hkP, -⟩ := className_of_methodNamed hnamed
  have hinitP : kP.init = .initialized := Cond.initialized_spec (findClass_of_methodNamed hnamed) hkP hinit
  obtain ⟨vm₁, X₁, hstep₁⟩ := X.invokestatic hexec hown hlink hnamed hmethM hstatic hkP hinitP hy (g := g) hg (argsL := argsL) (rest := rest) (hlen _ hsigM) hstack hdg
  rcases hK m meth c ⟨T.setVm vm₁, locs, cells, slots⟩ { g with stack := rest } (.invokestatic index) mk argsL.toArray X₁ hg hsize hdg hW (X₁.named hnamed) (hpre vm₁ X₁.warmed) with ⟨v, B, X', hpost, hsteps⟩ | ⟨q, B, X', hpost, hsteps⟩
  · exact Or.inl ⟨v, vm₁, B, X₁.warmed, X', hpost, fun target h => hstep₁ _ fun acts => by rw [doInvoke_state]; exact hsteps.trans h⟩
  · exact Or.inr ⟨q, vm₁, B, X₁.warmed, X', hpost, hstep₁ _ fun acts => by rw [doInvoke_state]; exact hsteps⟩
theorem vx_callVW (X : Stand p l e R s m args below meth c T locs cells slots) (hexec : p.tables.exec = Jvm.exec) {own C : String} {index : Nat} {y : MethodName} {bytes : ByteArray} {maxL : Nat} {ret : Option FieldType} {hh : List (Nat × Nat × Nat × Nat)}
    (hown : s.vm.findClass own = some m.cls) (hlink : (Cond.methodLink own index y).before args s = true) (hinst : (Cond.instanceMethod y).before args s = true) (hsel : (Cond.selects C y y).before args s = true)
    (hcode : (Cond.codeWith y bytes maxL ret hh).before args s = true) (hy : y.cls ≠ "java/lang/invoke/MethodHandle" ∧ y.cls ≠ "java/lang/invoke/VarHandle")
    {W9 : Nat} {Pre : Pt → Array Value → Prop} {Post : Pt → Array Value → Option Value → Pt → Prop} (hK : Back l R p e below s args y 3 W9 Pre Post)
    {b : Addr} {cellB : Cell} (hcell : T.heap[b]? = some cellB) (hobj : cellB.vm.isStatics = false) (hcls : s.vm.findClass C = some cellB.cls)
    {g : JFrame} (hg : g.method = m) (hsize : g.locals.size = c.maxLocals) {argsL rest : List Value} (hlen : ∀ sig, parseMethodDescriptor y.desc = some sig → argsL.length = sig.parameters.length)
    (hstack : g.stack = argsL.reverse ++ .ref b :: rest) (hW : 2 * g.monitorRoom + (rest.map fun v => v.category).sum ≤ W9) (hdg : decode c.code g.pc = .ok (.invokevirtual index, 3))
    (hpre : ∀ vm₁, s.WarmedH vm₁ → Pre ⟨T.setVm vm₁, locs, cells, slots⟩ (Value.ref b :: argsL).toArray) :
    ∃ (v : Option Value) (vm₁ : Vm) (B : Pt), s.WarmedH vm₁ ∧ Stand p l e R s m args below meth c B.U B.locs B.cells B.slots ∧ Post ⟨T.setVm vm₁, locs, cells, slots⟩ (Value.ref b :: argsL).toArray v B ∧
      ∀ target, Steps p.tables e below (B.U.setTop { g with pc := g.pc + 3, stack := v.toList ++ rest }) target → Steps p.tables e below (T.setTop g) target := by
  obtain ⟨mk, methM, hnamed, hmethM, hstM, habM⟩ := Cond.instanceMethod_spec hinst
  obtain ⟨m8, methM', cM, hn8, hmethM', -, -, -, -, -, -, hsigM⟩ := Cond.codeWith_spec hcode
  cases Option.some.inj (hn8.symm.trans hnamed)
  cases hmethM.symm.trans hmethM'
  obtain ⟨c2, r2, m2, q1, q2, q3, q4, kP, hkP, hkPi⟩ := Cond.selects_spec hsel
  cases hcls.symm.trans q1
  cases (State.methodFound?_of_named hnamed hy).symm.trans q2
  cases hnamed.symm.trans q3
  have hselP : selectMethod e.platform s.vm cellB.cls mk = .method mk := by rw [Launch.admits_selectMethod X.admits]; exact q4
  obtain ⟨vm₁, X₁, hstep₁⟩ := X.invokevirtual hexec hown hlink hnamed hmethM hstM hkP hkPi hy (a := b) (cell := cellB) hcell
    (fun z h => by rw [h] at hobj; cases hobj) hselP hmethM habM hkP hkPi (g := g) hg (argsL := argsL) (rest := rest) (hlen _ hsigM) hstack hdg
  obtain ⟨v, B, X', hpost, hsteps⟩ := hK m meth c ⟨T.setVm vm₁, locs, cells, slots⟩ { g with stack := rest } (.invokevirtual index) mk (Value.ref b :: argsL).toArray X₁ hg hsize hdg hW (X₁.named hnamed) (hpre vm₁ X₁.warmed)
  exact ⟨v, vm₁, B, X₁.warmed, X', hpost, fun target h => hstep₁ _ fun acts => by rw [doInvoke_state]; exact hsteps.trans h⟩
abbrev vx_CVW (R : Room) (s : State) (args : Array Value) (own C : String) (index : Nat) (y : MethodName) (bytes : ByteArray) (maxL : Nat) (ret : Option FieldType) (hh : List (Nat × Nat × Nat × Nat)) (ws : List Cond) (rm : Room) (mc ms n : Nat) : Prop :=
  (rm.cells = mc ∧ rm.slots = ms ∧ rm.frames + 1 ≤ R.frames ∧ 8 + (maxL + 11) + rm.locals ≤ R.locals ∧ (∀ w ∈ ws, ∀ (a' : Array Value) (U : State), s.WarmedH U.vm → w.before a' U = true) ∧ Cond.codeWith y bytes maxL ret hh ∈ ws) ∧
  (Cond.codeWith y bytes maxL ret hh).before args s = true ∧ (Cond.initialized y.cls).before args s = true ∧ (y.cls ≠ "java/lang/invoke/MethodHandle" ∧ y.cls ≠ "java/lang/invoke/VarHandle") ∧
  (∀ sig, parseMethodDescriptor y.desc = some sig → n = sig.parameters.length) ∧ (Cond.methodLink own index y).before args s = true ∧ (Cond.instanceMethod y).before args s = true ∧ (Cond.selects C y y).before args s = true
theorem vx_cwVW {own C : String} {index maxL mc ms : Nat} {y : MethodName} {bytes : ByteArray} {ret : Option FieldType} {hh : List (Nat × Nat × Nat × Nat)} {Ts ws ws' : List Cond} {rm : Room} (n : Nat) (ht : ∀ w ∈ Ts, w.before args s = true) (hT : GoodIn Ts (wsV own index C y ws)) (hw : ws = Cond.codeWith y bytes maxL ret hh :: ws') (hrc : rm.cells = mc) (hrs : rm.slots = ms)
    (hd : y.cls = C ∧ y.cls ≠ "java/lang/invoke/MethodHandle" ∧ y.cls ≠ "java/lang/invoke/VarHandle" ∧ (parseMethodDescriptor y.desc).map (fun d => d.parameters.length) = some n) (hR : rm.frames + 1 ≤ R.frames ∧ 8 + (maxL + 11) + rm.locals ≤ R.locals) :
    vx_CVW R s args own C index y bytes maxL ret hh ws rm mc ms n := by
  obtain ⟨hC, hd⟩ := hd
  subst hC
  have ok : ∀ w ∈ wsV own index y.cls y ws, w.before args s = true := fun w h => ht w (hT w h).1
  have hG : GoodIn Ts ws := fun w h => hT w (by unfold wsV; exact List.mem_append_right _ h)
  have hc : Cond.codeWith y bytes maxL ret hh ∈ ws := by rw [hw]; exact List.mem_cons_self
  refine ⟨⟨hrc, hrs, hR.1, hR.2, pay_in ht hG, hc⟩, ht _ (hG _ hc).1, ok _ (by simp [wsV]), ⟨hd.1, hd.2.1⟩, fun sig h => ?_, ok _ (by simp [wsV]), ok _ (by simp [wsV]), ok _ (by simp [wsV])⟩
  have h2 := hd.2.2
  rw [h] at h2
  exact (Option.some.inj h2).symm
theorem vx_runVW {y : MethodName} {bytes cc : ByteArray} {maxL nL mc ms n index : Nat} {ret : Option FieldType} {hh : List (Nat × Nat × Nat × Nat)} {ws : List Cond} {rm : Room} {Pc : Array Value → State → Prop} {Qc : Array Value → State → Outcome → State → Prop} {free : Addr → Prop} {Ts : List Cond} {own C : String} {b : Addr} {As rest : List Value} {g : JFrame}
    (S : CallFix p m c cc nL s args Ts own) (hM : Met l y ws rm Pc Qc mc ms free) (cw : vx_CVW R s args own C index y bytes maxL ret hh ws rm mc ms n) (hp : PreV s H C b Pc As)
    (hg : g.method = m) (hn : As.length = n) (hsize : g.locals.size = nL) (hstack : g.stack = As.reverse ++ .ref b :: rest) (hW : 2 * g.monitorRoom + (rest.map fun v => v.category).sum ≤ 8) (hdg : decode cc g.pc = .ok (.invokevirtual index, 3)) (hf : cells + mc ≤ R.cells ∧ slots + ms ≤ R.slots) :
    va_Run p l e R s m args below meth c H locs cells slots mc ms g rest (Qc (Value.ref b :: As).toArray) free := by
  obtain ⟨⟨hrc, hrs, hfr, hlo, hws, hcw⟩, hcode, hini, hy, hlen, hl, hin, hse⟩ := cw
  have hK : Back l R p e below s args y 3 8 (PreOf R mc ms Pc) (PostOf Qc mc ms free) := va_backW (hh := hh) (bytes := bytes) (maxL := maxL) (ret := ret) hM hp.1 hrc hrs hfr hlo hws hcw (fun a' U hW => word_at hW (Or.inl (by first | rfl | simp [Cond.onTables, Cond.keeps, Cond.steady])) hini)
  obtain ⟨hx, hb, hml, ho, -⟩ := S
  obtain ⟨-, ⟨cellB, hcB, hoB, hclB⟩, hPc⟩ := hp
  intro T hT X
  obtain ⟨v, vm₁, ⟨U', l2, c2, s2⟩, hW₁, X', ⟨g', mk, t, L, e1, e2, hq, h1, hL, h2, h3⟩, st⟩ := vx_callVW X hx (C := C) (hh := hh) (bytes := bytes) (maxL := maxL) (ret := ret) ho hl hin hse hcode hy hK (by rw [hT]; exact hcB) hoB hclB hg (hsize.trans hml.symm) (argsL := As) (rest := rest) (fun sig h => hn.trans (hlen sig h)) hstack hW (by rw [hb]; exact hdg)
    (fun vm₁ hW₁ => ⟨hf.1, hf.2, hPc (T.setVm vm₁) hT hW₁⟩)
  dsimp only [Pt.U, Pt.locs, Pt.cells, Pt.slots] at X' e1 e2 h1 h2 h3 st
  subst h1; subst h2; subst h3
  exact ⟨v, (T.setVm vm₁).calling g' mk (Value.ref b :: As).toArray, t, U', L, hT, X', hL, e1, e2, hq, st⟩
section
variable {y : MethodName} {bytes cc : ByteArray} {maxL nL mc ms n index : Nat} {ret : Option FieldType} {ws : List Cond} {rm : Room} {Pc : Array Value → State → Prop} {Qc : Array Value → State → Outcome → State → Prop} {XC : String → State → State → Prop} {free : Addr → Prop} {Ts : List Cond} {own C : String} {b : Addr} {As rest : List Value} {g : JFrame}
theorem vx_runVX {hh : List (Nat × Nat × Nat × Nat)} (S : CallFix p m c cc nL s args Ts own) (hM : vx_Met l y ws rm Pc Qc XC mc ms free) (cw : vx_CVW R s args own C index y bytes maxL ret hh ws rm mc ms n) (hp : PreV s H C b Pc As)
    (hg : g.method = m) (hn : As.length = n) (hsize : g.locals.size = nL) (hstack : g.stack = As.reverse ++ .ref b :: rest) (hW : 2 * g.monitorRoom + (rest.map fun v => v.category).sum ≤ 8) (hdg : decode cc g.pc = .ok (.invokevirtual index, 3)) (hf : cells + mc ≤ R.cells ∧ slots + ms ≤ R.slots) :
    vx_Run p l e R s m args below meth c H locs cells slots mc ms g rest (Qc (Value.ref b :: As).toArray) XC free := by
  obtain ⟨⟨hrc, hrs, hfr, hlo, hws, hcw⟩, hcode, hini, hy, hlen, hl, hin, hse⟩ := cw
  have hK : vx_Back l R p e below s args y 3 8 (PreOf R mc ms Pc) (PostOf Qc mc ms free) (vx_Post XC mc ms free) := vx_backW (hh := hh) (bytes := bytes) (maxL := maxL) (ret := ret) hM hp.1 hrc hrs hfr hlo hws hcw (fun a' U hW => word_at hW (Or.inl (by first | rfl | simp [Cond.onTables, Cond.keeps, Cond.steady])) hini)
  obtain ⟨hx, hb, hml, ho, -⟩ := S
  obtain ⟨-, ⟨cellB, hcB, hoB, hclB⟩, hPc⟩ := hp
  intro T hT X
  rcases vx_callVX X hx (C := C) (hh := hh) (bytes := bytes) (maxL := maxL) (ret := ret) ho hl hin hse hcode hy hK (by rw [hT]; exact hcB) hoB hclB hg (hsize.trans hml.symm) (argsL := As) (rest := rest) (fun sig h => hn.trans (hlen sig h)) hstack hW (by rw [hb]; exact hdg)
    (fun vm₁ hW₁ => ⟨hf.1, hf.2, hPc (T.setVm vm₁) hT hW₁⟩) with ⟨v, vm₁, ⟨U', l2, c2, s2⟩, hW₁, X', ⟨g', mk, t, L, e1, e2, hq, h1, hL, h2, h3⟩, st⟩ | ⟨q, vm₁, ⟨U', l2, c2, s2⟩, hW₁, X', ⟨g', mk, t, L, E, ce, e1, e2, hq, hce, hcv, hcl, h1, hL, h2, h3⟩, st⟩
  · dsimp only [Pt.U, Pt.locs, Pt.cells, Pt.slots] at X' e1 e2 h1 h2 h3 st
    subst h1; subst h2; subst h3
    exact Or.inl ⟨v, (T.setVm vm₁).calling g' mk (Value.ref b :: As).toArray, t, U', L, hT, X', hL, e1, e2, hq, st⟩
  · dsimp only [Pt.U, Pt.locs, Pt.cells, Pt.slots] at X' e1 e2 h1 h2 h3 st hcl
    subst h1; subst h2; subst h3
    exact Or.inr ⟨q, (T.setVm vm₁).calling g' mk (Value.ref b :: As).toArray, t, U', L, E, ce, hT, X', hL, e1, e2, hq, hce, hcv, vx_cls hW₁ hcl, st⟩
theorem vx_runSX {hh : List (Nat × Nat × Nat × Nat)} (S : CallFix p m c cc nL s args Ts own) (hM : vx_Met l y ws rm Pc Qc XC mc ms free) (cw : vx_CSW R s args own index y bytes maxL ret hh ws rm mc ms n) (hp : PreS s H Pc As)
    (hg : g.method = m) (hn : As.length = n) (hsize : g.locals.size = nL) (hstack : g.stack = As.reverse ++ rest) (hW : 2 * g.monitorRoom + (rest.map fun v => v.category).sum ≤ 8) (hdg : decode cc g.pc = .ok (.invokestatic index, 3)) (hf : cells + mc ≤ R.cells ∧ slots + ms ≤ R.slots) :
    vx_Run p l e R s m args below meth c H locs cells slots mc ms g rest (Qc As.toArray) XC free := by
  obtain ⟨⟨hrc, hrs, hfr, hlo, hws, hcw⟩, hcode, hini, hy, hlen, hl, hstt⟩ := cw
  have hK : vx_Back l R p e below s args y 3 8 (PreOf R mc ms Pc) (PostOf Qc mc ms free) (vx_Post XC mc ms free) := vx_backW (hh := hh) (bytes := bytes) (maxL := maxL) (ret := ret) hM hp.1 hrc hrs hfr hlo hws hcw (fun a' U hW => word_at hW (Or.inl (by first | rfl | simp [Cond.onTables, Cond.keeps, Cond.steady])) hini)
  obtain ⟨hx, hb, hml, ho, -⟩ := S
  intro T hT X
  rcases vx_callSX X hx (hh := hh) (bytes := bytes) (maxL := maxL) (ret := ret) ho hl hstt hini hcode hy hK hg (hsize.trans hml.symm) (argsL := As) (rest := rest) (fun sig h => hn.trans (hlen sig h)) hstack hW (by rw [hb]; exact hdg)
    (fun vm₁ hW₁ => ⟨hf.1, hf.2, hp.2 (T.setVm vm₁) hT hW₁⟩) with ⟨v, vm₁, ⟨U', l2, c2, s2⟩, hW₁, X', ⟨g', mk, t, L, e1, e2, hq, h1, hL, h2, h3⟩, st⟩ | ⟨q, vm₁, ⟨U', l2, c2, s2⟩, hW₁, X', ⟨g', mk, t, L, E, ce, e1, e2, hq, hce, hcv, hcl, h1, hL, h2, h3⟩, st⟩
  · dsimp only [Pt.U, Pt.locs, Pt.cells, Pt.slots] at X' e1 e2 h1 h2 h3 st
    subst h1; subst h2; subst h3
    exact Or.inl ⟨v, (T.setVm vm₁).calling g' mk As.toArray, t, U', L, hT, X', hL, e1, e2, hq, st⟩
  · dsimp only [Pt.U, Pt.locs, Pt.cells, Pt.slots] at X' e1 e2 h1 h2 h3 st hcl
    subst h1; subst h2; subst h3
    exact Or.inr ⟨q, (T.setVm vm₁).calling g' mk As.toArray, t, U', L, E, ce, hT, X', hL, e1, e2, hq, hce, hcv, vx_cls hW₁ hcl, st⟩
end
end VXH
theorem vx_ofWH {l : Launch} {y : MethodName} {ws ws' : List Cond} {rm : Room} {Pc : Array Value → State → Prop} {Qc : Array Value → State → Outcome → State → Prop} {XC : String → State → State → Prop} {mc ms : Nat} {free : Addr → Prop} {cc : ByteArray} {maxL : Nat} {ret : Option FieldType} {hh : List (Nat × Nat × Nat × Nat)}
    (hy : plainName y.cls = true) (hw : ws = Cond.codeWith y cc maxL ret hh :: ws')
    (body : ∀ p e s m args below meth c s₁, BodyLoose p l y (headSpec ws rm) cc maxL ret e s m args below meth c s₁ → c.maxLocals = maxL → Pc args s →
      W p l e (headSpec ws rm).room s m args below meth c s.heap [] 0 0 (vx_MQ below Qc XC args s mc ms free) (entryFrame m args maxL)) : vx_Met l y ws rm Pc Qc XC mc ms free := by
  refine MetFree.of_bodyS (code := cc) (maxLocals := maxL) (ret := ret) hy ?_ ?_
  · intro args s m h hn
    obtain ⟨m9, meth, c, hn9, h1, h2, h3, h4, -, h5, h6, -⟩ := Cond.codeWith_spec (atoms_spec (ws := ws) h _ (by rw [hw]; exact List.mem_cons_self))
    cases hn.symm.trans hn9
    exact ⟨meth, c, h1, h2, h3, h4, h5, h6⟩
  · intro p e s m args below meth c s₁ B hml hP _
    have hh0 : s₁.heap = s.heap := by rw [B.state]; rfl
    obtain ⟨t, a1, o, b1, b2, b3⟩ := body p e s m args below meth c s₁ B hml hP s₁ hh0 (Stand.of_body B)
    exact ⟨t, o, a1, b1, b2, b3⟩
/-! ===== END ===== -/
end
section
/-! my names: classes, fields, methods; printed by wip/gen/names.py -/
def nR_X : String := "SceneTimes"
def nT_X : u_T := fun k => match k with
  | 0 => ("SceneTimes", "line", "LSceneTimes$Line;", true)
  | 1 => ("SceneTimes", "question", "LSceneTimes$Question;", true)
  | 2 => ("SceneTimes", "sheet", "LSceneTimes$Sheet;", true)
  | 3 => ("SceneTimes", "second", "I", false)
  | 4 => ("SceneTimes", "writers", "I", false)
  | _ => ("SceneTimes", "acts", "I", false)
def nt_X : Nat → FieldType := fun k => match k with
  | 0 => .object "SceneTimes$Line"
  | 1 => .object "SceneTimes$Question"
  | 2 => .object "SceneTimes$Sheet"
  | 3 => .int
  | 4 => .int
  | _ => .int
theorem nn_X : ∀ a, a < 6 → ∀ b, b < 6 → a ≠ b → (nT_X a).2.1 ≠ (nT_X b).2.1 := by decide +kernel
theorem nt_X_ok : ∀ k, k < 6 → parseFieldDescriptor (nT_X k).2.2.1 = some (nt_X k) := by decide +kernel
def nR_L : String := "SceneTimes$Line"
def nT_L : u_T := fun k => match k with
  | 0 => ("SceneTimes$Line", "byNumber", "[LSceneTimes$Note;", true)
  | 1 => ("SceneTimes$Line", "inOrder", "[LSceneTimes$Note;", true)
  | _ => ("SceneTimes$Line", "size", "I", false)
def nt_L : Nat → FieldType := fun k => match k with
  | 0 => .array (.object "SceneTimes$Note")
  | 1 => .array (.object "SceneTimes$Note")
  | _ => .int
theorem nn_L : ∀ a, a < 3 → ∀ b, b < 3 → a ≠ b → (nT_L a).2.1 ≠ (nT_L b).2.1 := by decide +kernel
theorem nt_L_ok : ∀ k, k < 3 → parseFieldDescriptor (nT_L k).2.2.1 = some (nt_L k) := by decide +kernel
def nR_Q : String := "SceneTimes$Question"
def nT_Q : u_T := fun k => match k with
  | 0 => ("SceneTimes$Question", "rows", "[LSceneTimes$Note;", true)
  | 1 => ("SceneTimes$Question", "size", "I", false)
  | 2 => ("SceneTimes$Question", "known", "I", false)
  | _ => ("SceneTimes$Question", "asked", "Z", false)
def nt_Q : Nat → FieldType := fun k => match k with
  | 0 => .array (.object "SceneTimes$Note")
  | 1 => .int
  | 2 => .int
  | _ => .boolean
theorem nn_Q : ∀ a, a < 4 → ∀ b, b < 4 → a ≠ b → (nT_Q a).2.1 ≠ (nT_Q b).2.1 := by decide +kernel
theorem nt_Q_ok : ∀ k, k < 4 → parseFieldDescriptor (nT_Q k).2.2.1 = some (nt_Q k) := by decide +kernel
def nR_S : String := "SceneTimes$Sheet"
def nT_S : u_T := fun k => match k with
  | 0 => ("SceneTimes$Sheet", "bytes", "[B", true)
  | _ => ("SceneTimes$Sheet", "size", "I", false)
def nt_S : Nat → FieldType := fun k => match k with
  | 0 => .array .byte
  | _ => .int
theorem nn_S : ∀ a, a < 2 → ∀ b, b < 2 → a ≠ b → (nT_S a).2.1 ≠ (nT_S b).2.1 := by decide +kernel
theorem nt_S_ok : ∀ k, k < 2 → parseFieldDescriptor (nT_S k).2.2.1 = some (nt_S k) := by decide +kernel
def nR_N : String := "SceneTimes$Note"
def nT_N : u_T := fun k => match k with
  | 0 => ("SceneTimes$Note", "number", "I", true)
  | 1 => ("SceneTimes$Note", "writer", "I", true)
  | 2 => ("SceneTimes$Note", "kind", "I", true)
  | 3 => ("SceneTimes$Note", "sector", "I", true)
  | 4 => ("SceneTimes$Note", "second", "I", true)
  | 5 => ("SceneTimes$Note", "first", "LSceneTimes$State;", true)
  | 6 => ("SceneTimes$Note", "latest", "LSceneTimes$State;", false)
  | 7 => ("SceneTimes$Note", "acts", "I", false)
  | 8 => ("SceneTimes$Note", "corrections", "I", false)
  | _ => ("SceneTimes$Note", "mixed", "I", false)
def nt_N : Nat → FieldType := fun k => match k with
  | 0 => .int
  | 1 => .int
  | 2 => .int
  | 3 => .int
  | 4 => .int
  | 5 => .object "SceneTimes$State"
  | 6 => .object "SceneTimes$State"
  | 7 => .int
  | 8 => .int
  | _ => .int
theorem nn_N : ∀ a, a < 10 → ∀ b, b < 10 → a ≠ b → (nT_N a).2.1 ≠ (nT_N b).2.1 := by decide +kernel
theorem nt_N_ok : ∀ k, k < 10 → parseFieldDescriptor (nT_N k).2.2.1 = some (nt_N k) := by decide +kernel
def nR_T : String := "SceneTimes$State"
def nT_T : u_T := fun k => match k with
  | 0 => ("SceneTimes$State", "from", "I", true)
  | 1 => ("SceneTimes$State", "value", "I", true)
  | 2 => ("SceneTimes$State", "struck", "Z", true)
  | _ => ("SceneTimes$State", "earlier", "LSceneTimes$State;", true)
def nt_T : Nat → FieldType := fun k => match k with
  | 0 => .int
  | 1 => .int
  | 2 => .boolean
  | _ => .object "SceneTimes$State"
theorem nn_T : ∀ a, a < 4 → ∀ b, b < 4 → a ≠ b → (nT_T a).2.1 ≠ (nT_T b).2.1 := by decide +kernel
theorem nt_T_ok : ∀ k, k < 4 → parseFieldDescriptor (nT_T k).2.2.1 = some (nt_T k) := by decide +kernel
def nR_M : String := "SceneTimesModel"
def nT_M : u_T := fun k => match k with
  | 0 => ("SceneTimesModel", "thrown", "I", false)
  | 1 => ("SceneTimesModel", "now", "I", false)
  | 2 => ("SceneTimesModel", "writers", "I", false)
  | 3 => ("SceneTimesModel", "notes", "I", false)
  | 4 => ("SceneTimesModel", "writer", "[I", true)
  | 5 => ("SceneTimesModel", "kind", "[I", true)
  | 6 => ("SceneTimesModel", "sector", "[I", true)
  | 7 => ("SceneTimesModel", "was", "[I", true)
  | 8 => ("SceneTimesModel", "first", "[I", true)
  | 9 => ("SceneTimesModel", "known", "[I", true)
  | 10 => ("SceneTimesModel", "acts", "I", false)
  | 11 => ("SceneTimesModel", "actOn", "[I", true)
  | 12 => ("SceneTimesModel", "act", "[I", true)
  | 13 => ("SceneTimesModel", "actValue", "[I", true)
  | 14 => ("SceneTimesModel", "actAt", "[I", true)
  | 15 => ("SceneTimesModel", "asked", "Z", false)
  | 16 => ("SceneTimesModel", "rows", "I", false)
  | 17 => ("SceneTimesModel", "asOf", "I", false)
  | 18 => ("SceneTimesModel", "rowNote", "[I", true)
  | 19 => ("SceneTimesModel", "printed", "I", false)
  | _ => ("SceneTimesModel", "out", "[I", true)
def nt_M : Nat → FieldType := fun k => match k with
  | 0 => .int
  | 1 => .int
  | 2 => .int
  | 3 => .int
  | 4 => .array .int
  | 5 => .array .int
  | 6 => .array .int
  | 7 => .array .int
  | 8 => .array .int
  | 9 => .array .int
  | 10 => .int
  | 11 => .array .int
  | 12 => .array .int
  | 13 => .array .int
  | 14 => .array .int
  | 15 => .boolean
  | 16 => .int
  | 17 => .int
  | 18 => .array .int
  | 19 => .int
  | _ => .array .int
theorem nn_M : ∀ a, a < 21 → ∀ b, b < 21 → a ≠ b → (nT_M a).2.1 ≠ (nT_M b).2.1 := by decide +kernel
theorem nt_M_ok : ∀ k, k < 21 → parseFieldDescriptor (nT_M k).2.2.1 = some (nt_M k) := by decide +kernel
def nR_W : String := "SceneTimesLaw"
def nR_J : String := "java/lang/Math"
abbrev ncl : List vw_C := [(nR_X, nT_X, 6), (nR_L, nT_L, 3), (nR_Q, nT_Q, 4), (nR_S, nT_S, 2), (nR_N, nT_N, 10), (nR_T, nT_T, 4), (nR_M, nT_M, 21)]
abbrev c_X_init : ByteArray := prog_1_method_1_code
def y_X_init : MethodName := ⟨nR_X, "<init>", "()V"⟩
abbrev c_L_init : ByteArray := prog_2_method_1_code
def y_L_init : MethodName := ⟨nR_L, "<init>", "()V"⟩
abbrev c_Q_init : ByteArray := prog_4_method_1_code
def y_Q_init : MethodName := ⟨nR_Q, "<init>", "()V"⟩
abbrev c_S_init : ByteArray := prog_5_method_1_code
def y_S_init : MethodName := ⟨nR_S, "<init>", "()V"⟩
abbrev c_W_writer : ByteArray := method_3_code
def y_W_writer : MethodName := ⟨nR_W, "writer", "(LSceneTimes;[J)I"⟩
abbrev c_X_writer : ByteArray := prog_1_method_2_code
def y_X_writer : MethodName := ⟨nR_X, "writer", "()I"⟩
abbrev c_W_note : ByteArray := method_4_code
def y_W_note : MethodName := ⟨nR_W, "note", "(LSceneTimes;IIIII[J)I"⟩
abbrev c_X_note : ByteArray := prog_1_method_3_code
def y_X_note : MethodName := ⟨nR_X, "note", "(IIIII)I"⟩
abbrev c_X_isWriter : ByteArray := prog_1_method_16_code
def y_X_isWriter : MethodName := ⟨nR_X, "isWriter", "(I)Z"⟩
abbrev c_X_isKind : ByteArray := prog_1_method_17_code
def y_X_isKind : MethodName := ⟨nR_X, "isKind", "(I)Z"⟩
abbrev c_X_isSector : ByteArray := prog_1_method_18_code
def y_X_isSector : MethodName := ⟨nR_X, "isSector", "(I)Z"⟩
abbrev c_X_hasCome : ByteArray := prog_1_method_20_code
def y_X_hasCome : MethodName := ⟨nR_X, "hasCome", "(I)Z"⟩
abbrev c_X_isValue : ByteArray := prog_1_method_19_code
def y_X_isValue : MethodName := ⟨nR_X, "isValue", "(I)Z"⟩
abbrev c_N_init : ByteArray := prog_3_method_1_code
def y_N_init : MethodName := ⟨nR_N, "<init>", "(IIIIIII)V"⟩
abbrev c_T_init : ByteArray := prog_6_method_1_code
def y_T_init : MethodName := ⟨nR_T, "<init>", "(IIZLSceneTimes$State;)V"⟩
abbrev c_N_mix : ByteArray := prog_3_method_2_code
def y_N_mix : MethodName := ⟨nR_N, "mix", "(II)I"⟩
abbrev c_L_take : ByteArray := prog_2_method_2_code
def y_L_take : MethodName := ⟨nR_L, "take", "(LSceneTimes$Note;)V"⟩
abbrev c_N_standsBehind : ByteArray := prog_3_method_9_code
def y_N_standsBehind : MethodName := ⟨nR_N, "standsBehind", "(LSceneTimes$Note;)Z"⟩
abbrev c_W_correct : ByteArray := method_5_code
def y_W_correct : MethodName := ⟨nR_W, "correct", "(LSceneTimes;II[J)I"⟩
abbrev c_X_correct : ByteArray := prog_1_method_4_code
def y_X_correct : MethodName := ⟨nR_X, "correct", "(II)I"⟩
abbrev c_X_noteOf : ByteArray := prog_1_method_21_code
def y_X_noteOf : MethodName := ⟨nR_X, "noteOf", "(I)LSceneTimes$Note;"⟩
abbrev c_X_refuseActWithoutRoom : ByteArray := prog_1_method_22_code
def y_X_refuseActWithoutRoom : MethodName := ⟨nR_X, "refuseActWithoutRoom", "()V"⟩
abbrev c_N_takeValue : ByteArray := prog_3_method_3_code
def y_N_takeValue : MethodName := ⟨nR_N, "takeValue", "(II)V"⟩
abbrev c_W_strike : ByteArray := method_6_code
def y_W_strike : MethodName := ⟨nR_W, "strike", "(LSceneTimes;IZ)I"⟩
abbrev c_X_strike : ByteArray := prog_1_method_5_code
def y_X_strike : MethodName := ⟨nR_X, "strike", "(IZ)V"⟩
abbrev c_N_takeStrike : ByteArray := prog_3_method_4_code
def y_N_takeStrike : MethodName := ⟨nR_N, "takeStrike", "(IZ)V"⟩
abbrev c_W_ask : ByteArray := method_7_code
def y_W_ask : MethodName := ⟨nR_W, "ask", "(LSceneTimes;IIIII[J)I"⟩
abbrev c_X_ask : ByteArray := prog_1_method_6_code
def y_X_ask : MethodName := ⟨nR_X, "ask", "(IIIII)I"⟩
abbrev c_Q_begin : ByteArray := prog_4_method_2_code
def y_Q_begin : MethodName := ⟨nR_Q, "begin", "(I)V"⟩
abbrev c_N_isWithin : ByteArray := prog_3_method_6_code
def y_N_isWithin : MethodName := ⟨nR_N, "isWithin", "(II)Z"⟩
abbrev c_N_isOf : ByteArray := prog_3_method_7_code
def y_N_isOf : MethodName := ⟨nR_N, "isOf", "(II)Z"⟩
abbrev c_Q_take : ByteArray := prog_4_method_3_code
def y_Q_take : MethodName := ⟨nR_Q, "take", "(LSceneTimes$Note;)V"⟩
abbrev c_W_row : ByteArray := method_8_code
def y_W_row : MethodName := ⟨nR_W, "row", "(LSceneTimes;II[J)I"⟩
abbrev c_X_row : ByteArray := prog_1_method_7_code
def y_X_row : MethodName := ⟨nR_X, "row", "(II)I"⟩
abbrev c_N_stateAt : ByteArray := prog_3_method_5_code
def y_N_stateAt : MethodName := ⟨nR_N, "stateAt", "(I)LSceneTimes$State;"⟩
abbrev c_X_oneIf : ByteArray := prog_1_method_23_code
def y_X_oneIf : MethodName := ⟨nR_X, "oneIf", "(Z)I"⟩
abbrev c_W_reading : ByteArray := method_9_code
def y_W_reading : MethodName := ⟨nR_W, "reading", "(LSceneTimes;II[J)I"⟩
abbrev c_X_reading : ByteArray := prog_1_method_8_code
def y_X_reading : MethodName := ⟨nR_X, "reading", "(II)I"⟩
abbrev c_L_lastReadingUpTo : ByteArray := prog_2_method_3_code
def y_L_lastReadingUpTo : MethodName := ⟨nR_L, "lastReadingUpTo", "(II)LSceneTimes$Note;"⟩
abbrev c_N_isReadingOf : ByteArray := prog_3_method_8_code
def y_N_isReadingOf : MethodName := ⟨nR_N, "isReadingOf", "(I)Z"⟩
abbrev c_L_firstReadingFrom : ByteArray := prog_2_method_4_code
def y_L_firstReadingFrom : MethodName := ⟨nR_L, "firstReadingFrom", "(II)LSceneTimes$Note;"⟩
abbrev c_X_valueBetween : ByteArray := prog_1_method_24_code
def y_X_valueBetween : MethodName := ⟨nR_X, "valueBetween", "(LSceneTimes$Note;LSceneTimes$Note;I)I"⟩
abbrev c_J_floorDiv : ByteArray := prog_13_method_47_code
def y_J_floorDiv : MethodName := ⟨nR_J, "floorDiv", "(II)I"⟩
abbrev c_W_gap : ByteArray := method_10_code
def y_W_gap : MethodName := ⟨nR_W, "gap", "(LSceneTimes;II[J)I"⟩
abbrev c_X_gap : ByteArray := prog_1_method_9_code
def y_X_gap : MethodName := ⟨nR_X, "gap", "(II)I"⟩
abbrev c_W_digest : ByteArray := method_11_code
def y_W_digest : MethodName := ⟨nR_W, "digest", "(LSceneTimes;I[J)I"⟩
abbrev c_X_digest : ByteArray := prog_1_method_10_code
def y_X_digest : MethodName := ⟨nR_X, "digest", "(I)I"⟩
abbrev c_W_noteAt : ByteArray := method_12_code
def y_W_noteAt : MethodName := ⟨nR_W, "noteAt", "(LSceneTimes;II[J)I"⟩
abbrev c_X_noteAt : ByteArray := prog_1_method_11_code
def y_X_noteAt : MethodName := ⟨nR_X, "noteAt", "(II)I"⟩
abbrev c_W_print : ByteArray := method_13_code
def y_W_print : MethodName := ⟨nR_W, "print", "(LSceneTimes;[J)I"⟩
abbrev c_X_print : ByteArray := prog_1_method_12_code
def y_X_print : MethodName := ⟨nR_X, "print", "()I"⟩
abbrev c_S_begin : ByteArray := prog_5_method_2_code
def y_S_begin : MethodName := ⟨nR_S, "begin", "(I)V"⟩
abbrev c_S_putNumber : ByteArray := prog_5_method_4_code
def y_S_putNumber : MethodName := ⟨nR_S, "putNumber", "(CI)V"⟩
abbrev c_S_put : ByteArray := prog_5_method_6_code
def y_S_put : MethodName := ⟨nR_S, "put", "(C)V"⟩
abbrev c_S_putDigits : ByteArray := prog_5_method_5_code
def y_S_putDigits : MethodName := ⟨nR_S, "putDigits", "(I)V"⟩
abbrev c_S_putRow : ByteArray := prog_5_method_3_code
def y_S_putRow : MethodName := ⟨nR_S, "putRow", "(LSceneTimes$Note;LSceneTimes$State;)V"⟩
abbrev c_J_abs : ByteArray := prog_13_method_59_code
def y_J_abs : MethodName := ⟨nR_J, "abs", "(I)I"⟩
abbrev c_W_at : ByteArray := method_14_code
def y_W_at : MethodName := ⟨nR_W, "at", "(LSceneTimes;I[J)I"⟩
abbrev c_X_at : ByteArray := prog_1_method_13_code
def y_X_at : MethodName := ⟨nR_X, "at", "(I)I"⟩
abbrev c_W_tick : ByteArray := method_15_code
def y_W_tick : MethodName := ⟨nR_W, "tick", "(LSceneTimes;I[J)I"⟩
abbrev c_X_tick : ByteArray := prog_1_method_14_code
def y_X_tick : MethodName := ⟨nR_X, "tick", "(I)I"⟩
abbrev c_W_count : ByteArray := method_16_code
def y_W_count : MethodName := ⟨nR_W, "count", "(LSceneTimes;I[J)I"⟩
abbrev c_X_count : ByteArray := prog_1_method_15_code
def y_X_count : MethodName := ⟨nR_X, "count", "(I)I"⟩
abbrev c_L_howManyStruck : ByteArray := prog_2_method_5_code
def y_L_howManyStruck : MethodName := ⟨nR_L, "howManyStruck", "()I"⟩
abbrev c_L_howManyWrittenLater : ByteArray := prog_2_method_6_code
def y_L_howManyWrittenLater : MethodName := ⟨nR_L, "howManyWrittenLater", "()I"⟩
abbrev c_M_init : ByteArray := prog_8_method_1_code
def y_M_init : MethodName := ⟨nR_M, "<init>", "()V"⟩
abbrev c_M_thrown : ByteArray := prog_8_method_2_code
def y_M_thrown : MethodName := ⟨nR_M, "thrown", "()I"⟩
abbrev c_M_writer : ByteArray := prog_8_method_7_code
def y_M_writer : MethodName := ⟨nR_M, "writer", "()I"⟩
abbrev c_M_goes : ByteArray := prog_8_method_4_code
def y_M_goes : MethodName := ⟨nR_M, "goes", "(IZZZZ)Z"⟩
abbrev c_M_note : ByteArray := prog_8_method_8_code
def y_M_note : MethodName := ⟨nR_M, "note", "(IIIII)I"⟩
abbrev c_M_in : ByteArray := prog_8_method_3_code
def y_M_in : MethodName := ⟨nR_M, "in", "(III)Z"⟩
abbrev c_M_isGone : ByteArray := prog_8_method_6_code
def y_M_isGone : MethodName := ⟨nR_M, "isGone", "(I)Z"⟩
abbrev c_M_correct : ByteArray := prog_8_method_13_code
def y_M_correct : MethodName := ⟨nR_M, "correct", "(II)I"⟩
abbrev c_M_isNote : ByteArray := prog_8_method_5_code
def y_M_isNote : MethodName := ⟨nR_M, "isNote", "(I)Z"⟩
abbrev c_M_isStruck : ByteArray := prog_8_method_10_code
def y_M_isStruck : MethodName := ⟨nR_M, "isStruck", "(II)Z"⟩
abbrev c_M_does : ByteArray := prog_8_method_11_code
def y_M_does : MethodName := ⟨nR_M, "does", "(III)V"⟩
abbrev c_M_many : ByteArray := prog_8_method_12_code
def y_M_many : MethodName := ⟨nR_M, "many", "(IZ)I"⟩
abbrev c_M_strike : ByteArray := prog_8_method_14_code
def y_M_strike : MethodName := ⟨nR_M, "strike", "(IZ)V"⟩
abbrev c_M_ask : ByteArray := prog_8_method_17_code
def y_M_ask : MethodName := ⟨nR_M, "ask", "(IIIII)I"⟩
abbrev c_M_following : ByteArray := prog_8_method_16_code
def y_M_following : MethodName := ⟨nR_M, "following", "(IZIII)I"⟩
abbrev c_M_isBefore : ByteArray := prog_8_method_15_code
def y_M_isBefore : MethodName := ⟨nR_M, "isBefore", "(II)Z"⟩
abbrev c_M_row : ByteArray := prog_8_method_18_code
def y_M_row : MethodName := ⟨nR_M, "row", "(II)I"⟩
abbrev c_M_value : ByteArray := prog_8_method_9_code
def y_M_value : MethodName := ⟨nR_M, "value", "(II)I"⟩
abbrev c_M_reading : ByteArray := prog_8_method_20_code
def y_M_reading : MethodName := ⟨nR_M, "reading", "(II)I"⟩
abbrev c_M_floor : ByteArray := prog_8_method_19_code
def y_M_floor : MethodName := ⟨nR_M, "floor", "(II)I"⟩
abbrev c_M_gap : ByteArray := prog_8_method_21_code
def y_M_gap : MethodName := ⟨nR_M, "gap", "(II)I"⟩
abbrev c_M_digest : ByteArray := prog_8_method_23_code
def y_M_digest : MethodName := ⟨nR_M, "digest", "(I)I"⟩
abbrev c_M_mix : ByteArray := prog_8_method_22_code
def y_M_mix : MethodName := ⟨nR_M, "mix", "(II)I"⟩
abbrev c_M_noteAt : ByteArray := prog_8_method_24_code
def y_M_noteAt : MethodName := ⟨nR_M, "noteAt", "(II)I"⟩
abbrev c_M_print : ByteArray := prog_8_method_27_code
def y_M_print : MethodName := ⟨nR_M, "print", "()I"⟩
abbrev c_M_number : ByteArray := prog_8_method_26_code
def y_M_number : MethodName := ⟨nR_M, "number", "(II)V"⟩
abbrev c_M_put : ByteArray := prog_8_method_25_code
def y_M_put : MethodName := ⟨nR_M, "put", "(I)V"⟩
abbrev c_M_at : ByteArray := prog_8_method_28_code
def y_M_at : MethodName := ⟨nR_M, "at", "(I)I"⟩
abbrev c_M_tick : ByteArray := prog_8_method_29_code
def y_M_tick : MethodName := ⟨nR_M, "tick", "(I)I"⟩
abbrev c_M_count : ByteArray := prog_8_method_30_code
def y_M_count : MethodName := ⟨nR_M, "count", "(I)I"⟩
abbrev c_W_law : ByteArray := code
def y_W_law : MethodName := ⟨nR_W, "law", "([I)Z"⟩
end
section
/-! the words of every method: the good ones of lw_tbl; each by its place -/
def AL : List Cond := lw_tbl.filter goodWord
theorem AL_good {w : Cond} (h : w ∈ AL) : (w.onTables && w.keeps) = true ∨ ∃ ty, w = .arrayClass ty := good_of_word (List.mem_filter.mp h).2
theorem AL_t {w : Cond} (h : w ∈ tables_1) (g : goodWord w = true) : w ∈ AL := List.mem_filter.mpr ⟨List.mem_append_right _ h, g⟩
theorem AL_s {w : Cond} (h : w ∈ k2_sels lw_privs) (g : goodWord w = true) : w ∈ AL := List.mem_filter.mpr ⟨List.mem_append_left _ h, g⟩
theorem tb_1 {w : Cond} (h : w ∈ tables_1_1) : w ∈ tables_1 := List.mem_append_left _ h
theorem tb_2 {w : Cond} (h : w ∈ tables_1_2) : w ∈ tables_1 := List.mem_append_right _ (List.mem_append_left _ h)
theorem tb_3 {w : Cond} (h : w ∈ tables_1_3) : w ∈ tables_1 := List.mem_append_right _ (List.mem_append_right _ (List.mem_append_left _ h))
theorem tb_4 {w : Cond} (h : w ∈ tables_1_4) : w ∈ tables_1 := List.mem_append_right _ (List.mem_append_right _ (List.mem_append_right _ h))
theorem aw_0 : Cond.initialized "SceneTimesLaw" ∈ AL := AL_t (tb_1 (List.mem_of_getElem? (i := 0) (by decide +kernel))) rfl
theorem aw_1 : Cond.initialized "SceneTimes" ∈ AL := AL_t (tb_1 (List.mem_of_getElem? (i := 1) (by decide +kernel))) rfl
theorem aw_2 : Cond.initialized "SceneTimes$Line" ∈ AL := AL_t (tb_1 (List.mem_of_getElem? (i := 2) (by decide +kernel))) rfl
theorem aw_3 : Cond.initialized "SceneTimes$Question" ∈ AL := AL_t (tb_1 (List.mem_of_getElem? (i := 3) (by decide +kernel))) rfl
theorem aw_4 : Cond.initialized "SceneTimes$Sheet" ∈ AL := AL_t (tb_1 (List.mem_of_getElem? (i := 4) (by decide +kernel))) rfl
theorem aw_5 : Cond.initialized "SceneTimesModel" ∈ AL := AL_t (tb_1 (List.mem_of_getElem? (i := 5) (by decide +kernel))) rfl
theorem aw_6 : Cond.initialized "java/lang/Throwable" ∈ AL := AL_t (tb_1 (List.mem_of_getElem? (i := 6) (by decide +kernel))) rfl
theorem aw_7 : Cond.initialized "java/lang/Exception" ∈ AL := AL_t (tb_1 (List.mem_of_getElem? (i := 7) (by decide +kernel))) rfl
theorem aw_8 : Cond.initialized "java/lang/RuntimeException" ∈ AL := AL_t (tb_1 (List.mem_of_getElem? (i := 8) (by decide +kernel))) rfl
theorem aw_9 : Cond.initialized "java/lang/UnsupportedOperationException" ∈ AL := AL_t (tb_1 (List.mem_of_getElem? (i := 9) (by decide +kernel))) rfl
theorem aw_10 : Cond.initialized "java/lang/IllegalArgumentException" ∈ AL := AL_t (tb_1 (List.mem_of_getElem? (i := 10) (by decide +kernel))) rfl
theorem aw_11 : Cond.initialized "java/lang/IndexOutOfBoundsException" ∈ AL := AL_t (tb_1 (List.mem_of_getElem? (i := 11) (by decide +kernel))) rfl
theorem aw_12 : Cond.initialized "SceneTimes$Note" ∈ AL := AL_t (tb_1 (List.mem_of_getElem? (i := 12) (by decide +kernel))) rfl
theorem aw_13 : Cond.initialized "SceneTimes$State" ∈ AL := AL_t (tb_1 (List.mem_of_getElem? (i := 13) (by decide +kernel))) rfl
theorem aw_14 : Cond.initialized "java/lang/IllegalStateException" ∈ AL := AL_t (tb_1 (List.mem_of_getElem? (i := 14) (by decide +kernel))) rfl
theorem aw_15 : Cond.initialized "java/lang/Math" ∈ AL := AL_t (tb_1 (List.mem_of_getElem? (i := 15) (by decide +kernel))) rfl
theorem aw_16 : Cond.classLink "SceneTimesLaw" 8 "SceneTimes" ∈ AL := AL_t (tb_1 (List.mem_of_getElem? (i := 16) (by decide +kernel))) rfl
theorem aw_17 : Cond.instantiable "SceneTimes" 6 ∈ AL := AL_t (tb_1 (List.mem_of_getElem? (i := 17) (by decide +kernel))) rfl
theorem aw_18 : Cond.methodLink "SceneTimesLaw" 64 ⟨"SceneTimes", "<init>", "()V"⟩ ∈ AL := AL_t (tb_1 (List.mem_of_getElem? (i := 18) (by decide +kernel))) rfl
theorem aw_19 : Cond.instanceMethod ⟨"SceneTimes", "<init>", "()V"⟩ ∈ AL := AL_t (tb_1 (List.mem_of_getElem? (i := 19) (by decide +kernel))) rfl
theorem aw_20 : Cond.code ⟨"SceneTimes", "<init>", "()V"⟩ prog_1_method_1_code 1 none ∈ AL := AL_t (tb_1 (List.mem_of_getElem? (i := 20) (rfl))) rfl
theorem aw_21 : Cond.methodLink "SceneTimes" 1 ⟨"java/lang/Object", "<init>", "()V"⟩ ∈ AL := AL_t (tb_1 (List.mem_of_getElem? (i := 21) (by decide +kernel))) rfl
theorem aw_22 : Cond.instanceMethod ⟨"java/lang/Object", "<init>", "()V"⟩ ∈ AL := AL_t (tb_1 (List.mem_of_getElem? (i := 22) (by decide +kernel))) rfl
theorem aw_23 : Cond.code ⟨"java/lang/Object", "<init>", "()V"⟩ object_method_1_code 1 none ∈ AL := AL_t (tb_1 (List.mem_of_getElem? (i := 23) (rfl))) rfl
theorem aw_24 : Cond.classLink "SceneTimes" 7 "SceneTimes$Line" ∈ AL := AL_t (tb_1 (List.mem_of_getElem? (i := 24) (by decide +kernel))) rfl
theorem aw_25 : Cond.instantiable "SceneTimes$Line" 3 ∈ AL := AL_t (tb_1 (List.mem_of_getElem? (i := 25) (by decide +kernel))) rfl
theorem aw_27 : Cond.instanceMethod ⟨"SceneTimes$Line", "<init>", "()V"⟩ ∈ AL := AL_t (tb_1 (List.mem_of_getElem? (i := 27) (by decide +kernel))) rfl
theorem aw_28 : Cond.code ⟨"SceneTimes$Line", "<init>", "()V"⟩ prog_2_method_1_code 1 none ∈ AL := AL_t (tb_1 (List.mem_of_getElem? (i := 28) (rfl))) rfl
theorem aw_29 : Cond.methodLink "SceneTimes$Line" 3 ⟨"java/lang/Object", "<init>", "()V"⟩ ∈ AL := AL_t (tb_1 (List.mem_of_getElem? (i := 29) (by decide +kernel))) rfl
theorem aw_30 : Cond.classLink "SceneTimes$Line" 9 "SceneTimes$Note" ∈ AL := AL_t (tb_1 (List.mem_of_getElem? (i := 30) (by decide +kernel))) rfl
theorem aw_32 : Cond.fieldLink "SceneTimes$Line" 11 "SceneTimes$Line" "byNumber" "[LSceneTimes$Note;" ∈ AL := AL_t (tb_1 (List.mem_of_getElem? (i := 32) (by decide +kernel))) rfl
theorem aw_33 : Cond.fieldLink "SceneTimes" 231 "SceneTimes$Line" "byNumber" "[LSceneTimes$Note;" ∈ AL := AL_t (tb_1 (List.mem_of_getElem? (i := 33) (by decide +kernel))) rfl
theorem aw_34 : Cond.fieldLink "SceneTimes$Line" 17 "SceneTimes$Line" "inOrder" "[LSceneTimes$Note;" ∈ AL := AL_t (tb_1 (List.mem_of_getElem? (i := 34) (by decide +kernel))) rfl
theorem aw_35 : Cond.fieldLink "SceneTimes" 135 "SceneTimes$Line" "inOrder" "[LSceneTimes$Note;" ∈ AL := AL_t (tb_1 (List.mem_of_getElem? (i := 35) (by decide +kernel))) rfl
theorem aw_36 : Cond.fieldLink "SceneTimes$Line" 20 "SceneTimes$Line" "size" "I" ∈ AL := AL_t (tb_1 (List.mem_of_getElem? (i := 36) (by decide +kernel))) rfl
theorem aw_37 : Cond.fieldLink "SceneTimes" 67 "SceneTimes$Line" "size" "I" ∈ AL := AL_t (tb_1 (List.mem_of_getElem? (i := 37) (by decide +kernel))) rfl
theorem aw_38 : Cond.laysFinal "SceneTimes$Line" "SceneTimes$Line" "byNumber" "[LSceneTimes$Note;" ∈ AL := AL_t (tb_1 (List.mem_of_getElem? (i := 38) (by decide +kernel))) rfl
theorem aw_39 : Cond.soleField "SceneTimes$Line" "byNumber" ∈ AL := AL_t (tb_1 (List.mem_of_getElem? (i := 39) (by decide +kernel))) rfl
theorem aw_40 : Cond.laysFinal "SceneTimes$Line" "SceneTimes$Line" "inOrder" "[LSceneTimes$Note;" ∈ AL := AL_t (tb_1 (List.mem_of_getElem? (i := 40) (by decide +kernel))) rfl
theorem aw_41 : Cond.soleField "SceneTimes$Line" "inOrder" ∈ AL := AL_t (tb_1 (List.mem_of_getElem? (i := 41) (by decide +kernel))) rfl
theorem aw_42 : Cond.lays "SceneTimes$Line" "SceneTimes$Line" "size" "I" ∈ AL := AL_t (tb_1 (List.mem_of_getElem? (i := 42) (by decide +kernel))) rfl
theorem aw_43 : Cond.soleField "SceneTimes$Line" "size" ∈ AL := AL_t (tb_1 (List.mem_of_getElem? (i := 43) (by decide +kernel))) rfl
theorem aw_44 : Cond.superclass "SceneTimes$Line" "java/lang/Object" ∈ AL := AL_t (tb_1 (List.mem_of_getElem? (i := 44) (by decide +kernel))) rfl
theorem aw_45 : Cond.classLink "SceneTimes" 16 "SceneTimes$Question" ∈ AL := AL_t (tb_1 (List.mem_of_getElem? (i := 45) (by decide +kernel))) rfl
theorem aw_46 : Cond.instantiable "SceneTimes$Question" 4 ∈ AL := AL_t (tb_1 (List.mem_of_getElem? (i := 46) (by decide +kernel))) rfl
theorem aw_48 : Cond.instanceMethod ⟨"SceneTimes$Question", "<init>", "()V"⟩ ∈ AL := AL_t (tb_1 (List.mem_of_getElem? (i := 48) (by decide +kernel))) rfl
theorem aw_49 : Cond.code ⟨"SceneTimes$Question", "<init>", "()V"⟩ prog_4_method_1_code 1 none ∈ AL := AL_t (tb_1 (List.mem_of_getElem? (i := 49) (rfl))) rfl
theorem aw_50 : Cond.methodLink "SceneTimes$Question" 3 ⟨"java/lang/Object", "<init>", "()V"⟩ ∈ AL := AL_t (tb_1 (List.mem_of_getElem? (i := 50) (by decide +kernel))) rfl
theorem aw_51 : Cond.classLink "SceneTimes$Question" 9 "SceneTimes$Note" ∈ AL := AL_t (tb_1 (List.mem_of_getElem? (i := 51) (by decide +kernel))) rfl
theorem aw_52 : Cond.fieldLink "SceneTimes$Question" 11 "SceneTimes$Question" "rows" "[LSceneTimes$Note;" ∈ AL := AL_t (tb_1 (List.mem_of_getElem? (i := 52) (by decide +kernel))) rfl
theorem aw_53 : Cond.fieldLink "SceneTimes" 156 "SceneTimes$Question" "rows" "[LSceneTimes$Note;" ∈ AL := AL_t (tb_1 (List.mem_of_getElem? (i := 53) (by decide +kernel))) rfl
theorem aw_54 : Cond.fieldLink "SceneTimes$Question" 25 "SceneTimes$Question" "size" "I" ∈ AL := AL_t (tb_1 (List.mem_of_getElem? (i := 54) (by decide +kernel))) rfl
theorem aw_55 : Cond.fieldLink "SceneTimes" 153 "SceneTimes$Question" "size" "I" ∈ AL := AL_t (tb_1 (List.mem_of_getElem? (i := 55) (by decide +kernel))) rfl
theorem aw_56 : Cond.fieldLink "SceneTimes$Question" 21 "SceneTimes$Question" "known" "I" ∈ AL := AL_t (tb_1 (List.mem_of_getElem? (i := 56) (by decide +kernel))) rfl
theorem aw_57 : Cond.fieldLink "SceneTimes" 160 "SceneTimes$Question" "known" "I" ∈ AL := AL_t (tb_1 (List.mem_of_getElem? (i := 57) (by decide +kernel))) rfl
theorem aw_58 : Cond.fieldLink "SceneTimes$Question" 17 "SceneTimes$Question" "asked" "Z" ∈ AL := AL_t (tb_1 (List.mem_of_getElem? (i := 58) (by decide +kernel))) rfl
theorem aw_59 : Cond.fieldLink "SceneTimes" 203 "SceneTimes$Question" "asked" "Z" ∈ AL := AL_t (tb_1 (List.mem_of_getElem? (i := 59) (by decide +kernel))) rfl
theorem aw_60 : Cond.laysFinal "SceneTimes$Question" "SceneTimes$Question" "rows" "[LSceneTimes$Note;" ∈ AL := AL_t (tb_1 (List.mem_of_getElem? (i := 60) (by decide +kernel))) rfl
theorem aw_61 : Cond.soleField "SceneTimes$Question" "rows" ∈ AL := AL_t (tb_1 (List.mem_of_getElem? (i := 61) (by decide +kernel))) rfl
theorem aw_62 : Cond.lays "SceneTimes$Question" "SceneTimes$Question" "size" "I" ∈ AL := AL_t (tb_1 (List.mem_of_getElem? (i := 62) (by decide +kernel))) rfl
theorem aw_63 : Cond.soleField "SceneTimes$Question" "size" ∈ AL := AL_t (tb_1 (List.mem_of_getElem? (i := 63) (by decide +kernel))) rfl
theorem aw_64 : Cond.lays "SceneTimes$Question" "SceneTimes$Question" "known" "I" ∈ AL := AL_t (tb_1 (List.mem_of_getElem? (i := 64) (by decide +kernel))) rfl
theorem aw_65 : Cond.soleField "SceneTimes$Question" "known" ∈ AL := AL_t (tb_1 (List.mem_of_getElem? (i := 65) (by decide +kernel))) rfl
theorem aw_66 : Cond.lays "SceneTimes$Question" "SceneTimes$Question" "asked" "Z" ∈ AL := AL_t (tb_1 (List.mem_of_getElem? (i := 66) (by decide +kernel))) rfl
theorem aw_67 : Cond.soleField "SceneTimes$Question" "asked" ∈ AL := AL_t (tb_1 (List.mem_of_getElem? (i := 67) (by decide +kernel))) rfl
theorem aw_68 : Cond.superclass "SceneTimes$Question" "java/lang/Object" ∈ AL := AL_t (tb_1 (List.mem_of_getElem? (i := 68) (by decide +kernel))) rfl
theorem aw_69 : Cond.classLink "SceneTimes" 23 "SceneTimes$Sheet" ∈ AL := AL_t (tb_1 (List.mem_of_getElem? (i := 69) (by decide +kernel))) rfl
theorem aw_70 : Cond.instantiable "SceneTimes$Sheet" 2 ∈ AL := AL_t (tb_1 (List.mem_of_getElem? (i := 70) (by decide +kernel))) rfl
theorem aw_72 : Cond.instanceMethod ⟨"SceneTimes$Sheet", "<init>", "()V"⟩ ∈ AL := AL_t (tb_1 (List.mem_of_getElem? (i := 72) (by decide +kernel))) rfl
theorem aw_73 : Cond.code ⟨"SceneTimes$Sheet", "<init>", "()V"⟩ prog_5_method_1_code 1 none ∈ AL := AL_t (tb_1 (List.mem_of_getElem? (i := 73) (rfl))) rfl
theorem aw_74 : Cond.methodLink "SceneTimes$Sheet" 3 ⟨"java/lang/Object", "<init>", "()V"⟩ ∈ AL := AL_t (tb_1 (List.mem_of_getElem? (i := 74) (by decide +kernel))) rfl
theorem aw_75 : Cond.fieldLink "SceneTimes$Sheet" 11 "SceneTimes$Sheet" "bytes" "[B" ∈ AL := AL_t (tb_1 (List.mem_of_getElem? (i := 75) (by decide +kernel))) rfl
theorem aw_76 : Cond.fieldLink "SceneTimes" 216 "SceneTimes$Sheet" "bytes" "[B" ∈ AL := AL_t (tb_1 (List.mem_of_getElem? (i := 76) (by decide +kernel))) rfl
theorem aw_77 : Cond.fieldLink "SceneTimes$Sheet" 15 "SceneTimes$Sheet" "size" "I" ∈ AL := AL_t (tb_1 (List.mem_of_getElem? (i := 77) (by decide +kernel))) rfl
theorem aw_78 : Cond.fieldLink "SceneTimes" 213 "SceneTimes$Sheet" "size" "I" ∈ AL := AL_t (tb_1 (List.mem_of_getElem? (i := 78) (by decide +kernel))) rfl
theorem aw_79 : Cond.laysFinal "SceneTimes$Sheet" "SceneTimes$Sheet" "bytes" "[B" ∈ AL := AL_t (tb_1 (List.mem_of_getElem? (i := 79) (by decide +kernel))) rfl
theorem aw_80 : Cond.soleField "SceneTimes$Sheet" "bytes" ∈ AL := AL_t (tb_1 (List.mem_of_getElem? (i := 80) (by decide +kernel))) rfl
theorem aw_81 : Cond.lays "SceneTimes$Sheet" "SceneTimes$Sheet" "size" "I" ∈ AL := AL_t (tb_1 (List.mem_of_getElem? (i := 81) (by decide +kernel))) rfl
theorem aw_82 : Cond.soleField "SceneTimes$Sheet" "size" ∈ AL := AL_t (tb_1 (List.mem_of_getElem? (i := 82) (by decide +kernel))) rfl
theorem aw_83 : Cond.superclass "SceneTimes$Sheet" "java/lang/Object" ∈ AL := AL_t (tb_1 (List.mem_of_getElem? (i := 83) (by decide +kernel))) rfl
theorem aw_84 : Cond.arrayClass .byte ∈ AL := AL_t (tb_1 (List.mem_of_getElem? (i := 84) (by decide +kernel))) rfl
theorem aw_85 : Cond.fieldLink "SceneTimes" 10 "SceneTimes" "line" "LSceneTimes$Line;" ∈ AL := AL_t (tb_1 (List.mem_of_getElem? (i := 85) (by decide +kernel))) rfl
theorem aw_86 : Cond.fieldLink "SceneTimes" 19 "SceneTimes" "question" "LSceneTimes$Question;" ∈ AL := AL_t (tb_1 (List.mem_of_getElem? (i := 86) (by decide +kernel))) rfl
theorem aw_87 : Cond.fieldLink "SceneTimes" 26 "SceneTimes" "sheet" "LSceneTimes$Sheet;" ∈ AL := AL_t (tb_1 (List.mem_of_getElem? (i := 87) (by decide +kernel))) rfl
theorem aw_88 : Cond.fieldLink "SceneTimes" 74 "SceneTimes" "second" "I" ∈ AL := AL_t (tb_1 (List.mem_of_getElem? (i := 88) (by decide +kernel))) rfl
theorem aw_89 : Cond.fieldLink "SceneTimes" 30 "SceneTimes" "writers" "I" ∈ AL := AL_t (tb_1 (List.mem_of_getElem? (i := 89) (by decide +kernel))) rfl
theorem aw_90 : Cond.fieldLink "SceneTimes" 115 "SceneTimes" "acts" "I" ∈ AL := AL_t (tb_1 (List.mem_of_getElem? (i := 90) (by decide +kernel))) rfl
theorem aw_91 : Cond.laysFinal "SceneTimes" "SceneTimes" "line" "LSceneTimes$Line;" ∈ AL := AL_t (tb_1 (List.mem_of_getElem? (i := 91) (by decide +kernel))) rfl
theorem aw_92 : Cond.soleField "SceneTimes" "line" ∈ AL := AL_t (tb_1 (List.mem_of_getElem? (i := 92) (by decide +kernel))) rfl
theorem aw_93 : Cond.laysFinal "SceneTimes" "SceneTimes" "question" "LSceneTimes$Question;" ∈ AL := AL_t (tb_1 (List.mem_of_getElem? (i := 93) (by decide +kernel))) rfl
theorem aw_94 : Cond.soleField "SceneTimes" "question" ∈ AL := AL_t (tb_1 (List.mem_of_getElem? (i := 94) (by decide +kernel))) rfl
theorem aw_95 : Cond.laysFinal "SceneTimes" "SceneTimes" "sheet" "LSceneTimes$Sheet;" ∈ AL := AL_t (tb_1 (List.mem_of_getElem? (i := 95) (by decide +kernel))) rfl
theorem aw_96 : Cond.soleField "SceneTimes" "sheet" ∈ AL := AL_t (tb_1 (List.mem_of_getElem? (i := 96) (by decide +kernel))) rfl
theorem aw_97 : Cond.lays "SceneTimes" "SceneTimes" "second" "I" ∈ AL := AL_t (tb_1 (List.mem_of_getElem? (i := 97) (by decide +kernel))) rfl
theorem aw_98 : Cond.soleField "SceneTimes" "second" ∈ AL := AL_t (tb_1 (List.mem_of_getElem? (i := 98) (by decide +kernel))) rfl
theorem aw_99 : Cond.lays "SceneTimes" "SceneTimes" "writers" "I" ∈ AL := AL_t (tb_1 (List.mem_of_getElem? (i := 99) (by decide +kernel))) rfl
theorem aw_100 : Cond.soleField "SceneTimes" "writers" ∈ AL := AL_t (tb_1 (List.mem_of_getElem? (i := 100) (by decide +kernel))) rfl
theorem aw_101 : Cond.lays "SceneTimes" "SceneTimes" "acts" "I" ∈ AL := AL_t (tb_1 (List.mem_of_getElem? (i := 101) (by decide +kernel))) rfl
theorem aw_102 : Cond.soleField "SceneTimes" "acts" ∈ AL := AL_t (tb_1 (List.mem_of_getElem? (i := 102) (by decide +kernel))) rfl
theorem aw_103 : Cond.superclass "SceneTimes" "java/lang/Object" ∈ AL := AL_t (tb_1 (List.mem_of_getElem? (i := 103) (by decide +kernel))) rfl
theorem aw_104 : Cond.methodLink "SceneTimesLaw" 68 ⟨"SceneTimesLaw", "writer", "(LSceneTimes;[J)I"⟩ ∈ AL := AL_t (tb_1 (List.mem_of_getElem? (i := 104) (by decide +kernel))) rfl
theorem aw_105 : Cond.static ⟨"SceneTimesLaw", "writer", "(LSceneTimes;[J)I"⟩ ∈ AL := AL_t (tb_1 (List.mem_of_getElem? (i := 105) (by decide +kernel))) rfl
theorem aw_106 : Cond.codeWith ⟨"SceneTimesLaw", "writer", "(LSceneTimes;[J)I"⟩ method_3_code 3 (some .int) [(0, 8, 11, 13)] ∈ AL := AL_t (tb_1 (List.mem_of_getElem? (i := 106) (rfl))) rfl
theorem aw_107 : Cond.classLink "SceneTimesLaw" 13 "java/lang/UnsupportedOperationException" ∈ AL := AL_t (tb_1 (List.mem_of_getElem? (i := 107) (by decide +kernel))) rfl
theorem aw_108 : Cond.methodLink "SceneTimesLaw" 7 ⟨"SceneTimes", "writer", "()I"⟩ ∈ AL := AL_t (tb_1 (List.mem_of_getElem? (i := 108) (by decide +kernel))) rfl
theorem aw_109 : Cond.instanceMethod ⟨"SceneTimes", "writer", "()I"⟩ ∈ AL := AL_t (tb_1 (List.mem_of_getElem? (i := 109) (by decide +kernel))) rfl
theorem aw_110 : Cond.selects "SceneTimes" ⟨"SceneTimes", "writer", "()I"⟩ ⟨"SceneTimes", "writer", "()I"⟩ ∈ AL := AL_t (tb_1 (List.mem_of_getElem? (i := 110) (by decide +kernel))) rfl
theorem aw_111 : Cond.code ⟨"SceneTimes", "writer", "()I"⟩ prog_1_method_2_code 1 (some .int) ∈ AL := AL_t (tb_1 (List.mem_of_getElem? (i := 111) (rfl))) rfl
theorem aw_112 : Cond.classLink "SceneTimes" 34 "java/lang/UnsupportedOperationException" ∈ AL := AL_t (tb_1 (List.mem_of_getElem? (i := 112) (by decide +kernel))) rfl
theorem aw_113 : Cond.instantiable "java/lang/UnsupportedOperationException" 6 ∈ AL := AL_t (tb_1 (List.mem_of_getElem? (i := 113) (by decide +kernel))) rfl
theorem aw_121 : Cond.selects "java/lang/UnsupportedOperationException" ⟨"java/lang/Throwable", "fillInStackTrace", "(I)Ljava/lang/Throwable;"⟩ ⟨"java/lang/Throwable", "fillInStackTrace", "(I)Ljava/lang/Throwable;"⟩ ∈ AL := AL_t (tb_1 (List.mem_of_getElem? (i := 121) (by decide +kernel))) rfl
theorem aw_122 : Cond.selects "java/lang/UnsupportedOperationException" ⟨"java/lang/Throwable", "fillInStackTrace", "()Ljava/lang/Throwable;"⟩ ⟨"java/lang/Throwable", "fillInStackTrace", "()Ljava/lang/Throwable;"⟩ ∈ AL := AL_t (tb_1 (List.mem_of_getElem? (i := 122) (by decide +kernel))) rfl
theorem aw_123 : Cond.lays "java/lang/UnsupportedOperationException" "java/lang/Throwable" "cause" "Ljava/lang/Throwable;" ∈ AL := AL_t (tb_1 (List.mem_of_getElem? (i := 123) (by decide +kernel))) rfl
theorem aw_124 : Cond.lays "java/lang/Throwable" "java/lang/Throwable" "cause" "Ljava/lang/Throwable;" ∈ AL := AL_t (tb_1 (List.mem_of_getElem? (i := 124) (by decide +kernel))) rfl
theorem aw_125 : Cond.lays "java/lang/UnsupportedOperationException" "java/lang/Throwable" "stackTrace" "[Ljava/lang/StackTraceElement;" ∈ AL := AL_t (tb_1 (List.mem_of_getElem? (i := 125) (by decide +kernel))) rfl
theorem aw_126 : Cond.lays "java/lang/Throwable" "java/lang/Throwable" "stackTrace" "[Ljava/lang/StackTraceElement;" ∈ AL := AL_t (tb_1 (List.mem_of_getElem? (i := 126) (by decide +kernel))) rfl
theorem aw_127 : Cond.lays "java/lang/UnsupportedOperationException" "java/lang/Throwable" "suppressedExceptions" "Ljava/util/List;" ∈ AL := AL_t (tb_1 (List.mem_of_getElem? (i := 127) (by decide +kernel))) rfl
theorem aw_128 : Cond.lays "java/lang/Throwable" "java/lang/Throwable" "suppressedExceptions" "Ljava/util/List;" ∈ AL := AL_t (tb_1 (List.mem_of_getElem? (i := 128) (by decide +kernel))) rfl
theorem aw_129 : Cond.lays "java/lang/UnsupportedOperationException" "java/lang/Throwable" "detailMessage" "Ljava/lang/String;" ∈ AL := AL_t (tb_1 (List.mem_of_getElem? (i := 129) (by decide +kernel))) rfl
theorem aw_130 : Cond.lays "java/lang/Throwable" "java/lang/Throwable" "detailMessage" "Ljava/lang/String;" ∈ AL := AL_t (tb_1 (List.mem_of_getElem? (i := 130) (by decide +kernel))) rfl
theorem aw_131 : Cond.lays "java/lang/UnsupportedOperationException" "java/lang/Throwable" "backtrace" "Ljava/lang/Object;" ∈ AL := AL_t (tb_1 (List.mem_of_getElem? (i := 131) (by decide +kernel))) rfl
theorem aw_132 : Cond.lays "java/lang/Throwable" "java/lang/Throwable" "backtrace" "Ljava/lang/Object;" ∈ AL := AL_t (tb_1 (List.mem_of_getElem? (i := 132) (by decide +kernel))) rfl
theorem aw_133 : Cond.fieldLink "java/lang/Throwable" 198 "java/lang/Throwable" "backtrace" "Ljava/lang/Object;" ∈ AL := AL_t (tb_1 (List.mem_of_getElem? (i := 133) (by decide +kernel))) rfl
theorem aw_134 : Cond.superclass "java/lang/Throwable" "java/lang/Object" ∈ AL := AL_t (tb_1 (List.mem_of_getElem? (i := 134) (by decide +kernel))) rfl
theorem aw_135 : Cond.instanceMethod ⟨"java/lang/Throwable", "<init>", "()V"⟩ ∈ AL := AL_t (tb_1 (List.mem_of_getElem? (i := 135) (by decide +kernel))) rfl
theorem aw_136 : Cond.code ⟨"java/lang/Throwable", "<init>", "()V"⟩ prog_16_method_1_code 1 none ∈ AL := AL_t (tb_1 (List.mem_of_getElem? (i := 136) (rfl))) rfl
theorem aw_137 : Cond.methodLink "java/lang/Throwable" 1 ⟨"java/lang/Object", "<init>", "()V"⟩ ∈ AL := AL_t (tb_1 (List.mem_of_getElem? (i := 137) (by decide +kernel))) rfl
theorem aw_138 : Cond.fieldLink "java/lang/Throwable" 13 "java/lang/Throwable" "UNASSIGNED_STACK" "[Ljava/lang/StackTraceElement;" ∈ AL := AL_t (tb_1 (List.mem_of_getElem? (i := 138) (by decide +kernel))) rfl
theorem aw_140 : Cond.fieldLink "java/lang/Throwable" 20 "java/lang/Throwable" "SUPPRESSED_SENTINEL" "Ljava/util/List;" ∈ AL := AL_t (tb_1 (List.mem_of_getElem? (i := 140) (by decide +kernel))) rfl
theorem aw_142 : Cond.methodLink "java/lang/Throwable" 27 ⟨"java/lang/Throwable", "fillInStackTrace", "()Ljava/lang/Throwable;"⟩ ∈ AL := AL_t (tb_1 (List.mem_of_getElem? (i := 142) (by decide +kernel))) rfl
theorem aw_143 : Cond.instanceMethod ⟨"java/lang/Throwable", "fillInStackTrace", "()Ljava/lang/Throwable;"⟩ ∈ AL := AL_t (tb_1 (List.mem_of_getElem? (i := 143) (by decide +kernel))) rfl
theorem aw_144 : Cond.sameMethod "java/lang/Throwable" "java/lang/Throwable" "fillInStackTrace" "()Ljava/lang/Throwable;" ∈ AL := AL_t (tb_1 (List.mem_of_getElem? (i := 144) (by decide +kernel))) rfl
theorem aw_145 : Cond.selects "java/lang/IllegalArgumentException" ⟨"java/lang/Throwable", "fillInStackTrace", "()Ljava/lang/Throwable;"⟩ ⟨"java/lang/Throwable", "fillInStackTrace", "()Ljava/lang/Throwable;"⟩ ∈ AL := AL_t (tb_1 (List.mem_of_getElem? (i := 145) (by decide +kernel))) rfl
theorem aw_146 : Cond.selects "java/lang/IllegalStateException" ⟨"java/lang/Throwable", "fillInStackTrace", "()Ljava/lang/Throwable;"⟩ ⟨"java/lang/Throwable", "fillInStackTrace", "()Ljava/lang/Throwable;"⟩ ∈ AL := AL_t (tb_1 (List.mem_of_getElem? (i := 146) (by decide +kernel))) rfl
theorem aw_147 : Cond.selects "java/lang/IndexOutOfBoundsException" ⟨"java/lang/Throwable", "fillInStackTrace", "()Ljava/lang/Throwable;"⟩ ⟨"java/lang/Throwable", "fillInStackTrace", "()Ljava/lang/Throwable;"⟩ ∈ AL := AL_t (tb_1 (List.mem_of_getElem? (i := 147) (by decide +kernel))) rfl
theorem aw_148 : Cond.codeSync ⟨"java/lang/Throwable", "fillInStackTrace", "()Ljava/lang/Throwable;"⟩ prog_16_method_18_code 1 (some (.object "java/lang/Throwable")) ∈ AL := AL_t (tb_1 (List.mem_of_getElem? (i := 148) (rfl))) rfl
theorem aw_149 : Cond.methodLink "java/lang/Throwable" 202 ⟨"java/lang/Throwable", "fillInStackTrace", "(I)Ljava/lang/Throwable;"⟩ ∈ AL := AL_t (tb_1 (List.mem_of_getElem? (i := 149) (by decide +kernel))) rfl
theorem aw_151 : Cond.instanceMethod ⟨"java/lang/Throwable", "fillInStackTrace", "(I)Ljava/lang/Throwable;"⟩ ∈ AL := AL_t (tb_1 (List.mem_of_getElem? (i := 151) (by decide +kernel))) rfl
theorem aw_152 : Cond.instantiable "java/lang/Throwable" 6 ∈ AL := AL_t (tb_1 (List.mem_of_getElem? (i := 152) (by decide +kernel))) rfl
theorem aw_153 : Cond.native ⟨"java/lang/Throwable", "fillInStackTrace", "(I)Ljava/lang/Throwable;"⟩ ∈ AL := AL_t (tb_1 (List.mem_of_getElem? (i := 153) (by decide +kernel))) rfl
theorem aw_155 : Cond.methodLink "SceneTimes" 38 ⟨"java/lang/UnsupportedOperationException", "<init>", "(Ljava/lang/String;)V"⟩ ∈ AL := AL_t (tb_1 (List.mem_of_getElem? (i := 155) (by decide +kernel))) rfl
theorem aw_156 : Cond.instanceMethod ⟨"java/lang/UnsupportedOperationException", "<init>", "(Ljava/lang/String;)V"⟩ ∈ AL := AL_t (tb_1 (List.mem_of_getElem? (i := 156) (by decide +kernel))) rfl
theorem aw_157 : Cond.code ⟨"java/lang/UnsupportedOperationException", "<init>", "(Ljava/lang/String;)V"⟩ prog_17_method_2_code 2 none ∈ AL := AL_t (tb_1 (List.mem_of_getElem? (i := 157) (rfl))) rfl
theorem aw_158 : Cond.methodLink "java/lang/UnsupportedOperationException" 7 ⟨"java/lang/RuntimeException", "<init>", "(Ljava/lang/String;)V"⟩ ∈ AL := AL_t (tb_1 (List.mem_of_getElem? (i := 158) (by decide +kernel))) rfl
theorem aw_159 : Cond.instanceMethod ⟨"java/lang/RuntimeException", "<init>", "(Ljava/lang/String;)V"⟩ ∈ AL := AL_t (tb_1 (List.mem_of_getElem? (i := 159) (by decide +kernel))) rfl
theorem aw_160 : Cond.code ⟨"java/lang/RuntimeException", "<init>", "(Ljava/lang/String;)V"⟩ prog_14_method_2_code 2 none ∈ AL := AL_t (tb_1 (List.mem_of_getElem? (i := 160) (rfl))) rfl
theorem aw_161 : Cond.methodLink "java/lang/RuntimeException" 7 ⟨"java/lang/Exception", "<init>", "(Ljava/lang/String;)V"⟩ ∈ AL := AL_t (tb_1 (List.mem_of_getElem? (i := 161) (by decide +kernel))) rfl
theorem aw_162 : Cond.instanceMethod ⟨"java/lang/Exception", "<init>", "(Ljava/lang/String;)V"⟩ ∈ AL := AL_t (tb_1 (List.mem_of_getElem? (i := 162) (by decide +kernel))) rfl
theorem aw_163 : Cond.code ⟨"java/lang/Exception", "<init>", "(Ljava/lang/String;)V"⟩ prog_9_method_2_code 2 none ∈ AL := AL_t (tb_1 (List.mem_of_getElem? (i := 163) (rfl))) rfl
theorem aw_164 : Cond.methodLink "java/lang/Exception" 7 ⟨"java/lang/Throwable", "<init>", "(Ljava/lang/String;)V"⟩ ∈ AL := AL_t (tb_1 (List.mem_of_getElem? (i := 164) (by decide +kernel))) rfl
theorem aw_165 : Cond.instanceMethod ⟨"java/lang/Throwable", "<init>", "(Ljava/lang/String;)V"⟩ ∈ AL := AL_t (tb_1 (List.mem_of_getElem? (i := 165) (by decide +kernel))) rfl
theorem aw_166 : Cond.code ⟨"java/lang/Throwable", "<init>", "(Ljava/lang/String;)V"⟩ prog_16_method_2_code 2 none ∈ AL := AL_t (tb_1 (List.mem_of_getElem? (i := 166) (rfl))) rfl
theorem aw_167 : Cond.fieldLink "java/lang/Throwable" 198 "java/lang/Throwable" "backtrace" "Ljava/lang/Object;" ∈ AL := AL_t (tb_1 (List.mem_of_getElem? (i := 167) (by decide +kernel))) rfl
theorem aw_168 : Cond.fieldLink "java/lang/Throwable" 31 "java/lang/Throwable" "detailMessage" "Ljava/lang/String;" ∈ AL := AL_t (tb_1 (List.mem_of_getElem? (i := 168) (by decide +kernel))) rfl
theorem aw_169 : Cond.fieldLink "java/lang/Throwable" 7 "java/lang/Throwable" "cause" "Ljava/lang/Throwable;" ∈ AL := AL_t (tb_1 (List.mem_of_getElem? (i := 169) (by decide +kernel))) rfl
theorem aw_170 : Cond.fieldLink "java/lang/Throwable" 17 "java/lang/Throwable" "stackTrace" "[Ljava/lang/StackTraceElement;" ∈ AL := AL_t (tb_1 (List.mem_of_getElem? (i := 170) (by decide +kernel))) rfl
theorem aw_171 : Cond.fieldLink "java/lang/Throwable" 24 "java/lang/Throwable" "suppressedExceptions" "Ljava/util/List;" ∈ AL := AL_t (tb_1 (List.mem_of_getElem? (i := 171) (by decide +kernel))) rfl
theorem aw_172 : Cond.soleField "java/lang/Throwable" "backtrace" ∈ AL := AL_t (tb_1 (List.mem_of_getElem? (i := 172) (by decide +kernel))) rfl
theorem aw_173 : Cond.soleField "java/lang/Throwable" "detailMessage" ∈ AL := AL_t (tb_1 (List.mem_of_getElem? (i := 173) (by decide +kernel))) rfl
theorem aw_174 : Cond.soleField "java/lang/Throwable" "cause" ∈ AL := AL_t (tb_1 (List.mem_of_getElem? (i := 174) (by decide +kernel))) rfl
theorem aw_175 : Cond.soleField "java/lang/Throwable" "stackTrace" ∈ AL := AL_t (tb_1 (List.mem_of_getElem? (i := 175) (by decide +kernel))) rfl
theorem aw_176 : Cond.lays "java/lang/UnsupportedOperationException" "java/lang/Throwable" "depth" "I" ∈ AL := AL_t (tb_1 (List.mem_of_getElem? (i := 176) (by decide +kernel))) rfl
theorem aw_177 : Cond.soleField "java/lang/Throwable" "depth" ∈ AL := AL_t (tb_1 (List.mem_of_getElem? (i := 177) (by decide +kernel))) rfl
theorem aw_178 : Cond.soleField "java/lang/Throwable" "suppressedExceptions" ∈ AL := AL_t (tb_1 (List.mem_of_getElem? (i := 178) (by decide +kernel))) rfl
theorem aw_179 : Cond.superclass "java/lang/UnsupportedOperationException" "java/lang/RuntimeException" ∈ AL := AL_t (tb_1 (List.mem_of_getElem? (i := 179) (by decide +kernel))) rfl
theorem aw_180 : Cond.methodLink "SceneTimesLaw" 77 ⟨"SceneTimesLaw", "note", "(LSceneTimes;IIIII[J)I"⟩ ∈ AL := AL_t (tb_1 (List.mem_of_getElem? (i := 180) (by decide +kernel))) rfl
theorem aw_181 : Cond.static ⟨"SceneTimesLaw", "note", "(LSceneTimes;IIIII[J)I"⟩ ∈ AL := AL_t (tb_1 (List.mem_of_getElem? (i := 181) (by decide +kernel))) rfl
theorem aw_182 : Cond.codeWith ⟨"SceneTimesLaw", "note", "(LSceneTimes;IIIII[J)I"⟩ method_4_code 8 (some .int) [(0, 16, 19, 19), (0, 16, 23, 21), (0, 16, 27, 13)] ∈ AL := AL_t (tb_1 (List.mem_of_getElem? (i := 182) (rfl))) rfl
theorem aw_183 : Cond.classLink "SceneTimesLaw" 19 "java/lang/IllegalArgumentException" ∈ AL := AL_t (tb_1 (List.mem_of_getElem? (i := 183) (by decide +kernel))) rfl
theorem aw_184 : Cond.classLink "SceneTimesLaw" 21 "java/lang/IndexOutOfBoundsException" ∈ AL := AL_t (tb_1 (List.mem_of_getElem? (i := 184) (by decide +kernel))) rfl
theorem aw_185 : Cond.methodLink "SceneTimesLaw" 15 ⟨"SceneTimes", "note", "(IIIII)I"⟩ ∈ AL := AL_t (tb_1 (List.mem_of_getElem? (i := 185) (by decide +kernel))) rfl
theorem aw_186 : Cond.instanceMethod ⟨"SceneTimes", "note", "(IIIII)I"⟩ ∈ AL := AL_t (tb_1 (List.mem_of_getElem? (i := 186) (by decide +kernel))) rfl
theorem aw_187 : Cond.selects "SceneTimes" ⟨"SceneTimes", "note", "(IIIII)I"⟩ ⟨"SceneTimes", "note", "(IIIII)I"⟩ ∈ AL := AL_t (tb_1 (List.mem_of_getElem? (i := 187) (by decide +kernel))) rfl
theorem aw_188 : Cond.code ⟨"SceneTimes", "note", "(IIIII)I"⟩ prog_1_method_3_code 7 (some .int) ∈ AL := AL_t (tb_1 (List.mem_of_getElem? (i := 188) (rfl))) rfl
theorem aw_189 : Cond.methodLink "SceneTimes" 41 ⟨"SceneTimes", "isWriter", "(I)Z"⟩ ∈ AL := AL_t (tb_1 (List.mem_of_getElem? (i := 189) (by decide +kernel))) rfl
theorem aw_191 : Cond.instanceMethod ⟨"SceneTimes", "isWriter", "(I)Z"⟩ ∈ AL := AL_t (tb_1 (List.mem_of_getElem? (i := 191) (by decide +kernel))) rfl
theorem aw_192 : Cond.code ⟨"SceneTimes", "isWriter", "(I)Z"⟩ prog_1_method_16_code 2 (some .boolean) ∈ AL := AL_t (tb_1 (List.mem_of_getElem? (i := 192) (rfl))) rfl
theorem aw_193 : Cond.methodLink "SceneTimes" 45 ⟨"SceneTimes", "isKind", "(I)Z"⟩ ∈ AL := AL_t (tb_1 (List.mem_of_getElem? (i := 193) (by decide +kernel))) rfl
theorem aw_194 : Cond.static ⟨"SceneTimes", "isKind", "(I)Z"⟩ ∈ AL := AL_t (tb_1 (List.mem_of_getElem? (i := 194) (by decide +kernel))) rfl
theorem aw_195 : Cond.code ⟨"SceneTimes", "isKind", "(I)Z"⟩ prog_1_method_17_code 1 (some .boolean) ∈ AL := AL_t (tb_1 (List.mem_of_getElem? (i := 195) (rfl))) rfl
theorem aw_196 : Cond.methodLink "SceneTimes" 48 ⟨"SceneTimes", "isSector", "(I)Z"⟩ ∈ AL := AL_t (tb_1 (List.mem_of_getElem? (i := 196) (by decide +kernel))) rfl
theorem aw_197 : Cond.static ⟨"SceneTimes", "isSector", "(I)Z"⟩ ∈ AL := AL_t (tb_1 (List.mem_of_getElem? (i := 197) (by decide +kernel))) rfl
theorem aw_198 : Cond.code ⟨"SceneTimes", "isSector", "(I)Z"⟩ prog_1_method_18_code 1 (some .boolean) ∈ AL := AL_t (tb_1 (List.mem_of_getElem? (i := 198) (rfl))) rfl
theorem aw_199 : Cond.classLink "SceneTimes" 51 "java/lang/IllegalArgumentException" ∈ AL := AL_t (tb_1 (List.mem_of_getElem? (i := 199) (by decide +kernel))) rfl
theorem aw_200 : Cond.instantiable "java/lang/IllegalArgumentException" 6 ∈ AL := AL_t (tb_1 (List.mem_of_getElem? (i := 200) (by decide +kernel))) rfl
theorem aw_202 : Cond.selects "java/lang/IllegalArgumentException" ⟨"java/lang/Throwable", "fillInStackTrace", "(I)Ljava/lang/Throwable;"⟩ ⟨"java/lang/Throwable", "fillInStackTrace", "(I)Ljava/lang/Throwable;"⟩ ∈ AL := AL_t (tb_1 (List.mem_of_getElem? (i := 202) (by decide +kernel))) rfl
theorem aw_203 : Cond.lays "java/lang/IllegalArgumentException" "java/lang/Throwable" "cause" "Ljava/lang/Throwable;" ∈ AL := AL_t (tb_1 (List.mem_of_getElem? (i := 203) (by decide +kernel))) rfl
theorem aw_204 : Cond.lays "java/lang/IllegalArgumentException" "java/lang/Throwable" "stackTrace" "[Ljava/lang/StackTraceElement;" ∈ AL := AL_t (tb_1 (List.mem_of_getElem? (i := 204) (by decide +kernel))) rfl
theorem aw_205 : Cond.lays "java/lang/IllegalArgumentException" "java/lang/Throwable" "suppressedExceptions" "Ljava/util/List;" ∈ AL := AL_t (tb_1 (List.mem_of_getElem? (i := 205) (by decide +kernel))) rfl
theorem aw_206 : Cond.lays "java/lang/IllegalArgumentException" "java/lang/Throwable" "detailMessage" "Ljava/lang/String;" ∈ AL := AL_t (tb_1 (List.mem_of_getElem? (i := 206) (by decide +kernel))) rfl
theorem aw_207 : Cond.lays "java/lang/IllegalArgumentException" "java/lang/Throwable" "backtrace" "Ljava/lang/Object;" ∈ AL := AL_t (tb_1 (List.mem_of_getElem? (i := 207) (by decide +kernel))) rfl
theorem aw_209 : Cond.methodLink "SceneTimes" 55 ⟨"java/lang/IllegalArgumentException", "<init>", "(Ljava/lang/String;)V"⟩ ∈ AL := AL_t (tb_1 (List.mem_of_getElem? (i := 209) (by decide +kernel))) rfl
theorem aw_210 : Cond.instanceMethod ⟨"java/lang/IllegalArgumentException", "<init>", "(Ljava/lang/String;)V"⟩ ∈ AL := AL_t (tb_1 (List.mem_of_getElem? (i := 210) (by decide +kernel))) rfl
theorem aw_211 : Cond.code ⟨"java/lang/IllegalArgumentException", "<init>", "(Ljava/lang/String;)V"⟩ prog_10_method_2_code 2 none ∈ AL := AL_t (tb_1 (List.mem_of_getElem? (i := 211) (rfl))) rfl
theorem aw_212 : Cond.methodLink "java/lang/IllegalArgumentException" 7 ⟨"java/lang/RuntimeException", "<init>", "(Ljava/lang/String;)V"⟩ ∈ AL := AL_t (tb_1 (List.mem_of_getElem? (i := 212) (by decide +kernel))) rfl
theorem aw_213 : Cond.lays "java/lang/IllegalArgumentException" "java/lang/Throwable" "depth" "I" ∈ AL := AL_t (tb_1 (List.mem_of_getElem? (i := 213) (by decide +kernel))) rfl
theorem aw_214 : Cond.superclass "java/lang/IllegalArgumentException" "java/lang/RuntimeException" ∈ AL := AL_t (tb_1 (List.mem_of_getElem? (i := 214) (by decide +kernel))) rfl
theorem aw_215 : Cond.methodLink "SceneTimes" 56 ⟨"SceneTimes", "hasCome", "(I)Z"⟩ ∈ AL := AL_t (tb_1 (List.mem_of_getElem? (i := 215) (by decide +kernel))) rfl
theorem aw_217 : Cond.instanceMethod ⟨"SceneTimes", "hasCome", "(I)Z"⟩ ∈ AL := AL_t (tb_1 (List.mem_of_getElem? (i := 217) (by decide +kernel))) rfl
theorem aw_218 : Cond.code ⟨"SceneTimes", "hasCome", "(I)Z"⟩ prog_1_method_20_code 2 (some .boolean) ∈ AL := AL_t (tb_1 (List.mem_of_getElem? (i := 218) (rfl))) rfl
theorem aw_219 : Cond.methodLink "SceneTimes" 59 ⟨"SceneTimes", "isValue", "(I)Z"⟩ ∈ AL := AL_t (tb_1 (List.mem_of_getElem? (i := 219) (by decide +kernel))) rfl
theorem aw_220 : Cond.static ⟨"SceneTimes", "isValue", "(I)Z"⟩ ∈ AL := AL_t (tb_1 (List.mem_of_getElem? (i := 220) (by decide +kernel))) rfl
theorem aw_221 : Cond.code ⟨"SceneTimes", "isValue", "(I)Z"⟩ prog_1_method_19_code 1 (some .boolean) ∈ AL := AL_t (tb_1 (List.mem_of_getElem? (i := 221) (rfl))) rfl
theorem aw_222 : Cond.classLink "SceneTimes" 62 "java/lang/IndexOutOfBoundsException" ∈ AL := AL_t (tb_1 (List.mem_of_getElem? (i := 222) (by decide +kernel))) rfl
theorem aw_223 : Cond.instantiable "java/lang/IndexOutOfBoundsException" 6 ∈ AL := AL_t (tb_1 (List.mem_of_getElem? (i := 223) (by decide +kernel))) rfl
theorem aw_225 : Cond.selects "java/lang/IndexOutOfBoundsException" ⟨"java/lang/Throwable", "fillInStackTrace", "(I)Ljava/lang/Throwable;"⟩ ⟨"java/lang/Throwable", "fillInStackTrace", "(I)Ljava/lang/Throwable;"⟩ ∈ AL := AL_t (tb_1 (List.mem_of_getElem? (i := 225) (by decide +kernel))) rfl
theorem aw_226 : Cond.lays "java/lang/IndexOutOfBoundsException" "java/lang/Throwable" "cause" "Ljava/lang/Throwable;" ∈ AL := AL_t (tb_1 (List.mem_of_getElem? (i := 226) (by decide +kernel))) rfl
theorem aw_227 : Cond.lays "java/lang/IndexOutOfBoundsException" "java/lang/Throwable" "stackTrace" "[Ljava/lang/StackTraceElement;" ∈ AL := AL_t (tb_1 (List.mem_of_getElem? (i := 227) (by decide +kernel))) rfl
theorem aw_228 : Cond.lays "java/lang/IndexOutOfBoundsException" "java/lang/Throwable" "suppressedExceptions" "Ljava/util/List;" ∈ AL := AL_t (tb_1 (List.mem_of_getElem? (i := 228) (by decide +kernel))) rfl
theorem aw_229 : Cond.lays "java/lang/IndexOutOfBoundsException" "java/lang/Throwable" "detailMessage" "Ljava/lang/String;" ∈ AL := AL_t (tb_1 (List.mem_of_getElem? (i := 229) (by decide +kernel))) rfl
theorem aw_230 : Cond.lays "java/lang/IndexOutOfBoundsException" "java/lang/Throwable" "backtrace" "Ljava/lang/Object;" ∈ AL := AL_t (tb_1 (List.mem_of_getElem? (i := 230) (by decide +kernel))) rfl
theorem aw_232 : Cond.methodLink "SceneTimes" 66 ⟨"java/lang/IndexOutOfBoundsException", "<init>", "(Ljava/lang/String;)V"⟩ ∈ AL := AL_t (tb_1 (List.mem_of_getElem? (i := 232) (by decide +kernel))) rfl
theorem aw_233 : Cond.instanceMethod ⟨"java/lang/IndexOutOfBoundsException", "<init>", "(Ljava/lang/String;)V"⟩ ∈ AL := AL_t (tb_1 (List.mem_of_getElem? (i := 233) (by decide +kernel))) rfl
theorem aw_234 : Cond.code ⟨"java/lang/IndexOutOfBoundsException", "<init>", "(Ljava/lang/String;)V"⟩ prog_12_method_2_code 2 none ∈ AL := AL_t (tb_1 (List.mem_of_getElem? (i := 234) (rfl))) rfl
theorem aw_235 : Cond.methodLink "java/lang/IndexOutOfBoundsException" 7 ⟨"java/lang/RuntimeException", "<init>", "(Ljava/lang/String;)V"⟩ ∈ AL := AL_t (tb_1 (List.mem_of_getElem? (i := 235) (by decide +kernel))) rfl
theorem aw_236 : Cond.lays "java/lang/IndexOutOfBoundsException" "java/lang/Throwable" "depth" "I" ∈ AL := AL_t (tb_1 (List.mem_of_getElem? (i := 236) (by decide +kernel))) rfl
theorem aw_237 : Cond.superclass "java/lang/IndexOutOfBoundsException" "java/lang/RuntimeException" ∈ AL := AL_t (tb_1 (List.mem_of_getElem? (i := 237) (by decide +kernel))) rfl
theorem aw_239 : Cond.classLink "SceneTimes" 72 "SceneTimes$Note" ∈ AL := AL_t (tb_1 (List.mem_of_getElem? (i := 239) (by decide +kernel))) rfl
theorem aw_240 : Cond.instantiable "SceneTimes$Note" 10 ∈ AL := AL_t (tb_2 (List.mem_of_getElem? (i := 0) (by decide +kernel))) rfl
theorem aw_241 : Cond.methodLink "SceneTimes" 77 ⟨"SceneTimes$Note", "<init>", "(IIIIIII)V"⟩ ∈ AL := AL_t (tb_2 (List.mem_of_getElem? (i := 1) (by decide +kernel))) rfl
theorem aw_242 : Cond.instanceMethod ⟨"SceneTimes$Note", "<init>", "(IIIIIII)V"⟩ ∈ AL := AL_t (tb_2 (List.mem_of_getElem? (i := 2) (by decide +kernel))) rfl
theorem aw_243 : Cond.code ⟨"SceneTimes$Note", "<init>", "(IIIIIII)V"⟩ prog_3_method_1_code 8 none ∈ AL := AL_t (tb_2 (List.mem_of_getElem? (i := 3) (rfl))) rfl
theorem aw_244 : Cond.methodLink "SceneTimes$Note" 3 ⟨"java/lang/Object", "<init>", "()V"⟩ ∈ AL := AL_t (tb_2 (List.mem_of_getElem? (i := 4) (by decide +kernel))) rfl
theorem aw_245 : Cond.classLink "SceneTimes$Note" 27 "SceneTimes$State" ∈ AL := AL_t (tb_2 (List.mem_of_getElem? (i := 5) (by decide +kernel))) rfl
theorem aw_246 : Cond.instantiable "SceneTimes$State" 4 ∈ AL := AL_t (tb_2 (List.mem_of_getElem? (i := 6) (by decide +kernel))) rfl
theorem aw_247 : Cond.methodLink "SceneTimes$Note" 29 ⟨"SceneTimes$State", "<init>", "(IIZLSceneTimes$State;)V"⟩ ∈ AL := AL_t (tb_2 (List.mem_of_getElem? (i := 7) (by decide +kernel))) rfl
theorem aw_248 : Cond.instanceMethod ⟨"SceneTimes$State", "<init>", "(IIZLSceneTimes$State;)V"⟩ ∈ AL := AL_t (tb_2 (List.mem_of_getElem? (i := 8) (by decide +kernel))) rfl
theorem aw_249 : Cond.code ⟨"SceneTimes$State", "<init>", "(IIZLSceneTimes$State;)V"⟩ prog_6_method_1_code 5 none ∈ AL := AL_t (tb_2 (List.mem_of_getElem? (i := 9) (rfl))) rfl
theorem aw_250 : Cond.methodLink "SceneTimes$State" 1 ⟨"java/lang/Object", "<init>", "()V"⟩ ∈ AL := AL_t (tb_2 (List.mem_of_getElem? (i := 10) (by decide +kernel))) rfl
theorem aw_251 : Cond.fieldLink "SceneTimes$State" 7 "SceneTimes$State" "from" "I" ∈ AL := AL_t (tb_2 (List.mem_of_getElem? (i := 11) (by decide +kernel))) rfl
theorem aw_252 : Cond.fieldLink "SceneTimes$Note" 59 "SceneTimes$State" "from" "I" ∈ AL := AL_t (tb_2 (List.mem_of_getElem? (i := 12) (by decide +kernel))) rfl
theorem aw_253 : Cond.fieldLink "SceneTimes$Line" 48 "SceneTimes$State" "from" "I" ∈ AL := AL_t (tb_2 (List.mem_of_getElem? (i := 13) (by decide +kernel))) rfl
theorem aw_254 : Cond.fieldLink "SceneTimes" 142 "SceneTimes$State" "from" "I" ∈ AL := AL_t (tb_2 (List.mem_of_getElem? (i := 14) (by decide +kernel))) rfl
theorem aw_255 : Cond.fieldLink "SceneTimes$State" 13 "SceneTimes$State" "value" "I" ∈ AL := AL_t (tb_2 (List.mem_of_getElem? (i := 15) (by decide +kernel))) rfl
theorem aw_256 : Cond.fieldLink "SceneTimes$Sheet" 45 "SceneTimes$State" "value" "I" ∈ AL := AL_t (tb_2 (List.mem_of_getElem? (i := 16) (by decide +kernel))) rfl
theorem aw_257 : Cond.fieldLink "SceneTimes$Note" 56 "SceneTimes$State" "value" "I" ∈ AL := AL_t (tb_2 (List.mem_of_getElem? (i := 17) (by decide +kernel))) rfl
theorem aw_258 : Cond.fieldLink "SceneTimes" 167 "SceneTimes$State" "value" "I" ∈ AL := AL_t (tb_2 (List.mem_of_getElem? (i := 18) (by decide +kernel))) rfl
theorem aw_259 : Cond.fieldLink "SceneTimes$State" 16 "SceneTimes$State" "struck" "Z" ∈ AL := AL_t (tb_2 (List.mem_of_getElem? (i := 19) (by decide +kernel))) rfl
theorem aw_260 : Cond.fieldLink "SceneTimes$Note" 46 "SceneTimes$State" "struck" "Z" ∈ AL := AL_t (tb_2 (List.mem_of_getElem? (i := 20) (by decide +kernel))) rfl
theorem aw_261 : Cond.fieldLink "SceneTimes$Sheet" 56 "SceneTimes$State" "struck" "Z" ∈ AL := AL_t (tb_2 (List.mem_of_getElem? (i := 21) (by decide +kernel))) rfl
theorem aw_262 : Cond.fieldLink "SceneTimes" 97 "SceneTimes$State" "struck" "Z" ∈ AL := AL_t (tb_2 (List.mem_of_getElem? (i := 22) (by decide +kernel))) rfl
theorem aw_263 : Cond.fieldLink "SceneTimes$Line" 39 "SceneTimes$State" "struck" "Z" ∈ AL := AL_t (tb_2 (List.mem_of_getElem? (i := 23) (by decide +kernel))) rfl
theorem aw_264 : Cond.fieldLink "SceneTimes$State" 20 "SceneTimes$State" "earlier" "LSceneTimes$State;" ∈ AL := AL_t (tb_2 (List.mem_of_getElem? (i := 24) (by decide +kernel))) rfl
theorem aw_265 : Cond.fieldLink "SceneTimes$Note" 62 "SceneTimes$State" "earlier" "LSceneTimes$State;" ∈ AL := AL_t (tb_2 (List.mem_of_getElem? (i := 25) (by decide +kernel))) rfl
theorem aw_266 : Cond.laysFinal "SceneTimes$State" "SceneTimes$State" "from" "I" ∈ AL := AL_t (tb_2 (List.mem_of_getElem? (i := 26) (by decide +kernel))) rfl
theorem aw_267 : Cond.soleField "SceneTimes$State" "from" ∈ AL := AL_t (tb_2 (List.mem_of_getElem? (i := 27) (by decide +kernel))) rfl
theorem aw_268 : Cond.laysFinal "SceneTimes$State" "SceneTimes$State" "value" "I" ∈ AL := AL_t (tb_2 (List.mem_of_getElem? (i := 28) (by decide +kernel))) rfl
theorem aw_269 : Cond.soleField "SceneTimes$State" "value" ∈ AL := AL_t (tb_2 (List.mem_of_getElem? (i := 29) (by decide +kernel))) rfl
theorem aw_270 : Cond.laysFinal "SceneTimes$State" "SceneTimes$State" "struck" "Z" ∈ AL := AL_t (tb_2 (List.mem_of_getElem? (i := 30) (by decide +kernel))) rfl
theorem aw_271 : Cond.soleField "SceneTimes$State" "struck" ∈ AL := AL_t (tb_2 (List.mem_of_getElem? (i := 31) (by decide +kernel))) rfl
theorem aw_272 : Cond.laysFinal "SceneTimes$State" "SceneTimes$State" "earlier" "LSceneTimes$State;" ∈ AL := AL_t (tb_2 (List.mem_of_getElem? (i := 32) (by decide +kernel))) rfl
theorem aw_273 : Cond.soleField "SceneTimes$State" "earlier" ∈ AL := AL_t (tb_2 (List.mem_of_getElem? (i := 33) (by decide +kernel))) rfl
theorem aw_274 : Cond.superclass "SceneTimes$State" "java/lang/Object" ∈ AL := AL_t (tb_2 (List.mem_of_getElem? (i := 34) (by decide +kernel))) rfl
theorem aw_275 : Cond.methodLink "SceneTimes$Note" 39 ⟨"SceneTimes$Note", "mix", "(II)I"⟩ ∈ AL := AL_t (tb_2 (List.mem_of_getElem? (i := 35) (by decide +kernel))) rfl
theorem aw_276 : Cond.static ⟨"SceneTimes$Note", "mix", "(II)I"⟩ ∈ AL := AL_t (tb_2 (List.mem_of_getElem? (i := 36) (by decide +kernel))) rfl
theorem aw_277 : Cond.code ⟨"SceneTimes$Note", "mix", "(II)I"⟩ prog_3_method_2_code 3 (some .int) ∈ AL := AL_t (tb_2 (List.mem_of_getElem? (i := 37) (rfl))) rfl
theorem aw_278 : Cond.fieldLink "SceneTimes$Note" 9 "SceneTimes$Note" "number" "I" ∈ AL := AL_t (tb_2 (List.mem_of_getElem? (i := 38) (by decide +kernel))) rfl
theorem aw_279 : Cond.fieldLink "SceneTimes" 84 "SceneTimes$Note" "number" "I" ∈ AL := AL_t (tb_2 (List.mem_of_getElem? (i := 39) (by decide +kernel))) rfl
theorem aw_280 : Cond.fieldLink "SceneTimes$Note" 15 "SceneTimes$Note" "writer" "I" ∈ AL := AL_t (tb_2 (List.mem_of_getElem? (i := 40) (by decide +kernel))) rfl
theorem aw_281 : Cond.fieldLink "SceneTimes$Sheet" 36 "SceneTimes$Note" "writer" "I" ∈ AL := AL_t (tb_2 (List.mem_of_getElem? (i := 41) (by decide +kernel))) rfl
theorem aw_282 : Cond.fieldLink "SceneTimes" 174 "SceneTimes$Note" "writer" "I" ∈ AL := AL_t (tb_2 (List.mem_of_getElem? (i := 42) (by decide +kernel))) rfl
theorem aw_283 : Cond.fieldLink "SceneTimes$Note" 18 "SceneTimes$Note" "kind" "I" ∈ AL := AL_t (tb_2 (List.mem_of_getElem? (i := 43) (by decide +kernel))) rfl
theorem aw_284 : Cond.fieldLink "SceneTimes$Sheet" 39 "SceneTimes$Note" "kind" "I" ∈ AL := AL_t (tb_2 (List.mem_of_getElem? (i := 44) (by decide +kernel))) rfl
theorem aw_285 : Cond.fieldLink "SceneTimes$Note" 21 "SceneTimes$Note" "sector" "I" ∈ AL := AL_t (tb_2 (List.mem_of_getElem? (i := 45) (by decide +kernel))) rfl
theorem aw_286 : Cond.fieldLink "SceneTimes$Sheet" 42 "SceneTimes$Note" "sector" "I" ∈ AL := AL_t (tb_2 (List.mem_of_getElem? (i := 46) (by decide +kernel))) rfl
theorem aw_287 : Cond.fieldLink "SceneTimes$Note" 24 "SceneTimes$Note" "second" "I" ∈ AL := AL_t (tb_2 (List.mem_of_getElem? (i := 47) (by decide +kernel))) rfl
theorem aw_288 : Cond.fieldLink "SceneTimes$Sheet" 27 "SceneTimes$Note" "second" "I" ∈ AL := AL_t (tb_2 (List.mem_of_getElem? (i := 48) (by decide +kernel))) rfl
theorem aw_289 : Cond.fieldLink "SceneTimes$Line" 28 "SceneTimes$Note" "second" "I" ∈ AL := AL_t (tb_2 (List.mem_of_getElem? (i := 49) (by decide +kernel))) rfl
theorem aw_290 : Cond.fieldLink "SceneTimes" 159 "SceneTimes$Note" "second" "I" ∈ AL := AL_t (tb_2 (List.mem_of_getElem? (i := 50) (by decide +kernel))) rfl
theorem aw_291 : Cond.fieldLink "SceneTimes$Note" 32 "SceneTimes$Note" "first" "LSceneTimes$State;" ∈ AL := AL_t (tb_2 (List.mem_of_getElem? (i := 51) (by decide +kernel))) rfl
theorem aw_292 : Cond.fieldLink "SceneTimes$Line" 45 "SceneTimes$Note" "first" "LSceneTimes$State;" ∈ AL := AL_t (tb_2 (List.mem_of_getElem? (i := 52) (by decide +kernel))) rfl
theorem aw_293 : Cond.fieldLink "SceneTimes" 139 "SceneTimes$Note" "first" "LSceneTimes$State;" ∈ AL := AL_t (tb_2 (List.mem_of_getElem? (i := 53) (by decide +kernel))) rfl
theorem aw_294 : Cond.fieldLink "SceneTimes$Note" 36 "SceneTimes$Note" "latest" "LSceneTimes$State;" ∈ AL := AL_t (tb_2 (List.mem_of_getElem? (i := 54) (by decide +kernel))) rfl
theorem aw_295 : Cond.fieldLink "SceneTimes" 93 "SceneTimes$Note" "latest" "LSceneTimes$State;" ∈ AL := AL_t (tb_2 (List.mem_of_getElem? (i := 55) (by decide +kernel))) rfl
theorem aw_296 : Cond.fieldLink "SceneTimes$Line" 35 "SceneTimes$Note" "latest" "LSceneTimes$State;" ∈ AL := AL_t (tb_2 (List.mem_of_getElem? (i := 56) (by decide +kernel))) rfl
theorem aw_297 : Cond.fieldLink "SceneTimes$Note" 53 "SceneTimes$Note" "acts" "I" ∈ AL := AL_t (tb_2 (List.mem_of_getElem? (i := 57) (by decide +kernel))) rfl
theorem aw_298 : Cond.fieldLink "SceneTimes" 202 "SceneTimes$Note" "acts" "I" ∈ AL := AL_t (tb_2 (List.mem_of_getElem? (i := 58) (by decide +kernel))) rfl
theorem aw_299 : Cond.fieldLink "SceneTimes$Note" 50 "SceneTimes$Note" "corrections" "I" ∈ AL := AL_t (tb_2 (List.mem_of_getElem? (i := 59) (by decide +kernel))) rfl
theorem aw_300 : Cond.fieldLink "SceneTimes" 118 "SceneTimes$Note" "corrections" "I" ∈ AL := AL_t (tb_2 (List.mem_of_getElem? (i := 60) (by decide +kernel))) rfl
theorem aw_301 : Cond.fieldLink "SceneTimes$Note" 43 "SceneTimes$Note" "mixed" "I" ∈ AL := AL_t (tb_2 (List.mem_of_getElem? (i := 61) (by decide +kernel))) rfl
theorem aw_302 : Cond.fieldLink "SceneTimes" 199 "SceneTimes$Note" "mixed" "I" ∈ AL := AL_t (tb_2 (List.mem_of_getElem? (i := 62) (by decide +kernel))) rfl
theorem aw_303 : Cond.laysFinal "SceneTimes$Note" "SceneTimes$Note" "number" "I" ∈ AL := AL_t (tb_2 (List.mem_of_getElem? (i := 63) (by decide +kernel))) rfl
theorem aw_304 : Cond.soleField "SceneTimes$Note" "number" ∈ AL := AL_t (tb_2 (List.mem_of_getElem? (i := 64) (by decide +kernel))) rfl
theorem aw_305 : Cond.laysFinal "SceneTimes$Note" "SceneTimes$Note" "writer" "I" ∈ AL := AL_t (tb_2 (List.mem_of_getElem? (i := 65) (by decide +kernel))) rfl
theorem aw_306 : Cond.soleField "SceneTimes$Note" "writer" ∈ AL := AL_t (tb_2 (List.mem_of_getElem? (i := 66) (by decide +kernel))) rfl
theorem aw_307 : Cond.laysFinal "SceneTimes$Note" "SceneTimes$Note" "kind" "I" ∈ AL := AL_t (tb_2 (List.mem_of_getElem? (i := 67) (by decide +kernel))) rfl
theorem aw_308 : Cond.soleField "SceneTimes$Note" "kind" ∈ AL := AL_t (tb_2 (List.mem_of_getElem? (i := 68) (by decide +kernel))) rfl
theorem aw_309 : Cond.laysFinal "SceneTimes$Note" "SceneTimes$Note" "sector" "I" ∈ AL := AL_t (tb_2 (List.mem_of_getElem? (i := 69) (by decide +kernel))) rfl
theorem aw_310 : Cond.soleField "SceneTimes$Note" "sector" ∈ AL := AL_t (tb_2 (List.mem_of_getElem? (i := 70) (by decide +kernel))) rfl
theorem aw_311 : Cond.laysFinal "SceneTimes$Note" "SceneTimes$Note" "second" "I" ∈ AL := AL_t (tb_2 (List.mem_of_getElem? (i := 71) (by decide +kernel))) rfl
theorem aw_312 : Cond.soleField "SceneTimes$Note" "second" ∈ AL := AL_t (tb_2 (List.mem_of_getElem? (i := 72) (by decide +kernel))) rfl
theorem aw_313 : Cond.laysFinal "SceneTimes$Note" "SceneTimes$Note" "first" "LSceneTimes$State;" ∈ AL := AL_t (tb_2 (List.mem_of_getElem? (i := 73) (by decide +kernel))) rfl
theorem aw_314 : Cond.soleField "SceneTimes$Note" "first" ∈ AL := AL_t (tb_2 (List.mem_of_getElem? (i := 74) (by decide +kernel))) rfl
theorem aw_315 : Cond.lays "SceneTimes$Note" "SceneTimes$Note" "latest" "LSceneTimes$State;" ∈ AL := AL_t (tb_2 (List.mem_of_getElem? (i := 75) (by decide +kernel))) rfl
theorem aw_316 : Cond.soleField "SceneTimes$Note" "latest" ∈ AL := AL_t (tb_2 (List.mem_of_getElem? (i := 76) (by decide +kernel))) rfl
theorem aw_317 : Cond.lays "SceneTimes$Note" "SceneTimes$Note" "acts" "I" ∈ AL := AL_t (tb_2 (List.mem_of_getElem? (i := 77) (by decide +kernel))) rfl
theorem aw_318 : Cond.soleField "SceneTimes$Note" "acts" ∈ AL := AL_t (tb_2 (List.mem_of_getElem? (i := 78) (by decide +kernel))) rfl
theorem aw_319 : Cond.lays "SceneTimes$Note" "SceneTimes$Note" "corrections" "I" ∈ AL := AL_t (tb_2 (List.mem_of_getElem? (i := 79) (by decide +kernel))) rfl
theorem aw_320 : Cond.soleField "SceneTimes$Note" "corrections" ∈ AL := AL_t (tb_2 (List.mem_of_getElem? (i := 80) (by decide +kernel))) rfl
theorem aw_321 : Cond.lays "SceneTimes$Note" "SceneTimes$Note" "mixed" "I" ∈ AL := AL_t (tb_2 (List.mem_of_getElem? (i := 81) (by decide +kernel))) rfl
theorem aw_322 : Cond.soleField "SceneTimes$Note" "mixed" ∈ AL := AL_t (tb_2 (List.mem_of_getElem? (i := 82) (by decide +kernel))) rfl
theorem aw_323 : Cond.superclass "SceneTimes$Note" "java/lang/Object" ∈ AL := AL_t (tb_2 (List.mem_of_getElem? (i := 83) (by decide +kernel))) rfl
theorem aw_324 : Cond.methodLink "SceneTimes" 80 ⟨"SceneTimes$Line", "take", "(LSceneTimes$Note;)V"⟩ ∈ AL := AL_t (tb_2 (List.mem_of_getElem? (i := 84) (by decide +kernel))) rfl
theorem aw_325 : Cond.instanceMethod ⟨"SceneTimes$Line", "take", "(LSceneTimes$Note;)V"⟩ ∈ AL := AL_t (tb_2 (List.mem_of_getElem? (i := 85) (by decide +kernel))) rfl
theorem aw_326 : Cond.selects "SceneTimes$Line" ⟨"SceneTimes$Line", "take", "(LSceneTimes$Note;)V"⟩ ⟨"SceneTimes$Line", "take", "(LSceneTimes$Note;)V"⟩ ∈ AL := AL_t (tb_2 (List.mem_of_getElem? (i := 86) (by decide +kernel))) rfl
theorem aw_327 : Cond.code ⟨"SceneTimes$Line", "take", "(LSceneTimes$Note;)V"⟩ prog_2_method_2_code 3 none ∈ AL := AL_t (tb_2 (List.mem_of_getElem? (i := 87) (rfl))) rfl
theorem aw_328 : Cond.methodLink "SceneTimes$Line" 24 ⟨"SceneTimes$Note", "standsBehind", "(LSceneTimes$Note;)Z"⟩ ∈ AL := AL_t (tb_2 (List.mem_of_getElem? (i := 88) (by decide +kernel))) rfl
theorem aw_329 : Cond.instanceMethod ⟨"SceneTimes$Note", "standsBehind", "(LSceneTimes$Note;)Z"⟩ ∈ AL := AL_t (tb_2 (List.mem_of_getElem? (i := 89) (by decide +kernel))) rfl
theorem aw_330 : Cond.selects "SceneTimes$Note" ⟨"SceneTimes$Note", "standsBehind", "(LSceneTimes$Note;)Z"⟩ ⟨"SceneTimes$Note", "standsBehind", "(LSceneTimes$Note;)Z"⟩ ∈ AL := AL_t (tb_2 (List.mem_of_getElem? (i := 90) (by decide +kernel))) rfl
theorem aw_331 : Cond.code ⟨"SceneTimes$Note", "standsBehind", "(LSceneTimes$Note;)Z"⟩ prog_3_method_9_code 2 (some .boolean) ∈ AL := AL_t (tb_2 (List.mem_of_getElem? (i := 91) (rfl))) rfl
theorem aw_332 : Cond.methodLink "SceneTimesLaw" 81 ⟨"SceneTimesLaw", "correct", "(LSceneTimes;II[J)I"⟩ ∈ AL := AL_t (tb_2 (List.mem_of_getElem? (i := 92) (by decide +kernel))) rfl
theorem aw_333 : Cond.static ⟨"SceneTimesLaw", "correct", "(LSceneTimes;II[J)I"⟩ ∈ AL := AL_t (tb_2 (List.mem_of_getElem? (i := 93) (by decide +kernel))) rfl
theorem aw_334 : Cond.codeWith ⟨"SceneTimesLaw", "correct", "(LSceneTimes;II[J)I"⟩ method_5_code 5 (some .int) [(0, 10, 13, 19), (0, 10, 17, 21), (0, 10, 21, 27), (0, 10, 25, 13)] ∈ AL := AL_t (tb_2 (List.mem_of_getElem? (i := 94) (rfl))) rfl
theorem aw_335 : Cond.classLink "SceneTimesLaw" 27 "java/lang/IllegalStateException" ∈ AL := AL_t (tb_2 (List.mem_of_getElem? (i := 95) (by decide +kernel))) rfl
theorem aw_336 : Cond.methodLink "SceneTimesLaw" 23 ⟨"SceneTimes", "correct", "(II)I"⟩ ∈ AL := AL_t (tb_2 (List.mem_of_getElem? (i := 96) (by decide +kernel))) rfl
theorem aw_337 : Cond.instanceMethod ⟨"SceneTimes", "correct", "(II)I"⟩ ∈ AL := AL_t (tb_2 (List.mem_of_getElem? (i := 97) (by decide +kernel))) rfl
theorem aw_338 : Cond.selects "SceneTimes" ⟨"SceneTimes", "correct", "(II)I"⟩ ⟨"SceneTimes", "correct", "(II)I"⟩ ∈ AL := AL_t (tb_2 (List.mem_of_getElem? (i := 98) (by decide +kernel))) rfl
theorem aw_339 : Cond.code ⟨"SceneTimes", "correct", "(II)I"⟩ prog_1_method_4_code 4 (some .int) ∈ AL := AL_t (tb_2 (List.mem_of_getElem? (i := 99) (rfl))) rfl
theorem aw_340 : Cond.methodLink "SceneTimes" 87 ⟨"SceneTimes", "noteOf", "(I)LSceneTimes$Note;"⟩ ∈ AL := AL_t (tb_2 (List.mem_of_getElem? (i := 100) (by decide +kernel))) rfl
theorem aw_342 : Cond.instanceMethod ⟨"SceneTimes", "noteOf", "(I)LSceneTimes$Note;"⟩ ∈ AL := AL_t (tb_2 (List.mem_of_getElem? (i := 102) (by decide +kernel))) rfl
theorem aw_343 : Cond.code ⟨"SceneTimes", "noteOf", "(I)LSceneTimes$Note;"⟩ prog_1_method_21_code 2 (some (.object "SceneTimes$Note")) ∈ AL := AL_t (tb_2 (List.mem_of_getElem? (i := 103) (rfl))) rfl
theorem aw_346 : Cond.classLink "SceneTimes" 103 "java/lang/IllegalStateException" ∈ AL := AL_t (tb_2 (List.mem_of_getElem? (i := 106) (by decide +kernel))) rfl
theorem aw_347 : Cond.instantiable "java/lang/IllegalStateException" 6 ∈ AL := AL_t (tb_2 (List.mem_of_getElem? (i := 107) (by decide +kernel))) rfl
theorem aw_349 : Cond.selects "java/lang/IllegalStateException" ⟨"java/lang/Throwable", "fillInStackTrace", "(I)Ljava/lang/Throwable;"⟩ ⟨"java/lang/Throwable", "fillInStackTrace", "(I)Ljava/lang/Throwable;"⟩ ∈ AL := AL_t (tb_2 (List.mem_of_getElem? (i := 109) (by decide +kernel))) rfl
theorem aw_350 : Cond.lays "java/lang/IllegalStateException" "java/lang/Throwable" "cause" "Ljava/lang/Throwable;" ∈ AL := AL_t (tb_2 (List.mem_of_getElem? (i := 110) (by decide +kernel))) rfl
theorem aw_351 : Cond.lays "java/lang/IllegalStateException" "java/lang/Throwable" "stackTrace" "[Ljava/lang/StackTraceElement;" ∈ AL := AL_t (tb_2 (List.mem_of_getElem? (i := 111) (by decide +kernel))) rfl
theorem aw_352 : Cond.lays "java/lang/IllegalStateException" "java/lang/Throwable" "suppressedExceptions" "Ljava/util/List;" ∈ AL := AL_t (tb_2 (List.mem_of_getElem? (i := 112) (by decide +kernel))) rfl
theorem aw_353 : Cond.lays "java/lang/IllegalStateException" "java/lang/Throwable" "detailMessage" "Ljava/lang/String;" ∈ AL := AL_t (tb_2 (List.mem_of_getElem? (i := 113) (by decide +kernel))) rfl
theorem aw_354 : Cond.lays "java/lang/IllegalStateException" "java/lang/Throwable" "backtrace" "Ljava/lang/Object;" ∈ AL := AL_t (tb_2 (List.mem_of_getElem? (i := 114) (by decide +kernel))) rfl
theorem aw_356 : Cond.methodLink "SceneTimes" 107 ⟨"java/lang/IllegalStateException", "<init>", "(Ljava/lang/String;)V"⟩ ∈ AL := AL_t (tb_2 (List.mem_of_getElem? (i := 116) (by decide +kernel))) rfl
theorem aw_357 : Cond.instanceMethod ⟨"java/lang/IllegalStateException", "<init>", "(Ljava/lang/String;)V"⟩ ∈ AL := AL_t (tb_2 (List.mem_of_getElem? (i := 117) (by decide +kernel))) rfl
theorem aw_358 : Cond.code ⟨"java/lang/IllegalStateException", "<init>", "(Ljava/lang/String;)V"⟩ prog_11_method_2_code 2 none ∈ AL := AL_t (tb_2 (List.mem_of_getElem? (i := 118) (rfl))) rfl
theorem aw_359 : Cond.methodLink "java/lang/IllegalStateException" 7 ⟨"java/lang/RuntimeException", "<init>", "(Ljava/lang/String;)V"⟩ ∈ AL := AL_t (tb_2 (List.mem_of_getElem? (i := 119) (by decide +kernel))) rfl
theorem aw_360 : Cond.lays "java/lang/IllegalStateException" "java/lang/Throwable" "depth" "I" ∈ AL := AL_t (tb_2 (List.mem_of_getElem? (i := 120) (by decide +kernel))) rfl
theorem aw_361 : Cond.superclass "java/lang/IllegalStateException" "java/lang/RuntimeException" ∈ AL := AL_t (tb_2 (List.mem_of_getElem? (i := 121) (by decide +kernel))) rfl
theorem aw_362 : Cond.methodLink "SceneTimes" 108 ⟨"SceneTimes", "refuseActWithoutRoom", "()V"⟩ ∈ AL := AL_t (tb_2 (List.mem_of_getElem? (i := 122) (by decide +kernel))) rfl
theorem aw_364 : Cond.instanceMethod ⟨"SceneTimes", "refuseActWithoutRoom", "()V"⟩ ∈ AL := AL_t (tb_2 (List.mem_of_getElem? (i := 124) (by decide +kernel))) rfl
theorem aw_365 : Cond.code ⟨"SceneTimes", "refuseActWithoutRoom", "()V"⟩ prog_1_method_22_code 1 none ∈ AL := AL_t (tb_2 (List.mem_of_getElem? (i := 125) (rfl))) rfl
theorem aw_367 : Cond.methodLink "SceneTimes" 111 ⟨"SceneTimes$Note", "takeValue", "(II)V"⟩ ∈ AL := AL_t (tb_2 (List.mem_of_getElem? (i := 127) (by decide +kernel))) rfl
theorem aw_368 : Cond.instanceMethod ⟨"SceneTimes$Note", "takeValue", "(II)V"⟩ ∈ AL := AL_t (tb_2 (List.mem_of_getElem? (i := 128) (by decide +kernel))) rfl
theorem aw_369 : Cond.selects "SceneTimes$Note" ⟨"SceneTimes$Note", "takeValue", "(II)V"⟩ ⟨"SceneTimes$Note", "takeValue", "(II)V"⟩ ∈ AL := AL_t (tb_2 (List.mem_of_getElem? (i := 129) (by decide +kernel))) rfl
theorem aw_370 : Cond.code ⟨"SceneTimes$Note", "takeValue", "(II)V"⟩ prog_3_method_3_code 3 none ∈ AL := AL_t (tb_2 (List.mem_of_getElem? (i := 130) (rfl))) rfl
theorem aw_371 : Cond.methodLink "SceneTimesLaw" 85 ⟨"SceneTimesLaw", "strike", "(LSceneTimes;IZ)I"⟩ ∈ AL := AL_t (tb_2 (List.mem_of_getElem? (i := 131) (by decide +kernel))) rfl
theorem aw_372 : Cond.static ⟨"SceneTimesLaw", "strike", "(LSceneTimes;IZ)I"⟩ ∈ AL := AL_t (tb_2 (List.mem_of_getElem? (i := 132) (by decide +kernel))) rfl
theorem aw_373 : Cond.codeWith ⟨"SceneTimesLaw", "strike", "(LSceneTimes;IZ)I"⟩ method_6_code 4 (some .int) [(0, 6, 9, 19), (0, 6, 12, 27), (0, 6, 15, 13)] ∈ AL := AL_t (tb_2 (List.mem_of_getElem? (i := 133) (rfl))) rfl
theorem aw_374 : Cond.methodLink "SceneTimesLaw" 29 ⟨"SceneTimes", "strike", "(IZ)V"⟩ ∈ AL := AL_t (tb_2 (List.mem_of_getElem? (i := 134) (by decide +kernel))) rfl
theorem aw_375 : Cond.instanceMethod ⟨"SceneTimes", "strike", "(IZ)V"⟩ ∈ AL := AL_t (tb_2 (List.mem_of_getElem? (i := 135) (by decide +kernel))) rfl
theorem aw_376 : Cond.selects "SceneTimes" ⟨"SceneTimes", "strike", "(IZ)V"⟩ ⟨"SceneTimes", "strike", "(IZ)V"⟩ ∈ AL := AL_t (tb_2 (List.mem_of_getElem? (i := 136) (by decide +kernel))) rfl
theorem aw_377 : Cond.code ⟨"SceneTimes", "strike", "(IZ)V"⟩ prog_1_method_5_code 4 none ∈ AL := AL_t (tb_2 (List.mem_of_getElem? (i := 137) (rfl))) rfl
theorem aw_379 : Cond.methodLink "SceneTimes" 123 ⟨"SceneTimes$Note", "takeStrike", "(IZ)V"⟩ ∈ AL := AL_t (tb_2 (List.mem_of_getElem? (i := 139) (by decide +kernel))) rfl
theorem aw_380 : Cond.instanceMethod ⟨"SceneTimes$Note", "takeStrike", "(IZ)V"⟩ ∈ AL := AL_t (tb_2 (List.mem_of_getElem? (i := 140) (by decide +kernel))) rfl
theorem aw_381 : Cond.selects "SceneTimes$Note" ⟨"SceneTimes$Note", "takeStrike", "(IZ)V"⟩ ⟨"SceneTimes$Note", "takeStrike", "(IZ)V"⟩ ∈ AL := AL_t (tb_2 (List.mem_of_getElem? (i := 141) (by decide +kernel))) rfl
theorem aw_382 : Cond.code ⟨"SceneTimes$Note", "takeStrike", "(IZ)V"⟩ prog_3_method_4_code 3 none ∈ AL := AL_t (tb_2 (List.mem_of_getElem? (i := 142) (rfl))) rfl
theorem aw_383 : Cond.methodLink "SceneTimesLaw" 89 ⟨"SceneTimesLaw", "ask", "(LSceneTimes;IIIII[J)I"⟩ ∈ AL := AL_t (tb_2 (List.mem_of_getElem? (i := 143) (by decide +kernel))) rfl
theorem aw_384 : Cond.static ⟨"SceneTimesLaw", "ask", "(LSceneTimes;IIIII[J)I"⟩ ∈ AL := AL_t (tb_2 (List.mem_of_getElem? (i := 144) (by decide +kernel))) rfl
theorem aw_385 : Cond.codeWith ⟨"SceneTimesLaw", "ask", "(LSceneTimes;IIIII[J)I"⟩ method_7_code 8 (some .int) [(0, 16, 19, 19), (0, 16, 23, 21)] ∈ AL := AL_t (tb_2 (List.mem_of_getElem? (i := 145) (rfl))) rfl
theorem aw_386 : Cond.methodLink "SceneTimesLaw" 33 ⟨"SceneTimes", "ask", "(IIIII)I"⟩ ∈ AL := AL_t (tb_2 (List.mem_of_getElem? (i := 146) (by decide +kernel))) rfl
theorem aw_387 : Cond.instanceMethod ⟨"SceneTimes", "ask", "(IIIII)I"⟩ ∈ AL := AL_t (tb_2 (List.mem_of_getElem? (i := 147) (by decide +kernel))) rfl
theorem aw_388 : Cond.selects "SceneTimes" ⟨"SceneTimes", "ask", "(IIIII)I"⟩ ⟨"SceneTimes", "ask", "(IIIII)I"⟩ ∈ AL := AL_t (tb_2 (List.mem_of_getElem? (i := 148) (by decide +kernel))) rfl
theorem aw_389 : Cond.code ⟨"SceneTimes", "ask", "(IIIII)I"⟩ prog_1_method_6_code 8 (some .int) ∈ AL := AL_t (tb_2 (List.mem_of_getElem? (i := 149) (rfl))) rfl
theorem aw_392 : Cond.methodLink "SceneTimes" 131 ⟨"SceneTimes$Question", "begin", "(I)V"⟩ ∈ AL := AL_t (tb_2 (List.mem_of_getElem? (i := 152) (by decide +kernel))) rfl
theorem aw_393 : Cond.instanceMethod ⟨"SceneTimes$Question", "begin", "(I)V"⟩ ∈ AL := AL_t (tb_2 (List.mem_of_getElem? (i := 153) (by decide +kernel))) rfl
theorem aw_394 : Cond.selects "SceneTimes$Question" ⟨"SceneTimes$Question", "begin", "(I)V"⟩ ⟨"SceneTimes$Question", "begin", "(I)V"⟩ ∈ AL := AL_t (tb_2 (List.mem_of_getElem? (i := 154) (by decide +kernel))) rfl
theorem aw_395 : Cond.code ⟨"SceneTimes$Question", "begin", "(I)V"⟩ prog_4_method_2_code 2 none ∈ AL := AL_t (tb_2 (List.mem_of_getElem? (i := 155) (rfl))) rfl
theorem aw_396 : Cond.methodLink "SceneTimes" 145 ⟨"SceneTimes$Note", "isWithin", "(II)Z"⟩ ∈ AL := AL_t (tb_2 (List.mem_of_getElem? (i := 156) (by decide +kernel))) rfl
theorem aw_397 : Cond.instanceMethod ⟨"SceneTimes$Note", "isWithin", "(II)Z"⟩ ∈ AL := AL_t (tb_2 (List.mem_of_getElem? (i := 157) (by decide +kernel))) rfl
theorem aw_398 : Cond.selects "SceneTimes$Note" ⟨"SceneTimes$Note", "isWithin", "(II)Z"⟩ ⟨"SceneTimes$Note", "isWithin", "(II)Z"⟩ ∈ AL := AL_t (tb_2 (List.mem_of_getElem? (i := 158) (by decide +kernel))) rfl
theorem aw_399 : Cond.code ⟨"SceneTimes$Note", "isWithin", "(II)Z"⟩ prog_3_method_6_code 3 (some .boolean) ∈ AL := AL_t (tb_2 (List.mem_of_getElem? (i := 159) (rfl))) rfl
theorem aw_400 : Cond.methodLink "SceneTimes" 149 ⟨"SceneTimes$Note", "isOf", "(II)Z"⟩ ∈ AL := AL_t (tb_2 (List.mem_of_getElem? (i := 160) (by decide +kernel))) rfl
theorem aw_401 : Cond.instanceMethod ⟨"SceneTimes$Note", "isOf", "(II)Z"⟩ ∈ AL := AL_t (tb_2 (List.mem_of_getElem? (i := 161) (by decide +kernel))) rfl
theorem aw_402 : Cond.selects "SceneTimes$Note" ⟨"SceneTimes$Note", "isOf", "(II)Z"⟩ ⟨"SceneTimes$Note", "isOf", "(II)Z"⟩ ∈ AL := AL_t (tb_2 (List.mem_of_getElem? (i := 162) (by decide +kernel))) rfl
theorem aw_403 : Cond.code ⟨"SceneTimes$Note", "isOf", "(II)Z"⟩ prog_3_method_7_code 3 (some .boolean) ∈ AL := AL_t (tb_2 (List.mem_of_getElem? (i := 163) (rfl))) rfl
theorem aw_404 : Cond.methodLink "SceneTimes" 152 ⟨"SceneTimes$Question", "take", "(LSceneTimes$Note;)V"⟩ ∈ AL := AL_t (tb_2 (List.mem_of_getElem? (i := 164) (by decide +kernel))) rfl
theorem aw_405 : Cond.instanceMethod ⟨"SceneTimes$Question", "take", "(LSceneTimes$Note;)V"⟩ ∈ AL := AL_t (tb_2 (List.mem_of_getElem? (i := 165) (by decide +kernel))) rfl
theorem aw_406 : Cond.selects "SceneTimes$Question" ⟨"SceneTimes$Question", "take", "(LSceneTimes$Note;)V"⟩ ⟨"SceneTimes$Question", "take", "(LSceneTimes$Note;)V"⟩ ∈ AL := AL_t (tb_2 (List.mem_of_getElem? (i := 166) (by decide +kernel))) rfl
theorem aw_407 : Cond.code ⟨"SceneTimes$Question", "take", "(LSceneTimes$Note;)V"⟩ prog_4_method_3_code 2 none ∈ AL := AL_t (tb_2 (List.mem_of_getElem? (i := 167) (rfl))) rfl
theorem aw_408 : Cond.methodLink "SceneTimesLaw" 92 ⟨"SceneTimesLaw", "row", "(LSceneTimes;II[J)I"⟩ ∈ AL := AL_t (tb_2 (List.mem_of_getElem? (i := 168) (by decide +kernel))) rfl
theorem aw_409 : Cond.static ⟨"SceneTimesLaw", "row", "(LSceneTimes;II[J)I"⟩ ∈ AL := AL_t (tb_2 (List.mem_of_getElem? (i := 169) (by decide +kernel))) rfl
theorem aw_410 : Cond.codeWith ⟨"SceneTimesLaw", "row", "(LSceneTimes;II[J)I"⟩ method_8_code 5 (some .int) [(0, 10, 13, 19)] ∈ AL := AL_t (tb_2 (List.mem_of_getElem? (i := 170) (rfl))) rfl
theorem aw_411 : Cond.methodLink "SceneTimesLaw" 36 ⟨"SceneTimes", "row", "(II)I"⟩ ∈ AL := AL_t (tb_2 (List.mem_of_getElem? (i := 171) (by decide +kernel))) rfl
theorem aw_412 : Cond.instanceMethod ⟨"SceneTimes", "row", "(II)I"⟩ ∈ AL := AL_t (tb_2 (List.mem_of_getElem? (i := 172) (by decide +kernel))) rfl
theorem aw_413 : Cond.selects "SceneTimes" ⟨"SceneTimes", "row", "(II)I"⟩ ⟨"SceneTimes", "row", "(II)I"⟩ ∈ AL := AL_t (tb_2 (List.mem_of_getElem? (i := 173) (by decide +kernel))) rfl
theorem aw_414 : Cond.code ⟨"SceneTimes", "row", "(II)I"⟩ prog_1_method_7_code 4 (some .int) ∈ AL := AL_t (tb_2 (List.mem_of_getElem? (i := 174) (rfl))) rfl
theorem aw_416 : Cond.methodLink "SceneTimes" 163 ⟨"SceneTimes$Note", "stateAt", "(I)LSceneTimes$State;"⟩ ∈ AL := AL_t (tb_2 (List.mem_of_getElem? (i := 176) (by decide +kernel))) rfl
theorem aw_417 : Cond.instanceMethod ⟨"SceneTimes$Note", "stateAt", "(I)LSceneTimes$State;"⟩ ∈ AL := AL_t (tb_2 (List.mem_of_getElem? (i := 177) (by decide +kernel))) rfl
theorem aw_418 : Cond.selects "SceneTimes$Note" ⟨"SceneTimes$Note", "stateAt", "(I)LSceneTimes$State;"⟩ ⟨"SceneTimes$Note", "stateAt", "(I)LSceneTimes$State;"⟩ ∈ AL := AL_t (tb_2 (List.mem_of_getElem? (i := 178) (by decide +kernel))) rfl
theorem aw_419 : Cond.code ⟨"SceneTimes$Note", "stateAt", "(I)LSceneTimes$State;"⟩ prog_3_method_5_code 3 (some (.object "SceneTimes$State")) ∈ AL := AL_t (tb_2 (List.mem_of_getElem? (i := 179) (rfl))) rfl
theorem aw_420 : Cond.methodLink "SceneTimes" 170 ⟨"SceneTimes", "oneIf", "(Z)I"⟩ ∈ AL := AL_t (tb_2 (List.mem_of_getElem? (i := 180) (by decide +kernel))) rfl
theorem aw_421 : Cond.static ⟨"SceneTimes", "oneIf", "(Z)I"⟩ ∈ AL := AL_t (tb_2 (List.mem_of_getElem? (i := 181) (by decide +kernel))) rfl
theorem aw_422 : Cond.code ⟨"SceneTimes", "oneIf", "(Z)I"⟩ prog_1_method_23_code 1 (some .int) ∈ AL := AL_t (tb_2 (List.mem_of_getElem? (i := 182) (rfl))) rfl
theorem aw_424 : Cond.methodLink "SceneTimesLaw" 95 ⟨"SceneTimesLaw", "reading", "(LSceneTimes;II[J)I"⟩ ∈ AL := AL_t (tb_2 (List.mem_of_getElem? (i := 184) (by decide +kernel))) rfl
theorem aw_425 : Cond.static ⟨"SceneTimesLaw", "reading", "(LSceneTimes;II[J)I"⟩ ∈ AL := AL_t (tb_2 (List.mem_of_getElem? (i := 185) (by decide +kernel))) rfl
theorem aw_426 : Cond.codeWith ⟨"SceneTimesLaw", "reading", "(LSceneTimes;II[J)I"⟩ method_9_code 5 (some .int) [(0, 10, 13, 19), (0, 10, 17, 21), (0, 10, 21, 27)] ∈ AL := AL_t (tb_2 (List.mem_of_getElem? (i := 186) (rfl))) rfl
theorem aw_427 : Cond.methodLink "SceneTimesLaw" 39 ⟨"SceneTimes", "reading", "(II)I"⟩ ∈ AL := AL_t (tb_2 (List.mem_of_getElem? (i := 187) (by decide +kernel))) rfl
theorem aw_428 : Cond.instanceMethod ⟨"SceneTimes", "reading", "(II)I"⟩ ∈ AL := AL_t (tb_2 (List.mem_of_getElem? (i := 188) (by decide +kernel))) rfl
theorem aw_429 : Cond.selects "SceneTimes" ⟨"SceneTimes", "reading", "(II)I"⟩ ⟨"SceneTimes", "reading", "(II)I"⟩ ∈ AL := AL_t (tb_2 (List.mem_of_getElem? (i := 189) (by decide +kernel))) rfl
theorem aw_430 : Cond.code ⟨"SceneTimes", "reading", "(II)I"⟩ prog_1_method_8_code 5 (some .int) ∈ AL := AL_t (tb_2 (List.mem_of_getElem? (i := 190) (rfl))) rfl
theorem aw_433 : Cond.methodLink "SceneTimes" 183 ⟨"SceneTimes$Line", "lastReadingUpTo", "(II)LSceneTimes$Note;"⟩ ∈ AL := AL_t (tb_2 (List.mem_of_getElem? (i := 193) (by decide +kernel))) rfl
theorem aw_434 : Cond.instanceMethod ⟨"SceneTimes$Line", "lastReadingUpTo", "(II)LSceneTimes$Note;"⟩ ∈ AL := AL_t (tb_2 (List.mem_of_getElem? (i := 194) (by decide +kernel))) rfl
theorem aw_435 : Cond.selects "SceneTimes$Line" ⟨"SceneTimes$Line", "lastReadingUpTo", "(II)LSceneTimes$Note;"⟩ ⟨"SceneTimes$Line", "lastReadingUpTo", "(II)LSceneTimes$Note;"⟩ ∈ AL := AL_t (tb_2 (List.mem_of_getElem? (i := 195) (by decide +kernel))) rfl
theorem aw_436 : Cond.code ⟨"SceneTimes$Line", "lastReadingUpTo", "(II)LSceneTimes$Note;"⟩ prog_2_method_3_code 4 (some (.object "SceneTimes$Note")) ∈ AL := AL_t (tb_2 (List.mem_of_getElem? (i := 196) (rfl))) rfl
theorem aw_437 : Cond.methodLink "SceneTimes$Line" 31 ⟨"SceneTimes$Note", "isReadingOf", "(I)Z"⟩ ∈ AL := AL_t (tb_2 (List.mem_of_getElem? (i := 197) (by decide +kernel))) rfl
theorem aw_438 : Cond.instanceMethod ⟨"SceneTimes$Note", "isReadingOf", "(I)Z"⟩ ∈ AL := AL_t (tb_2 (List.mem_of_getElem? (i := 198) (by decide +kernel))) rfl
theorem aw_439 : Cond.selects "SceneTimes$Note" ⟨"SceneTimes$Note", "isReadingOf", "(I)Z"⟩ ⟨"SceneTimes$Note", "isReadingOf", "(I)Z"⟩ ∈ AL := AL_t (tb_2 (List.mem_of_getElem? (i := 199) (by decide +kernel))) rfl
theorem aw_440 : Cond.code ⟨"SceneTimes$Note", "isReadingOf", "(I)Z"⟩ prog_3_method_8_code 2 (some .boolean) ∈ AL := AL_t (tb_2 (List.mem_of_getElem? (i := 200) (rfl))) rfl
theorem aw_441 : Cond.methodLink "SceneTimes" 187 ⟨"SceneTimes$Line", "firstReadingFrom", "(II)LSceneTimes$Note;"⟩ ∈ AL := AL_t (tb_2 (List.mem_of_getElem? (i := 201) (by decide +kernel))) rfl
theorem aw_442 : Cond.instanceMethod ⟨"SceneTimes$Line", "firstReadingFrom", "(II)LSceneTimes$Note;"⟩ ∈ AL := AL_t (tb_2 (List.mem_of_getElem? (i := 202) (by decide +kernel))) rfl
theorem aw_443 : Cond.selects "SceneTimes$Line" ⟨"SceneTimes$Line", "firstReadingFrom", "(II)LSceneTimes$Note;"⟩ ⟨"SceneTimes$Line", "firstReadingFrom", "(II)LSceneTimes$Note;"⟩ ∈ AL := AL_t (tb_2 (List.mem_of_getElem? (i := 203) (by decide +kernel))) rfl
theorem aw_444 : Cond.code ⟨"SceneTimes$Line", "firstReadingFrom", "(II)LSceneTimes$Note;"⟩ prog_2_method_4_code 4 (some (.object "SceneTimes$Note")) ∈ AL := AL_t (tb_2 (List.mem_of_getElem? (i := 204) (rfl))) rfl
theorem aw_446 : Cond.methodLink "SceneTimes" 192 ⟨"SceneTimes", "valueBetween", "(LSceneTimes$Note;LSceneTimes$Note;I)I"⟩ ∈ AL := AL_t (tb_2 (List.mem_of_getElem? (i := 206) (by decide +kernel))) rfl
theorem aw_447 : Cond.static ⟨"SceneTimes", "valueBetween", "(LSceneTimes$Note;LSceneTimes$Note;I)I"⟩ ∈ AL := AL_t (tb_2 (List.mem_of_getElem? (i := 207) (by decide +kernel))) rfl
theorem aw_448 : Cond.code ⟨"SceneTimes", "valueBetween", "(LSceneTimes$Note;LSceneTimes$Note;I)I"⟩ prog_1_method_24_code 5 (some .int) ∈ AL := AL_t (tb_2 (List.mem_of_getElem? (i := 208) (rfl))) rfl
theorem aw_449 : Cond.methodLink "SceneTimes" 236 ⟨"java/lang/Math", "floorDiv", "(II)I"⟩ ∈ AL := AL_t (tb_2 (List.mem_of_getElem? (i := 209) (by decide +kernel))) rfl
theorem aw_450 : Cond.static ⟨"java/lang/Math", "floorDiv", "(II)I"⟩ ∈ AL := AL_t (tb_2 (List.mem_of_getElem? (i := 210) (by decide +kernel))) rfl
theorem aw_451 : Cond.code ⟨"java/lang/Math", "floorDiv", "(II)I"⟩ prog_13_method_47_code 3 (some .int) ∈ AL := AL_t (tb_2 (List.mem_of_getElem? (i := 211) (rfl))) rfl
theorem aw_452 : Cond.methodLink "SceneTimesLaw" 98 ⟨"SceneTimesLaw", "gap", "(LSceneTimes;II[J)I"⟩ ∈ AL := AL_t (tb_2 (List.mem_of_getElem? (i := 212) (by decide +kernel))) rfl
theorem aw_453 : Cond.static ⟨"SceneTimesLaw", "gap", "(LSceneTimes;II[J)I"⟩ ∈ AL := AL_t (tb_2 (List.mem_of_getElem? (i := 213) (by decide +kernel))) rfl
theorem aw_454 : Cond.codeWith ⟨"SceneTimesLaw", "gap", "(LSceneTimes;II[J)I"⟩ method_10_code 5 (some .int) [(0, 10, 13, 21)] ∈ AL := AL_t (tb_2 (List.mem_of_getElem? (i := 214) (rfl))) rfl
theorem aw_455 : Cond.methodLink "SceneTimesLaw" 42 ⟨"SceneTimes", "gap", "(II)I"⟩ ∈ AL := AL_t (tb_2 (List.mem_of_getElem? (i := 215) (by decide +kernel))) rfl
theorem aw_456 : Cond.instanceMethod ⟨"SceneTimes", "gap", "(II)I"⟩ ∈ AL := AL_t (tb_2 (List.mem_of_getElem? (i := 216) (by decide +kernel))) rfl
theorem aw_457 : Cond.selects "SceneTimes" ⟨"SceneTimes", "gap", "(II)I"⟩ ⟨"SceneTimes", "gap", "(II)I"⟩ ∈ AL := AL_t (tb_2 (List.mem_of_getElem? (i := 217) (by decide +kernel))) rfl
theorem aw_458 : Cond.code ⟨"SceneTimes", "gap", "(II)I"⟩ prog_1_method_9_code 7 (some .int) ∈ AL := AL_t (tb_2 (List.mem_of_getElem? (i := 218) (rfl))) rfl
theorem aw_459 : Cond.constant "SceneTimes" 196 99999 ∈ AL := AL_t (tb_2 (List.mem_of_getElem? (i := 219) (by decide +kernel))) rfl
theorem aw_461 : Cond.methodLink "SceneTimesLaw" 101 ⟨"SceneTimesLaw", "digest", "(LSceneTimes;I[J)I"⟩ ∈ AL := AL_t (tb_2 (List.mem_of_getElem? (i := 221) (by decide +kernel))) rfl
theorem aw_462 : Cond.static ⟨"SceneTimesLaw", "digest", "(LSceneTimes;I[J)I"⟩ ∈ AL := AL_t (tb_2 (List.mem_of_getElem? (i := 222) (by decide +kernel))) rfl
theorem aw_463 : Cond.codeWith ⟨"SceneTimesLaw", "digest", "(LSceneTimes;I[J)I"⟩ method_11_code 4 (some .int) [(0, 9, 12, 19)] ∈ AL := AL_t (tb_2 (List.mem_of_getElem? (i := 223) (rfl))) rfl
theorem aw_464 : Cond.methodLink "SceneTimesLaw" 45 ⟨"SceneTimes", "digest", "(I)I"⟩ ∈ AL := AL_t (tb_2 (List.mem_of_getElem? (i := 224) (by decide +kernel))) rfl
theorem aw_465 : Cond.instanceMethod ⟨"SceneTimes", "digest", "(I)I"⟩ ∈ AL := AL_t (tb_2 (List.mem_of_getElem? (i := 225) (by decide +kernel))) rfl
theorem aw_466 : Cond.selects "SceneTimes" ⟨"SceneTimes", "digest", "(I)I"⟩ ⟨"SceneTimes", "digest", "(I)I"⟩ ∈ AL := AL_t (tb_2 (List.mem_of_getElem? (i := 226) (by decide +kernel))) rfl
theorem aw_467 : Cond.code ⟨"SceneTimes", "digest", "(I)I"⟩ prog_1_method_10_code 2 (some .int) ∈ AL := AL_t (tb_2 (List.mem_of_getElem? (i := 227) (rfl))) rfl
theorem aw_468 : Cond.methodLink "SceneTimesLaw" 105 ⟨"SceneTimesLaw", "noteAt", "(LSceneTimes;II[J)I"⟩ ∈ AL := AL_t (tb_2 (List.mem_of_getElem? (i := 228) (by decide +kernel))) rfl
theorem aw_469 : Cond.static ⟨"SceneTimesLaw", "noteAt", "(LSceneTimes;II[J)I"⟩ ∈ AL := AL_t (tb_2 (List.mem_of_getElem? (i := 229) (by decide +kernel))) rfl
theorem aw_470 : Cond.codeWith ⟨"SceneTimesLaw", "noteAt", "(LSceneTimes;II[J)I"⟩ method_12_code 5 (some .int) [(0, 10, 13, 19)] ∈ AL := AL_t (tb_2 (List.mem_of_getElem? (i := 230) (rfl))) rfl
theorem aw_471 : Cond.methodLink "SceneTimesLaw" 49 ⟨"SceneTimes", "noteAt", "(II)I"⟩ ∈ AL := AL_t (tb_2 (List.mem_of_getElem? (i := 231) (by decide +kernel))) rfl
theorem aw_472 : Cond.instanceMethod ⟨"SceneTimes", "noteAt", "(II)I"⟩ ∈ AL := AL_t (tb_2 (List.mem_of_getElem? (i := 232) (by decide +kernel))) rfl
theorem aw_473 : Cond.selects "SceneTimes" ⟨"SceneTimes", "noteAt", "(II)I"⟩ ⟨"SceneTimes", "noteAt", "(II)I"⟩ ∈ AL := AL_t (tb_2 (List.mem_of_getElem? (i := 233) (by decide +kernel))) rfl
theorem aw_474 : Cond.code ⟨"SceneTimes", "noteAt", "(II)I"⟩ prog_1_method_11_code 4 (some .int) ∈ AL := AL_t (tb_2 (List.mem_of_getElem? (i := 234) (rfl))) rfl
theorem aw_475 : Cond.methodLink "SceneTimesLaw" 108 ⟨"SceneTimesLaw", "print", "(LSceneTimes;[J)I"⟩ ∈ AL := AL_t (tb_2 (List.mem_of_getElem? (i := 235) (by decide +kernel))) rfl
theorem aw_476 : Cond.static ⟨"SceneTimesLaw", "print", "(LSceneTimes;[J)I"⟩ ∈ AL := AL_t (tb_2 (List.mem_of_getElem? (i := 236) (by decide +kernel))) rfl
theorem aw_477 : Cond.codeWith ⟨"SceneTimesLaw", "print", "(LSceneTimes;[J)I"⟩ method_13_code 3 (some .int) [(0, 8, 11, 27)] ∈ AL := AL_t (tb_2 (List.mem_of_getElem? (i := 237) (rfl))) rfl
theorem aw_478 : Cond.methodLink "SceneTimesLaw" 52 ⟨"SceneTimes", "print", "()I"⟩ ∈ AL := AL_t (tb_2 (List.mem_of_getElem? (i := 238) (by decide +kernel))) rfl
theorem aw_479 : Cond.instanceMethod ⟨"SceneTimes", "print", "()I"⟩ ∈ AL := AL_t (tb_2 (List.mem_of_getElem? (i := 239) (by decide +kernel))) rfl
theorem aw_480 : Cond.selects "SceneTimes" ⟨"SceneTimes", "print", "()I"⟩ ⟨"SceneTimes", "print", "()I"⟩ ∈ AL := AL_t (tb_3 (List.mem_of_getElem? (i := 0) (by decide +kernel))) rfl
theorem aw_481 : Cond.code ⟨"SceneTimes", "print", "()I"⟩ prog_1_method_12_code 3 (some .int) ∈ AL := AL_t (tb_3 (List.mem_of_getElem? (i := 1) (rfl))) rfl
theorem aw_483 : Cond.methodLink "SceneTimes" 208 ⟨"SceneTimes$Sheet", "begin", "(I)V"⟩ ∈ AL := AL_t (tb_3 (List.mem_of_getElem? (i := 3) (by decide +kernel))) rfl
theorem aw_484 : Cond.instanceMethod ⟨"SceneTimes$Sheet", "begin", "(I)V"⟩ ∈ AL := AL_t (tb_3 (List.mem_of_getElem? (i := 4) (by decide +kernel))) rfl
theorem aw_485 : Cond.selects "SceneTimes$Sheet" ⟨"SceneTimes$Sheet", "begin", "(I)V"⟩ ⟨"SceneTimes$Sheet", "begin", "(I)V"⟩ ∈ AL := AL_t (tb_3 (List.mem_of_getElem? (i := 5) (by decide +kernel))) rfl
theorem aw_486 : Cond.code ⟨"SceneTimes$Sheet", "begin", "(I)V"⟩ prog_5_method_2_code 2 none ∈ AL := AL_t (tb_3 (List.mem_of_getElem? (i := 6) (rfl))) rfl
theorem aw_487 : Cond.methodLink "SceneTimes$Sheet" 19 ⟨"SceneTimes$Sheet", "putNumber", "(CI)V"⟩ ∈ AL := AL_t (tb_3 (List.mem_of_getElem? (i := 7) (by decide +kernel))) rfl
theorem aw_489 : Cond.instanceMethod ⟨"SceneTimes$Sheet", "putNumber", "(CI)V"⟩ ∈ AL := AL_t (tb_3 (List.mem_of_getElem? (i := 9) (by decide +kernel))) rfl
theorem aw_490 : Cond.code ⟨"SceneTimes$Sheet", "putNumber", "(CI)V"⟩ prog_5_method_4_code 3 none ∈ AL := AL_t (tb_3 (List.mem_of_getElem? (i := 10) (rfl))) rfl
theorem aw_491 : Cond.methodLink "SceneTimes$Sheet" 23 ⟨"SceneTimes$Sheet", "put", "(C)V"⟩ ∈ AL := AL_t (tb_3 (List.mem_of_getElem? (i := 11) (by decide +kernel))) rfl
theorem aw_493 : Cond.instanceMethod ⟨"SceneTimes$Sheet", "put", "(C)V"⟩ ∈ AL := AL_t (tb_3 (List.mem_of_getElem? (i := 13) (by decide +kernel))) rfl
theorem aw_494 : Cond.code ⟨"SceneTimes$Sheet", "put", "(C)V"⟩ prog_5_method_6_code 2 none ∈ AL := AL_t (tb_3 (List.mem_of_getElem? (i := 14) (rfl))) rfl
theorem aw_495 : Cond.methodLink "SceneTimes$Sheet" 32 ⟨"SceneTimes$Sheet", "putDigits", "(I)V"⟩ ∈ AL := AL_t (tb_3 (List.mem_of_getElem? (i := 15) (by decide +kernel))) rfl
theorem aw_497 : Cond.instanceMethod ⟨"SceneTimes$Sheet", "putDigits", "(I)V"⟩ ∈ AL := AL_t (tb_3 (List.mem_of_getElem? (i := 17) (by decide +kernel))) rfl
theorem aw_498 : Cond.code ⟨"SceneTimes$Sheet", "putDigits", "(I)V"⟩ prog_5_method_5_code 3 none ∈ AL := AL_t (tb_3 (List.mem_of_getElem? (i := 18) (rfl))) rfl
theorem aw_499 : Cond.methodLink "SceneTimes" 209 ⟨"SceneTimes$Sheet", "putRow", "(LSceneTimes$Note;LSceneTimes$State;)V"⟩ ∈ AL := AL_t (tb_3 (List.mem_of_getElem? (i := 19) (by decide +kernel))) rfl
theorem aw_500 : Cond.instanceMethod ⟨"SceneTimes$Sheet", "putRow", "(LSceneTimes$Note;LSceneTimes$State;)V"⟩ ∈ AL := AL_t (tb_3 (List.mem_of_getElem? (i := 20) (by decide +kernel))) rfl
theorem aw_501 : Cond.selects "SceneTimes$Sheet" ⟨"SceneTimes$Sheet", "putRow", "(LSceneTimes$Note;LSceneTimes$State;)V"⟩ ⟨"SceneTimes$Sheet", "putRow", "(LSceneTimes$Note;LSceneTimes$State;)V"⟩ ∈ AL := AL_t (tb_3 (List.mem_of_getElem? (i := 21) (by decide +kernel))) rfl
theorem aw_502 : Cond.code ⟨"SceneTimes$Sheet", "putRow", "(LSceneTimes$Note;LSceneTimes$State;)V"⟩ prog_5_method_3_code 3 none ∈ AL := AL_t (tb_3 (List.mem_of_getElem? (i := 22) (rfl))) rfl
theorem aw_503 : Cond.methodLink "SceneTimes$Sheet" 50 ⟨"java/lang/Math", "abs", "(I)I"⟩ ∈ AL := AL_t (tb_3 (List.mem_of_getElem? (i := 23) (by decide +kernel))) rfl
theorem aw_504 : Cond.static ⟨"java/lang/Math", "abs", "(I)I"⟩ ∈ AL := AL_t (tb_3 (List.mem_of_getElem? (i := 24) (by decide +kernel))) rfl
theorem aw_505 : Cond.code ⟨"java/lang/Math", "abs", "(I)I"⟩ prog_13_method_59_code 1 (some .int) ∈ AL := AL_t (tb_3 (List.mem_of_getElem? (i := 25) (rfl))) rfl
theorem aw_506 : Cond.methodLink "SceneTimesLaw" 111 ⟨"SceneTimesLaw", "at", "(LSceneTimes;I[J)I"⟩ ∈ AL := AL_t (tb_3 (List.mem_of_getElem? (i := 26) (by decide +kernel))) rfl
theorem aw_507 : Cond.static ⟨"SceneTimesLaw", "at", "(LSceneTimes;I[J)I"⟩ ∈ AL := AL_t (tb_3 (List.mem_of_getElem? (i := 27) (by decide +kernel))) rfl
theorem aw_508 : Cond.codeWith ⟨"SceneTimesLaw", "at", "(LSceneTimes;I[J)I"⟩ method_14_code 4 (some .int) [(0, 9, 12, 21)] ∈ AL := AL_t (tb_3 (List.mem_of_getElem? (i := 28) (rfl))) rfl
theorem aw_509 : Cond.methodLink "SceneTimesLaw" 55 ⟨"SceneTimes", "at", "(I)I"⟩ ∈ AL := AL_t (tb_3 (List.mem_of_getElem? (i := 29) (by decide +kernel))) rfl
theorem aw_510 : Cond.instanceMethod ⟨"SceneTimes", "at", "(I)I"⟩ ∈ AL := AL_t (tb_3 (List.mem_of_getElem? (i := 30) (by decide +kernel))) rfl
theorem aw_511 : Cond.selects "SceneTimes" ⟨"SceneTimes", "at", "(I)I"⟩ ⟨"SceneTimes", "at", "(I)I"⟩ ∈ AL := AL_t (tb_3 (List.mem_of_getElem? (i := 31) (by decide +kernel))) rfl
theorem aw_512 : Cond.code ⟨"SceneTimes", "at", "(I)I"⟩ prog_1_method_13_code 2 (some .int) ∈ AL := AL_t (tb_3 (List.mem_of_getElem? (i := 32) (rfl))) rfl
theorem aw_514 : Cond.methodLink "SceneTimesLaw" 114 ⟨"SceneTimesLaw", "tick", "(LSceneTimes;I[J)I"⟩ ∈ AL := AL_t (tb_3 (List.mem_of_getElem? (i := 34) (by decide +kernel))) rfl
theorem aw_515 : Cond.static ⟨"SceneTimesLaw", "tick", "(LSceneTimes;I[J)I"⟩ ∈ AL := AL_t (tb_3 (List.mem_of_getElem? (i := 35) (by decide +kernel))) rfl
theorem aw_516 : Cond.codeWith ⟨"SceneTimesLaw", "tick", "(LSceneTimes;I[J)I"⟩ method_15_code 4 (some .int) [(0, 9, 12, 21)] ∈ AL := AL_t (tb_3 (List.mem_of_getElem? (i := 36) (rfl))) rfl
theorem aw_517 : Cond.methodLink "SceneTimesLaw" 58 ⟨"SceneTimes", "tick", "(I)I"⟩ ∈ AL := AL_t (tb_3 (List.mem_of_getElem? (i := 37) (by decide +kernel))) rfl
theorem aw_518 : Cond.instanceMethod ⟨"SceneTimes", "tick", "(I)I"⟩ ∈ AL := AL_t (tb_3 (List.mem_of_getElem? (i := 38) (by decide +kernel))) rfl
theorem aw_519 : Cond.selects "SceneTimes" ⟨"SceneTimes", "tick", "(I)I"⟩ ⟨"SceneTimes", "tick", "(I)I"⟩ ∈ AL := AL_t (tb_3 (List.mem_of_getElem? (i := 39) (by decide +kernel))) rfl
theorem aw_520 : Cond.code ⟨"SceneTimes", "tick", "(I)I"⟩ prog_1_method_14_code 2 (some .int) ∈ AL := AL_t (tb_3 (List.mem_of_getElem? (i := 40) (rfl))) rfl
theorem aw_522 : Cond.methodLink "SceneTimesLaw" 117 ⟨"SceneTimesLaw", "count", "(LSceneTimes;I[J)I"⟩ ∈ AL := AL_t (tb_3 (List.mem_of_getElem? (i := 42) (by decide +kernel))) rfl
theorem aw_523 : Cond.static ⟨"SceneTimesLaw", "count", "(LSceneTimes;I[J)I"⟩ ∈ AL := AL_t (tb_3 (List.mem_of_getElem? (i := 43) (by decide +kernel))) rfl
theorem aw_524 : Cond.codeWith ⟨"SceneTimesLaw", "count", "(LSceneTimes;I[J)I"⟩ method_16_code 4 (some .int) [(0, 9, 12, 19)] ∈ AL := AL_t (tb_3 (List.mem_of_getElem? (i := 44) (rfl))) rfl
theorem aw_525 : Cond.methodLink "SceneTimesLaw" 61 ⟨"SceneTimes", "count", "(I)I"⟩ ∈ AL := AL_t (tb_3 (List.mem_of_getElem? (i := 45) (by decide +kernel))) rfl
theorem aw_526 : Cond.instanceMethod ⟨"SceneTimes", "count", "(I)I"⟩ ∈ AL := AL_t (tb_3 (List.mem_of_getElem? (i := 46) (by decide +kernel))) rfl
theorem aw_527 : Cond.selects "SceneTimes" ⟨"SceneTimes", "count", "(I)I"⟩ ⟨"SceneTimes", "count", "(I)I"⟩ ∈ AL := AL_t (tb_3 (List.mem_of_getElem? (i := 47) (by decide +kernel))) rfl
theorem aw_528 : Cond.code ⟨"SceneTimes", "count", "(I)I"⟩ prog_1_method_15_code 2 (some .int) ∈ AL := AL_t (tb_3 (List.mem_of_getElem? (i := 48) (rfl))) rfl
theorem aw_529 : Cond.methodLink "SceneTimes" 222 ⟨"SceneTimes$Line", "howManyStruck", "()I"⟩ ∈ AL := AL_t (tb_3 (List.mem_of_getElem? (i := 49) (by decide +kernel))) rfl
theorem aw_530 : Cond.instanceMethod ⟨"SceneTimes$Line", "howManyStruck", "()I"⟩ ∈ AL := AL_t (tb_3 (List.mem_of_getElem? (i := 50) (by decide +kernel))) rfl
theorem aw_531 : Cond.selects "SceneTimes$Line" ⟨"SceneTimes$Line", "howManyStruck", "()I"⟩ ⟨"SceneTimes$Line", "howManyStruck", "()I"⟩ ∈ AL := AL_t (tb_3 (List.mem_of_getElem? (i := 51) (by decide +kernel))) rfl
theorem aw_532 : Cond.code ⟨"SceneTimes$Line", "howManyStruck", "()I"⟩ prog_2_method_5_code 3 (some .int) ∈ AL := AL_t (tb_3 (List.mem_of_getElem? (i := 52) (rfl))) rfl
theorem aw_533 : Cond.methodLink "SceneTimes" 226 ⟨"SceneTimes$Line", "howManyWrittenLater", "()I"⟩ ∈ AL := AL_t (tb_3 (List.mem_of_getElem? (i := 53) (by decide +kernel))) rfl
theorem aw_534 : Cond.instanceMethod ⟨"SceneTimes$Line", "howManyWrittenLater", "()I"⟩ ∈ AL := AL_t (tb_3 (List.mem_of_getElem? (i := 54) (by decide +kernel))) rfl
theorem aw_535 : Cond.selects "SceneTimes$Line" ⟨"SceneTimes$Line", "howManyWrittenLater", "()I"⟩ ⟨"SceneTimes$Line", "howManyWrittenLater", "()I"⟩ ∈ AL := AL_t (tb_3 (List.mem_of_getElem? (i := 55) (by decide +kernel))) rfl
theorem aw_536 : Cond.code ⟨"SceneTimes$Line", "howManyWrittenLater", "()I"⟩ prog_2_method_6_code 3 (some .int) ∈ AL := AL_t (tb_3 (List.mem_of_getElem? (i := 56) (rfl))) rfl
theorem aw_537 : Cond.classLink "SceneTimesLaw" 65 "SceneTimesModel" ∈ AL := AL_t (tb_3 (List.mem_of_getElem? (i := 57) (by decide +kernel))) rfl
theorem aw_538 : Cond.instantiable "SceneTimesModel" 21 ∈ AL := AL_t (tb_3 (List.mem_of_getElem? (i := 58) (by decide +kernel))) rfl
theorem aw_539 : Cond.methodLink "SceneTimesLaw" 67 ⟨"SceneTimesModel", "<init>", "()V"⟩ ∈ AL := AL_t (tb_3 (List.mem_of_getElem? (i := 59) (by decide +kernel))) rfl
theorem aw_540 : Cond.instanceMethod ⟨"SceneTimesModel", "<init>", "()V"⟩ ∈ AL := AL_t (tb_3 (List.mem_of_getElem? (i := 60) (by decide +kernel))) rfl
theorem aw_541 : Cond.code ⟨"SceneTimesModel", "<init>", "()V"⟩ prog_8_method_1_code 1 none ∈ AL := AL_t (tb_3 (List.mem_of_getElem? (i := 61) (rfl))) rfl
theorem aw_542 : Cond.methodLink "SceneTimesModel" 1 ⟨"java/lang/Object", "<init>", "()V"⟩ ∈ AL := AL_t (tb_3 (List.mem_of_getElem? (i := 62) (by decide +kernel))) rfl
theorem aw_543 : Cond.fieldLink "SceneTimesModel" 46 "SceneTimesModel" "thrown" "I" ∈ AL := AL_t (tb_3 (List.mem_of_getElem? (i := 63) (by decide +kernel))) rfl
theorem aw_544 : Cond.fieldLink "SceneTimesModel" 57 "SceneTimesModel" "now" "I" ∈ AL := AL_t (tb_3 (List.mem_of_getElem? (i := 64) (by decide +kernel))) rfl
theorem aw_545 : Cond.fieldLink "SceneTimesModel" 60 "SceneTimesModel" "writers" "I" ∈ AL := AL_t (tb_3 (List.mem_of_getElem? (i := 65) (by decide +kernel))) rfl
theorem aw_546 : Cond.fieldLink "SceneTimesModel" 50 "SceneTimesModel" "notes" "I" ∈ AL := AL_t (tb_3 (List.mem_of_getElem? (i := 66) (by decide +kernel))) rfl
theorem aw_547 : Cond.fieldLink "SceneTimesModel" 7 "SceneTimesModel" "writer" "[I" ∈ AL := AL_t (tb_3 (List.mem_of_getElem? (i := 67) (by decide +kernel))) rfl
theorem aw_548 : Cond.fieldLink "SceneTimesModel" 13 "SceneTimesModel" "kind" "[I" ∈ AL := AL_t (tb_3 (List.mem_of_getElem? (i := 68) (by decide +kernel))) rfl
theorem aw_549 : Cond.fieldLink "SceneTimesModel" 16 "SceneTimesModel" "sector" "[I" ∈ AL := AL_t (tb_3 (List.mem_of_getElem? (i := 69) (by decide +kernel))) rfl
theorem aw_550 : Cond.fieldLink "SceneTimesModel" 19 "SceneTimesModel" "was" "[I" ∈ AL := AL_t (tb_3 (List.mem_of_getElem? (i := 70) (by decide +kernel))) rfl
theorem aw_551 : Cond.fieldLink "SceneTimesModel" 22 "SceneTimesModel" "first" "[I" ∈ AL := AL_t (tb_3 (List.mem_of_getElem? (i := 71) (by decide +kernel))) rfl
theorem aw_552 : Cond.fieldLink "SceneTimesModel" 25 "SceneTimesModel" "known" "[I" ∈ AL := AL_t (tb_3 (List.mem_of_getElem? (i := 72) (by decide +kernel))) rfl
theorem aw_553 : Cond.fieldLink "SceneTimesModel" 71 "SceneTimesModel" "acts" "I" ∈ AL := AL_t (tb_3 (List.mem_of_getElem? (i := 73) (by decide +kernel))) rfl
theorem aw_554 : Cond.fieldLink "SceneTimesModel" 28 "SceneTimesModel" "actOn" "[I" ∈ AL := AL_t (tb_3 (List.mem_of_getElem? (i := 74) (by decide +kernel))) rfl
theorem aw_555 : Cond.fieldLink "SceneTimesModel" 31 "SceneTimesModel" "act" "[I" ∈ AL := AL_t (tb_3 (List.mem_of_getElem? (i := 75) (by decide +kernel))) rfl
theorem aw_556 : Cond.fieldLink "SceneTimesModel" 34 "SceneTimesModel" "actValue" "[I" ∈ AL := AL_t (tb_3 (List.mem_of_getElem? (i := 76) (by decide +kernel))) rfl
theorem aw_557 : Cond.fieldLink "SceneTimesModel" 37 "SceneTimesModel" "actAt" "[I" ∈ AL := AL_t (tb_3 (List.mem_of_getElem? (i := 77) (by decide +kernel))) rfl
theorem aw_558 : Cond.fieldLink "SceneTimesModel" 92 "SceneTimesModel" "asked" "Z" ∈ AL := AL_t (tb_3 (List.mem_of_getElem? (i := 78) (by decide +kernel))) rfl
theorem aw_559 : Cond.fieldLink "SceneTimesModel" 99 "SceneTimesModel" "rows" "I" ∈ AL := AL_t (tb_3 (List.mem_of_getElem? (i := 79) (by decide +kernel))) rfl
theorem aw_560 : Cond.fieldLink "SceneTimesModel" 96 "SceneTimesModel" "asOf" "I" ∈ AL := AL_t (tb_3 (List.mem_of_getElem? (i := 80) (by decide +kernel))) rfl
theorem aw_561 : Cond.fieldLink "SceneTimesModel" 40 "SceneTimesModel" "rowNote" "[I" ∈ AL := AL_t (tb_3 (List.mem_of_getElem? (i := 81) (by decide +kernel))) rfl
theorem aw_562 : Cond.fieldLink "SceneTimesModel" 117 "SceneTimesModel" "printed" "I" ∈ AL := AL_t (tb_3 (List.mem_of_getElem? (i := 82) (by decide +kernel))) rfl
theorem aw_563 : Cond.fieldLink "SceneTimesModel" 43 "SceneTimesModel" "out" "[I" ∈ AL := AL_t (tb_3 (List.mem_of_getElem? (i := 83) (by decide +kernel))) rfl
theorem aw_564 : Cond.lays "SceneTimesModel" "SceneTimesModel" "thrown" "I" ∈ AL := AL_t (tb_3 (List.mem_of_getElem? (i := 84) (by decide +kernel))) rfl
theorem aw_565 : Cond.soleField "SceneTimesModel" "thrown" ∈ AL := AL_t (tb_3 (List.mem_of_getElem? (i := 85) (by decide +kernel))) rfl
theorem aw_566 : Cond.lays "SceneTimesModel" "SceneTimesModel" "now" "I" ∈ AL := AL_t (tb_3 (List.mem_of_getElem? (i := 86) (by decide +kernel))) rfl
theorem aw_567 : Cond.soleField "SceneTimesModel" "now" ∈ AL := AL_t (tb_3 (List.mem_of_getElem? (i := 87) (by decide +kernel))) rfl
theorem aw_568 : Cond.lays "SceneTimesModel" "SceneTimesModel" "writers" "I" ∈ AL := AL_t (tb_3 (List.mem_of_getElem? (i := 88) (by decide +kernel))) rfl
theorem aw_569 : Cond.soleField "SceneTimesModel" "writers" ∈ AL := AL_t (tb_3 (List.mem_of_getElem? (i := 89) (by decide +kernel))) rfl
theorem aw_570 : Cond.lays "SceneTimesModel" "SceneTimesModel" "notes" "I" ∈ AL := AL_t (tb_3 (List.mem_of_getElem? (i := 90) (by decide +kernel))) rfl
theorem aw_571 : Cond.soleField "SceneTimesModel" "notes" ∈ AL := AL_t (tb_3 (List.mem_of_getElem? (i := 91) (by decide +kernel))) rfl
theorem aw_572 : Cond.laysFinal "SceneTimesModel" "SceneTimesModel" "writer" "[I" ∈ AL := AL_t (tb_3 (List.mem_of_getElem? (i := 92) (by decide +kernel))) rfl
theorem aw_573 : Cond.soleField "SceneTimesModel" "writer" ∈ AL := AL_t (tb_3 (List.mem_of_getElem? (i := 93) (by decide +kernel))) rfl
theorem aw_574 : Cond.laysFinal "SceneTimesModel" "SceneTimesModel" "kind" "[I" ∈ AL := AL_t (tb_3 (List.mem_of_getElem? (i := 94) (by decide +kernel))) rfl
theorem aw_575 : Cond.soleField "SceneTimesModel" "kind" ∈ AL := AL_t (tb_3 (List.mem_of_getElem? (i := 95) (by decide +kernel))) rfl
theorem aw_576 : Cond.laysFinal "SceneTimesModel" "SceneTimesModel" "sector" "[I" ∈ AL := AL_t (tb_3 (List.mem_of_getElem? (i := 96) (by decide +kernel))) rfl
theorem aw_577 : Cond.soleField "SceneTimesModel" "sector" ∈ AL := AL_t (tb_3 (List.mem_of_getElem? (i := 97) (by decide +kernel))) rfl
theorem aw_578 : Cond.laysFinal "SceneTimesModel" "SceneTimesModel" "was" "[I" ∈ AL := AL_t (tb_3 (List.mem_of_getElem? (i := 98) (by decide +kernel))) rfl
theorem aw_579 : Cond.soleField "SceneTimesModel" "was" ∈ AL := AL_t (tb_3 (List.mem_of_getElem? (i := 99) (by decide +kernel))) rfl
theorem aw_580 : Cond.laysFinal "SceneTimesModel" "SceneTimesModel" "first" "[I" ∈ AL := AL_t (tb_3 (List.mem_of_getElem? (i := 100) (by decide +kernel))) rfl
theorem aw_581 : Cond.soleField "SceneTimesModel" "first" ∈ AL := AL_t (tb_3 (List.mem_of_getElem? (i := 101) (by decide +kernel))) rfl
theorem aw_582 : Cond.laysFinal "SceneTimesModel" "SceneTimesModel" "known" "[I" ∈ AL := AL_t (tb_3 (List.mem_of_getElem? (i := 102) (by decide +kernel))) rfl
theorem aw_583 : Cond.soleField "SceneTimesModel" "known" ∈ AL := AL_t (tb_3 (List.mem_of_getElem? (i := 103) (by decide +kernel))) rfl
theorem aw_584 : Cond.lays "SceneTimesModel" "SceneTimesModel" "acts" "I" ∈ AL := AL_t (tb_3 (List.mem_of_getElem? (i := 104) (by decide +kernel))) rfl
theorem aw_585 : Cond.soleField "SceneTimesModel" "acts" ∈ AL := AL_t (tb_3 (List.mem_of_getElem? (i := 105) (by decide +kernel))) rfl
theorem aw_586 : Cond.laysFinal "SceneTimesModel" "SceneTimesModel" "actOn" "[I" ∈ AL := AL_t (tb_3 (List.mem_of_getElem? (i := 106) (by decide +kernel))) rfl
theorem aw_587 : Cond.soleField "SceneTimesModel" "actOn" ∈ AL := AL_t (tb_3 (List.mem_of_getElem? (i := 107) (by decide +kernel))) rfl
theorem aw_588 : Cond.laysFinal "SceneTimesModel" "SceneTimesModel" "act" "[I" ∈ AL := AL_t (tb_3 (List.mem_of_getElem? (i := 108) (by decide +kernel))) rfl
theorem aw_589 : Cond.soleField "SceneTimesModel" "act" ∈ AL := AL_t (tb_3 (List.mem_of_getElem? (i := 109) (by decide +kernel))) rfl
theorem aw_590 : Cond.laysFinal "SceneTimesModel" "SceneTimesModel" "actValue" "[I" ∈ AL := AL_t (tb_3 (List.mem_of_getElem? (i := 110) (by decide +kernel))) rfl
theorem aw_591 : Cond.soleField "SceneTimesModel" "actValue" ∈ AL := AL_t (tb_3 (List.mem_of_getElem? (i := 111) (by decide +kernel))) rfl
theorem aw_592 : Cond.laysFinal "SceneTimesModel" "SceneTimesModel" "actAt" "[I" ∈ AL := AL_t (tb_3 (List.mem_of_getElem? (i := 112) (by decide +kernel))) rfl
theorem aw_593 : Cond.soleField "SceneTimesModel" "actAt" ∈ AL := AL_t (tb_3 (List.mem_of_getElem? (i := 113) (by decide +kernel))) rfl
theorem aw_594 : Cond.lays "SceneTimesModel" "SceneTimesModel" "asked" "Z" ∈ AL := AL_t (tb_3 (List.mem_of_getElem? (i := 114) (by decide +kernel))) rfl
theorem aw_595 : Cond.soleField "SceneTimesModel" "asked" ∈ AL := AL_t (tb_3 (List.mem_of_getElem? (i := 115) (by decide +kernel))) rfl
theorem aw_596 : Cond.lays "SceneTimesModel" "SceneTimesModel" "rows" "I" ∈ AL := AL_t (tb_3 (List.mem_of_getElem? (i := 116) (by decide +kernel))) rfl
theorem aw_597 : Cond.soleField "SceneTimesModel" "rows" ∈ AL := AL_t (tb_3 (List.mem_of_getElem? (i := 117) (by decide +kernel))) rfl
theorem aw_598 : Cond.lays "SceneTimesModel" "SceneTimesModel" "asOf" "I" ∈ AL := AL_t (tb_3 (List.mem_of_getElem? (i := 118) (by decide +kernel))) rfl
theorem aw_599 : Cond.soleField "SceneTimesModel" "asOf" ∈ AL := AL_t (tb_3 (List.mem_of_getElem? (i := 119) (by decide +kernel))) rfl
theorem aw_600 : Cond.laysFinal "SceneTimesModel" "SceneTimesModel" "rowNote" "[I" ∈ AL := AL_t (tb_3 (List.mem_of_getElem? (i := 120) (by decide +kernel))) rfl
theorem aw_601 : Cond.soleField "SceneTimesModel" "rowNote" ∈ AL := AL_t (tb_3 (List.mem_of_getElem? (i := 121) (by decide +kernel))) rfl
theorem aw_602 : Cond.lays "SceneTimesModel" "SceneTimesModel" "printed" "I" ∈ AL := AL_t (tb_3 (List.mem_of_getElem? (i := 122) (by decide +kernel))) rfl
theorem aw_603 : Cond.soleField "SceneTimesModel" "printed" ∈ AL := AL_t (tb_3 (List.mem_of_getElem? (i := 123) (by decide +kernel))) rfl
theorem aw_604 : Cond.laysFinal "SceneTimesModel" "SceneTimesModel" "out" "[I" ∈ AL := AL_t (tb_3 (List.mem_of_getElem? (i := 124) (by decide +kernel))) rfl
theorem aw_605 : Cond.soleField "SceneTimesModel" "out" ∈ AL := AL_t (tb_3 (List.mem_of_getElem? (i := 125) (by decide +kernel))) rfl
theorem aw_606 : Cond.superclass "SceneTimesModel" "java/lang/Object" ∈ AL := AL_t (tb_3 (List.mem_of_getElem? (i := 126) (by decide +kernel))) rfl
theorem aw_607 : Cond.arrayClass .int ∈ AL := AL_t (tb_3 (List.mem_of_getElem? (i := 127) (by decide +kernel))) rfl
theorem aw_608 : Cond.methodLink "SceneTimesLaw" 74 ⟨"SceneTimesModel", "thrown", "()I"⟩ ∈ AL := AL_t (tb_3 (List.mem_of_getElem? (i := 128) (by decide +kernel))) rfl
theorem aw_609 : Cond.instanceMethod ⟨"SceneTimesModel", "thrown", "()I"⟩ ∈ AL := AL_t (tb_3 (List.mem_of_getElem? (i := 129) (by decide +kernel))) rfl
theorem aw_610 : Cond.selects "SceneTimesModel" ⟨"SceneTimesModel", "thrown", "()I"⟩ ⟨"SceneTimesModel", "thrown", "()I"⟩ ∈ AL := AL_t (tb_3 (List.mem_of_getElem? (i := 130) (by decide +kernel))) rfl
theorem aw_611 : Cond.code ⟨"SceneTimesModel", "thrown", "()I"⟩ prog_8_method_2_code 1 (some .int) ∈ AL := AL_t (tb_3 (List.mem_of_getElem? (i := 131) (rfl))) rfl
theorem aw_612 : Cond.methodLink "SceneTimesLaw" 73 ⟨"SceneTimesModel", "writer", "()I"⟩ ∈ AL := AL_t (tb_3 (List.mem_of_getElem? (i := 132) (by decide +kernel))) rfl
theorem aw_613 : Cond.instanceMethod ⟨"SceneTimesModel", "writer", "()I"⟩ ∈ AL := AL_t (tb_3 (List.mem_of_getElem? (i := 133) (by decide +kernel))) rfl
theorem aw_614 : Cond.selects "SceneTimesModel" ⟨"SceneTimesModel", "writer", "()I"⟩ ⟨"SceneTimesModel", "writer", "()I"⟩ ∈ AL := AL_t (tb_3 (List.mem_of_getElem? (i := 134) (by decide +kernel))) rfl
theorem aw_615 : Cond.code ⟨"SceneTimesModel", "writer", "()I"⟩ prog_8_method_7_code 1 (some .int) ∈ AL := AL_t (tb_3 (List.mem_of_getElem? (i := 135) (rfl))) rfl
theorem aw_616 : Cond.methodLink "SceneTimesModel" 63 ⟨"SceneTimesModel", "goes", "(IZZZZ)Z"⟩ ∈ AL := AL_t (tb_3 (List.mem_of_getElem? (i := 136) (by decide +kernel))) rfl
theorem aw_618 : Cond.instanceMethod ⟨"SceneTimesModel", "goes", "(IZZZZ)Z"⟩ ∈ AL := AL_t (tb_3 (List.mem_of_getElem? (i := 138) (by decide +kernel))) rfl
theorem aw_619 : Cond.code ⟨"SceneTimesModel", "goes", "(IZZZZ)Z"⟩ prog_8_method_4_code 8 (some .boolean) ∈ AL := AL_t (tb_3 (List.mem_of_getElem? (i := 139) (rfl))) rfl
theorem aw_620 : Cond.methodLink "SceneTimesLaw" 80 ⟨"SceneTimesModel", "note", "(IIIII)I"⟩ ∈ AL := AL_t (tb_3 (List.mem_of_getElem? (i := 140) (by decide +kernel))) rfl
theorem aw_621 : Cond.instanceMethod ⟨"SceneTimesModel", "note", "(IIIII)I"⟩ ∈ AL := AL_t (tb_3 (List.mem_of_getElem? (i := 141) (by decide +kernel))) rfl
theorem aw_622 : Cond.selects "SceneTimesModel" ⟨"SceneTimesModel", "note", "(IIIII)I"⟩ ⟨"SceneTimesModel", "note", "(IIIII)I"⟩ ∈ AL := AL_t (tb_3 (List.mem_of_getElem? (i := 142) (by decide +kernel))) rfl
theorem aw_623 : Cond.code ⟨"SceneTimesModel", "note", "(IIIII)I"⟩ prog_8_method_8_code 6 (some .int) ∈ AL := AL_t (tb_3 (List.mem_of_getElem? (i := 143) (rfl))) rfl
theorem aw_624 : Cond.methodLink "SceneTimesModel" 53 ⟨"SceneTimesModel", "in", "(III)Z"⟩ ∈ AL := AL_t (tb_3 (List.mem_of_getElem? (i := 144) (by decide +kernel))) rfl
theorem aw_625 : Cond.static ⟨"SceneTimesModel", "in", "(III)Z"⟩ ∈ AL := AL_t (tb_3 (List.mem_of_getElem? (i := 145) (by decide +kernel))) rfl
theorem aw_626 : Cond.code ⟨"SceneTimesModel", "in", "(III)Z"⟩ prog_8_method_3_code 3 (some .boolean) ∈ AL := AL_t (tb_3 (List.mem_of_getElem? (i := 146) (rfl))) rfl
theorem aw_627 : Cond.methodLink "SceneTimesModel" 67 ⟨"SceneTimesModel", "isGone", "(I)Z"⟩ ∈ AL := AL_t (tb_3 (List.mem_of_getElem? (i := 147) (by decide +kernel))) rfl
theorem aw_629 : Cond.instanceMethod ⟨"SceneTimesModel", "isGone", "(I)Z"⟩ ∈ AL := AL_t (tb_3 (List.mem_of_getElem? (i := 149) (by decide +kernel))) rfl
theorem aw_630 : Cond.code ⟨"SceneTimesModel", "isGone", "(I)Z"⟩ prog_8_method_6_code 2 (some .boolean) ∈ AL := AL_t (tb_3 (List.mem_of_getElem? (i := 150) (rfl))) rfl
theorem aw_631 : Cond.methodLink "SceneTimesLaw" 84 ⟨"SceneTimesModel", "correct", "(II)I"⟩ ∈ AL := AL_t (tb_3 (List.mem_of_getElem? (i := 151) (by decide +kernel))) rfl
theorem aw_632 : Cond.instanceMethod ⟨"SceneTimesModel", "correct", "(II)I"⟩ ∈ AL := AL_t (tb_3 (List.mem_of_getElem? (i := 152) (by decide +kernel))) rfl
theorem aw_633 : Cond.selects "SceneTimesModel" ⟨"SceneTimesModel", "correct", "(II)I"⟩ ⟨"SceneTimesModel", "correct", "(II)I"⟩ ∈ AL := AL_t (tb_3 (List.mem_of_getElem? (i := 153) (by decide +kernel))) rfl
theorem aw_634 : Cond.code ⟨"SceneTimesModel", "correct", "(II)I"⟩ prog_8_method_13_code 3 (some .int) ∈ AL := AL_t (tb_3 (List.mem_of_getElem? (i := 154) (rfl))) rfl
theorem aw_635 : Cond.methodLink "SceneTimesModel" 74 ⟨"SceneTimesModel", "isNote", "(I)Z"⟩ ∈ AL := AL_t (tb_3 (List.mem_of_getElem? (i := 155) (by decide +kernel))) rfl
theorem aw_637 : Cond.instanceMethod ⟨"SceneTimesModel", "isNote", "(I)Z"⟩ ∈ AL := AL_t (tb_3 (List.mem_of_getElem? (i := 157) (by decide +kernel))) rfl
theorem aw_638 : Cond.code ⟨"SceneTimesModel", "isNote", "(I)Z"⟩ prog_8_method_5_code 2 (some .boolean) ∈ AL := AL_t (tb_3 (List.mem_of_getElem? (i := 158) (rfl))) rfl
theorem aw_639 : Cond.methodLink "SceneTimesModel" 77 ⟨"SceneTimesModel", "isStruck", "(II)Z"⟩ ∈ AL := AL_t (tb_3 (List.mem_of_getElem? (i := 159) (by decide +kernel))) rfl
theorem aw_641 : Cond.instanceMethod ⟨"SceneTimesModel", "isStruck", "(II)Z"⟩ ∈ AL := AL_t (tb_3 (List.mem_of_getElem? (i := 161) (by decide +kernel))) rfl
theorem aw_642 : Cond.code ⟨"SceneTimesModel", "isStruck", "(II)Z"⟩ prog_8_method_10_code 5 (some .boolean) ∈ AL := AL_t (tb_3 (List.mem_of_getElem? (i := 162) (rfl))) rfl
theorem aw_643 : Cond.methodLink "SceneTimesModel" 81 ⟨"SceneTimesModel", "does", "(III)V"⟩ ∈ AL := AL_t (tb_3 (List.mem_of_getElem? (i := 163) (by decide +kernel))) rfl
theorem aw_645 : Cond.instanceMethod ⟨"SceneTimesModel", "does", "(III)V"⟩ ∈ AL := AL_t (tb_3 (List.mem_of_getElem? (i := 165) (by decide +kernel))) rfl
theorem aw_646 : Cond.code ⟨"SceneTimesModel", "does", "(III)V"⟩ prog_8_method_11_code 4 none ∈ AL := AL_t (tb_3 (List.mem_of_getElem? (i := 166) (rfl))) rfl
theorem aw_647 : Cond.methodLink "SceneTimesModel" 85 ⟨"SceneTimesModel", "many", "(IZ)I"⟩ ∈ AL := AL_t (tb_3 (List.mem_of_getElem? (i := 167) (by decide +kernel))) rfl
theorem aw_649 : Cond.instanceMethod ⟨"SceneTimesModel", "many", "(IZ)I"⟩ ∈ AL := AL_t (tb_3 (List.mem_of_getElem? (i := 169) (by decide +kernel))) rfl
theorem aw_650 : Cond.code ⟨"SceneTimesModel", "many", "(IZ)I"⟩ prog_8_method_12_code 5 (some .int) ∈ AL := AL_t (tb_3 (List.mem_of_getElem? (i := 170) (rfl))) rfl
theorem aw_651 : Cond.methodLink "SceneTimesLaw" 88 ⟨"SceneTimesModel", "strike", "(IZ)V"⟩ ∈ AL := AL_t (tb_3 (List.mem_of_getElem? (i := 171) (by decide +kernel))) rfl
theorem aw_652 : Cond.instanceMethod ⟨"SceneTimesModel", "strike", "(IZ)V"⟩ ∈ AL := AL_t (tb_3 (List.mem_of_getElem? (i := 172) (by decide +kernel))) rfl
theorem aw_653 : Cond.selects "SceneTimesModel" ⟨"SceneTimesModel", "strike", "(IZ)V"⟩ ⟨"SceneTimesModel", "strike", "(IZ)V"⟩ ∈ AL := AL_t (tb_3 (List.mem_of_getElem? (i := 173) (by decide +kernel))) rfl
theorem aw_654 : Cond.code ⟨"SceneTimesModel", "strike", "(IZ)V"⟩ prog_8_method_14_code 3 none ∈ AL := AL_t (tb_3 (List.mem_of_getElem? (i := 174) (rfl))) rfl
theorem aw_655 : Cond.methodLink "SceneTimesLaw" 91 ⟨"SceneTimesModel", "ask", "(IIIII)I"⟩ ∈ AL := AL_t (tb_3 (List.mem_of_getElem? (i := 175) (by decide +kernel))) rfl
theorem aw_656 : Cond.instanceMethod ⟨"SceneTimesModel", "ask", "(IIIII)I"⟩ ∈ AL := AL_t (tb_3 (List.mem_of_getElem? (i := 176) (by decide +kernel))) rfl
theorem aw_657 : Cond.selects "SceneTimesModel" ⟨"SceneTimesModel", "ask", "(IIIII)I"⟩ ⟨"SceneTimesModel", "ask", "(IIIII)I"⟩ ∈ AL := AL_t (tb_3 (List.mem_of_getElem? (i := 177) (by decide +kernel))) rfl
theorem aw_658 : Cond.code ⟨"SceneTimesModel", "ask", "(IIIII)I"⟩ prog_8_method_17_code 7 (some .int) ∈ AL := AL_t (tb_3 (List.mem_of_getElem? (i := 178) (rfl))) rfl
theorem aw_659 : Cond.methodLink "SceneTimesModel" 102 ⟨"SceneTimesModel", "following", "(IZIII)I"⟩ ∈ AL := AL_t (tb_3 (List.mem_of_getElem? (i := 179) (by decide +kernel))) rfl
theorem aw_661 : Cond.instanceMethod ⟨"SceneTimesModel", "following", "(IZIII)I"⟩ ∈ AL := AL_t (tb_3 (List.mem_of_getElem? (i := 181) (by decide +kernel))) rfl
theorem aw_662 : Cond.code ⟨"SceneTimesModel", "following", "(IZIII)I"⟩ prog_8_method_16_code 8 (some .int) ∈ AL := AL_t (tb_3 (List.mem_of_getElem? (i := 182) (rfl))) rfl
theorem aw_663 : Cond.methodLink "SceneTimesModel" 89 ⟨"SceneTimesModel", "isBefore", "(II)Z"⟩ ∈ AL := AL_t (tb_3 (List.mem_of_getElem? (i := 183) (by decide +kernel))) rfl
theorem aw_665 : Cond.instanceMethod ⟨"SceneTimesModel", "isBefore", "(II)Z"⟩ ∈ AL := AL_t (tb_3 (List.mem_of_getElem? (i := 185) (by decide +kernel))) rfl
theorem aw_666 : Cond.code ⟨"SceneTimesModel", "isBefore", "(II)Z"⟩ prog_8_method_15_code 3 (some .boolean) ∈ AL := AL_t (tb_3 (List.mem_of_getElem? (i := 186) (rfl))) rfl
theorem aw_667 : Cond.methodLink "SceneTimesLaw" 94 ⟨"SceneTimesModel", "row", "(II)I"⟩ ∈ AL := AL_t (tb_3 (List.mem_of_getElem? (i := 187) (by decide +kernel))) rfl
theorem aw_668 : Cond.instanceMethod ⟨"SceneTimesModel", "row", "(II)I"⟩ ∈ AL := AL_t (tb_3 (List.mem_of_getElem? (i := 188) (by decide +kernel))) rfl
theorem aw_669 : Cond.selects "SceneTimesModel" ⟨"SceneTimesModel", "row", "(II)I"⟩ ⟨"SceneTimesModel", "row", "(II)I"⟩ ∈ AL := AL_t (tb_3 (List.mem_of_getElem? (i := 189) (by decide +kernel))) rfl
theorem aw_670 : Cond.code ⟨"SceneTimesModel", "row", "(II)I"⟩ prog_8_method_18_code 4 (some .int) ∈ AL := AL_t (tb_3 (List.mem_of_getElem? (i := 190) (rfl))) rfl
theorem aw_671 : Cond.methodLink "SceneTimesModel" 106 ⟨"SceneTimesModel", "value", "(II)I"⟩ ∈ AL := AL_t (tb_3 (List.mem_of_getElem? (i := 191) (by decide +kernel))) rfl
theorem aw_673 : Cond.instanceMethod ⟨"SceneTimesModel", "value", "(II)I"⟩ ∈ AL := AL_t (tb_3 (List.mem_of_getElem? (i := 193) (by decide +kernel))) rfl
theorem aw_674 : Cond.code ⟨"SceneTimesModel", "value", "(II)I"⟩ prog_8_method_9_code 5 (some .int) ∈ AL := AL_t (tb_3 (List.mem_of_getElem? (i := 194) (rfl))) rfl
theorem aw_675 : Cond.methodLink "SceneTimesLaw" 97 ⟨"SceneTimesModel", "reading", "(II)I"⟩ ∈ AL := AL_t (tb_3 (List.mem_of_getElem? (i := 195) (by decide +kernel))) rfl
theorem aw_676 : Cond.instanceMethod ⟨"SceneTimesModel", "reading", "(II)I"⟩ ∈ AL := AL_t (tb_3 (List.mem_of_getElem? (i := 196) (by decide +kernel))) rfl
theorem aw_677 : Cond.selects "SceneTimesModel" ⟨"SceneTimesModel", "reading", "(II)I"⟩ ⟨"SceneTimesModel", "reading", "(II)I"⟩ ∈ AL := AL_t (tb_3 (List.mem_of_getElem? (i := 197) (by decide +kernel))) rfl
theorem aw_678 : Cond.code ⟨"SceneTimesModel", "reading", "(II)I"⟩ prog_8_method_20_code 8 (some .int) ∈ AL := AL_t (tb_3 (List.mem_of_getElem? (i := 198) (rfl))) rfl
theorem aw_679 : Cond.methodLink "SceneTimesModel" 110 ⟨"SceneTimesModel", "floor", "(II)I"⟩ ∈ AL := AL_t (tb_3 (List.mem_of_getElem? (i := 199) (by decide +kernel))) rfl
theorem aw_680 : Cond.static ⟨"SceneTimesModel", "floor", "(II)I"⟩ ∈ AL := AL_t (tb_3 (List.mem_of_getElem? (i := 200) (by decide +kernel))) rfl
theorem aw_681 : Cond.code ⟨"SceneTimesModel", "floor", "(II)I"⟩ prog_8_method_19_code 3 (some .int) ∈ AL := AL_t (tb_3 (List.mem_of_getElem? (i := 201) (rfl))) rfl
theorem aw_682 : Cond.methodLink "SceneTimesLaw" 100 ⟨"SceneTimesModel", "gap", "(II)I"⟩ ∈ AL := AL_t (tb_3 (List.mem_of_getElem? (i := 202) (by decide +kernel))) rfl
theorem aw_683 : Cond.instanceMethod ⟨"SceneTimesModel", "gap", "(II)I"⟩ ∈ AL := AL_t (tb_3 (List.mem_of_getElem? (i := 203) (by decide +kernel))) rfl
theorem aw_684 : Cond.selects "SceneTimesModel" ⟨"SceneTimesModel", "gap", "(II)I"⟩ ⟨"SceneTimesModel", "gap", "(II)I"⟩ ∈ AL := AL_t (tb_3 (List.mem_of_getElem? (i := 204) (by decide +kernel))) rfl
theorem aw_685 : Cond.code ⟨"SceneTimesModel", "gap", "(II)I"⟩ prog_8_method_21_code 6 (some .int) ∈ AL := AL_t (tb_3 (List.mem_of_getElem? (i := 205) (rfl))) rfl
theorem aw_686 : Cond.constant "SceneTimesModel" 113 99999 ∈ AL := AL_t (tb_3 (List.mem_of_getElem? (i := 206) (by decide +kernel))) rfl
theorem aw_687 : Cond.methodLink "SceneTimesLaw" 104 ⟨"SceneTimesModel", "digest", "(I)I"⟩ ∈ AL := AL_t (tb_3 (List.mem_of_getElem? (i := 207) (by decide +kernel))) rfl
theorem aw_688 : Cond.instanceMethod ⟨"SceneTimesModel", "digest", "(I)I"⟩ ∈ AL := AL_t (tb_3 (List.mem_of_getElem? (i := 208) (by decide +kernel))) rfl
theorem aw_689 : Cond.selects "SceneTimesModel" ⟨"SceneTimesModel", "digest", "(I)I"⟩ ⟨"SceneTimesModel", "digest", "(I)I"⟩ ∈ AL := AL_t (tb_3 (List.mem_of_getElem? (i := 209) (by decide +kernel))) rfl
theorem aw_690 : Cond.code ⟨"SceneTimesModel", "digest", "(I)I"⟩ prog_8_method_23_code 4 (some .int) ∈ AL := AL_t (tb_3 (List.mem_of_getElem? (i := 210) (rfl))) rfl
theorem aw_691 : Cond.methodLink "SceneTimesModel" 114 ⟨"SceneTimesModel", "mix", "(II)I"⟩ ∈ AL := AL_t (tb_3 (List.mem_of_getElem? (i := 211) (by decide +kernel))) rfl
theorem aw_692 : Cond.static ⟨"SceneTimesModel", "mix", "(II)I"⟩ ∈ AL := AL_t (tb_3 (List.mem_of_getElem? (i := 212) (by decide +kernel))) rfl
theorem aw_693 : Cond.code ⟨"SceneTimesModel", "mix", "(II)I"⟩ prog_8_method_22_code 3 (some .int) ∈ AL := AL_t (tb_3 (List.mem_of_getElem? (i := 213) (rfl))) rfl
theorem aw_694 : Cond.methodLink "SceneTimesLaw" 107 ⟨"SceneTimesModel", "noteAt", "(II)I"⟩ ∈ AL := AL_t (tb_3 (List.mem_of_getElem? (i := 214) (by decide +kernel))) rfl
theorem aw_695 : Cond.instanceMethod ⟨"SceneTimesModel", "noteAt", "(II)I"⟩ ∈ AL := AL_t (tb_3 (List.mem_of_getElem? (i := 215) (by decide +kernel))) rfl
theorem aw_696 : Cond.selects "SceneTimesModel" ⟨"SceneTimesModel", "noteAt", "(II)I"⟩ ⟨"SceneTimesModel", "noteAt", "(II)I"⟩ ∈ AL := AL_t (tb_3 (List.mem_of_getElem? (i := 216) (by decide +kernel))) rfl
theorem aw_697 : Cond.code ⟨"SceneTimesModel", "noteAt", "(II)I"⟩ prog_8_method_24_code 3 (some .int) ∈ AL := AL_t (tb_3 (List.mem_of_getElem? (i := 217) (rfl))) rfl
theorem aw_698 : Cond.methodLink "SceneTimesLaw" 110 ⟨"SceneTimesModel", "print", "()I"⟩ ∈ AL := AL_t (tb_3 (List.mem_of_getElem? (i := 218) (by decide +kernel))) rfl
theorem aw_699 : Cond.instanceMethod ⟨"SceneTimesModel", "print", "()I"⟩ ∈ AL := AL_t (tb_3 (List.mem_of_getElem? (i := 219) (by decide +kernel))) rfl
theorem aw_700 : Cond.selects "SceneTimesModel" ⟨"SceneTimesModel", "print", "()I"⟩ ⟨"SceneTimesModel", "print", "()I"⟩ ∈ AL := AL_t (tb_3 (List.mem_of_getElem? (i := 220) (by decide +kernel))) rfl
theorem aw_701 : Cond.code ⟨"SceneTimesModel", "print", "()I"⟩ prog_8_method_27_code 4 (some .int) ∈ AL := AL_t (tb_3 (List.mem_of_getElem? (i := 221) (rfl))) rfl
theorem aw_702 : Cond.methodLink "SceneTimesModel" 124 ⟨"SceneTimesModel", "number", "(II)V"⟩ ∈ AL := AL_t (tb_3 (List.mem_of_getElem? (i := 222) (by decide +kernel))) rfl
theorem aw_704 : Cond.instanceMethod ⟨"SceneTimesModel", "number", "(II)V"⟩ ∈ AL := AL_t (tb_3 (List.mem_of_getElem? (i := 224) (by decide +kernel))) rfl
theorem aw_705 : Cond.code ⟨"SceneTimesModel", "number", "(II)V"⟩ prog_8_method_26_code 5 none ∈ AL := AL_t (tb_3 (List.mem_of_getElem? (i := 225) (rfl))) rfl
theorem aw_706 : Cond.methodLink "SceneTimesModel" 120 ⟨"SceneTimesModel", "put", "(I)V"⟩ ∈ AL := AL_t (tb_3 (List.mem_of_getElem? (i := 226) (by decide +kernel))) rfl
theorem aw_708 : Cond.instanceMethod ⟨"SceneTimesModel", "put", "(I)V"⟩ ∈ AL := AL_t (tb_3 (List.mem_of_getElem? (i := 228) (by decide +kernel))) rfl
theorem aw_709 : Cond.code ⟨"SceneTimesModel", "put", "(I)V"⟩ prog_8_method_25_code 2 none ∈ AL := AL_t (tb_3 (List.mem_of_getElem? (i := 229) (rfl))) rfl
theorem aw_710 : Cond.methodLink "SceneTimesLaw" 113 ⟨"SceneTimesModel", "at", "(I)I"⟩ ∈ AL := AL_t (tb_3 (List.mem_of_getElem? (i := 230) (by decide +kernel))) rfl
theorem aw_711 : Cond.instanceMethod ⟨"SceneTimesModel", "at", "(I)I"⟩ ∈ AL := AL_t (tb_3 (List.mem_of_getElem? (i := 231) (by decide +kernel))) rfl
theorem aw_712 : Cond.selects "SceneTimesModel" ⟨"SceneTimesModel", "at", "(I)I"⟩ ⟨"SceneTimesModel", "at", "(I)I"⟩ ∈ AL := AL_t (tb_3 (List.mem_of_getElem? (i := 232) (by decide +kernel))) rfl
theorem aw_713 : Cond.code ⟨"SceneTimesModel", "at", "(I)I"⟩ prog_8_method_28_code 2 (some .int) ∈ AL := AL_t (tb_3 (List.mem_of_getElem? (i := 233) (rfl))) rfl
theorem aw_714 : Cond.methodLink "SceneTimesLaw" 116 ⟨"SceneTimesModel", "tick", "(I)I"⟩ ∈ AL := AL_t (tb_3 (List.mem_of_getElem? (i := 234) (by decide +kernel))) rfl
theorem aw_715 : Cond.instanceMethod ⟨"SceneTimesModel", "tick", "(I)I"⟩ ∈ AL := AL_t (tb_3 (List.mem_of_getElem? (i := 235) (by decide +kernel))) rfl
theorem aw_716 : Cond.selects "SceneTimesModel" ⟨"SceneTimesModel", "tick", "(I)I"⟩ ⟨"SceneTimesModel", "tick", "(I)I"⟩ ∈ AL := AL_t (tb_3 (List.mem_of_getElem? (i := 236) (by decide +kernel))) rfl
theorem aw_717 : Cond.code ⟨"SceneTimesModel", "tick", "(I)I"⟩ prog_8_method_29_code 2 (some .int) ∈ AL := AL_t (tb_3 (List.mem_of_getElem? (i := 237) (rfl))) rfl
theorem aw_718 : Cond.methodLink "SceneTimesLaw" 119 ⟨"SceneTimesModel", "count", "(I)I"⟩ ∈ AL := AL_t (tb_3 (List.mem_of_getElem? (i := 238) (by decide +kernel))) rfl
theorem aw_719 : Cond.instanceMethod ⟨"SceneTimesModel", "count", "(I)I"⟩ ∈ AL := AL_t (tb_3 (List.mem_of_getElem? (i := 239) (by decide +kernel))) rfl
theorem aw_720 : Cond.selects "SceneTimesModel" ⟨"SceneTimesModel", "count", "(I)I"⟩ ⟨"SceneTimesModel", "count", "(I)I"⟩ ∈ AL := AL_t (tb_4 (List.mem_of_getElem? (i := 0) (by decide +kernel))) rfl
theorem aw_721 : Cond.code ⟨"SceneTimesModel", "count", "(I)I"⟩ prog_8_method_30_code 5 (some .int) ∈ AL := AL_t (tb_4 (List.mem_of_getElem? (i := 1) (rfl))) rfl
theorem aw_722 : Cond.arrayClass .long ∈ AL := AL_t (tb_4 (List.mem_of_getElem? (i := 2) (by decide +kernel))) rfl
theorem aw_723 : Cond.sameMethod "java/lang/Throwable" "java/lang/Throwable" "fillInStackTrace" "(I)Ljava/lang/Throwable;" ∈ AL := AL_t (tb_4 (List.mem_of_getElem? (i := 3) (by decide +kernel))) rfl
end
section
/-! WORLDS AS MAPS: what lies at an address, by a function; the kit's lists of cells stand behind it -/
def mw (D : va_G) (cl : List vw_C) (A : Nat → Prop) (w : Nat → Option va_E) (H : Heap) : Prop := ∀ (a : Nat) (e : va_E), w a = some e → va_at D cl (a, e) H ∧ A a
def mA (w : Nat → Option va_E) (sz : Nat) : Nat → Prop := fun q => w q ≠ none ∨ sz ≤ q
theorem mw_weaken {D : va_G} {cl : List vw_C} {A B : Nat → Prop} {w : Nat → Option va_E} {H : Heap} (h : mw D cl A w H) (hAB : ∀ q, A q → B q) : mw D cl B w H := fun a e he => ⟨(h a e he).1, hAB a (h a e he).2⟩
theorem mw_self {D : va_G} {cl : List vw_C} {A : Nat → Prop} {w : Nat → Option va_E} {H : Heap} {sz : Nat} (h : mw D cl A w H) : mw D cl (mA w sz) w H := fun a e he => ⟨(h a e he).1, Or.inl (by rw [he]; exact fun q => nomatch q)⟩
theorem mw_lt {D : va_G} {cl : List vw_C} {A : Nat → Prop} {w : Nat → Option va_E} {H : Heap} (h : mw D cl A w H) {a : Nat} {e : va_E} (he : w a = some e) : a < H.size := (h a e he).1.lt
theorem mw_lt' {D : va_G} {cl : List vw_C} {A : Nat → Prop} {w : Nat → Option va_E} {H : Heap} (h : mw D cl A w H) {a : Nat} (he : w a ≠ none) : a < H.size := by
  cases hw : w a with
  | none => exact absurd hw he
  | some e => exact mw_lt h hw
/-- a heap in which the cells of w are as they were -/
theorem mw_frame {D : va_G} {cl : List vw_C} {A A1 : Nat → Prop} {w : Nat → Option va_E} {H H1 : Heap} (h : mw D cl A w H) (hq : ∀ q : Nat, q < H.size → ¬ A1 q → H1[q]? = H[q]?) (hd : ∀ q, w q ≠ none → ¬ A1 q) : mw D cl A w H1 := fun a e he =>
  ⟨(h a e he).1.kept (hq a (mw_lt h he) (hd a (by rw [he]; exact fun q => nomatch q))), (h a e he).2⟩
theorem mw_kept {D : va_G} {cl : List vw_C} {A : Nat → Prop} {w : Nat → Option va_E} {H H1 : Heap} (h : mw D cl A w H) (hq : ∀ q : Nat, q < H.size → H1[q]? = H[q]?) : mw D cl A w H1 := fun a e he => ⟨(h a e he).1.kept (hq a (mw_lt h he)), (h a e he).2⟩
theorem mw_free {D : va_G} {cl : List vw_C} {A : Nat → Prop} {w : Nat → Option va_E} {H H0 : Heap} {locs : List Loc} (h : mw D cl A w H) (hS : va_S A H0 H locs) (hA : ∀ q, H0.size ≤ q → A q) : ∀ q, mA w H.size q → A q := by
  intro q hq
  rcases hq with h1 | h1
  · cases hw : w q with
    | none => exact absurd hw h1
    | some e => exact (h q e hw).2
  · exact hA q (Nat.le_trans hS.1 h1)
/-- the cells below n, as a list -/
def mL (w : Nat → Option va_E) : Nat → va_W
  | 0 => []
  | n + 1 => match w n with
    | some e => (n, e) :: mL w n
    | none => mL w n
theorem mL_in {w : Nat → Option va_E} : ∀ (n k : Nat) (q : Nat × va_E), (mL w n)[k]? = some q → q.1 < n ∧ w q.1 = some q.2 := by
  intro n
  induction n with
  | zero => intro k q h; simp [mL] at h
  | succ n ih =>
    intro k q h
    unfold mL at h
    cases hw : w n with
    | none =>
      rw [hw] at h
      exact ⟨Nat.lt_succ_of_lt (ih k q h).1, (ih k q h).2⟩
    | some e =>
      rw [hw] at h
      cases k with
      | zero =>
        rw [List.getElem?_cons_zero] at h
        cases h
        exact ⟨Nat.lt_succ_self n, hw⟩
      | succ k =>
        rw [List.getElem?_cons_succ] at h
        exact ⟨Nat.lt_succ_of_lt (ih k q h).1, (ih k q h).2⟩
theorem mL_has {w : Nat → Option va_E} : ∀ (n a : Nat) (e : va_E), a < n → w a = some e → ∃ k : Nat, (mL w n)[k]? = some (a, e) := by
  intro n
  induction n with
  | zero => intro a e h; exact absurd h (Nat.not_lt_zero a)
  | succ n ih =>
    intro a e h he
    unfold mL
    by_cases ha : a = n
    · subst ha
      rw [he]
      exact ⟨0, rfl⟩
    · obtain ⟨k, hk⟩ := ih a e (by omega) he
      cases hw : w n with
      | none => exact ⟨k, hk⟩
      | some e2 => exact ⟨k + 1, hk⟩
theorem mL_inj {w : Nat → Option va_E} : ∀ (n i j : Nat) (p q : Nat × va_E), (mL w n)[i]? = some p → (mL w n)[j]? = some q → p.1 = q.1 → i = j := by
  intro n
  induction n with
  | zero => intro i j p q h; simp [mL] at h
  | succ n ih =>
    intro i j p q h1 h2 hpq
    unfold mL at h1 h2
    cases hw : w n with
    | none =>
      rw [hw] at h1 h2
      exact ih i j p q h1 h2 hpq
    | some e =>
      rw [hw] at h1 h2
      cases i with
      | zero =>
        rw [List.getElem?_cons_zero] at h1
        cases h1
        cases j with
        | zero => rfl
        | succ j =>
          rw [List.getElem?_cons_succ] at h2
          have := (mL_in n j q h2).1
          have hpq : n = q.1 := hpq
          omega
      | succ i =>
        rw [List.getElem?_cons_succ] at h1
        have h3 := (mL_in n i p h1).1
        cases j with
        | zero =>
          rw [List.getElem?_cons_zero] at h2
          cases h2
          have hpq : p.1 = n := hpq
          omega
        | succ j =>
          rw [List.getElem?_cons_succ] at h2
          rw [ih i j p q h1 h2 hpq]
theorem mw_list {D : va_G} {cl : List vw_C} {A : Nat → Prop} {w : Nat → Option va_E} {H : Heap} (h : mw D cl A w H) : ∃ ws : va_W, va_P D cl ws H ∧ va_D A ws ∧ ∀ (a : Nat) (e : va_E), w a = some e → ∃ k : Nat, ws[k]? = some (a, e) :=
  ⟨mL w H.size, fun k q hk => (h q.1 q.2 (mL_in _ k q hk).2).1, ⟨fun i j p q h1 h2 h3 => mL_inj _ i j p q h1 h2 h3, fun k q hk => (h q.1 q.2 (mL_in _ k q hk).2).2⟩, fun a e he => mL_has _ a e (mw_lt h he) he⟩
theorem mw_upd {D : va_G} {cl : List vw_C} {A : Nat → Prop} {w : Nat → Option va_E} {ws : va_W} {H1 : Heap} {k a : Nat} {e0 e1 : va_E} (hall : ∀ (a : Nat) (e : va_E), w a = some e → ∃ k : Nat, ws[k]? = some (a, e)) (hk : ws[k]? = some (a, e0)) (hP : va_P D cl (ws.set k (a, e1)) H1) (hD : va_D A (ws.set k (a, e1))) : mw D cl A (va_up w a (some e1)) H1 := by
  intro b e hb
  by_cases hba : b = a
  · subst hba
    rw [va_up_self] at hb
    cases hb
    have h9 : (ws.set k (b, e1))[k]? = some (b, e1) := by
      have hl : k < ws.length := (List.getElem?_eq_some_iff.mp hk).1
      simp [List.getElem?_set, hl]
    exact ⟨hP k _ h9, hD.2 k _ h9⟩
  · rw [va_up_ne _ _ hba] at hb
    obtain ⟨j, hj⟩ := hall b e hb
    have hjk : k ≠ j := by
      intro q
      subst q
      rw [hj] at hk
      cases hk
      exact hba rfl
    have h9 : (ws.set k (a, e1))[j]? = some (b, e) := by
      rw [List.getElem?_set_ne hjk]
      exact hj
    exact ⟨hP j _ h9, hD.2 j _ h9⟩
theorem mw_push {D : va_G} {cl : List vw_C} {A : Nat → Prop} {w : Nat → Option va_E} {ws : va_W} {H1 : Heap} {a : Nat} {e1 : va_E} (hall : ∀ (a : Nat) (e : va_E), w a = some e → ∃ k : Nat, ws[k]? = some (a, e)) (hP : va_P D cl (ws ++ [(a, e1)]) H1) (hD : va_D A (ws ++ [(a, e1)])) : mw D cl A (va_up w a (some e1)) H1 ∧ w a = none := by
  have hl : (ws ++ [(a, e1)])[ws.length]? = some (a, e1) := by simp
  constructor
  · intro b e hb
    by_cases hba : b = a
    · subst hba
      rw [va_up_self] at hb
      cases hb
      exact ⟨hP _ _ hl, hD.2 _ _ hl⟩
    · rw [va_up_ne _ _ hba] at hb
      obtain ⟨j, hj⟩ := hall b e hb
      have h9 : (ws ++ [(a, e1)])[j]? = some (b, e) := by
        rw [List.getElem?_append_left (List.getElem?_eq_some_iff.mp hj).1]
        exact hj
      exact ⟨hP j _ h9, hD.2 j _ h9⟩
  · cases hw : w a with
    | none => rfl
    | some e =>
      obtain ⟨j, hj⟩ := hall a e hw
      have hjl := (List.getElem?_eq_some_iff.mp hj).1
      have h9 : (ws ++ [(a, e1)])[j]? = some (a, e) := by
        rw [List.getElem?_append_left hjl]
        exact hj
      have := hD.1 j ws.length _ _ h9 hl rfl
      omega
section MW
variable {p : Program} {l : Launch} {e : Env} {R : Room} {s : State} {m : MethodId} {args : Array Value} {below : List Frame} {meth : Method} {c : Code} {H : Heap} {locs : List Loc} {cells slots : Nat} {Q : State → Prop}
variable {cc : ByteArray} {pc : Nat} {ls : Array Slot} {rest : List Value} {D : va_G} {cl : List vw_C} {A : Nat → Prop} {a : Nat} {tys : List (ClassId × FieldType)} {w : Nat → Option va_E} {H0 : Heap}
theorem m_get (hexec : p.tables.exec = Jvm.exec) (hb : c.code = cc) {own ref C : String} {T : u_T} {N ci index : Nat} {Ts : List Cond} (hts : ∀ w ∈ Ts, w.before args s = true) (hin : ∀ w ∈ u_ws C T N, w ∈ Ts) (hown : s.vm.findClass own = some m.cls) (hK : va_K D cl tys s) (hM : mw D cl A w H) {fs : List Value} (he : w a = some (.inr (ci, fs))) (hc : cl[ci]? = some (C, T, N)) (k : Nat) (hk : k < N) (hlink : (Cond.fieldLink own index ref (T k).2.1 (T k).2.2.1).before args s = true) (hsame : ∀ x, s.fieldFound? (T k).1 (T k).2.1 (T k).2.2.1 = some x → s.fieldFound? ref (T k).2.1 (T k).2.2.1 = some x) {v : Value} (hv : fs[k]? = some v) (hdg : decode cc pc = .ok (.getfield index, 3))
    (kk : W p l e R s m args below meth c H locs cells slots Q (F0 m (pc + 3) ls (v :: rest))) : W p l e R s m args below meth c H locs cells slots Q (F0 m pc ls (.ref a :: rest)) :=
  va_get (ws := [(a, .inr (ci, fs))]) hexec hb hts hin hown hK (fun k q hk => by
    have hz : k < 1 := (List.getElem?_eq_some_iff.mp hk).1
    rw [show k = 0 by omega] at hk
    cases hk
    exact (hM _ _ he).1) 0 rfl hc k hk hlink hsame hv hdg kk
theorem m_put (hexec : p.tables.exec = Jvm.exec) (hb : c.code = cc) {own ref C : String} {T : u_T} {N ci index : Nat} {Ts : List Cond} (hts : ∀ w ∈ Ts, w.before args s = true) (hin : ∀ w ∈ u_ws C T N, w ∈ Ts) (ty0 : Nat → FieldType) (hty : ∀ k, k < N → parseFieldDescriptor (T k).2.2.1 = some (ty0 k)) (hnm : ∀ a, a < N → ∀ b, b < N → a ≠ b → (T a).2.1 ≠ (T b).2.1) (hown : s.vm.findClass own = some m.cls) (hK : va_K D cl tys s) (hM : mw D cl A w H) (hS : va_S A H0 H locs) {fs : List Value} (he : w a = some (.inr (ci, fs))) (hc : cl[ci]? = some (C, T, N)) (k : Nat) (hk : k < N) (hlink : (Cond.fieldLink own index ref (T k).2.1 (T k).2.2.1).before args s = true) (hsame : ∀ x, s.fieldFound? (T k).1 (T k).2.1 (T k).2.2.1 = some x → s.fieldFound? ref (T k).2.1 (T k).2.2.1 = some x) (hfin : (T k).2.2.2 = false) {ty : FieldType} {v : Value} (hd : parseFieldDescriptor (T k).2.2.1 = some ty) (hn : narrow ty v = v) (hfit : fits ty v = true) (hl : k < fs.length) (hdg : decode cc pc = .ok (.putfield index, 3)) {fs' : List Value} (hfs : fs.set k v = fs')
    (kk : ∀ (H : Heap) (locs : List Loc), mw D cl A (va_up w a (some (.inr (ci, fs')))) H → va_S A H0 H locs → W p l e R s m args below meth c H locs cells slots Q (F0 m (pc + 3) ls rest)) : W p l e R s m args below meth c H locs cells slots Q (F0 m pc ls (v :: .ref a :: rest)) := by
  obtain ⟨ws, hP, hD, hall⟩ := mw_list hM
  obtain ⟨q0, hq0⟩ := hall _ _ he
  subst hfs
  exact va_put hexec hb hts hin ty0 hty hnm hown hK hP hD hS q0 hq0 hc k hk hlink hsame hfin hd hn hfit hl hdg (fun H1 locs1 hP1 hD1 hS1 => kk H1 locs1 (mw_upd hall hq0 hP1 hD1) hS1)
theorem m_putF (hexec : p.tables.exec = Jvm.exec) (hb : c.code = cc) {own ref C : String} {T : u_T} {N ci index : Nat} {Ts : List Cond} (hts : ∀ w ∈ Ts, w.before args s = true) (hin : ∀ w ∈ u_ws C T N, w ∈ Ts) (ty0 : Nat → FieldType) (hty : ∀ k, k < N → parseFieldDescriptor (T k).2.2.1 = some (ty0 k)) (hnm : ∀ a, a < N → ∀ b, b < N → a ≠ b → (T a).2.1 ≠ (T b).2.1) (hown : s.vm.findClass own = some m.cls) (hK : va_K D cl tys s) (hM : mw D cl A w H) (hS : va_S A H0 H locs) {fs : List Value} (he : w a = some (.inr (ci, fs))) (hc : cl[ci]? = some (C, T, N)) (k : Nat) (hk : k < N) (hlink : (Cond.fieldLink own index ref (T k).2.1 (T k).2.2.1).before args s = true) (hsame : ∀ x, s.fieldFound? (T k).1 (T k).2.1 (T k).2.2.1 = some x → s.fieldFound? ref (T k).2.1 (T k).2.2.1 = some x) (hfin : (T k).2.2.2 = true) (hin2 : meth.name = "<init>") (hdecl : (T k).1 = own) {ty : FieldType} {v : Value} (hd : parseFieldDescriptor (T k).2.2.1 = some ty) (hn : narrow ty v = v) (hfit : fits ty v = true) (hl : k < fs.length) (hdg : decode cc pc = .ok (.putfield index, 3)) {fs' : List Value} (hfs : fs.set k v = fs')
    (kk : ∀ (H : Heap) (locs : List Loc), mw D cl A (va_up w a (some (.inr (ci, fs')))) H → va_S A H0 H locs → W p l e R s m args below meth c H locs cells slots Q (F0 m (pc + 3) ls rest)) : W p l e R s m args below meth c H locs cells slots Q (F0 m pc ls (v :: .ref a :: rest)) := by
  obtain ⟨ws, hP, hD, hall⟩ := mw_list hM
  obtain ⟨q0, hq0⟩ := hall _ _ he
  subst hfs
  exact va_putF hexec hb hts hin ty0 hty hnm hown hK hP hD hS q0 hq0 hc k hk hlink hsame hfin hin2 hdecl hd hn hfit hl hdg (fun H1 locs1 hP1 hD1 hS1 => kk H1 locs1 (mw_upd hall hq0 hP1 hD1) hS1)
theorem m_aald (hexec : p.tables.exec = Jvm.exec) (hb : c.code = cc) (hK : va_K D cl tys s) (hM : mw D cl A w H) (t0 : Nat) {cA : ClassId} {C : String} {n : Nat} {f : Nat → Option Nat} (ha : w a = some (.inl (cA, n, .inr (.inr (.inr (.inr f)))))) (ht : tys[t0]? = some (cA, .object C)) {i : Int32} (hin : vp_in i n) {v : Value} (hv : va_rf (f i.toNatClampNeg) = v) (hdg : decode cc pc = .ok (.aaload, 1))
    (kk : W p l e R s m args below meth c H locs cells slots Q (F0 m (pc + 1) ls (v :: rest))) : W p l e R s m args below meth c H locs cells slots Q (F0 m pc ls (.int i :: .ref a :: rest)) := by
  obtain ⟨ws, hP, hD, hall⟩ := mw_list hM
  obtain ⟨q0, hq0⟩ := hall _ _ ha
  subst hv
  exact va_aldq hexec hb hK hP q0 t0 hq0 ht hin hdg kk
theorem m_iald (hexec : p.tables.exec = Jvm.exec) (hb : c.code = cc) (hK : va_K D cl tys s) (hM : mw D cl A w H) (t0 : Nat) {cA : ClassId} {n : Nat} {f : Nat → Int32} (ha : w a = some (.inl (cA, n, .inl f))) (ht : tys[t0]? = some (cA, .int)) {i : Int32} (hin : vp_in i n) (hdg : decode cc pc = .ok (.iaload, 1))
    (kk : W p l e R s m args below meth c H locs cells slots Q (F0 m (pc + 1) ls (.int (f i.toNatClampNeg) :: rest))) : W p l e R s m args below meth c H locs cells slots Q (F0 m pc ls (.int i :: .ref a :: rest)) := by
  obtain ⟨ws, hP, hD, hall⟩ := mw_list hM
  obtain ⟨q0, hq0⟩ := hall _ _ ha
  exact va_iald hexec hb hK hP q0 t0 hq0 ht hin hdg kk
theorem m_bald (hexec : p.tables.exec = Jvm.exec) (hb : c.code = cc) (hK : va_K D cl tys s) (hM : mw D cl A w H) (t0 : Nat) {cA : ClassId} {n : Nat} {f : Nat → Int32} (ha : w a = some (.inl (cA, n, .inl f))) (ht : tys[t0]? = some (cA, .byte)) {i : Int32} (hin : vp_in i n) (hdg : decode cc pc = .ok (.baload, 1))
    (kk : W p l e R s m args below meth c H locs cells slots Q (F0 m (pc + 1) ls (.int (f i.toNatClampNeg) :: rest))) : W p l e R s m args below meth c H locs cells slots Q (F0 m pc ls (.int i :: .ref a :: rest)) := by
  obtain ⟨ws, hP, hD, hall⟩ := mw_list hM
  obtain ⟨q0, hq0⟩ := hall _ _ ha
  exact va_bald hexec hb hK hP q0 t0 hq0 ht hin hdg kk
theorem m_zald (hexec : p.tables.exec = Jvm.exec) (hb : c.code = cc) (hK : va_K D cl tys s) (hM : mw D cl A w H) (t0 : Nat) {cA : ClassId} {n : Nat} {f : Nat → Int32} (ha : w a = some (.inl (cA, n, .inl f))) (ht : tys[t0]? = some (cA, .boolean)) {i : Int32} (hin : vp_in i n) (hdg : decode cc pc = .ok (.baload, 1))
    (kk : W p l e R s m args below meth c H locs cells slots Q (F0 m (pc + 1) ls (.int (f i.toNatClampNeg) :: rest))) : W p l e R s m args below meth c H locs cells slots Q (F0 m pc ls (.int i :: .ref a :: rest)) := by
  obtain ⟨ws, hP, hD, hall⟩ := mw_list hM
  obtain ⟨q0, hq0⟩ := hall _ _ ha
  exact va_zald hexec hb hK hP q0 t0 hq0 ht hin hdg kk
theorem m_lald (hexec : p.tables.exec = Jvm.exec) (hb : c.code = cc) (hK : va_K D cl tys s) (hM : mw D cl A w H) (t0 : Nat) {cA : ClassId} {n : Nat} {f : Nat → Int64} (ha : w a = some (.inl (cA, n, .inr (.inl f)))) (ht : tys[t0]? = some (cA, .long)) {i : Int32} (hin : vp_in i n) (hdg : decode cc pc = .ok (.laload, 1))
    (kk : W p l e R s m args below meth c H locs cells slots Q (F0 m (pc + 1) ls (.long (f i.toNatClampNeg) :: rest))) : W p l e R s m args below meth c H locs cells slots Q (F0 m pc ls (.int i :: .ref a :: rest)) := by
  obtain ⟨ws, hP, hD, hall⟩ := mw_list hM
  obtain ⟨q0, hq0⟩ := hall _ _ ha
  exact va_lald hexec hb hK hP q0 t0 hq0 ht hin hdg kk
theorem m_iast (hexec : p.tables.exec = Jvm.exec) (hb : c.code = cc) (hK : va_K D cl tys s) (hM : mw D cl A w H) (hS : va_S A H0 H locs) (t0 : Nat) {cA : ClassId} {n : Nat} {f : Nat → Int32} (ha : w a = some (.inl (cA, n, .inl f))) (ht : tys[t0]? = some (cA, .int)) {i x : Int32} (hin : vp_in i n) (hdg : decode cc pc = .ok (.iastore, 1))
    (kk : ∀ (H : Heap) (locs : List Loc), mw D cl A (va_up w a (some (.inl (cA, n, .inl (upd f i.toNatClampNeg x))))) H → va_S A H0 H locs → W p l e R s m args below meth c H locs cells slots Q (F0 m (pc + 1) ls rest)) : W p l e R s m args below meth c H locs cells slots Q (F0 m pc ls (.int x :: .int i :: .ref a :: rest)) := by
  obtain ⟨ws, hP, hD, hall⟩ := mw_list hM
  obtain ⟨q0, hq0⟩ := hall _ _ ha
  exact va_iast hexec hb hK hP hD hS q0 t0 hq0 ht hin hdg (fun H1 locs1 hP1 hD1 hS1 => kk H1 locs1 (mw_upd hall hq0 hP1 hD1) hS1)
theorem m_bast (hexec : p.tables.exec = Jvm.exec) (hb : c.code = cc) (hK : va_K D cl tys s) (hM : mw D cl A w H) (hS : va_S A H0 H locs) (t0 : Nat) {cA : ClassId} {n : Nat} {f : Nat → Int32} (ha : w a = some (.inl (cA, n, .inl f))) (ht : tys[t0]? = some (cA, .byte)) {i x : Int32} (hin : vp_in i n) (hdg : decode cc pc = .ok (.bastore, 1))
    (kk : ∀ (H : Heap) (locs : List Loc), mw D cl A (va_up w a (some (.inl (cA, n, .inl (upd f i.toNatClampNeg (vp_nar .byte x)))))) H → va_S A H0 H locs → W p l e R s m args below meth c H locs cells slots Q (F0 m (pc + 1) ls rest)) : W p l e R s m args below meth c H locs cells slots Q (F0 m pc ls (.int x :: .int i :: .ref a :: rest)) := by
  obtain ⟨ws, hP, hD, hall⟩ := mw_list hM
  obtain ⟨q0, hq0⟩ := hall _ _ ha
  exact va_bast hexec hb hK hP hD hS q0 t0 hq0 ht hin hdg (fun H1 locs1 hP1 hD1 hS1 => kk H1 locs1 (mw_upd hall hq0 hP1 hD1) hS1)
theorem m_zast (hexec : p.tables.exec = Jvm.exec) (hb : c.code = cc) (hK : va_K D cl tys s) (hM : mw D cl A w H) (hS : va_S A H0 H locs) (t0 : Nat) {cA : ClassId} {n : Nat} {f : Nat → Int32} (ha : w a = some (.inl (cA, n, .inl f))) (ht : tys[t0]? = some (cA, .boolean)) {i x : Int32} (hin : vp_in i n) (hdg : decode cc pc = .ok (.bastore, 1))
    (kk : ∀ (H : Heap) (locs : List Loc), mw D cl A (va_up w a (some (.inl (cA, n, .inl (upd f i.toNatClampNeg (vp_nar .boolean x)))))) H → va_S A H0 H locs → W p l e R s m args below meth c H locs cells slots Q (F0 m (pc + 1) ls rest)) : W p l e R s m args below meth c H locs cells slots Q (F0 m pc ls (.int x :: .int i :: .ref a :: rest)) := by
  obtain ⟨ws, hP, hD, hall⟩ := mw_list hM
  obtain ⟨q0, hq0⟩ := hall _ _ ha
  exact va_zast hexec hb hK hP hD hS q0 t0 hq0 ht hin hdg (fun H1 locs1 hP1 hD1 hS1 => kk H1 locs1 (mw_upd hall hq0 hP1 hD1) hS1)
theorem m_last (hexec : p.tables.exec = Jvm.exec) (hb : c.code = cc) (hK : va_K D cl tys s) (hM : mw D cl A w H) (hS : va_S A H0 H locs) (t0 : Nat) {cA : ClassId} {n : Nat} {f : Nat → Int64} (ha : w a = some (.inl (cA, n, .inr (.inl f)))) (ht : tys[t0]? = some (cA, .long)) {i : Int32} {x : Int64} (hin : vp_in i n) (hdg : decode cc pc = .ok (.lastore, 1))
    (kk : ∀ (H : Heap) (locs : List Loc), mw D cl A (va_up w a (some (.inl (cA, n, .inr (.inl (vp_updL f i.toNatClampNeg x)))))) H → va_S A H0 H locs → W p l e R s m args below meth c H locs cells slots Q (F0 m (pc + 1) ls rest)) : W p l e R s m args below meth c H locs cells slots Q (F0 m pc ls (.long x :: .int i :: .ref a :: rest)) := by
  obtain ⟨ws, hP, hD, hall⟩ := mw_list hM
  obtain ⟨q0, hq0⟩ := hall _ _ ha
  exact va_last hexec hb hK hP hD hS q0 t0 hq0 ht hin hdg (fun H1 locs1 hP1 hD1 hS1 => kk H1 locs1 (mw_upd hall hq0 hP1 hD1) hS1)
theorem m_aast (hexec : p.tables.exec = Jvm.exec) (hb : c.code = cc) (hK : va_K D cl tys s) (hM : mw D cl A w H) (hS : va_S A H0 H locs) (t0 ci : Nat) {cA : ClassId} {r : vw_C} {n v : Nat} {vs : List Value} {f : Nat → Option Nat} (ha : w a = some (.inl (cA, n, .inr (.inr (.inr (.inr f)))))) (ht : tys[t0]? = some (cA, .object r.1)) (hv : w v = some (.inr (ci, vs))) (hc : cl[ci]? = some r) {i : Int32} (hin : vp_in i n) (hdg : decode cc pc = .ok (.aastore, 1))
    (kk : ∀ (H : Heap) (locs : List Loc), mw D cl A (va_up w a (some (.inl (cA, n, .inr (.inr (.inr (.inr (va_up f i.toNatClampNeg (some v))))))))) H → va_S A H0 H locs → W p l e R s m args below meth c H locs cells slots Q (F0 m (pc + 1) ls rest)) : W p l e R s m args below meth c H locs cells slots Q (F0 m pc ls (.ref v :: .int i :: .ref a :: rest)) := by
  obtain ⟨ws, hP, hD, hall⟩ := mw_list hM
  obtain ⟨q0, hq0⟩ := hall _ _ ha
  obtain ⟨qk, hqk⟩ := hall _ _ hv
  exact va_astq hexec hb hK hP hD hS q0 t0 qk ci hq0 ht hqk hc hin hdg (fun H1 locs1 hP1 hD1 hS1 => kk H1 locs1 (mw_upd hall hq0 hP1 hD1) hS1)
theorem m_alen (hexec : p.tables.exec = Jvm.exec) (hb : c.code = cc) (hK : va_K D cl tys s) (hM : mw D cl A w H) (t0 : Nat) {cA : ClassId} {x : vp_A} (ha : w a = some (.inl (cA, x))) {ty : FieldType} (ht : tys[t0]? = some (cA, ty)) {v : Int32} (hv : Int32.ofNat x.1 = v) (hdg : decode cc pc = .ok (.arraylength, 1))
    (kk : W p l e R s m args below meth c H locs cells slots Q (F0 m (pc + 1) ls (.int v :: rest))) : W p l e R s m args below meth c H locs cells slots Q (F0 m pc ls (.ref a :: rest)) := by
  obtain ⟨ws, hP, hD, hall⟩ := mw_list hM
  obtain ⟨q0, hq0⟩ := hall _ _ ha
  exact va_alen hexec hb hK hP q0 t0 hq0 ht hv hdg kk
theorem m_new (hexec : p.tables.exec = Jvm.exec) (hb : c.code = cc) {own C : String} {T : u_T} {N ci index : Nat} {Ts : List Cond} (hts : ∀ w ∈ Ts, w.before args s = true) (hin : ∀ w ∈ u_ws C T N, w ∈ Ts) (ty : Nat → FieldType) (hty : ∀ k, k < N → parseFieldDescriptor (T k).2.2.1 = some (ty k)) (hown : s.vm.findClass own = some m.cls) (hcl : (Cond.classLink own index C).before args s = true) (hinst : (Cond.instantiable C N).before args s = true) (hini : (Cond.initialized C).before args s = true)
    (hK : va_K D cl tys s) (hM : mw D cl A w H) (hS : va_S A H0 H locs) (hA : ∀ q, H0.size ≤ q → A q) (hc : cl[ci]? = some (C, T, N)) {fs : List Value} (hfs : ∀ j, j < N → defaultValue (ty j) = vp_V fs j) (hcells : cells + 1 ≤ R.cells) (hslots : slots + N ≤ R.slots) (hdg : decode cc pc = .ok (.new index, 3))
    (kk : ∀ (q : Nat) (H : Heap), w q = none → mw D cl A (va_up w q (some (.inr (ci, fs)))) H → va_S A H0 H locs → W p l e R s m args below meth c H locs (cells + 1) (slots + N) Q (F0 m (pc + 3) ls (.ref q :: rest))) : W p l e R s m args below meth c H locs cells slots Q (F0 m pc ls rest) := by
  obtain ⟨ws, hP, hD, hall⟩ := mw_list hM
  exact va_new hexec hb hts hin ty hty hown hcl hinst hini hK hP hD hS hA hc hfs hcells hslots hdg (fun q H1 hP1 hD1 hS1 => kk q H1 (mw_push hall hP1 hD1).2 (mw_push hall hP1 hD1).1 hS1)
theorem m_newa (hexec : p.tables.exec = Jvm.exec) (hb : c.code = cc) {atype : ArrayType} (harr : (Cond.arrayClass (newarray.typeOf atype)).before args s = true) {ty : FieldType} (hty : newarray.typeOf atype = ty) (hK : va_K D cl tys s) (hM : mw D cl A w H) (hS : va_S A H0 H locs) (hA : ∀ q, H0.size ≤ q → A q) {n : Int32} {N' : Nat} {a0 : vp_A} (ha : ∀ cA : ClassId, vp_cell cA a0 = arrV cA N' (fun _ => defaultValue ty)) (hn : ¬ n < 0) (hN : n.toNatClampNeg = N') (hbytes : N' * componentBytes ty ≤ 536870912) (hcells : cells + 1 ≤ R.cells) (hslots : slots + N' ≤ R.slots) (hdg : decode cc pc = .ok (.newarray atype, 2))
    (kk : ∀ (q : Nat) (cA : ClassId) (H : Heap), va_K D cl (tys ++ [(cA, ty)]) s → w q = none → mw D cl A (va_up w q (some (.inl (cA, a0)))) H → va_S A H0 H locs → W p l e R s m args below meth c H locs (cells + 1) (slots + N') Q (F0 m (pc + 2) ls (.ref q :: rest))) : W p l e R s m args below meth c H locs cells slots Q (F0 m pc ls (.int n :: rest)) := by
  obtain ⟨ws, hP, hD, hall⟩ := mw_list hM
  exact va_newa hexec hb harr hty hK hP hD hS hA ha hn hN hbytes hcells hslots hdg (fun q cA H1 hK1 hP1 hD1 hS1 => kk q cA H1 hK1 (mw_push hall hP1 hD1).2 (mw_push hall hP1 hD1).1 hS1)
theorem m_newq (hexec : p.tables.exec = Jvm.exec) (hb : c.code = cc) {own C : String} {index : Nat} (hown : s.vm.findClass own = some m.cls) (hclink : (Cond.classLink own index C).before args s = true) (hover : va_AO C s) (hK : va_K D cl tys s) (hM : mw D cl A w H) (hS : va_S A H0 H locs) (hA : ∀ q, H0.size ≤ q → A q) {n : Int32} {N' : Nat} (hn : ¬ n < 0) (hN : n.toNatClampNeg = N') (hbytes : N' * 4 ≤ 536870912) (hcells : cells + 1 ≤ R.cells) (hslots : slots + N' ≤ R.slots) (hdg : decode cc pc = .ok (.anewarray index, 3))
    (kk : ∀ (q : Nat) (cA : ClassId) (H : Heap), va_K D cl (tys ++ [(cA, .object C)]) s → w q = none → mw D cl A (va_up w q (some (.inl (cA, N', .inr (.inr (.inr (.inr (fun _ => none)))))))) H → va_S A H0 H locs → W p l e R s m args below meth c H locs (cells + 1) (slots + N') Q (F0 m (pc + 3) ls (.ref q :: rest))) : W p l e R s m args below meth c H locs cells slots Q (F0 m pc ls (.int n :: rest)) := by
  obtain ⟨ws, hP, hD, hall⟩ := mw_list hM
  exact va_newq hexec hb hown hclink hover hK hP hD hS hA hn hN hbytes hcells hslots hdg (fun q cA H1 hK1 hP1 hD1 hS1 => kk q cA H1 hK1 (mw_push hall hP1 hD1).2 (mw_push hall hP1 hD1).1 hS1)
theorem m_recv (hK : va_K D cl tys s) (hM : mw D cl A w H) {ci : Nat} {q : vw_C} {fs : List Value} (hc : cl[ci]? = some q) (he : w a = some (.inr (ci, fs))) : ∃ cell : Cell, H[a]? = some cell ∧ cell.vm.isStatics = false ∧ s.vm.findClass q.1 = some cell.cls := by
  obtain ⟨ws, hP, hD, hall⟩ := mw_list hM
  obtain ⟨q0, hq0⟩ := hall _ _ he
  exact va_recv hK hP hc hq0
end MW
/-- two addresses with different things are two -/
theorem m_ne {w : Nat → Option va_E} {a b : Nat} {x y : va_E} (h1 : w a = some x) (h2 : w b = some y) (h : x ≠ y) : a ≠ b := by
  intro q
  subst q
  rw [h1] at h2
  exact h (Option.some.inj h2)
theorem m_newne {w : Nat → Option va_E} {a b : Nat} {x : va_E} (h1 : w a = some x) (h2 : w b = none) : a ≠ b := by
  intro q
  subst q
  rw [h1] at h2
  cases h2
end
section
/-! CALLS OF METHODS THAT MAY THROW, where a throw keeps every old cell -/
def x_K (px : String → Prop) : String → State → State → Prop := fun E st t => px E ∧ st.heap.size ≤ t.heap.size ∧ ∀ q : Nat, q < st.heap.size → t.heap[q]? = st.heap[q]?
section XR
variable {p : Program} {l : Launch} {e : Env} {R : Room} {s : State} {m : MethodId} {args : Array Value} {below : List Frame} {meth : Method} {c : Code} {H : Heap} {locs : List Loc} {cells slots : Nat} {Q : State → Prop}
variable {mc ms : Nat} {free : Addr → Prop} {A0 A1 : Nat → Prop} {H0 : Heap} {a : Array Value} {pc : Nat} {ls : Array Slot} {st0 rest : List Value} {px : String → Prop}
theorem x_locs {H1 : Heap} {L : List Loc} (hS : va_S A0 H0 H locs) (hz : H.size ≤ H1.size) (hk : ∀ q : Nat, q < H.size → H1[q]? = H[q]?) (hf : ∀ q, free q → A0 q) (hL : ∀ q ∈ L, free q.base) : va_S A0 H0 H1 (locs ++ L) :=
  ⟨Nat.le_trans hS.1 hz, fun q h1 h2 => (hk q (Nat.lt_of_lt_of_le h1 hS.1)).trans (hS.2.1 q h1 h2), fun q hq => (List.mem_append.mp hq).elim (hS.2.2 q) (fun h => hf _ (hL q h))⟩
/-- the throw's side of a call -/
abbrev x_kx (p : Program) (l : Launch) (e : Env) (R : Room) (s : State) (m : MethodId) (args : Array Value) (below : List Frame) (meth : Method) (c : Code) (H : Heap) (cells slots : Nat) (Q : State → Prop) (A0 : Nat → Prop) (H0 : Heap) (px : String → Prop) (g : JFrame) : Prop :=
  ∀ (E : String) (ce : Cell) (q9 : Addr) (H1 : Heap) (locs1 : List Loc), px E → H.size ≤ H1.size → (∀ q : Nat, q < H.size → H1[q]? = H[q]?) → va_S A0 H0 H1 locs1 → H1[q9]? = some ce → ce.vm = .none → s.vm.findClass E = some ce.cls → vx_W p l e R s m args below meth c H1 locs1 cells slots Q g q9
theorem x_callSi {post : Int32 → Prop} (hr : vx_Run p l e R s m args below meth c H locs cells slots mc ms (F0 m pc ls st0) rest (vp_Si post a) (x_K px) free) (hS : va_S A0 H0 H locs) (hf : ∀ q, free q → A0 q)
    (kx : x_kx p l e R s m args below meth c H (cells + mc) (slots + ms) Q A0 H0 px (F0 m pc ls rest))
    (kk : ∀ (r : Int32) (locs1 : List Loc), post r → va_S A0 H0 H locs1 → W p l e R s m args below meth c H locs1 (cells + mc) (slots + ms) Q (F0 m (pc + 3) ls (.int r :: rest))) : W p l e R s m args below meth c H locs cells slots Q (F0 m pc ls st0) := by
  intro T hT X
  rcases hr T hT X with ⟨v, st₀, t, T', L, h0, X', hL, e1, e2, ⟨r, hv, hp, hh⟩, st⟩ | ⟨q, st₀, t, T', L, E, ce, h0, X', hL, e1, e2, ⟨hp, hz, hk⟩, hce, hcv, hcl, st⟩
  · cases hv
    have hH : T'.heap = H := by rw [e1, hh, h0]
    obtain ⟨t2, a1, b1⟩ := kk r (locs ++ L) hp (x_locs hS (Nat.le_refl _) (fun _ _ => rfl) hf hL) T' hH X'
    exact ⟨t2, st t2 a1, b1⟩
  · rw [h0] at hz hk
    rw [← e1] at hz hk
    obtain ⟨t2, a1, b1⟩ := kx E ce q T'.heap (locs ++ L) hp hz hk (x_locs hS hz hk hf hL) (by rw [e1]; exact hce) hcv hcl T' rfl X'
    exact ⟨t2, st.trans a1, b1⟩
theorem x_callSq {post : Option Nat → Prop} (hr : vx_Run p l e R s m args below meth c H locs cells slots mc ms (F0 m pc ls st0) rest (va_Sq post a) (x_K px) free) (hS : va_S A0 H0 H locs) (hf : ∀ q, free q → A0 q)
    (kx : x_kx p l e R s m args below meth c H (cells + mc) (slots + ms) Q A0 H0 px (F0 m pc ls rest))
    (kk : ∀ (r : Option Nat) (locs1 : List Loc), post r → va_S A0 H0 H locs1 → W p l e R s m args below meth c H locs1 (cells + mc) (slots + ms) Q (F0 m (pc + 3) ls (va_rf r :: rest))) : W p l e R s m args below meth c H locs cells slots Q (F0 m pc ls st0) := by
  intro T hT X
  rcases hr T hT X with ⟨v, st₀, t, T', L, h0, X', hL, e1, e2, ⟨r, hv, hp, hh⟩, st⟩ | ⟨q, st₀, t, T', L, E, ce, h0, X', hL, e1, e2, ⟨hp, hz, hk⟩, hce, hcv, hcl, st⟩
  · cases hv
    have hH : T'.heap = H := by rw [e1, hh, h0]
    obtain ⟨t2, a1, b1⟩ := kk r (locs ++ L) hp (x_locs hS (Nat.le_refl _) (fun _ _ => rfl) hf hL) T' hH X'
    exact ⟨t2, st t2 a1, b1⟩
  · rw [h0] at hz hk
    rw [← e1] at hz hk
    obtain ⟨t2, a1, b1⟩ := kx E ce q T'.heap (locs ++ L) hp hz hk (x_locs hS hz hk hf hL) (by rw [e1]; exact hce) hcv hcl T' rfl X'
    exact ⟨t2, st.trans a1, b1⟩
theorem x_callSv {post : Unit → Prop} (hr : vx_Run p l e R s m args below meth c H locs cells slots mc ms (F0 m pc ls st0) rest (va_Sv post a) (x_K px) free) (hS : va_S A0 H0 H locs) (hf : ∀ q, free q → A0 q)
    (kx : x_kx p l e R s m args below meth c H (cells + mc) (slots + ms) Q A0 H0 px (F0 m pc ls rest))
    (kk : ∀ (locs1 : List Loc), post () → va_S A0 H0 H locs1 → W p l e R s m args below meth c H locs1 (cells + mc) (slots + ms) Q (F0 m (pc + 3) ls rest)) : W p l e R s m args below meth c H locs cells slots Q (F0 m pc ls st0) := by
  intro T hT X
  rcases hr T hT X with ⟨v, st₀, t, T', L, h0, X', hL, e1, e2, ⟨hv, hp, hh⟩, st⟩ | ⟨q, st₀, t, T', L, E, ce, h0, X', hL, e1, e2, ⟨hp, hz, hk⟩, hce, hcv, hcl, st⟩
  · cases hv
    have hH : T'.heap = H := by rw [e1, hh, h0]
    obtain ⟨t2, a1, b1⟩ := kk (locs ++ L) hp (x_locs hS (Nat.le_refl _) (fun _ _ => rfl) hf hL) T' hH X'
    exact ⟨t2, st t2 a1, b1⟩
  · rw [h0] at hz hk
    rw [← e1] at hz hk
    obtain ⟨t2, a1, b1⟩ := kx E ce q T'.heap (locs ++ L) hp hz hk (x_locs hS hz hk hf hL) (by rw [e1]; exact hce) hcv hcl T' rfl X'
    exact ⟨t2, st.trans a1, b1⟩
theorem x_callWi {S : Type} {post : Int32 → S → Prop} {B : S → State → Prop} (hr : vx_Run p l e R s m args below meth c H locs cells slots mc ms (F0 m pc ls st0) rest (va_Qi post B A1 a) (x_K px) free) (hS : va_S A0 H0 H locs) (hA : ∀ q, q < H.size → A1 q → A0 q) (hf : ∀ q, free q → A0 q)
    (kx : x_kx p l e R s m args below meth c H (cells + mc) (slots + ms) Q A0 H0 px (F0 m pc ls rest))
    (kk : ∀ (r : Int32) (u : S) (t : State) (H1 : Heap) (locs1 : List Loc), t.heap = H1 → s.vm.Alike t.vm → post r u → B u t → H.size ≤ H1.size → (∀ q : Nat, q < H.size → ¬ A1 q → H1[q]? = H[q]?) → va_S A0 H0 H1 locs1 → W p l e R s m args below meth c H1 locs1 (cells + mc) (slots + ms) Q (F0 m (pc + 3) ls (.int r :: rest))) : W p l e R s m args below meth c H locs cells slots Q (F0 m pc ls st0) := by
  intro T hT X
  rcases hr T hT X with ⟨v, st₀, t, T', L, h0, X', hL, e1, e2, ⟨⟨r, u, hv, hp, hb⟩, hF⟩, st⟩ | ⟨q, st₀, t, T', L, E, ce, h0, X', hL, e1, e2, ⟨hp, hz, hk⟩, hce, hcv, hcl, st⟩
  · cases hv
    obtain ⟨k1, k2, k3⟩ := vx_keep h0 e1 hS hA hf hL hF
    obtain ⟨t2, a1, b1⟩ := kk r u t T'.heap (locs ++ L) e1.symm (by rw [← e2]; exact X'.warmed.alike) hp hb k1 k2 k3 T' rfl X'
    exact ⟨t2, st t2 a1, b1⟩
  · rw [h0] at hz hk
    rw [← e1] at hz hk
    obtain ⟨t2, a1, b1⟩ := kx E ce q T'.heap (locs ++ L) hp hz hk (x_locs hS hz hk hf hL) (by rw [e1]; exact hce) hcv hcl T' rfl X'
    exact ⟨t2, st.trans a1, b1⟩
theorem x_callWv {S : Type} {post : S → Prop} {B : S → State → Prop} (hr : vx_Run p l e R s m args below meth c H locs cells slots mc ms (F0 m pc ls st0) rest (va_Qv post B A1 a) (x_K px) free) (hS : va_S A0 H0 H locs) (hA : ∀ q, q < H.size → A1 q → A0 q) (hf : ∀ q, free q → A0 q)
    (kx : x_kx p l e R s m args below meth c H (cells + mc) (slots + ms) Q A0 H0 px (F0 m pc ls rest))
    (kk : ∀ (u : S) (t : State) (H1 : Heap) (locs1 : List Loc), t.heap = H1 → s.vm.Alike t.vm → post u → B u t → H.size ≤ H1.size → (∀ q : Nat, q < H.size → ¬ A1 q → H1[q]? = H[q]?) → va_S A0 H0 H1 locs1 → W p l e R s m args below meth c H1 locs1 (cells + mc) (slots + ms) Q (F0 m (pc + 3) ls rest)) : W p l e R s m args below meth c H locs cells slots Q (F0 m pc ls st0) := by
  intro T hT X
  rcases hr T hT X with ⟨v, st₀, t, T', L, h0, X', hL, e1, e2, ⟨⟨u, hv, hp, hb⟩, hF⟩, st⟩ | ⟨q, st₀, t, T', L, E, ce, h0, X', hL, e1, e2, ⟨hp, hz, hk⟩, hce, hcv, hcl, st⟩
  · cases hv
    obtain ⟨k1, k2, k3⟩ := vx_keep h0 e1 hS hA hf hL hF
    obtain ⟨t2, a1, b1⟩ := kk u t T'.heap (locs ++ L) e1.symm (by rw [← e2]; exact X'.warmed.alike) hp hb k1 k2 k3 T' rfl X'
    exact ⟨t2, st t2 a1, b1⟩
  · rw [h0] at hz hk
    rw [← e1] at hz hk
    obtain ⟨t2, a1, b1⟩ := kx E ce q T'.heap (locs ++ L) hp hz hk (x_locs hS hz hk hf hL) (by rw [e1]; exact hce) hcv hcl T' rfl X'
    exact ⟨t2, st.trans a1, b1⟩
end XR
end
section
/-! small things: switches, refusals by number, the state of the class -/
theorem i_of {x : Int32} {k : Int} (h : x.toInt = k) : x = Int32.ofInt k := by rw [← h]; exact (Int32.ofInt_toInt x).symm
theorem sw_5 (x : Int32) : x = 0 ∨ x = 1 ∨ x = 2 ∨ x = 3 ∨ x = 4 ∨ (x.toInt < 0 ∨ 4 < x.toInt) := by
  by_cases h : x.toInt < 0 ∨ 4 < x.toInt
  · exact Or.inr (Or.inr (Or.inr (Or.inr (Or.inr h))))
  · have h1 : x.toInt = 0 ∨ x.toInt = 1 ∨ x.toInt = 2 ∨ x.toInt = 3 ∨ x.toInt = 4 := by omega
    rcases h1 with h | h | h | h | h
    · exact Or.inl (i_of h)
    · exact Or.inr (Or.inl (i_of h))
    · exact Or.inr (Or.inr (Or.inl (i_of h)))
    · exact Or.inr (Or.inr (Or.inr (Or.inl (i_of h))))
    · exact Or.inr (Or.inr (Or.inr (Or.inr (Or.inl (i_of h)))))
/-- the refusals: 1 unknown number, 2 out of range, 3 not in this state, 4 no room -/
def exN (k : Nat) : String := if k = 1 then "java/lang/IllegalArgumentException" else if k = 2 then "java/lang/IndexOutOfBoundsException" else if k = 3 then "java/lang/IllegalStateException" else "java/lang/UnsupportedOperationException"
end
section
/-! calls over the one list of words; what a call wants of the map -/
theorem as_SceneTimes_isWriter : Cond.selects "SceneTimes" ⟨"SceneTimes", "isWriter", "(I)Z"⟩ ⟨"SceneTimes", "isWriter", "(I)Z"⟩ ∈ AL := AL_s (List.mem_of_getElem? (i := 1) (by decide +kernel)) rfl
theorem as_SceneTimes_hasCome : Cond.selects "SceneTimes" ⟨"SceneTimes", "hasCome", "(I)Z"⟩ ⟨"SceneTimes", "hasCome", "(I)Z"⟩ ∈ AL := AL_s (List.mem_of_getElem? (i := 2) (by decide +kernel)) rfl
theorem as_SceneTimes_noteOf : Cond.selects "SceneTimes" ⟨"SceneTimes", "noteOf", "(I)LSceneTimes$Note;"⟩ ⟨"SceneTimes", "noteOf", "(I)LSceneTimes$Note;"⟩ ∈ AL := AL_s (List.mem_of_getElem? (i := 3) (by decide +kernel)) rfl
theorem as_SceneTimes_refuseActWithoutRoom : Cond.selects "SceneTimes" ⟨"SceneTimes", "refuseActWithoutRoom", "()V"⟩ ⟨"SceneTimes", "refuseActWithoutRoom", "()V"⟩ ∈ AL := AL_s (List.mem_of_getElem? (i := 4) (by decide +kernel)) rfl
theorem as_SceneTimes_Sheet_putNumber : Cond.selects "SceneTimes$Sheet" ⟨"SceneTimes$Sheet", "putNumber", "(CI)V"⟩ ⟨"SceneTimes$Sheet", "putNumber", "(CI)V"⟩ ∈ AL := AL_s (List.mem_of_getElem? (i := 5) (by decide +kernel)) rfl
theorem as_SceneTimes_Sheet_put : Cond.selects "SceneTimes$Sheet" ⟨"SceneTimes$Sheet", "put", "(C)V"⟩ ⟨"SceneTimes$Sheet", "put", "(C)V"⟩ ∈ AL := AL_s (List.mem_of_getElem? (i := 6) (by decide +kernel)) rfl
theorem as_SceneTimes_Sheet_putDigits : Cond.selects "SceneTimes$Sheet" ⟨"SceneTimes$Sheet", "putDigits", "(I)V"⟩ ⟨"SceneTimes$Sheet", "putDigits", "(I)V"⟩ ∈ AL := AL_s (List.mem_of_getElem? (i := 7) (by decide +kernel)) rfl
theorem as_SceneTimesModel_goes : Cond.selects "SceneTimesModel" ⟨"SceneTimesModel", "goes", "(IZZZZ)Z"⟩ ⟨"SceneTimesModel", "goes", "(IZZZZ)Z"⟩ ∈ AL := AL_s (List.mem_of_getElem? (i := 8) (by decide +kernel)) rfl
theorem as_SceneTimesModel_isGone : Cond.selects "SceneTimesModel" ⟨"SceneTimesModel", "isGone", "(I)Z"⟩ ⟨"SceneTimesModel", "isGone", "(I)Z"⟩ ∈ AL := AL_s (List.mem_of_getElem? (i := 9) (by decide +kernel)) rfl
theorem as_SceneTimesModel_isNote : Cond.selects "SceneTimesModel" ⟨"SceneTimesModel", "isNote", "(I)Z"⟩ ⟨"SceneTimesModel", "isNote", "(I)Z"⟩ ∈ AL := AL_s (List.mem_of_getElem? (i := 10) (by decide +kernel)) rfl
theorem as_SceneTimesModel_isStruck : Cond.selects "SceneTimesModel" ⟨"SceneTimesModel", "isStruck", "(II)Z"⟩ ⟨"SceneTimesModel", "isStruck", "(II)Z"⟩ ∈ AL := AL_s (List.mem_of_getElem? (i := 11) (by decide +kernel)) rfl
theorem as_SceneTimesModel_does : Cond.selects "SceneTimesModel" ⟨"SceneTimesModel", "does", "(III)V"⟩ ⟨"SceneTimesModel", "does", "(III)V"⟩ ∈ AL := AL_s (List.mem_of_getElem? (i := 12) (by decide +kernel)) rfl
theorem as_SceneTimesModel_many : Cond.selects "SceneTimesModel" ⟨"SceneTimesModel", "many", "(IZ)I"⟩ ⟨"SceneTimesModel", "many", "(IZ)I"⟩ ∈ AL := AL_s (List.mem_of_getElem? (i := 13) (by decide +kernel)) rfl
theorem as_SceneTimesModel_following : Cond.selects "SceneTimesModel" ⟨"SceneTimesModel", "following", "(IZIII)I"⟩ ⟨"SceneTimesModel", "following", "(IZIII)I"⟩ ∈ AL := AL_s (List.mem_of_getElem? (i := 14) (by decide +kernel)) rfl
theorem as_SceneTimesModel_isBefore : Cond.selects "SceneTimesModel" ⟨"SceneTimesModel", "isBefore", "(II)Z"⟩ ⟨"SceneTimesModel", "isBefore", "(II)Z"⟩ ∈ AL := AL_s (List.mem_of_getElem? (i := 15) (by decide +kernel)) rfl
theorem as_SceneTimesModel_value : Cond.selects "SceneTimesModel" ⟨"SceneTimesModel", "value", "(II)I"⟩ ⟨"SceneTimesModel", "value", "(II)I"⟩ ∈ AL := AL_s (List.mem_of_getElem? (i := 16) (by decide +kernel)) rfl
theorem as_SceneTimesModel_number : Cond.selects "SceneTimesModel" ⟨"SceneTimesModel", "number", "(II)V"⟩ ⟨"SceneTimesModel", "number", "(II)V"⟩ ∈ AL := AL_s (List.mem_of_getElem? (i := 17) (by decide +kernel)) rfl
theorem as_SceneTimesModel_put : Cond.selects "SceneTimesModel" ⟨"SceneTimesModel", "put", "(I)V"⟩ ⟨"SceneTimesModel", "put", "(I)V"⟩ ∈ AL := AL_s (List.mem_of_getElem? (i := 18) (by decide +kernel)) rfl
theorem in_X : ∀ w ∈ u_ws nR_X nT_X 6, w ∈ AL := by
  intro w hw
  obtain ⟨k, hk, rfl⟩ := List.mem_map.mp hw
  have hk := List.mem_range.mp hk
  match k, hk with
  | 0, _ => exact aw_91
  | 1, _ => exact aw_93
  | 2, _ => exact aw_95
  | 3, _ => exact aw_97
  | 4, _ => exact aw_99
  | 5, _ => exact aw_101
  | k + 6, h => exact absurd h (by omega)
theorem in_L : ∀ w ∈ u_ws nR_L nT_L 3, w ∈ AL := by
  intro w hw
  obtain ⟨k, hk, rfl⟩ := List.mem_map.mp hw
  have hk := List.mem_range.mp hk
  match k, hk with
  | 0, _ => exact aw_38
  | 1, _ => exact aw_40
  | 2, _ => exact aw_42
  | k + 3, h => exact absurd h (by omega)
theorem in_Q : ∀ w ∈ u_ws nR_Q nT_Q 4, w ∈ AL := by
  intro w hw
  obtain ⟨k, hk, rfl⟩ := List.mem_map.mp hw
  have hk := List.mem_range.mp hk
  match k, hk with
  | 0, _ => exact aw_60
  | 1, _ => exact aw_62
  | 2, _ => exact aw_64
  | 3, _ => exact aw_66
  | k + 4, h => exact absurd h (by omega)
theorem in_S : ∀ w ∈ u_ws nR_S nT_S 2, w ∈ AL := by
  intro w hw
  obtain ⟨k, hk, rfl⟩ := List.mem_map.mp hw
  have hk := List.mem_range.mp hk
  match k, hk with
  | 0, _ => exact aw_79
  | 1, _ => exact aw_81
  | k + 2, h => exact absurd h (by omega)
theorem in_N : ∀ w ∈ u_ws nR_N nT_N 10, w ∈ AL := by
  intro w hw
  obtain ⟨k, hk, rfl⟩ := List.mem_map.mp hw
  have hk := List.mem_range.mp hk
  match k, hk with
  | 0, _ => exact aw_303
  | 1, _ => exact aw_305
  | 2, _ => exact aw_307
  | 3, _ => exact aw_309
  | 4, _ => exact aw_311
  | 5, _ => exact aw_313
  | 6, _ => exact aw_315
  | 7, _ => exact aw_317
  | 8, _ => exact aw_319
  | 9, _ => exact aw_321
  | k + 10, h => exact absurd h (by omega)
theorem in_T : ∀ w ∈ u_ws nR_T nT_T 4, w ∈ AL := by
  intro w hw
  obtain ⟨k, hk, rfl⟩ := List.mem_map.mp hw
  have hk := List.mem_range.mp hk
  match k, hk with
  | 0, _ => exact aw_266
  | 1, _ => exact aw_268
  | 2, _ => exact aw_270
  | 3, _ => exact aw_272
  | k + 4, h => exact absurd h (by omega)
theorem in_M : ∀ w ∈ u_ws nR_M nT_M 21, w ∈ AL := by
  intro w hw
  obtain ⟨k, hk, rfl⟩ := List.mem_map.mp hw
  have hk := List.mem_range.mp hk
  match k, hk with
  | 0, _ => exact aw_564
  | 1, _ => exact aw_566
  | 2, _ => exact aw_568
  | 3, _ => exact aw_570
  | 4, _ => exact aw_572
  | 5, _ => exact aw_574
  | 6, _ => exact aw_576
  | 7, _ => exact aw_578
  | 8, _ => exact aw_580
  | 9, _ => exact aw_582
  | 10, _ => exact aw_584
  | 11, _ => exact aw_586
  | 12, _ => exact aw_588
  | 13, _ => exact aw_590
  | 14, _ => exact aw_592
  | 15, _ => exact aw_594
  | 16, _ => exact aw_596
  | 17, _ => exact aw_598
  | 18, _ => exact aw_600
  | 19, _ => exact aw_602
  | 20, _ => exact aw_604
  | k + 21, h => exact absurd h (by omega)
abbrev wm (y : MethodName) (b : ByteArray) (n : Nat) (r : Option FieldType) : List Cond := Cond.code y b n r :: AL
abbrev ww (y : MethodName) (b : ByteArray) (n : Nat) (r : Option FieldType) (hh : List (Nat × Nat × Nat × Nat)) : List Cond := Cond.codeWith y b n r hh :: AL
theorem gI {y : MethodName} {b : ByteArray} {n : Nat} {r : Option FieldType} (hc : Cond.code y b n r ∈ AL) : GoodIn AL (wm y b n r) := fun w hw => by
  rcases List.mem_cons.mp hw with rfl | hw
  · exact ⟨hc, AL_good hc⟩
  · exact ⟨hw, AL_good hw⟩
theorem gW {y : MethodName} {b : ByteArray} {n : Nat} {r : Option FieldType} {hh : List (Nat × Nat × Nat × Nat)} (hc : Cond.codeWith y b n r hh ∈ AL) : GoodIn AL (ww y b n r hh) := fun w hw => by
  rcases List.mem_cons.mp hw with rfl | hw
  · exact ⟨hc, AL_good hc⟩
  · exact ⟨hw, AL_good hw⟩
section CB
variable {R : Room} {s : State} {args : Array Value} {own : String} {index : Nat} {y : MethodName} {bytes : ByteArray} {maxL mc ms : Nat} {ret : Option FieldType} {rm : Room}
theorem cB (n : Nat) (hta : ∀ w ∈ AL, w.before args s = true) (hc : Cond.code y bytes maxL ret ∈ AL) (hini : Cond.initialized y.cls ∈ AL) (hl : Cond.methodLink own index y ∈ AL) (hrc : rm.cells = mc) (hrs : rm.slots = ms)
    (hd : y.cls ≠ "java/lang/invoke/MethodHandle" ∧ y.cls ≠ "java/lang/invoke/VarHandle" ∧ (parseMethodDescriptor y.desc).map (fun d => d.parameters.length) = some n) (hR : rm.frames + 1 ≤ R.frames ∧ 8 + (maxL + 11) + rm.locals ≤ R.locals) :
    CallB R s args own index y bytes maxL ret (wm y bytes maxL ret) rm mc ms n := callB_of n hta (gI hc) rfl hrc hrs (hta _ hini) (hta _ hl) hd hR
theorem cV (n : Nat) (hta : ∀ w ∈ AL, w.before args s = true) (hc : Cond.code y bytes maxL ret ∈ AL) (hini : Cond.initialized y.cls ∈ AL) (hl : Cond.methodLink own index y ∈ AL) (hi : Cond.instanceMethod y ∈ AL) (hs : Cond.selects y.cls y y ∈ AL) (hrc : rm.cells = mc) (hrs : rm.slots = ms)
    (hd : y.cls ≠ "java/lang/invoke/MethodHandle" ∧ y.cls ≠ "java/lang/invoke/VarHandle" ∧ (parseMethodDescriptor y.desc).map (fun d => d.parameters.length) = some n) (hR : rm.frames + 1 ≤ R.frames ∧ 8 + (maxL + 11) + rm.locals ≤ R.locals) :
    CallW R s args own y.cls index y bytes maxL ret (wm y bytes maxL ret) rm mc ms n := ⟨cB n hta hc hini hl hrc hrs hd hR, hta _ hi, hta _ hs⟩
theorem cS (n : Nat) (hta : ∀ w ∈ AL, w.before args s = true) (hc : Cond.code y bytes maxL ret ∈ AL) (hini : Cond.initialized y.cls ∈ AL) (hl : Cond.methodLink own index y ∈ AL) (hs : Cond.static y ∈ AL) (hrc : rm.cells = mc) (hrs : rm.slots = ms)
    (hd : y.cls ≠ "java/lang/invoke/MethodHandle" ∧ y.cls ≠ "java/lang/invoke/VarHandle" ∧ (parseMethodDescriptor y.desc).map (fun d => d.parameters.length) = some n) (hR : rm.frames + 1 ≤ R.frames ∧ 8 + (maxL + 11) + rm.locals ≤ R.locals) :
    CallB R s args own index y bytes maxL ret (wm y bytes maxL ret) rm mc ms n ∧ (Cond.static y).before args s = true := ⟨cB n hta hc hini hl hrc hrs hd hR, hta _ hs⟩
theorem cI (n : Nat) (hta : ∀ w ∈ AL, w.before args s = true) (hc : Cond.code y bytes maxL none ∈ AL) (hini : Cond.initialized y.cls ∈ AL) (hl : Cond.methodLink own index y ∈ AL) (hi : Cond.instanceMethod y ∈ AL) (hn : y.name = "<init>") (hrc : rm.cells = mc) (hrs : rm.slots = ms)
    (hd : y.cls ≠ "java/lang/invoke/MethodHandle" ∧ y.cls ≠ "java/lang/invoke/VarHandle" ∧ (parseMethodDescriptor y.desc).map (fun d => d.parameters.length) = some n) (hR : rm.frames + 1 ≤ R.frames ∧ 8 + (maxL + 11) + rm.locals ≤ R.locals) :
    CallB R s args own index y bytes maxL none (wm y bytes maxL none) rm mc ms n ∧ y.name = "<init>" ∧ (Cond.instanceMethod y).before args s = true := ⟨cB n hta hc hini hl hrc hrs hd hR, hn, hta _ hi⟩
end CB
/-- before a reader: the map, the tables -/
abbrev pW (G : va_G) (tys : List (ClassId × FieldType)) (w : Nat → Option va_E) (av : List Value) : Array Value → State → Prop := va_Pc av (fun U => mw G ncl (fun _ => True) w U.heap ∧ va_K G ncl tys U)
/-- before a writer: the heap's size too -/
abbrev pZ (G : va_G) (tys : List (ClassId × FieldType)) (w : Nat → Option va_E) (sz : Nat) (av : List Value) : Array Value → State → Prop := va_Pc av (fun U => U.heap.size = sz ∧ mw G ncl (fun _ => True) w U.heap ∧ va_K G ncl tys U)
section PP
variable {G : va_G} {tys : List (ClassId × FieldType)} {w : Nat → Option va_E} {s : State} {H : Heap} {A : Nat → Prop} {a ci : Nat} {q : vw_C} {fs As : List Value}
theorem pW_V (hK : va_K G ncl tys s) (hM : mw G ncl A w H) (hc : ncl[ci]? = some q) (he : w a = some (.inr (ci, fs))) : PreV s H q.1 a (pW G tys w (.ref a :: As)) As :=
  ⟨fun a U g mk q => ⟨q.1, q.2.1, va_K.moved (u := U) (U := U.calling g mk a) (Vm.Alike.refl U.vm) q.2.2⟩, m_recv hK hM hc he, fun U hU hW => ⟨rfl, by rw [hU]; exact mw_weaken hM (fun _ _ => trivial), va_K.moved hW.alike hK⟩⟩
theorem pW_S (hK : va_K G ncl tys s) (hM : mw G ncl A w H) : PreS s H (pW G tys w As) As :=
  ⟨fun a U g mk q => ⟨q.1, q.2.1, va_K.moved (u := U) (U := U.calling g mk a) (Vm.Alike.refl U.vm) q.2.2⟩, fun U hU hW => ⟨rfl, by rw [hU]; exact mw_weaken hM (fun _ _ => trivial), va_K.moved hW.alike hK⟩⟩
theorem pZ_V (hK : va_K G ncl tys s) (hM : mw G ncl A w H) (hc : ncl[ci]? = some q) (he : w a = some (.inr (ci, fs))) : PreV s H q.1 a (pZ G tys w H.size (.ref a :: As)) As :=
  ⟨fun a U g mk q => ⟨q.1, q.2.1, q.2.2.1, va_K.moved (u := U) (U := U.calling g mk a) (Vm.Alike.refl U.vm) q.2.2.2⟩, m_recv hK hM hc he, fun U hU hW => ⟨rfl, by rw [hU], by rw [hU]; exact mw_weaken hM (fun _ _ => trivial), va_K.moved hW.alike hK⟩⟩
theorem pZ_S (hK : va_K G ncl tys s) (hM : mw G ncl A w H) : PreS s H (pZ G tys w H.size As) As :=
  ⟨fun a U g mk q => ⟨q.1, q.2.1, q.2.2.1, va_K.moved (u := U) (U := U.calling g mk a) (Vm.Alike.refl U.vm) q.2.2.2⟩, fun U hU hW => ⟨rfl, by rw [hU], by rw [hU]; exact mw_weaken hM (fun _ _ => trivial), va_K.moved hW.alike hK⟩⟩
end PP
end
section
/-! decode rows, printed by wip/gen/names.py -/
theorem d_X_init_0 : decode c_X_init 0 = .ok (.aload_n 0, 1) := by decide +kernel
theorem d_X_init_1 : decode c_X_init 1 = .ok (.invokespecial 1, 3) := by decide +kernel
theorem d_X_init_4 : decode c_X_init 4 = .ok (.aload_n 0, 1) := by decide +kernel
theorem d_X_init_5 : decode c_X_init 5 = .ok (.new 7, 3) := by decide +kernel
theorem d_X_init_8 : decode c_X_init 8 = .ok (.dup, 1) := by decide +kernel
theorem d_X_init_9 : decode c_X_init 9 = .ok (.invokespecial 9, 3) := by decide +kernel
theorem d_X_init_12 : decode c_X_init 12 = .ok (.putfield 10, 3) := by decide +kernel
theorem d_X_init_15 : decode c_X_init 15 = .ok (.aload_n 0, 1) := by decide +kernel
theorem d_X_init_16 : decode c_X_init 16 = .ok (.new 16, 3) := by decide +kernel
theorem d_X_init_19 : decode c_X_init 19 = .ok (.dup, 1) := by decide +kernel
theorem d_X_init_20 : decode c_X_init 20 = .ok (.invokespecial 18, 3) := by decide +kernel
theorem d_X_init_23 : decode c_X_init 23 = .ok (.putfield 19, 3) := by decide +kernel
theorem d_X_init_26 : decode c_X_init 26 = .ok (.aload_n 0, 1) := by decide +kernel
theorem d_X_init_27 : decode c_X_init 27 = .ok (.new 23, 3) := by decide +kernel
theorem d_X_init_30 : decode c_X_init 30 = .ok (.dup, 1) := by decide +kernel
theorem d_X_init_31 : decode c_X_init 31 = .ok (.invokespecial 25, 3) := by decide +kernel
theorem d_X_init_34 : decode c_X_init 34 = .ok (.putfield 26, 3) := by decide +kernel
theorem d_X_init_37 : decode c_X_init 37 = .ok (.return_, 1) := by decide +kernel
theorem d_X_writer_0 : decode c_X_writer 0 = .ok (.aload_n 0, 1) := by decide +kernel
theorem d_X_writer_1 : decode c_X_writer 1 = .ok (.getfield 30, 3) := by decide +kernel
theorem d_X_writer_4 : decode c_X_writer 4 = .ok (.bipush 10, 2) := by decide +kernel
theorem d_X_writer_6 : decode c_X_writer 6 = .ok (.if_icmp .lt 13, 3) := by decide +kernel
theorem d_X_writer_9 : decode c_X_writer 9 = .ok (.new 34, 3) := by decide +kernel
theorem d_X_writer_12 : decode c_X_writer 12 = .ok (.dup, 1) := by decide +kernel
theorem d_X_writer_13 : decode c_X_writer 13 = .ok (.ldc 36, 2) := by decide +kernel
theorem d_X_writer_15 : decode c_X_writer 15 = .ok (.invokespecial 38, 3) := by decide +kernel
theorem d_X_writer_18 : decode c_X_writer 18 = .ok (.athrow, 1) := by decide +kernel
theorem d_X_writer_19 : decode c_X_writer 19 = .ok (.aload_n 0, 1) := by decide +kernel
theorem d_X_writer_20 : decode c_X_writer 20 = .ok (.dup, 1) := by decide +kernel
theorem d_X_writer_21 : decode c_X_writer 21 = .ok (.getfield 30, 3) := by decide +kernel
theorem d_X_writer_24 : decode c_X_writer 24 = .ok (.iconst 1, 1) := by decide +kernel
theorem d_X_writer_25 : decode c_X_writer 25 = .ok (.iadd, 1) := by decide +kernel
theorem d_X_writer_26 : decode c_X_writer 26 = .ok (.putfield 30, 3) := by decide +kernel
theorem d_X_writer_29 : decode c_X_writer 29 = .ok (.aload_n 0, 1) := by decide +kernel
theorem d_X_writer_30 : decode c_X_writer 30 = .ok (.getfield 30, 3) := by decide +kernel
theorem d_X_writer_33 : decode c_X_writer 33 = .ok (.iconst 1, 1) := by decide +kernel
theorem d_X_writer_34 : decode c_X_writer 34 = .ok (.isub, 1) := by decide +kernel
theorem d_X_writer_35 : decode c_X_writer 35 = .ok (.ireturn, 1) := by decide +kernel
theorem d_X_note_0 : decode c_X_note 0 = .ok (.aload_n 0, 1) := by decide +kernel
theorem d_X_note_1 : decode c_X_note 1 = .ok (.iload_n 1, 1) := by decide +kernel
theorem d_X_note_2 : decode c_X_note 2 = .ok (.invokevirtual 41, 3) := by decide +kernel
theorem d_X_note_5 : decode c_X_note 5 = .ok (.ifCond .eq 17, 3) := by decide +kernel
theorem d_X_note_8 : decode c_X_note 8 = .ok (.iload_n 2, 1) := by decide +kernel
theorem d_X_note_9 : decode c_X_note 9 = .ok (.invokestatic 45, 3) := by decide +kernel
theorem d_X_note_12 : decode c_X_note 12 = .ok (.ifCond .eq 10, 3) := by decide +kernel
theorem d_X_note_15 : decode c_X_note 15 = .ok (.iload_n 3, 1) := by decide +kernel
theorem d_X_note_16 : decode c_X_note 16 = .ok (.invokestatic 48, 3) := by decide +kernel
theorem d_X_note_19 : decode c_X_note 19 = .ok (.ifCond .ne 13, 3) := by decide +kernel
theorem d_X_note_22 : decode c_X_note 22 = .ok (.new 51, 3) := by decide +kernel
theorem d_X_note_25 : decode c_X_note 25 = .ok (.dup, 1) := by decide +kernel
theorem d_X_note_26 : decode c_X_note 26 = .ok (.ldc 53, 2) := by decide +kernel
theorem d_X_note_28 : decode c_X_note 28 = .ok (.invokespecial 55, 3) := by decide +kernel
theorem d_X_note_31 : decode c_X_note 31 = .ok (.athrow, 1) := by decide +kernel
theorem d_X_note_32 : decode c_X_note 32 = .ok (.aload_n 0, 1) := by decide +kernel
theorem d_X_note_33 : decode c_X_note 33 = .ok (.iload 4, 2) := by decide +kernel
theorem d_X_note_35 : decode c_X_note 35 = .ok (.invokevirtual 56, 3) := by decide +kernel
theorem d_X_note_38 : decode c_X_note 38 = .ok (.ifCond .eq 11, 3) := by decide +kernel
theorem d_X_note_41 : decode c_X_note 41 = .ok (.iload 5, 2) := by decide +kernel
theorem d_X_note_43 : decode c_X_note 43 = .ok (.invokestatic 59, 3) := by decide +kernel
theorem d_X_note_46 : decode c_X_note 46 = .ok (.ifCond .ne 13, 3) := by decide +kernel
theorem d_X_note_49 : decode c_X_note 49 = .ok (.new 62, 3) := by decide +kernel
theorem d_X_note_52 : decode c_X_note 52 = .ok (.dup, 1) := by decide +kernel
theorem d_X_note_53 : decode c_X_note 53 = .ok (.ldc 64, 2) := by decide +kernel
theorem d_X_note_55 : decode c_X_note 55 = .ok (.invokespecial 66, 3) := by decide +kernel
theorem d_X_note_58 : decode c_X_note 58 = .ok (.athrow, 1) := by decide +kernel
theorem d_X_note_59 : decode c_X_note 59 = .ok (.aload_n 0, 1) := by decide +kernel
theorem d_X_note_60 : decode c_X_note 60 = .ok (.getfield 10, 3) := by decide +kernel
theorem d_X_note_63 : decode c_X_note 63 = .ok (.getfield 67, 3) := by decide +kernel
theorem d_X_note_66 : decode c_X_note 66 = .ok (.bipush 100, 2) := by decide +kernel
theorem d_X_note_68 : decode c_X_note 68 = .ok (.if_icmp .lt 13, 3) := by decide +kernel
theorem d_X_note_71 : decode c_X_note 71 = .ok (.new 34, 3) := by decide +kernel
theorem d_X_note_74 : decode c_X_note 74 = .ok (.dup, 1) := by decide +kernel
theorem d_X_note_75 : decode c_X_note 75 = .ok (.ldc 70, 2) := by decide +kernel
theorem d_X_note_77 : decode c_X_note 77 = .ok (.invokespecial 38, 3) := by decide +kernel
theorem d_X_note_80 : decode c_X_note 80 = .ok (.athrow, 1) := by decide +kernel
theorem d_X_note_81 : decode c_X_note 81 = .ok (.new 72, 3) := by decide +kernel
theorem d_X_note_84 : decode c_X_note 84 = .ok (.dup, 1) := by decide +kernel
theorem d_X_note_85 : decode c_X_note 85 = .ok (.aload_n 0, 1) := by decide +kernel
theorem d_X_note_86 : decode c_X_note 86 = .ok (.getfield 10, 3) := by decide +kernel
theorem d_X_note_89 : decode c_X_note 89 = .ok (.getfield 67, 3) := by decide +kernel
theorem d_X_note_92 : decode c_X_note 92 = .ok (.iload_n 1, 1) := by decide +kernel
theorem d_X_note_93 : decode c_X_note 93 = .ok (.iload_n 2, 1) := by decide +kernel
theorem d_X_note_94 : decode c_X_note 94 = .ok (.iload_n 3, 1) := by decide +kernel
theorem d_X_note_95 : decode c_X_note 95 = .ok (.iload 4, 2) := by decide +kernel
theorem d_X_note_97 : decode c_X_note 97 = .ok (.iload 5, 2) := by decide +kernel
theorem d_X_note_99 : decode c_X_note 99 = .ok (.aload_n 0, 1) := by decide +kernel
theorem d_X_note_100 : decode c_X_note 100 = .ok (.getfield 74, 3) := by decide +kernel
theorem d_X_note_103 : decode c_X_note 103 = .ok (.invokespecial 77, 3) := by decide +kernel
theorem d_X_note_106 : decode c_X_note 106 = .ok (.astore 6, 2) := by decide +kernel
theorem d_X_note_108 : decode c_X_note 108 = .ok (.aload_n 0, 1) := by decide +kernel
theorem d_X_note_109 : decode c_X_note 109 = .ok (.getfield 10, 3) := by decide +kernel
theorem d_X_note_112 : decode c_X_note 112 = .ok (.aload 6, 2) := by decide +kernel
theorem d_X_note_114 : decode c_X_note 114 = .ok (.invokevirtual 80, 3) := by decide +kernel
theorem d_X_note_117 : decode c_X_note 117 = .ok (.aload 6, 2) := by decide +kernel
theorem d_X_note_119 : decode c_X_note 119 = .ok (.getfield 84, 3) := by decide +kernel
theorem d_X_note_122 : decode c_X_note 122 = .ok (.ireturn, 1) := by decide +kernel
theorem d_X_isWriter_0 : decode c_X_isWriter 0 = .ok (.iload_n 1, 1) := by decide +kernel
theorem d_X_isWriter_1 : decode c_X_isWriter 1 = .ok (.ifCond .lt 15, 3) := by decide +kernel
theorem d_X_isWriter_4 : decode c_X_isWriter 4 = .ok (.iload_n 1, 1) := by decide +kernel
theorem d_X_isWriter_5 : decode c_X_isWriter 5 = .ok (.aload_n 0, 1) := by decide +kernel
theorem d_X_isWriter_6 : decode c_X_isWriter 6 = .ok (.getfield 30, 3) := by decide +kernel
theorem d_X_isWriter_9 : decode c_X_isWriter 9 = .ok (.if_icmp .ge 7, 3) := by decide +kernel
theorem d_X_isWriter_12 : decode c_X_isWriter 12 = .ok (.iconst 1, 1) := by decide +kernel
theorem d_X_isWriter_13 : decode c_X_isWriter 13 = .ok (.goto 4, 3) := by decide +kernel
theorem d_X_isWriter_16 : decode c_X_isWriter 16 = .ok (.iconst 0, 1) := by decide +kernel
theorem d_X_isWriter_17 : decode c_X_isWriter 17 = .ok (.ireturn, 1) := by decide +kernel
theorem d_X_isKind_0 : decode c_X_isKind 0 = .ok (.iload_n 0, 1) := by decide +kernel
theorem d_X_isKind_1 : decode c_X_isKind 1 = .ok (.ifCond .lt 13, 3) := by decide +kernel
theorem d_X_isKind_4 : decode c_X_isKind 4 = .ok (.iload_n 0, 1) := by decide +kernel
theorem d_X_isKind_5 : decode c_X_isKind 5 = .ok (.bipush 6, 2) := by decide +kernel
theorem d_X_isKind_7 : decode c_X_isKind 7 = .ok (.if_icmp .ge 7, 3) := by decide +kernel
theorem d_X_isKind_10 : decode c_X_isKind 10 = .ok (.iconst 1, 1) := by decide +kernel
theorem d_X_isKind_11 : decode c_X_isKind 11 = .ok (.goto 4, 3) := by decide +kernel
theorem d_X_isKind_14 : decode c_X_isKind 14 = .ok (.iconst 0, 1) := by decide +kernel
theorem d_X_isKind_15 : decode c_X_isKind 15 = .ok (.ireturn, 1) := by decide +kernel
theorem d_X_isSector_0 : decode c_X_isSector 0 = .ok (.iload_n 0, 1) := by decide +kernel
theorem d_X_isSector_1 : decode c_X_isSector 1 = .ok (.ifCond .lt 13, 3) := by decide +kernel
theorem d_X_isSector_4 : decode c_X_isSector 4 = .ok (.iload_n 0, 1) := by decide +kernel
theorem d_X_isSector_5 : decode c_X_isSector 5 = .ok (.bipush 10, 2) := by decide +kernel
theorem d_X_isSector_7 : decode c_X_isSector 7 = .ok (.if_icmp .ge 7, 3) := by decide +kernel
theorem d_X_isSector_10 : decode c_X_isSector 10 = .ok (.iconst 1, 1) := by decide +kernel
theorem d_X_isSector_11 : decode c_X_isSector 11 = .ok (.goto 4, 3) := by decide +kernel
theorem d_X_isSector_14 : decode c_X_isSector 14 = .ok (.iconst 0, 1) := by decide +kernel
theorem d_X_isSector_15 : decode c_X_isSector 15 = .ok (.ireturn, 1) := by decide +kernel
theorem d_X_hasCome_0 : decode c_X_hasCome 0 = .ok (.iload_n 1, 1) := by decide +kernel
theorem d_X_hasCome_1 : decode c_X_hasCome 1 = .ok (.ifCond .lt 15, 3) := by decide +kernel
theorem d_X_hasCome_4 : decode c_X_hasCome 4 = .ok (.iload_n 1, 1) := by decide +kernel
theorem d_X_hasCome_5 : decode c_X_hasCome 5 = .ok (.aload_n 0, 1) := by decide +kernel
theorem d_X_hasCome_6 : decode c_X_hasCome 6 = .ok (.getfield 74, 3) := by decide +kernel
theorem d_X_hasCome_9 : decode c_X_hasCome 9 = .ok (.if_icmp .gt 7, 3) := by decide +kernel
theorem d_X_hasCome_12 : decode c_X_hasCome 12 = .ok (.iconst 1, 1) := by decide +kernel
theorem d_X_hasCome_13 : decode c_X_hasCome 13 = .ok (.goto 4, 3) := by decide +kernel
theorem d_X_hasCome_16 : decode c_X_hasCome 16 = .ok (.iconst 0, 1) := by decide +kernel
theorem d_X_hasCome_17 : decode c_X_hasCome 17 = .ok (.ireturn, 1) := by decide +kernel
theorem d_X_isValue_0 : decode c_X_isValue 0 = .ok (.iload_n 0, 1) := by decide +kernel
theorem d_X_isValue_1 : decode c_X_isValue 1 = .ok (.sipush (-9999), 3) := by decide +kernel
theorem d_X_isValue_4 : decode c_X_isValue 4 = .ok (.if_icmp .lt 14, 3) := by decide +kernel
theorem d_X_isValue_7 : decode c_X_isValue 7 = .ok (.iload_n 0, 1) := by decide +kernel
theorem d_X_isValue_8 : decode c_X_isValue 8 = .ok (.sipush 9999, 3) := by decide +kernel
theorem d_X_isValue_11 : decode c_X_isValue 11 = .ok (.if_icmp .gt 7, 3) := by decide +kernel
theorem d_X_isValue_14 : decode c_X_isValue 14 = .ok (.iconst 1, 1) := by decide +kernel
theorem d_X_isValue_15 : decode c_X_isValue 15 = .ok (.goto 4, 3) := by decide +kernel
theorem d_X_isValue_18 : decode c_X_isValue 18 = .ok (.iconst 0, 1) := by decide +kernel
theorem d_X_isValue_19 : decode c_X_isValue 19 = .ok (.ireturn, 1) := by decide +kernel
theorem d_X_correct_0 : decode c_X_correct 0 = .ok (.aload_n 0, 1) := by decide +kernel
theorem d_X_correct_1 : decode c_X_correct 1 = .ok (.iload_n 1, 1) := by decide +kernel
theorem d_X_correct_2 : decode c_X_correct 2 = .ok (.invokevirtual 87, 3) := by decide +kernel
theorem d_X_correct_5 : decode c_X_correct 5 = .ok (.astore_n 3, 1) := by decide +kernel
theorem d_X_correct_6 : decode c_X_correct 6 = .ok (.iload_n 2, 1) := by decide +kernel
theorem d_X_correct_7 : decode c_X_correct 7 = .ok (.invokestatic 59, 3) := by decide +kernel
theorem d_X_correct_10 : decode c_X_correct 10 = .ok (.ifCond .ne 13, 3) := by decide +kernel
theorem d_X_correct_13 : decode c_X_correct 13 = .ok (.new 62, 3) := by decide +kernel
theorem d_X_correct_16 : decode c_X_correct 16 = .ok (.dup, 1) := by decide +kernel
theorem d_X_correct_17 : decode c_X_correct 17 = .ok (.ldc 91, 2) := by decide +kernel
theorem d_X_correct_19 : decode c_X_correct 19 = .ok (.invokespecial 66, 3) := by decide +kernel
theorem d_X_correct_22 : decode c_X_correct 22 = .ok (.athrow, 1) := by decide +kernel
theorem d_X_correct_23 : decode c_X_correct 23 = .ok (.aload_n 3, 1) := by decide +kernel
theorem d_X_correct_24 : decode c_X_correct 24 = .ok (.getfield 93, 3) := by decide +kernel
theorem d_X_correct_27 : decode c_X_correct 27 = .ok (.getfield 97, 3) := by decide +kernel
theorem d_X_correct_30 : decode c_X_correct 30 = .ok (.ifCond .eq 13, 3) := by decide +kernel
theorem d_X_correct_33 : decode c_X_correct 33 = .ok (.new 103, 3) := by decide +kernel
theorem d_X_correct_36 : decode c_X_correct 36 = .ok (.dup, 1) := by decide +kernel
theorem d_X_correct_37 : decode c_X_correct 37 = .ok (.ldc 105, 2) := by decide +kernel
theorem d_X_correct_39 : decode c_X_correct 39 = .ok (.invokespecial 107, 3) := by decide +kernel
theorem d_X_correct_42 : decode c_X_correct 42 = .ok (.athrow, 1) := by decide +kernel
theorem d_X_correct_43 : decode c_X_correct 43 = .ok (.aload_n 0, 1) := by decide +kernel
theorem d_X_correct_44 : decode c_X_correct 44 = .ok (.invokevirtual 108, 3) := by decide +kernel
theorem d_X_correct_47 : decode c_X_correct 47 = .ok (.aload_n 3, 1) := by decide +kernel
theorem d_X_correct_48 : decode c_X_correct 48 = .ok (.aload_n 0, 1) := by decide +kernel
theorem d_X_correct_49 : decode c_X_correct 49 = .ok (.getfield 74, 3) := by decide +kernel
theorem d_X_correct_52 : decode c_X_correct 52 = .ok (.iload_n 2, 1) := by decide +kernel
theorem d_X_correct_53 : decode c_X_correct 53 = .ok (.invokevirtual 111, 3) := by decide +kernel
theorem d_X_correct_56 : decode c_X_correct 56 = .ok (.aload_n 0, 1) := by decide +kernel
theorem d_X_correct_57 : decode c_X_correct 57 = .ok (.dup, 1) := by decide +kernel
theorem d_X_correct_58 : decode c_X_correct 58 = .ok (.getfield 115, 3) := by decide +kernel
theorem d_X_correct_61 : decode c_X_correct 61 = .ok (.iconst 1, 1) := by decide +kernel
theorem d_X_correct_62 : decode c_X_correct 62 = .ok (.iadd, 1) := by decide +kernel
theorem d_X_correct_63 : decode c_X_correct 63 = .ok (.putfield 115, 3) := by decide +kernel
theorem d_X_correct_66 : decode c_X_correct 66 = .ok (.aload_n 3, 1) := by decide +kernel
theorem d_X_correct_67 : decode c_X_correct 67 = .ok (.getfield 118, 3) := by decide +kernel
theorem d_X_correct_70 : decode c_X_correct 70 = .ok (.ireturn, 1) := by decide +kernel
theorem d_X_noteOf_0 : decode c_X_noteOf 0 = .ok (.iload_n 1, 1) := by decide +kernel
theorem d_X_noteOf_1 : decode c_X_noteOf 1 = .ok (.ifCond .lt 14, 3) := by decide +kernel
theorem d_X_noteOf_4 : decode c_X_noteOf 4 = .ok (.iload_n 1, 1) := by decide +kernel
theorem d_X_noteOf_5 : decode c_X_noteOf 5 = .ok (.aload_n 0, 1) := by decide +kernel
theorem d_X_noteOf_6 : decode c_X_noteOf 6 = .ok (.getfield 10, 3) := by decide +kernel
theorem d_X_noteOf_9 : decode c_X_noteOf 9 = .ok (.getfield 67, 3) := by decide +kernel
theorem d_X_noteOf_12 : decode c_X_noteOf 12 = .ok (.if_icmp .lt 13, 3) := by decide +kernel
theorem d_X_noteOf_15 : decode c_X_noteOf 15 = .ok (.new 51, 3) := by decide +kernel
theorem d_X_noteOf_18 : decode c_X_noteOf 18 = .ok (.dup, 1) := by decide +kernel
theorem d_X_noteOf_19 : decode c_X_noteOf 19 = .ok (.ldc 229, 2) := by decide +kernel
theorem d_X_noteOf_21 : decode c_X_noteOf 21 = .ok (.invokespecial 55, 3) := by decide +kernel
theorem d_X_noteOf_24 : decode c_X_noteOf 24 = .ok (.athrow, 1) := by decide +kernel
theorem d_X_noteOf_25 : decode c_X_noteOf 25 = .ok (.aload_n 0, 1) := by decide +kernel
theorem d_X_noteOf_26 : decode c_X_noteOf 26 = .ok (.getfield 10, 3) := by decide +kernel
theorem d_X_noteOf_29 : decode c_X_noteOf 29 = .ok (.getfield 231, 3) := by decide +kernel
theorem d_X_noteOf_32 : decode c_X_noteOf 32 = .ok (.iload_n 1, 1) := by decide +kernel
theorem d_X_noteOf_33 : decode c_X_noteOf 33 = .ok (.aaload, 1) := by decide +kernel
theorem d_X_noteOf_34 : decode c_X_noteOf 34 = .ok (.areturn, 1) := by decide +kernel
theorem d_X_refuseActWithoutRoom_0 : decode c_X_refuseActWithoutRoom 0 = .ok (.aload_n 0, 1) := by decide +kernel
theorem d_X_refuseActWithoutRoom_1 : decode c_X_refuseActWithoutRoom 1 = .ok (.getfield 115, 3) := by decide +kernel
theorem d_X_refuseActWithoutRoom_4 : decode c_X_refuseActWithoutRoom 4 = .ok (.sipush 200, 3) := by decide +kernel
theorem d_X_refuseActWithoutRoom_7 : decode c_X_refuseActWithoutRoom 7 = .ok (.if_icmp .lt 13, 3) := by decide +kernel
theorem d_X_refuseActWithoutRoom_10 : decode c_X_refuseActWithoutRoom 10 = .ok (.new 34, 3) := by decide +kernel
theorem d_X_refuseActWithoutRoom_13 : decode c_X_refuseActWithoutRoom 13 = .ok (.dup, 1) := by decide +kernel
theorem d_X_refuseActWithoutRoom_14 : decode c_X_refuseActWithoutRoom 14 = .ok (.ldc 234, 2) := by decide +kernel
theorem d_X_refuseActWithoutRoom_16 : decode c_X_refuseActWithoutRoom 16 = .ok (.invokespecial 38, 3) := by decide +kernel
theorem d_X_refuseActWithoutRoom_19 : decode c_X_refuseActWithoutRoom 19 = .ok (.athrow, 1) := by decide +kernel
theorem d_X_refuseActWithoutRoom_20 : decode c_X_refuseActWithoutRoom 20 = .ok (.return_, 1) := by decide +kernel
theorem d_X_strike_0 : decode c_X_strike 0 = .ok (.aload_n 0, 1) := by decide +kernel
theorem d_X_strike_1 : decode c_X_strike 1 = .ok (.iload_n 1, 1) := by decide +kernel
theorem d_X_strike_2 : decode c_X_strike 2 = .ok (.invokevirtual 87, 3) := by decide +kernel
theorem d_X_strike_5 : decode c_X_strike 5 = .ok (.astore_n 3, 1) := by decide +kernel
theorem d_X_strike_6 : decode c_X_strike 6 = .ok (.aload_n 3, 1) := by decide +kernel
theorem d_X_strike_7 : decode c_X_strike 7 = .ok (.getfield 93, 3) := by decide +kernel
theorem d_X_strike_10 : decode c_X_strike 10 = .ok (.getfield 97, 3) := by decide +kernel
theorem d_X_strike_13 : decode c_X_strike 13 = .ok (.iload_n 2, 1) := by decide +kernel
theorem d_X_strike_14 : decode c_X_strike 14 = .ok (.if_icmp .ne 13, 3) := by decide +kernel
theorem d_X_strike_17 : decode c_X_strike 17 = .ok (.new 103, 3) := by decide +kernel
theorem d_X_strike_20 : decode c_X_strike 20 = .ok (.dup, 1) := by decide +kernel
theorem d_X_strike_21 : decode c_X_strike 21 = .ok (.ldc 121, 2) := by decide +kernel
theorem d_X_strike_23 : decode c_X_strike 23 = .ok (.invokespecial 107, 3) := by decide +kernel
theorem d_X_strike_26 : decode c_X_strike 26 = .ok (.athrow, 1) := by decide +kernel
theorem d_X_strike_27 : decode c_X_strike 27 = .ok (.aload_n 0, 1) := by decide +kernel
theorem d_X_strike_28 : decode c_X_strike 28 = .ok (.invokevirtual 108, 3) := by decide +kernel
theorem d_X_strike_31 : decode c_X_strike 31 = .ok (.aload_n 3, 1) := by decide +kernel
theorem d_X_strike_32 : decode c_X_strike 32 = .ok (.aload_n 0, 1) := by decide +kernel
theorem d_X_strike_33 : decode c_X_strike 33 = .ok (.getfield 74, 3) := by decide +kernel
theorem d_X_strike_36 : decode c_X_strike 36 = .ok (.iload_n 2, 1) := by decide +kernel
theorem d_X_strike_37 : decode c_X_strike 37 = .ok (.invokevirtual 123, 3) := by decide +kernel
theorem d_X_strike_40 : decode c_X_strike 40 = .ok (.aload_n 0, 1) := by decide +kernel
theorem d_X_strike_41 : decode c_X_strike 41 = .ok (.dup, 1) := by decide +kernel
theorem d_X_strike_42 : decode c_X_strike 42 = .ok (.getfield 115, 3) := by decide +kernel
theorem d_X_strike_45 : decode c_X_strike 45 = .ok (.iconst 1, 1) := by decide +kernel
theorem d_X_strike_46 : decode c_X_strike 46 = .ok (.iadd, 1) := by decide +kernel
theorem d_X_strike_47 : decode c_X_strike 47 = .ok (.putfield 115, 3) := by decide +kernel
theorem d_X_strike_50 : decode c_X_strike 50 = .ok (.return_, 1) := by decide +kernel
theorem d_X_ask_0 : decode c_X_ask 0 = .ok (.iload_n 3, 1) := by decide +kernel
theorem d_X_ask_1 : decode c_X_ask 1 = .ok (.iconst (-1), 1) := by decide +kernel
theorem d_X_ask_2 : decode c_X_ask 2 = .ok (.if_icmp .eq 10, 3) := by decide +kernel
theorem d_X_ask_5 : decode c_X_ask 5 = .ok (.iload_n 3, 1) := by decide +kernel
theorem d_X_ask_6 : decode c_X_ask 6 = .ok (.invokestatic 45, 3) := by decide +kernel
theorem d_X_ask_9 : decode c_X_ask 9 = .ok (.ifCond .eq 17, 3) := by decide +kernel
theorem d_X_ask_12 : decode c_X_ask 12 = .ok (.iload 4, 2) := by decide +kernel
theorem d_X_ask_14 : decode c_X_ask 14 = .ok (.iconst (-1), 1) := by decide +kernel
theorem d_X_ask_15 : decode c_X_ask 15 = .ok (.if_icmp .eq 21, 3) := by decide +kernel
theorem d_X_ask_18 : decode c_X_ask 18 = .ok (.iload 4, 2) := by decide +kernel
theorem d_X_ask_20 : decode c_X_ask 20 = .ok (.invokestatic 48, 3) := by decide +kernel
theorem d_X_ask_23 : decode c_X_ask 23 = .ok (.ifCond .ne 13, 3) := by decide +kernel
theorem d_X_ask_26 : decode c_X_ask 26 = .ok (.new 51, 3) := by decide +kernel
theorem d_X_ask_29 : decode c_X_ask 29 = .ok (.dup, 1) := by decide +kernel
theorem d_X_ask_30 : decode c_X_ask 30 = .ok (.ldc 127, 2) := by decide +kernel
theorem d_X_ask_32 : decode c_X_ask 32 = .ok (.invokespecial 55, 3) := by decide +kernel
theorem d_X_ask_35 : decode c_X_ask 35 = .ok (.athrow, 1) := by decide +kernel
theorem d_X_ask_36 : decode c_X_ask 36 = .ok (.aload_n 0, 1) := by decide +kernel
theorem d_X_ask_37 : decode c_X_ask 37 = .ok (.iload 5, 2) := by decide +kernel
theorem d_X_ask_39 : decode c_X_ask 39 = .ok (.invokevirtual 56, 3) := by decide +kernel
theorem d_X_ask_42 : decode c_X_ask 42 = .ok (.ifCond .ne 13, 3) := by decide +kernel
theorem d_X_ask_45 : decode c_X_ask 45 = .ok (.new 62, 3) := by decide +kernel
theorem d_X_ask_48 : decode c_X_ask 48 = .ok (.dup, 1) := by decide +kernel
theorem d_X_ask_49 : decode c_X_ask 49 = .ok (.ldc 129, 2) := by decide +kernel
theorem d_X_ask_51 : decode c_X_ask 51 = .ok (.invokespecial 66, 3) := by decide +kernel
theorem d_X_ask_54 : decode c_X_ask 54 = .ok (.athrow, 1) := by decide +kernel
theorem d_X_ask_55 : decode c_X_ask 55 = .ok (.aload_n 0, 1) := by decide +kernel
theorem d_X_ask_56 : decode c_X_ask 56 = .ok (.getfield 19, 3) := by decide +kernel
theorem d_X_ask_59 : decode c_X_ask 59 = .ok (.iload 5, 2) := by decide +kernel
theorem d_X_ask_61 : decode c_X_ask 61 = .ok (.invokevirtual 131, 3) := by decide +kernel
theorem d_X_ask_64 : decode c_X_ask 64 = .ok (.iconst 0, 1) := by decide +kernel
theorem d_X_ask_65 : decode c_X_ask 65 = .ok (.istore 6, 2) := by decide +kernel
theorem d_X_ask_67 : decode c_X_ask 67 = .ok (.iload 6, 2) := by decide +kernel
theorem d_X_ask_69 : decode c_X_ask 69 = .ok (.aload_n 0, 1) := by decide +kernel
theorem d_X_ask_70 : decode c_X_ask 70 = .ok (.getfield 10, 3) := by decide +kernel
theorem d_X_ask_73 : decode c_X_ask 73 = .ok (.getfield 67, 3) := by decide +kernel
theorem d_X_ask_76 : decode c_X_ask 76 = .ok (.if_icmp .ge 64, 3) := by decide +kernel
theorem d_X_ask_79 : decode c_X_ask 79 = .ok (.aload_n 0, 1) := by decide +kernel
theorem d_X_ask_80 : decode c_X_ask 80 = .ok (.getfield 10, 3) := by decide +kernel
theorem d_X_ask_83 : decode c_X_ask 83 = .ok (.getfield 135, 3) := by decide +kernel
theorem d_X_ask_86 : decode c_X_ask 86 = .ok (.iload 6, 2) := by decide +kernel
theorem d_X_ask_88 : decode c_X_ask 88 = .ok (.aaload, 1) := by decide +kernel
theorem d_X_ask_89 : decode c_X_ask 89 = .ok (.astore 7, 2) := by decide +kernel
theorem d_X_ask_91 : decode c_X_ask 91 = .ok (.aload 7, 2) := by decide +kernel
theorem d_X_ask_93 : decode c_X_ask 93 = .ok (.getfield 139, 3) := by decide +kernel
theorem d_X_ask_96 : decode c_X_ask 96 = .ok (.getfield 142, 3) := by decide +kernel
theorem d_X_ask_99 : decode c_X_ask 99 = .ok (.iload 5, 2) := by decide +kernel
theorem d_X_ask_101 : decode c_X_ask 101 = .ok (.if_icmp .gt 33, 3) := by decide +kernel
theorem d_X_ask_104 : decode c_X_ask 104 = .ok (.aload 7, 2) := by decide +kernel
theorem d_X_ask_106 : decode c_X_ask 106 = .ok (.iload_n 1, 1) := by decide +kernel
theorem d_X_ask_107 : decode c_X_ask 107 = .ok (.iload_n 2, 1) := by decide +kernel
theorem d_X_ask_108 : decode c_X_ask 108 = .ok (.invokevirtual 145, 3) := by decide +kernel
theorem d_X_ask_111 : decode c_X_ask 111 = .ok (.ifCond .eq 23, 3) := by decide +kernel
theorem d_X_ask_114 : decode c_X_ask 114 = .ok (.aload 7, 2) := by decide +kernel
theorem d_X_ask_116 : decode c_X_ask 116 = .ok (.iload_n 3, 1) := by decide +kernel
theorem d_X_ask_117 : decode c_X_ask 117 = .ok (.iload 4, 2) := by decide +kernel
theorem d_X_ask_119 : decode c_X_ask 119 = .ok (.invokevirtual 149, 3) := by decide +kernel
theorem d_X_ask_122 : decode c_X_ask 122 = .ok (.ifCond .eq 12, 3) := by decide +kernel
theorem d_X_ask_125 : decode c_X_ask 125 = .ok (.aload_n 0, 1) := by decide +kernel
theorem d_X_ask_126 : decode c_X_ask 126 = .ok (.getfield 19, 3) := by decide +kernel
theorem d_X_ask_129 : decode c_X_ask 129 = .ok (.aload 7, 2) := by decide +kernel
theorem d_X_ask_131 : decode c_X_ask 131 = .ok (.invokevirtual 152, 3) := by decide +kernel
theorem d_X_ask_134 : decode c_X_ask 134 = .ok (.iinc 6 1, 3) := by decide +kernel
theorem d_X_ask_137 : decode c_X_ask 137 = .ok (.goto (-70), 3) := by decide +kernel
theorem d_X_ask_140 : decode c_X_ask 140 = .ok (.aload_n 0, 1) := by decide +kernel
theorem d_X_ask_141 : decode c_X_ask 141 = .ok (.getfield 19, 3) := by decide +kernel
theorem d_X_ask_144 : decode c_X_ask 144 = .ok (.getfield 153, 3) := by decide +kernel
theorem d_X_ask_147 : decode c_X_ask 147 = .ok (.ireturn, 1) := by decide +kernel
theorem d_X_row_0 : decode c_X_row 0 = .ok (.iload_n 1, 1) := by decide +kernel
theorem d_X_row_1 : decode c_X_row 1 = .ok (.ifCond .lt 14, 3) := by decide +kernel
theorem d_X_row_4 : decode c_X_row 4 = .ok (.iload_n 1, 1) := by decide +kernel
theorem d_X_row_5 : decode c_X_row 5 = .ok (.aload_n 0, 1) := by decide +kernel
theorem d_X_row_6 : decode c_X_row 6 = .ok (.getfield 19, 3) := by decide +kernel
theorem d_X_row_9 : decode c_X_row 9 = .ok (.getfield 153, 3) := by decide +kernel
theorem d_X_row_12 : decode c_X_row 12 = .ok (.if_icmp .lt 13, 3) := by decide +kernel
theorem d_X_row_15 : decode c_X_row 15 = .ok (.new 51, 3) := by decide +kernel
theorem d_X_row_18 : decode c_X_row 18 = .ok (.dup, 1) := by decide +kernel
theorem d_X_row_19 : decode c_X_row 19 = .ok (.ldc 154, 2) := by decide +kernel
theorem d_X_row_21 : decode c_X_row 21 = .ok (.invokespecial 55, 3) := by decide +kernel
theorem d_X_row_24 : decode c_X_row 24 = .ok (.athrow, 1) := by decide +kernel
theorem d_X_row_25 : decode c_X_row 25 = .ok (.aload_n 0, 1) := by decide +kernel
theorem d_X_row_26 : decode c_X_row 26 = .ok (.getfield 19, 3) := by decide +kernel
theorem d_X_row_29 : decode c_X_row 29 = .ok (.getfield 156, 3) := by decide +kernel
theorem d_X_row_32 : decode c_X_row 32 = .ok (.iload_n 1, 1) := by decide +kernel
theorem d_X_row_33 : decode c_X_row 33 = .ok (.aaload, 1) := by decide +kernel
theorem d_X_row_34 : decode c_X_row 34 = .ok (.astore_n 3, 1) := by decide +kernel
theorem d_X_row_35 : decode c_X_row 35 = .ok (.iload_n 2, 1) := by decide +kernel
theorem d_X_row_36 : decode c_X_row 36 = .ok (.tableswitch 84 0 4 #[36, 41, 46, 61, 79], 36) := by decide +kernel
theorem d_X_row_72 : decode c_X_row 72 = .ok (.aload_n 3, 1) := by decide +kernel
theorem d_X_row_73 : decode c_X_row 73 = .ok (.getfield 84, 3) := by decide +kernel
theorem d_X_row_76 : decode c_X_row 76 = .ok (.ireturn, 1) := by decide +kernel
theorem d_X_row_77 : decode c_X_row 77 = .ok (.aload_n 3, 1) := by decide +kernel
theorem d_X_row_78 : decode c_X_row 78 = .ok (.getfield 159, 3) := by decide +kernel
theorem d_X_row_81 : decode c_X_row 81 = .ok (.ireturn, 1) := by decide +kernel
theorem d_X_row_82 : decode c_X_row 82 = .ok (.aload_n 3, 1) := by decide +kernel
theorem d_X_row_83 : decode c_X_row 83 = .ok (.aload_n 0, 1) := by decide +kernel
theorem d_X_row_84 : decode c_X_row 84 = .ok (.getfield 19, 3) := by decide +kernel
theorem d_X_row_87 : decode c_X_row 87 = .ok (.getfield 160, 3) := by decide +kernel
theorem d_X_row_90 : decode c_X_row 90 = .ok (.invokevirtual 163, 3) := by decide +kernel
theorem d_X_row_93 : decode c_X_row 93 = .ok (.getfield 167, 3) := by decide +kernel
theorem d_X_row_96 : decode c_X_row 96 = .ok (.ireturn, 1) := by decide +kernel
theorem d_X_row_97 : decode c_X_row 97 = .ok (.aload_n 3, 1) := by decide +kernel
theorem d_X_row_98 : decode c_X_row 98 = .ok (.aload_n 0, 1) := by decide +kernel
theorem d_X_row_99 : decode c_X_row 99 = .ok (.getfield 19, 3) := by decide +kernel
theorem d_X_row_102 : decode c_X_row 102 = .ok (.getfield 160, 3) := by decide +kernel
theorem d_X_row_105 : decode c_X_row 105 = .ok (.invokevirtual 163, 3) := by decide +kernel
theorem d_X_row_108 : decode c_X_row 108 = .ok (.getfield 97, 3) := by decide +kernel
theorem d_X_row_111 : decode c_X_row 111 = .ok (.invokestatic 170, 3) := by decide +kernel
theorem d_X_row_114 : decode c_X_row 114 = .ok (.ireturn, 1) := by decide +kernel
theorem d_X_row_115 : decode c_X_row 115 = .ok (.aload_n 3, 1) := by decide +kernel
theorem d_X_row_116 : decode c_X_row 116 = .ok (.getfield 174, 3) := by decide +kernel
theorem d_X_row_119 : decode c_X_row 119 = .ok (.ireturn, 1) := by decide +kernel
theorem d_X_row_120 : decode c_X_row 120 = .ok (.new 51, 3) := by decide +kernel
theorem d_X_row_123 : decode c_X_row 123 = .ok (.dup, 1) := by decide +kernel
theorem d_X_row_124 : decode c_X_row 124 = .ok (.ldc 177, 2) := by decide +kernel
theorem d_X_row_126 : decode c_X_row 126 = .ok (.invokespecial 55, 3) := by decide +kernel
theorem d_X_row_129 : decode c_X_row 129 = .ok (.athrow, 1) := by decide +kernel
theorem d_X_oneIf_0 : decode c_X_oneIf 0 = .ok (.iload_n 0, 1) := by decide +kernel
theorem d_X_oneIf_1 : decode c_X_oneIf 1 = .ok (.ifCond .eq 7, 3) := by decide +kernel
theorem d_X_oneIf_4 : decode c_X_oneIf 4 = .ok (.iconst 1, 1) := by decide +kernel
theorem d_X_oneIf_5 : decode c_X_oneIf 5 = .ok (.goto 4, 3) := by decide +kernel
theorem d_X_oneIf_8 : decode c_X_oneIf 8 = .ok (.iconst 0, 1) := by decide +kernel
theorem d_X_oneIf_9 : decode c_X_oneIf 9 = .ok (.ireturn, 1) := by decide +kernel
theorem d_X_reading_0 : decode c_X_reading 0 = .ok (.iload_n 1, 1) := by decide +kernel
theorem d_X_reading_1 : decode c_X_reading 1 = .ok (.invokestatic 48, 3) := by decide +kernel
theorem d_X_reading_4 : decode c_X_reading 4 = .ok (.ifCond .ne 13, 3) := by decide +kernel
theorem d_X_reading_7 : decode c_X_reading 7 = .ok (.new 51, 3) := by decide +kernel
theorem d_X_reading_10 : decode c_X_reading 10 = .ok (.dup, 1) := by decide +kernel
theorem d_X_reading_11 : decode c_X_reading 11 = .ok (.ldc 179, 2) := by decide +kernel
theorem d_X_reading_13 : decode c_X_reading 13 = .ok (.invokespecial 55, 3) := by decide +kernel
theorem d_X_reading_16 : decode c_X_reading 16 = .ok (.athrow, 1) := by decide +kernel
theorem d_X_reading_17 : decode c_X_reading 17 = .ok (.aload_n 0, 1) := by decide +kernel
theorem d_X_reading_18 : decode c_X_reading 18 = .ok (.iload_n 2, 1) := by decide +kernel
theorem d_X_reading_19 : decode c_X_reading 19 = .ok (.invokevirtual 56, 3) := by decide +kernel
theorem d_X_reading_22 : decode c_X_reading 22 = .ok (.ifCond .ne 13, 3) := by decide +kernel
theorem d_X_reading_25 : decode c_X_reading 25 = .ok (.new 62, 3) := by decide +kernel
theorem d_X_reading_28 : decode c_X_reading 28 = .ok (.dup, 1) := by decide +kernel
theorem d_X_reading_29 : decode c_X_reading 29 = .ok (.ldc 181, 2) := by decide +kernel
theorem d_X_reading_31 : decode c_X_reading 31 = .ok (.invokespecial 66, 3) := by decide +kernel
theorem d_X_reading_34 : decode c_X_reading 34 = .ok (.athrow, 1) := by decide +kernel
theorem d_X_reading_35 : decode c_X_reading 35 = .ok (.aload_n 0, 1) := by decide +kernel
theorem d_X_reading_36 : decode c_X_reading 36 = .ok (.getfield 10, 3) := by decide +kernel
theorem d_X_reading_39 : decode c_X_reading 39 = .ok (.iload_n 1, 1) := by decide +kernel
theorem d_X_reading_40 : decode c_X_reading 40 = .ok (.iload_n 2, 1) := by decide +kernel
theorem d_X_reading_41 : decode c_X_reading 41 = .ok (.invokevirtual 183, 3) := by decide +kernel
theorem d_X_reading_44 : decode c_X_reading 44 = .ok (.astore_n 3, 1) := by decide +kernel
theorem d_X_reading_45 : decode c_X_reading 45 = .ok (.aload_n 0, 1) := by decide +kernel
theorem d_X_reading_46 : decode c_X_reading 46 = .ok (.getfield 10, 3) := by decide +kernel
theorem d_X_reading_49 : decode c_X_reading 49 = .ok (.iload_n 1, 1) := by decide +kernel
theorem d_X_reading_50 : decode c_X_reading 50 = .ok (.iload_n 2, 1) := by decide +kernel
theorem d_X_reading_51 : decode c_X_reading 51 = .ok (.invokevirtual 187, 3) := by decide +kernel
theorem d_X_reading_54 : decode c_X_reading 54 = .ok (.astore 4, 2) := by decide +kernel
theorem d_X_reading_56 : decode c_X_reading 56 = .ok (.aload_n 3, 1) := by decide +kernel
theorem d_X_reading_57 : decode c_X_reading 57 = .ok (.ifnull 8, 3) := by decide +kernel
theorem d_X_reading_60 : decode c_X_reading 60 = .ok (.aload 4, 2) := by decide +kernel
theorem d_X_reading_62 : decode c_X_reading 62 = .ok (.ifnonnull 13, 3) := by decide +kernel
theorem d_X_reading_65 : decode c_X_reading 65 = .ok (.new 103, 3) := by decide +kernel
theorem d_X_reading_68 : decode c_X_reading 68 = .ok (.dup, 1) := by decide +kernel
theorem d_X_reading_69 : decode c_X_reading 69 = .ok (.ldc 190, 2) := by decide +kernel
theorem d_X_reading_71 : decode c_X_reading 71 = .ok (.invokespecial 107, 3) := by decide +kernel
theorem d_X_reading_74 : decode c_X_reading 74 = .ok (.athrow, 1) := by decide +kernel
theorem d_X_reading_75 : decode c_X_reading 75 = .ok (.aload_n 3, 1) := by decide +kernel
theorem d_X_reading_76 : decode c_X_reading 76 = .ok (.aload 4, 2) := by decide +kernel
theorem d_X_reading_78 : decode c_X_reading 78 = .ok (.iload_n 2, 1) := by decide +kernel
theorem d_X_reading_79 : decode c_X_reading 79 = .ok (.invokestatic 192, 3) := by decide +kernel
theorem d_X_reading_82 : decode c_X_reading 82 = .ok (.ireturn, 1) := by decide +kernel
theorem d_X_valueBetween_0 : decode c_X_valueBetween 0 = .ok (.aload_n 1, 1) := by decide +kernel
theorem d_X_valueBetween_1 : decode c_X_valueBetween 1 = .ok (.getfield 159, 3) := by decide +kernel
theorem d_X_valueBetween_4 : decode c_X_valueBetween 4 = .ok (.aload_n 0, 1) := by decide +kernel
theorem d_X_valueBetween_5 : decode c_X_valueBetween 5 = .ok (.getfield 159, 3) := by decide +kernel
theorem d_X_valueBetween_8 : decode c_X_valueBetween 8 = .ok (.isub, 1) := by decide +kernel
theorem d_X_valueBetween_9 : decode c_X_valueBetween 9 = .ok (.istore_n 3, 1) := by decide +kernel
theorem d_X_valueBetween_10 : decode c_X_valueBetween 10 = .ok (.iload_n 3, 1) := by decide +kernel
theorem d_X_valueBetween_11 : decode c_X_valueBetween 11 = .ok (.ifCond .gt 11, 3) := by decide +kernel
theorem d_X_valueBetween_14 : decode c_X_valueBetween 14 = .ok (.aload_n 0, 1) := by decide +kernel
theorem d_X_valueBetween_15 : decode c_X_valueBetween 15 = .ok (.getfield 93, 3) := by decide +kernel
theorem d_X_valueBetween_18 : decode c_X_valueBetween 18 = .ok (.getfield 167, 3) := by decide +kernel
theorem d_X_valueBetween_21 : decode c_X_valueBetween 21 = .ok (.ireturn, 1) := by decide +kernel
theorem d_X_valueBetween_22 : decode c_X_valueBetween 22 = .ok (.aload_n 1, 1) := by decide +kernel
theorem d_X_valueBetween_23 : decode c_X_valueBetween 23 = .ok (.getfield 93, 3) := by decide +kernel
theorem d_X_valueBetween_26 : decode c_X_valueBetween 26 = .ok (.getfield 167, 3) := by decide +kernel
theorem d_X_valueBetween_29 : decode c_X_valueBetween 29 = .ok (.aload_n 0, 1) := by decide +kernel
theorem d_X_valueBetween_30 : decode c_X_valueBetween 30 = .ok (.getfield 93, 3) := by decide +kernel
theorem d_X_valueBetween_33 : decode c_X_valueBetween 33 = .ok (.getfield 167, 3) := by decide +kernel
theorem d_X_valueBetween_36 : decode c_X_valueBetween 36 = .ok (.isub, 1) := by decide +kernel
theorem d_X_valueBetween_37 : decode c_X_valueBetween 37 = .ok (.iload_n 2, 1) := by decide +kernel
theorem d_X_valueBetween_38 : decode c_X_valueBetween 38 = .ok (.aload_n 0, 1) := by decide +kernel
theorem d_X_valueBetween_39 : decode c_X_valueBetween 39 = .ok (.getfield 159, 3) := by decide +kernel
theorem d_X_valueBetween_42 : decode c_X_valueBetween 42 = .ok (.isub, 1) := by decide +kernel
theorem d_X_valueBetween_43 : decode c_X_valueBetween 43 = .ok (.imul, 1) := by decide +kernel
theorem d_X_valueBetween_44 : decode c_X_valueBetween 44 = .ok (.istore 4, 2) := by decide +kernel
theorem d_X_valueBetween_46 : decode c_X_valueBetween 46 = .ok (.aload_n 0, 1) := by decide +kernel
theorem d_X_valueBetween_47 : decode c_X_valueBetween 47 = .ok (.getfield 93, 3) := by decide +kernel
theorem d_X_valueBetween_50 : decode c_X_valueBetween 50 = .ok (.getfield 167, 3) := by decide +kernel
theorem d_X_valueBetween_53 : decode c_X_valueBetween 53 = .ok (.iload 4, 2) := by decide +kernel
theorem d_X_valueBetween_55 : decode c_X_valueBetween 55 = .ok (.iload_n 3, 1) := by decide +kernel
theorem d_X_valueBetween_56 : decode c_X_valueBetween 56 = .ok (.invokestatic 236, 3) := by decide +kernel
theorem d_X_valueBetween_59 : decode c_X_valueBetween 59 = .ok (.iadd, 1) := by decide +kernel
theorem d_X_valueBetween_60 : decode c_X_valueBetween 60 = .ok (.ireturn, 1) := by decide +kernel
theorem d_X_gap_0 : decode c_X_gap 0 = .ok (.iload_n 1, 1) := by decide +kernel
theorem d_X_gap_1 : decode c_X_gap 1 = .ok (.ifCond .lt 13, 3) := by decide +kernel
theorem d_X_gap_4 : decode c_X_gap 4 = .ok (.iload_n 1, 1) := by decide +kernel
theorem d_X_gap_5 : decode c_X_gap 5 = .ok (.ldc 196, 2) := by decide +kernel
theorem d_X_gap_7 : decode c_X_gap 7 = .ok (.if_icmp .gt 7, 3) := by decide +kernel
theorem d_X_gap_10 : decode c_X_gap 10 = .ok (.iload_n 2, 1) := by decide +kernel
theorem d_X_gap_11 : decode c_X_gap 11 = .ok (.ifCond .ge 13, 3) := by decide +kernel
theorem d_X_gap_14 : decode c_X_gap 14 = .ok (.new 62, 3) := by decide +kernel
theorem d_X_gap_17 : decode c_X_gap 17 = .ok (.dup, 1) := by decide +kernel
theorem d_X_gap_18 : decode c_X_gap 18 = .ok (.ldc 197, 2) := by decide +kernel
theorem d_X_gap_20 : decode c_X_gap 20 = .ok (.invokespecial 66, 3) := by decide +kernel
theorem d_X_gap_23 : decode c_X_gap 23 = .ok (.athrow, 1) := by decide +kernel
theorem d_X_gap_24 : decode c_X_gap 24 = .ok (.aconst_null, 1) := by decide +kernel
theorem d_X_gap_25 : decode c_X_gap 25 = .ok (.astore_n 3, 1) := by decide +kernel
theorem d_X_gap_26 : decode c_X_gap 26 = .ok (.iload_n 2, 1) := by decide +kernel
theorem d_X_gap_27 : decode c_X_gap 27 = .ok (.istore 4, 2) := by decide +kernel
theorem d_X_gap_29 : decode c_X_gap 29 = .ok (.iconst 0, 1) := by decide +kernel
theorem d_X_gap_30 : decode c_X_gap 30 = .ok (.istore 5, 2) := by decide +kernel
theorem d_X_gap_32 : decode c_X_gap 32 = .ok (.iload 5, 2) := by decide +kernel
theorem d_X_gap_34 : decode c_X_gap 34 = .ok (.aload_n 0, 1) := by decide +kernel
theorem d_X_gap_35 : decode c_X_gap 35 = .ok (.getfield 10, 3) := by decide +kernel
theorem d_X_gap_38 : decode c_X_gap 38 = .ok (.getfield 67, 3) := by decide +kernel
theorem d_X_gap_41 : decode c_X_gap 41 = .ok (.if_icmp .ge 69, 3) := by decide +kernel
theorem d_X_gap_44 : decode c_X_gap 44 = .ok (.aload_n 0, 1) := by decide +kernel
theorem d_X_gap_45 : decode c_X_gap 45 = .ok (.getfield 10, 3) := by decide +kernel
theorem d_X_gap_48 : decode c_X_gap 48 = .ok (.getfield 135, 3) := by decide +kernel
theorem d_X_gap_51 : decode c_X_gap 51 = .ok (.iload 5, 2) := by decide +kernel
theorem d_X_gap_53 : decode c_X_gap 53 = .ok (.aaload, 1) := by decide +kernel
theorem d_X_gap_54 : decode c_X_gap 54 = .ok (.astore 6, 2) := by decide +kernel
theorem d_X_gap_56 : decode c_X_gap 56 = .ok (.aload 6, 2) := by decide +kernel
theorem d_X_gap_58 : decode c_X_gap 58 = .ok (.getfield 93, 3) := by decide +kernel
theorem d_X_gap_61 : decode c_X_gap 61 = .ok (.getfield 97, 3) := by decide +kernel
theorem d_X_gap_64 : decode c_X_gap 64 = .ok (.ifCond .eq 6, 3) := by decide +kernel
theorem d_X_gap_67 : decode c_X_gap 67 = .ok (.goto 37, 3) := by decide +kernel
theorem d_X_gap_70 : decode c_X_gap 70 = .ok (.aload_n 3, 1) := by decide +kernel
theorem d_X_gap_71 : decode c_X_gap 71 = .ok (.ifnull 30, 3) := by decide +kernel
theorem d_X_gap_74 : decode c_X_gap 74 = .ok (.aload 6, 2) := by decide +kernel
theorem d_X_gap_76 : decode c_X_gap 76 = .ok (.getfield 159, 3) := by decide +kernel
theorem d_X_gap_79 : decode c_X_gap 79 = .ok (.aload_n 3, 1) := by decide +kernel
theorem d_X_gap_80 : decode c_X_gap 80 = .ok (.getfield 159, 3) := by decide +kernel
theorem d_X_gap_83 : decode c_X_gap 83 = .ok (.isub, 1) := by decide +kernel
theorem d_X_gap_84 : decode c_X_gap 84 = .ok (.iload_n 1, 1) := by decide +kernel
theorem d_X_gap_85 : decode c_X_gap 85 = .ok (.if_icmp .le 16, 3) := by decide +kernel
theorem d_X_gap_88 : decode c_X_gap 88 = .ok (.iload 4, 2) := by decide +kernel
theorem d_X_gap_90 : decode c_X_gap 90 = .ok (.ifCond .ne 8, 3) := by decide +kernel
theorem d_X_gap_93 : decode c_X_gap 93 = .ok (.aload_n 3, 1) := by decide +kernel
theorem d_X_gap_94 : decode c_X_gap 94 = .ok (.getfield 84, 3) := by decide +kernel
theorem d_X_gap_97 : decode c_X_gap 97 = .ok (.ireturn, 1) := by decide +kernel
theorem d_X_gap_98 : decode c_X_gap 98 = .ok (.iinc 4 (-1), 3) := by decide +kernel
theorem d_X_gap_101 : decode c_X_gap 101 = .ok (.aload 6, 2) := by decide +kernel
theorem d_X_gap_103 : decode c_X_gap 103 = .ok (.astore_n 3, 1) := by decide +kernel
theorem d_X_gap_104 : decode c_X_gap 104 = .ok (.iinc 5 1, 3) := by decide +kernel
theorem d_X_gap_107 : decode c_X_gap 107 = .ok (.goto (-75), 3) := by decide +kernel
theorem d_X_gap_110 : decode c_X_gap 110 = .ok (.iconst (-1), 1) := by decide +kernel
theorem d_X_gap_111 : decode c_X_gap 111 = .ok (.ireturn, 1) := by decide +kernel
theorem d_X_digest_0 : decode c_X_digest 0 = .ok (.aload_n 0, 1) := by decide +kernel
theorem d_X_digest_1 : decode c_X_digest 1 = .ok (.iload_n 1, 1) := by decide +kernel
theorem d_X_digest_2 : decode c_X_digest 2 = .ok (.invokevirtual 87, 3) := by decide +kernel
theorem d_X_digest_5 : decode c_X_digest 5 = .ok (.getfield 199, 3) := by decide +kernel
theorem d_X_digest_8 : decode c_X_digest 8 = .ok (.ireturn, 1) := by decide +kernel
theorem d_X_noteAt_0 : decode c_X_noteAt 0 = .ok (.aload_n 0, 1) := by decide +kernel
theorem d_X_noteAt_1 : decode c_X_noteAt 1 = .ok (.iload_n 1, 1) := by decide +kernel
theorem d_X_noteAt_2 : decode c_X_noteAt 2 = .ok (.invokevirtual 87, 3) := by decide +kernel
theorem d_X_noteAt_5 : decode c_X_noteAt 5 = .ok (.astore_n 3, 1) := by decide +kernel
theorem d_X_noteAt_6 : decode c_X_noteAt 6 = .ok (.iload_n 2, 1) := by decide +kernel
theorem d_X_noteAt_7 : decode c_X_noteAt 7 = .ok (.tableswitch 73 0 4 #[33, 41, 46, 57, 65], 33) := by decide +kernel
theorem d_X_noteAt_40 : decode c_X_noteAt 40 = .ok (.aload_n 3, 1) := by decide +kernel
theorem d_X_noteAt_41 : decode c_X_noteAt 41 = .ok (.getfield 139, 3) := by decide +kernel
theorem d_X_noteAt_44 : decode c_X_noteAt 44 = .ok (.getfield 142, 3) := by decide +kernel
theorem d_X_noteAt_47 : decode c_X_noteAt 47 = .ok (.ireturn, 1) := by decide +kernel
theorem d_X_noteAt_48 : decode c_X_noteAt 48 = .ok (.aload_n 3, 1) := by decide +kernel
theorem d_X_noteAt_49 : decode c_X_noteAt 49 = .ok (.getfield 202, 3) := by decide +kernel
theorem d_X_noteAt_52 : decode c_X_noteAt 52 = .ok (.ireturn, 1) := by decide +kernel
theorem d_X_noteAt_53 : decode c_X_noteAt 53 = .ok (.aload_n 3, 1) := by decide +kernel
theorem d_X_noteAt_54 : decode c_X_noteAt 54 = .ok (.getfield 93, 3) := by decide +kernel
theorem d_X_noteAt_57 : decode c_X_noteAt 57 = .ok (.getfield 97, 3) := by decide +kernel
theorem d_X_noteAt_60 : decode c_X_noteAt 60 = .ok (.invokestatic 170, 3) := by decide +kernel
theorem d_X_noteAt_63 : decode c_X_noteAt 63 = .ok (.ireturn, 1) := by decide +kernel
theorem d_X_noteAt_64 : decode c_X_noteAt 64 = .ok (.aload_n 3, 1) := by decide +kernel
theorem d_X_noteAt_65 : decode c_X_noteAt 65 = .ok (.getfield 93, 3) := by decide +kernel
theorem d_X_noteAt_68 : decode c_X_noteAt 68 = .ok (.getfield 167, 3) := by decide +kernel
theorem d_X_noteAt_71 : decode c_X_noteAt 71 = .ok (.ireturn, 1) := by decide +kernel
theorem d_X_noteAt_72 : decode c_X_noteAt 72 = .ok (.aload_n 3, 1) := by decide +kernel
theorem d_X_noteAt_73 : decode c_X_noteAt 73 = .ok (.getfield 139, 3) := by decide +kernel
theorem d_X_noteAt_76 : decode c_X_noteAt 76 = .ok (.getfield 167, 3) := by decide +kernel
theorem d_X_noteAt_79 : decode c_X_noteAt 79 = .ok (.ireturn, 1) := by decide +kernel
theorem d_X_noteAt_80 : decode c_X_noteAt 80 = .ok (.new 51, 3) := by decide +kernel
theorem d_X_noteAt_83 : decode c_X_noteAt 83 = .ok (.dup, 1) := by decide +kernel
theorem d_X_noteAt_84 : decode c_X_noteAt 84 = .ok (.ldc 177, 2) := by decide +kernel
theorem d_X_noteAt_86 : decode c_X_noteAt 86 = .ok (.invokespecial 55, 3) := by decide +kernel
theorem d_X_noteAt_89 : decode c_X_noteAt 89 = .ok (.athrow, 1) := by decide +kernel
theorem d_X_print_0 : decode c_X_print 0 = .ok (.aload_n 0, 1) := by decide +kernel
theorem d_X_print_1 : decode c_X_print 1 = .ok (.getfield 19, 3) := by decide +kernel
theorem d_X_print_4 : decode c_X_print 4 = .ok (.getfield 203, 3) := by decide +kernel
theorem d_X_print_7 : decode c_X_print 7 = .ok (.ifCond .ne 13, 3) := by decide +kernel
theorem d_X_print_10 : decode c_X_print 10 = .ok (.new 103, 3) := by decide +kernel
theorem d_X_print_13 : decode c_X_print 13 = .ok (.dup, 1) := by decide +kernel
theorem d_X_print_14 : decode c_X_print 14 = .ok (.ldc 206, 2) := by decide +kernel
theorem d_X_print_16 : decode c_X_print 16 = .ok (.invokespecial 107, 3) := by decide +kernel
theorem d_X_print_19 : decode c_X_print 19 = .ok (.athrow, 1) := by decide +kernel
theorem d_X_print_20 : decode c_X_print 20 = .ok (.aload_n 0, 1) := by decide +kernel
theorem d_X_print_21 : decode c_X_print 21 = .ok (.getfield 26, 3) := by decide +kernel
theorem d_X_print_24 : decode c_X_print 24 = .ok (.aload_n 0, 1) := by decide +kernel
theorem d_X_print_25 : decode c_X_print 25 = .ok (.getfield 19, 3) := by decide +kernel
theorem d_X_print_28 : decode c_X_print 28 = .ok (.getfield 153, 3) := by decide +kernel
theorem d_X_print_31 : decode c_X_print 31 = .ok (.invokevirtual 208, 3) := by decide +kernel
theorem d_X_print_34 : decode c_X_print 34 = .ok (.iconst 0, 1) := by decide +kernel
theorem d_X_print_35 : decode c_X_print 35 = .ok (.istore_n 1, 1) := by decide +kernel
theorem d_X_print_36 : decode c_X_print 36 = .ok (.iload_n 1, 1) := by decide +kernel
theorem d_X_print_37 : decode c_X_print 37 = .ok (.aload_n 0, 1) := by decide +kernel
theorem d_X_print_38 : decode c_X_print 38 = .ok (.getfield 19, 3) := by decide +kernel
theorem d_X_print_41 : decode c_X_print 41 = .ok (.getfield 153, 3) := by decide +kernel
theorem d_X_print_44 : decode c_X_print 44 = .ok (.if_icmp .ge 38, 3) := by decide +kernel
theorem d_X_print_47 : decode c_X_print 47 = .ok (.aload_n 0, 1) := by decide +kernel
theorem d_X_print_48 : decode c_X_print 48 = .ok (.getfield 19, 3) := by decide +kernel
theorem d_X_print_51 : decode c_X_print 51 = .ok (.getfield 156, 3) := by decide +kernel
theorem d_X_print_54 : decode c_X_print 54 = .ok (.iload_n 1, 1) := by decide +kernel
theorem d_X_print_55 : decode c_X_print 55 = .ok (.aaload, 1) := by decide +kernel
theorem d_X_print_56 : decode c_X_print 56 = .ok (.astore_n 2, 1) := by decide +kernel
theorem d_X_print_57 : decode c_X_print 57 = .ok (.aload_n 0, 1) := by decide +kernel
theorem d_X_print_58 : decode c_X_print 58 = .ok (.getfield 26, 3) := by decide +kernel
theorem d_X_print_61 : decode c_X_print 61 = .ok (.aload_n 2, 1) := by decide +kernel
theorem d_X_print_62 : decode c_X_print 62 = .ok (.aload_n 2, 1) := by decide +kernel
theorem d_X_print_63 : decode c_X_print 63 = .ok (.aload_n 0, 1) := by decide +kernel
theorem d_X_print_64 : decode c_X_print 64 = .ok (.getfield 19, 3) := by decide +kernel
theorem d_X_print_67 : decode c_X_print 67 = .ok (.getfield 160, 3) := by decide +kernel
theorem d_X_print_70 : decode c_X_print 70 = .ok (.invokevirtual 163, 3) := by decide +kernel
theorem d_X_print_73 : decode c_X_print 73 = .ok (.invokevirtual 209, 3) := by decide +kernel
theorem d_X_print_76 : decode c_X_print 76 = .ok (.iinc 1 1, 3) := by decide +kernel
theorem d_X_print_79 : decode c_X_print 79 = .ok (.goto (-43), 3) := by decide +kernel
theorem d_X_print_82 : decode c_X_print 82 = .ok (.aload_n 0, 1) := by decide +kernel
theorem d_X_print_83 : decode c_X_print 83 = .ok (.getfield 26, 3) := by decide +kernel
theorem d_X_print_86 : decode c_X_print 86 = .ok (.getfield 213, 3) := by decide +kernel
theorem d_X_print_89 : decode c_X_print 89 = .ok (.ireturn, 1) := by decide +kernel
theorem d_X_at_0 : decode c_X_at 0 = .ok (.iload_n 1, 1) := by decide +kernel
theorem d_X_at_1 : decode c_X_at 1 = .ok (.ifCond .ge 13, 3) := by decide +kernel
theorem d_X_at_4 : decode c_X_at 4 = .ok (.new 62, 3) := by decide +kernel
theorem d_X_at_7 : decode c_X_at 7 = .ok (.dup, 1) := by decide +kernel
theorem d_X_at_8 : decode c_X_at 8 = .ok (.ldc 214, 2) := by decide +kernel
theorem d_X_at_10 : decode c_X_at 10 = .ok (.invokespecial 66, 3) := by decide +kernel
theorem d_X_at_13 : decode c_X_at 13 = .ok (.athrow, 1) := by decide +kernel
theorem d_X_at_14 : decode c_X_at 14 = .ok (.iload_n 1, 1) := by decide +kernel
theorem d_X_at_15 : decode c_X_at 15 = .ok (.aload_n 0, 1) := by decide +kernel
theorem d_X_at_16 : decode c_X_at 16 = .ok (.getfield 26, 3) := by decide +kernel
theorem d_X_at_19 : decode c_X_at 19 = .ok (.getfield 213, 3) := by decide +kernel
theorem d_X_at_22 : decode c_X_at 22 = .ok (.if_icmp .ge 15, 3) := by decide +kernel
theorem d_X_at_25 : decode c_X_at 25 = .ok (.aload_n 0, 1) := by decide +kernel
theorem d_X_at_26 : decode c_X_at 26 = .ok (.getfield 26, 3) := by decide +kernel
theorem d_X_at_29 : decode c_X_at 29 = .ok (.getfield 216, 3) := by decide +kernel
theorem d_X_at_32 : decode c_X_at 32 = .ok (.iload_n 1, 1) := by decide +kernel
theorem d_X_at_33 : decode c_X_at 33 = .ok (.baload, 1) := by decide +kernel
theorem d_X_at_34 : decode c_X_at 34 = .ok (.goto 4, 3) := by decide +kernel
theorem d_X_at_37 : decode c_X_at 37 = .ok (.iconst (-1), 1) := by decide +kernel
theorem d_X_at_38 : decode c_X_at 38 = .ok (.ireturn, 1) := by decide +kernel
theorem d_X_tick_0 : decode c_X_tick 0 = .ok (.iload_n 1, 1) := by decide +kernel
theorem d_X_tick_1 : decode c_X_tick 1 = .ok (.iconst 1, 1) := by decide +kernel
theorem d_X_tick_2 : decode c_X_tick 2 = .ok (.if_icmp .lt 21, 3) := by decide +kernel
theorem d_X_tick_5 : decode c_X_tick 5 = .ok (.iload_n 1, 1) := by decide +kernel
theorem d_X_tick_6 : decode c_X_tick 6 = .ok (.sipush 5000, 3) := by decide +kernel
theorem d_X_tick_9 : decode c_X_tick 9 = .ok (.if_icmp .gt 14, 3) := by decide +kernel
theorem d_X_tick_12 : decode c_X_tick 12 = .ok (.iload_n 1, 1) := by decide +kernel
theorem d_X_tick_13 : decode c_X_tick 13 = .ok (.ldc 196, 2) := by decide +kernel
theorem d_X_tick_15 : decode c_X_tick 15 = .ok (.aload_n 0, 1) := by decide +kernel
theorem d_X_tick_16 : decode c_X_tick 16 = .ok (.getfield 74, 3) := by decide +kernel
theorem d_X_tick_19 : decode c_X_tick 19 = .ok (.isub, 1) := by decide +kernel
theorem d_X_tick_20 : decode c_X_tick 20 = .ok (.if_icmp .le 13, 3) := by decide +kernel
theorem d_X_tick_23 : decode c_X_tick 23 = .ok (.new 62, 3) := by decide +kernel
theorem d_X_tick_26 : decode c_X_tick 26 = .ok (.dup, 1) := by decide +kernel
theorem d_X_tick_27 : decode c_X_tick 27 = .ok (.ldc 220, 2) := by decide +kernel
theorem d_X_tick_29 : decode c_X_tick 29 = .ok (.invokespecial 66, 3) := by decide +kernel
theorem d_X_tick_32 : decode c_X_tick 32 = .ok (.athrow, 1) := by decide +kernel
theorem d_X_tick_33 : decode c_X_tick 33 = .ok (.aload_n 0, 1) := by decide +kernel
theorem d_X_tick_34 : decode c_X_tick 34 = .ok (.dup, 1) := by decide +kernel
theorem d_X_tick_35 : decode c_X_tick 35 = .ok (.getfield 74, 3) := by decide +kernel
theorem d_X_tick_38 : decode c_X_tick 38 = .ok (.iload_n 1, 1) := by decide +kernel
theorem d_X_tick_39 : decode c_X_tick 39 = .ok (.iadd, 1) := by decide +kernel
theorem d_X_tick_40 : decode c_X_tick 40 = .ok (.putfield 74, 3) := by decide +kernel
theorem d_X_tick_43 : decode c_X_tick 43 = .ok (.aload_n 0, 1) := by decide +kernel
theorem d_X_tick_44 : decode c_X_tick 44 = .ok (.getfield 74, 3) := by decide +kernel
theorem d_X_tick_47 : decode c_X_tick 47 = .ok (.ireturn, 1) := by decide +kernel
theorem d_X_count_0 : decode c_X_count 0 = .ok (.iload_n 1, 1) := by decide +kernel
theorem d_X_count_1 : decode c_X_count 1 = .ok (.tableswitch 69 0 4 #[35, 40, 48, 53, 61], 35) := by decide +kernel
theorem d_X_count_36 : decode c_X_count 36 = .ok (.aload_n 0, 1) := by decide +kernel
theorem d_X_count_37 : decode c_X_count 37 = .ok (.getfield 30, 3) := by decide +kernel
theorem d_X_count_40 : decode c_X_count 40 = .ok (.ireturn, 1) := by decide +kernel
theorem d_X_count_41 : decode c_X_count 41 = .ok (.aload_n 0, 1) := by decide +kernel
theorem d_X_count_42 : decode c_X_count 42 = .ok (.getfield 10, 3) := by decide +kernel
theorem d_X_count_45 : decode c_X_count 45 = .ok (.getfield 67, 3) := by decide +kernel
theorem d_X_count_48 : decode c_X_count 48 = .ok (.ireturn, 1) := by decide +kernel
theorem d_X_count_49 : decode c_X_count 49 = .ok (.aload_n 0, 1) := by decide +kernel
theorem d_X_count_50 : decode c_X_count 50 = .ok (.getfield 115, 3) := by decide +kernel
theorem d_X_count_53 : decode c_X_count 53 = .ok (.ireturn, 1) := by decide +kernel
theorem d_X_count_54 : decode c_X_count 54 = .ok (.aload_n 0, 1) := by decide +kernel
theorem d_X_count_55 : decode c_X_count 55 = .ok (.getfield 10, 3) := by decide +kernel
theorem d_X_count_58 : decode c_X_count 58 = .ok (.invokevirtual 222, 3) := by decide +kernel
theorem d_X_count_61 : decode c_X_count 61 = .ok (.ireturn, 1) := by decide +kernel
theorem d_X_count_62 : decode c_X_count 62 = .ok (.aload_n 0, 1) := by decide +kernel
theorem d_X_count_63 : decode c_X_count 63 = .ok (.getfield 10, 3) := by decide +kernel
theorem d_X_count_66 : decode c_X_count 66 = .ok (.invokevirtual 226, 3) := by decide +kernel
theorem d_X_count_69 : decode c_X_count 69 = .ok (.ireturn, 1) := by decide +kernel
theorem d_X_count_70 : decode c_X_count 70 = .ok (.new 51, 3) := by decide +kernel
theorem d_X_count_73 : decode c_X_count 73 = .ok (.dup, 1) := by decide +kernel
theorem d_X_count_74 : decode c_X_count 74 = .ok (.ldc 177, 2) := by decide +kernel
theorem d_X_count_76 : decode c_X_count 76 = .ok (.invokespecial 55, 3) := by decide +kernel
theorem d_X_count_79 : decode c_X_count 79 = .ok (.athrow, 1) := by decide +kernel
end
section
/-! decode rows, printed by wip/gen/names.py -/
theorem d_L_init_0 : decode c_L_init 0 = .ok (.aload_n 0, 1) := by decide +kernel
theorem d_L_init_1 : decode c_L_init 1 = .ok (.invokespecial 3, 3) := by decide +kernel
theorem d_L_init_4 : decode c_L_init 4 = .ok (.aload_n 0, 1) := by decide +kernel
theorem d_L_init_5 : decode c_L_init 5 = .ok (.bipush 100, 2) := by decide +kernel
theorem d_L_init_7 : decode c_L_init 7 = .ok (.anewarray 9, 3) := by decide +kernel
theorem d_L_init_10 : decode c_L_init 10 = .ok (.putfield 11, 3) := by decide +kernel
theorem d_L_init_13 : decode c_L_init 13 = .ok (.aload_n 0, 1) := by decide +kernel
theorem d_L_init_14 : decode c_L_init 14 = .ok (.bipush 100, 2) := by decide +kernel
theorem d_L_init_16 : decode c_L_init 16 = .ok (.anewarray 9, 3) := by decide +kernel
theorem d_L_init_19 : decode c_L_init 19 = .ok (.putfield 17, 3) := by decide +kernel
theorem d_L_init_22 : decode c_L_init 22 = .ok (.return_, 1) := by decide +kernel
theorem d_Q_init_0 : decode c_Q_init 0 = .ok (.aload_n 0, 1) := by decide +kernel
theorem d_Q_init_1 : decode c_Q_init 1 = .ok (.invokespecial 3, 3) := by decide +kernel
theorem d_Q_init_4 : decode c_Q_init 4 = .ok (.aload_n 0, 1) := by decide +kernel
theorem d_Q_init_5 : decode c_Q_init 5 = .ok (.bipush 100, 2) := by decide +kernel
theorem d_Q_init_7 : decode c_Q_init 7 = .ok (.anewarray 9, 3) := by decide +kernel
theorem d_Q_init_10 : decode c_Q_init 10 = .ok (.putfield 11, 3) := by decide +kernel
theorem d_Q_init_13 : decode c_Q_init 13 = .ok (.return_, 1) := by decide +kernel
theorem d_S_init_0 : decode c_S_init 0 = .ok (.aload_n 0, 1) := by decide +kernel
theorem d_S_init_1 : decode c_S_init 1 = .ok (.invokespecial 3, 3) := by decide +kernel
theorem d_S_init_4 : decode c_S_init 4 = .ok (.aload_n 0, 1) := by decide +kernel
theorem d_S_init_5 : decode c_S_init 5 = .ok (.sipush 2005, 3) := by decide +kernel
theorem d_S_init_8 : decode c_S_init 8 = .ok (.newarray .byte, 2) := by decide +kernel
theorem d_S_init_10 : decode c_S_init 10 = .ok (.putfield 11, 3) := by decide +kernel
theorem d_S_init_13 : decode c_S_init 13 = .ok (.return_, 1) := by decide +kernel
theorem d_N_init_0 : decode c_N_init 0 = .ok (.aload_n 0, 1) := by decide +kernel
theorem d_N_init_1 : decode c_N_init 1 = .ok (.invokespecial 3, 3) := by decide +kernel
theorem d_N_init_4 : decode c_N_init 4 = .ok (.aload_n 0, 1) := by decide +kernel
theorem d_N_init_5 : decode c_N_init 5 = .ok (.iload_n 1, 1) := by decide +kernel
theorem d_N_init_6 : decode c_N_init 6 = .ok (.putfield 9, 3) := by decide +kernel
theorem d_N_init_9 : decode c_N_init 9 = .ok (.aload_n 0, 1) := by decide +kernel
theorem d_N_init_10 : decode c_N_init 10 = .ok (.iload_n 2, 1) := by decide +kernel
theorem d_N_init_11 : decode c_N_init 11 = .ok (.putfield 15, 3) := by decide +kernel
theorem d_N_init_14 : decode c_N_init 14 = .ok (.aload_n 0, 1) := by decide +kernel
theorem d_N_init_15 : decode c_N_init 15 = .ok (.iload_n 3, 1) := by decide +kernel
theorem d_N_init_16 : decode c_N_init 16 = .ok (.putfield 18, 3) := by decide +kernel
theorem d_N_init_19 : decode c_N_init 19 = .ok (.aload_n 0, 1) := by decide +kernel
theorem d_N_init_20 : decode c_N_init 20 = .ok (.iload 4, 2) := by decide +kernel
theorem d_N_init_22 : decode c_N_init 22 = .ok (.putfield 21, 3) := by decide +kernel
theorem d_N_init_25 : decode c_N_init 25 = .ok (.aload_n 0, 1) := by decide +kernel
theorem d_N_init_26 : decode c_N_init 26 = .ok (.iload 5, 2) := by decide +kernel
theorem d_N_init_28 : decode c_N_init 28 = .ok (.putfield 24, 3) := by decide +kernel
theorem d_N_init_31 : decode c_N_init 31 = .ok (.aload_n 0, 1) := by decide +kernel
theorem d_N_init_32 : decode c_N_init 32 = .ok (.new 27, 3) := by decide +kernel
theorem d_N_init_35 : decode c_N_init 35 = .ok (.dup, 1) := by decide +kernel
theorem d_N_init_36 : decode c_N_init 36 = .ok (.iload 7, 2) := by decide +kernel
theorem d_N_init_38 : decode c_N_init 38 = .ok (.iload 6, 2) := by decide +kernel
theorem d_N_init_40 : decode c_N_init 40 = .ok (.iconst 0, 1) := by decide +kernel
theorem d_N_init_41 : decode c_N_init 41 = .ok (.aconst_null, 1) := by decide +kernel
theorem d_N_init_42 : decode c_N_init 42 = .ok (.invokespecial 29, 3) := by decide +kernel
theorem d_N_init_45 : decode c_N_init 45 = .ok (.putfield 32, 3) := by decide +kernel
theorem d_N_init_48 : decode c_N_init 48 = .ok (.aload_n 0, 1) := by decide +kernel
theorem d_N_init_49 : decode c_N_init 49 = .ok (.aload_n 0, 1) := by decide +kernel
theorem d_N_init_50 : decode c_N_init 50 = .ok (.getfield 32, 3) := by decide +kernel
theorem d_N_init_53 : decode c_N_init 53 = .ok (.putfield 36, 3) := by decide +kernel
theorem d_N_init_56 : decode c_N_init 56 = .ok (.aload_n 0, 1) := by decide +kernel
theorem d_N_init_57 : decode c_N_init 57 = .ok (.bipush 7, 2) := by decide +kernel
theorem d_N_init_59 : decode c_N_init 59 = .ok (.iload_n 2, 1) := by decide +kernel
theorem d_N_init_60 : decode c_N_init 60 = .ok (.invokestatic 39, 3) := by decide +kernel
theorem d_N_init_63 : decode c_N_init 63 = .ok (.iload_n 3, 1) := by decide +kernel
theorem d_N_init_64 : decode c_N_init 64 = .ok (.invokestatic 39, 3) := by decide +kernel
theorem d_N_init_67 : decode c_N_init 67 = .ok (.iload 4, 2) := by decide +kernel
theorem d_N_init_69 : decode c_N_init 69 = .ok (.invokestatic 39, 3) := by decide +kernel
theorem d_N_init_72 : decode c_N_init 72 = .ok (.iload 5, 2) := by decide +kernel
theorem d_N_init_74 : decode c_N_init 74 = .ok (.invokestatic 39, 3) := by decide +kernel
theorem d_N_init_77 : decode c_N_init 77 = .ok (.iload 6, 2) := by decide +kernel
theorem d_N_init_79 : decode c_N_init 79 = .ok (.invokestatic 39, 3) := by decide +kernel
theorem d_N_init_82 : decode c_N_init 82 = .ok (.putfield 43, 3) := by decide +kernel
theorem d_N_init_85 : decode c_N_init 85 = .ok (.return_, 1) := by decide +kernel
theorem d_T_init_0 : decode c_T_init 0 = .ok (.aload_n 0, 1) := by decide +kernel
theorem d_T_init_1 : decode c_T_init 1 = .ok (.invokespecial 1, 3) := by decide +kernel
theorem d_T_init_4 : decode c_T_init 4 = .ok (.aload_n 0, 1) := by decide +kernel
theorem d_T_init_5 : decode c_T_init 5 = .ok (.iload_n 1, 1) := by decide +kernel
theorem d_T_init_6 : decode c_T_init 6 = .ok (.putfield 7, 3) := by decide +kernel
theorem d_T_init_9 : decode c_T_init 9 = .ok (.aload_n 0, 1) := by decide +kernel
theorem d_T_init_10 : decode c_T_init 10 = .ok (.iload_n 2, 1) := by decide +kernel
theorem d_T_init_11 : decode c_T_init 11 = .ok (.putfield 13, 3) := by decide +kernel
theorem d_T_init_14 : decode c_T_init 14 = .ok (.aload_n 0, 1) := by decide +kernel
theorem d_T_init_15 : decode c_T_init 15 = .ok (.iload_n 3, 1) := by decide +kernel
theorem d_T_init_16 : decode c_T_init 16 = .ok (.putfield 16, 3) := by decide +kernel
theorem d_T_init_19 : decode c_T_init 19 = .ok (.aload_n 0, 1) := by decide +kernel
theorem d_T_init_20 : decode c_T_init 20 = .ok (.aload 4, 2) := by decide +kernel
theorem d_T_init_22 : decode c_T_init 22 = .ok (.putfield 20, 3) := by decide +kernel
theorem d_T_init_25 : decode c_T_init 25 = .ok (.return_, 1) := by decide +kernel
theorem d_N_mix_0 : decode c_N_mix 0 = .ok (.iload_n 0, 1) := by decide +kernel
theorem d_N_mix_1 : decode c_N_mix 1 = .ok (.iload_n 1, 1) := by decide +kernel
theorem d_N_mix_2 : decode c_N_mix 2 = .ok (.ixor, 1) := by decide +kernel
theorem d_N_mix_3 : decode c_N_mix 3 = .ok (.istore_n 2, 1) := by decide +kernel
theorem d_N_mix_4 : decode c_N_mix 4 = .ok (.iload_n 2, 1) := by decide +kernel
theorem d_N_mix_5 : decode c_N_mix 5 = .ok (.bipush 7, 2) := by decide +kernel
theorem d_N_mix_7 : decode c_N_mix 7 = .ok (.ishl, 1) := by decide +kernel
theorem d_N_mix_8 : decode c_N_mix 8 = .ok (.iload_n 2, 1) := by decide +kernel
theorem d_N_mix_9 : decode c_N_mix 9 = .ok (.bipush 25, 2) := by decide +kernel
theorem d_N_mix_11 : decode c_N_mix 11 = .ok (.iushr, 1) := by decide +kernel
theorem d_N_mix_12 : decode c_N_mix 12 = .ok (.ior, 1) := by decide +kernel
theorem d_N_mix_13 : decode c_N_mix 13 = .ok (.iload_n 1, 1) := by decide +kernel
theorem d_N_mix_14 : decode c_N_mix 14 = .ok (.iadd, 1) := by decide +kernel
theorem d_N_mix_15 : decode c_N_mix 15 = .ok (.ireturn, 1) := by decide +kernel
theorem d_L_take_0 : decode c_L_take 0 = .ok (.aload_n 0, 1) := by decide +kernel
theorem d_L_take_1 : decode c_L_take 1 = .ok (.getfield 20, 3) := by decide +kernel
theorem d_L_take_4 : decode c_L_take 4 = .ok (.bipush 100, 2) := by decide +kernel
theorem d_L_take_6 : decode c_L_take 6 = .ok (.if_icmp .lt 4, 3) := by decide +kernel
theorem d_L_take_9 : decode c_L_take 9 = .ok (.return_, 1) := by decide +kernel
theorem d_L_take_10 : decode c_L_take 10 = .ok (.aload_n 0, 1) := by decide +kernel
theorem d_L_take_11 : decode c_L_take 11 = .ok (.getfield 11, 3) := by decide +kernel
theorem d_L_take_14 : decode c_L_take 14 = .ok (.aload_n 0, 1) := by decide +kernel
theorem d_L_take_15 : decode c_L_take 15 = .ok (.getfield 20, 3) := by decide +kernel
theorem d_L_take_18 : decode c_L_take 18 = .ok (.aload_n 1, 1) := by decide +kernel
theorem d_L_take_19 : decode c_L_take 19 = .ok (.aastore, 1) := by decide +kernel
theorem d_L_take_20 : decode c_L_take 20 = .ok (.aload_n 0, 1) := by decide +kernel
theorem d_L_take_21 : decode c_L_take 21 = .ok (.getfield 20, 3) := by decide +kernel
theorem d_L_take_24 : decode c_L_take 24 = .ok (.istore_n 2, 1) := by decide +kernel
theorem d_L_take_25 : decode c_L_take 25 = .ok (.iload_n 2, 1) := by decide +kernel
theorem d_L_take_26 : decode c_L_take 26 = .ok (.ifCond .le 38, 3) := by decide +kernel
theorem d_L_take_29 : decode c_L_take 29 = .ok (.aload_n 0, 1) := by decide +kernel
theorem d_L_take_30 : decode c_L_take 30 = .ok (.getfield 17, 3) := by decide +kernel
theorem d_L_take_33 : decode c_L_take 33 = .ok (.iload_n 2, 1) := by decide +kernel
theorem d_L_take_34 : decode c_L_take 34 = .ok (.iconst 1, 1) := by decide +kernel
theorem d_L_take_35 : decode c_L_take 35 = .ok (.isub, 1) := by decide +kernel
theorem d_L_take_36 : decode c_L_take 36 = .ok (.aaload, 1) := by decide +kernel
theorem d_L_take_37 : decode c_L_take 37 = .ok (.aload_n 1, 1) := by decide +kernel
theorem d_L_take_38 : decode c_L_take 38 = .ok (.invokevirtual 24, 3) := by decide +kernel
theorem d_L_take_41 : decode c_L_take 41 = .ok (.ifCond .eq 23, 3) := by decide +kernel
theorem d_L_take_44 : decode c_L_take 44 = .ok (.aload_n 0, 1) := by decide +kernel
theorem d_L_take_45 : decode c_L_take 45 = .ok (.getfield 17, 3) := by decide +kernel
theorem d_L_take_48 : decode c_L_take 48 = .ok (.iload_n 2, 1) := by decide +kernel
theorem d_L_take_49 : decode c_L_take 49 = .ok (.aload_n 0, 1) := by decide +kernel
theorem d_L_take_50 : decode c_L_take 50 = .ok (.getfield 17, 3) := by decide +kernel
theorem d_L_take_53 : decode c_L_take 53 = .ok (.iload_n 2, 1) := by decide +kernel
theorem d_L_take_54 : decode c_L_take 54 = .ok (.iconst 1, 1) := by decide +kernel
theorem d_L_take_55 : decode c_L_take 55 = .ok (.isub, 1) := by decide +kernel
theorem d_L_take_56 : decode c_L_take 56 = .ok (.aaload, 1) := by decide +kernel
theorem d_L_take_57 : decode c_L_take 57 = .ok (.aastore, 1) := by decide +kernel
theorem d_L_take_58 : decode c_L_take 58 = .ok (.iinc 2 (-1), 3) := by decide +kernel
theorem d_L_take_61 : decode c_L_take 61 = .ok (.goto (-36), 3) := by decide +kernel
theorem d_L_take_64 : decode c_L_take 64 = .ok (.aload_n 0, 1) := by decide +kernel
theorem d_L_take_65 : decode c_L_take 65 = .ok (.getfield 17, 3) := by decide +kernel
theorem d_L_take_68 : decode c_L_take 68 = .ok (.iload_n 2, 1) := by decide +kernel
theorem d_L_take_69 : decode c_L_take 69 = .ok (.aload_n 1, 1) := by decide +kernel
theorem d_L_take_70 : decode c_L_take 70 = .ok (.aastore, 1) := by decide +kernel
theorem d_L_take_71 : decode c_L_take 71 = .ok (.aload_n 0, 1) := by decide +kernel
theorem d_L_take_72 : decode c_L_take 72 = .ok (.dup, 1) := by decide +kernel
theorem d_L_take_73 : decode c_L_take 73 = .ok (.getfield 20, 3) := by decide +kernel
theorem d_L_take_76 : decode c_L_take 76 = .ok (.iconst 1, 1) := by decide +kernel
theorem d_L_take_77 : decode c_L_take 77 = .ok (.iadd, 1) := by decide +kernel
theorem d_L_take_78 : decode c_L_take 78 = .ok (.putfield 20, 3) := by decide +kernel
theorem d_L_take_81 : decode c_L_take 81 = .ok (.return_, 1) := by decide +kernel
theorem d_N_standsBehind_0 : decode c_N_standsBehind 0 = .ok (.aload_n 0, 1) := by decide +kernel
theorem d_N_standsBehind_1 : decode c_N_standsBehind 1 = .ok (.getfield 24, 3) := by decide +kernel
theorem d_N_standsBehind_4 : decode c_N_standsBehind 4 = .ok (.aload_n 1, 1) := by decide +kernel
theorem d_N_standsBehind_5 : decode c_N_standsBehind 5 = .ok (.getfield 24, 3) := by decide +kernel
theorem d_N_standsBehind_8 : decode c_N_standsBehind 8 = .ok (.if_icmp .eq 20, 3) := by decide +kernel
theorem d_N_standsBehind_11 : decode c_N_standsBehind 11 = .ok (.aload_n 0, 1) := by decide +kernel
theorem d_N_standsBehind_12 : decode c_N_standsBehind 12 = .ok (.getfield 24, 3) := by decide +kernel
theorem d_N_standsBehind_15 : decode c_N_standsBehind 15 = .ok (.aload_n 1, 1) := by decide +kernel
theorem d_N_standsBehind_16 : decode c_N_standsBehind 16 = .ok (.getfield 24, 3) := by decide +kernel
theorem d_N_standsBehind_19 : decode c_N_standsBehind 19 = .ok (.if_icmp .le 7, 3) := by decide +kernel
theorem d_N_standsBehind_22 : decode c_N_standsBehind 22 = .ok (.iconst 1, 1) := by decide +kernel
theorem d_N_standsBehind_23 : decode c_N_standsBehind 23 = .ok (.goto 4, 3) := by decide +kernel
theorem d_N_standsBehind_26 : decode c_N_standsBehind 26 = .ok (.iconst 0, 1) := by decide +kernel
theorem d_N_standsBehind_27 : decode c_N_standsBehind 27 = .ok (.ireturn, 1) := by decide +kernel
theorem d_N_standsBehind_28 : decode c_N_standsBehind 28 = .ok (.aload_n 0, 1) := by decide +kernel
theorem d_N_standsBehind_29 : decode c_N_standsBehind 29 = .ok (.getfield 15, 3) := by decide +kernel
theorem d_N_standsBehind_32 : decode c_N_standsBehind 32 = .ok (.aload_n 1, 1) := by decide +kernel
theorem d_N_standsBehind_33 : decode c_N_standsBehind 33 = .ok (.getfield 15, 3) := by decide +kernel
theorem d_N_standsBehind_36 : decode c_N_standsBehind 36 = .ok (.if_icmp .eq 20, 3) := by decide +kernel
theorem d_N_standsBehind_39 : decode c_N_standsBehind 39 = .ok (.aload_n 0, 1) := by decide +kernel
theorem d_N_standsBehind_40 : decode c_N_standsBehind 40 = .ok (.getfield 15, 3) := by decide +kernel
theorem d_N_standsBehind_43 : decode c_N_standsBehind 43 = .ok (.aload_n 1, 1) := by decide +kernel
theorem d_N_standsBehind_44 : decode c_N_standsBehind 44 = .ok (.getfield 15, 3) := by decide +kernel
theorem d_N_standsBehind_47 : decode c_N_standsBehind 47 = .ok (.if_icmp .le 7, 3) := by decide +kernel
theorem d_N_standsBehind_50 : decode c_N_standsBehind 50 = .ok (.iconst 1, 1) := by decide +kernel
theorem d_N_standsBehind_51 : decode c_N_standsBehind 51 = .ok (.goto 4, 3) := by decide +kernel
theorem d_N_standsBehind_54 : decode c_N_standsBehind 54 = .ok (.iconst 0, 1) := by decide +kernel
theorem d_N_standsBehind_55 : decode c_N_standsBehind 55 = .ok (.ireturn, 1) := by decide +kernel
theorem d_N_standsBehind_56 : decode c_N_standsBehind 56 = .ok (.aload_n 0, 1) := by decide +kernel
theorem d_N_standsBehind_57 : decode c_N_standsBehind 57 = .ok (.getfield 9, 3) := by decide +kernel
theorem d_N_standsBehind_60 : decode c_N_standsBehind 60 = .ok (.aload_n 1, 1) := by decide +kernel
theorem d_N_standsBehind_61 : decode c_N_standsBehind 61 = .ok (.getfield 9, 3) := by decide +kernel
theorem d_N_standsBehind_64 : decode c_N_standsBehind 64 = .ok (.if_icmp .le 7, 3) := by decide +kernel
theorem d_N_standsBehind_67 : decode c_N_standsBehind 67 = .ok (.iconst 1, 1) := by decide +kernel
theorem d_N_standsBehind_68 : decode c_N_standsBehind 68 = .ok (.goto 4, 3) := by decide +kernel
theorem d_N_standsBehind_71 : decode c_N_standsBehind 71 = .ok (.iconst 0, 1) := by decide +kernel
theorem d_N_standsBehind_72 : decode c_N_standsBehind 72 = .ok (.ireturn, 1) := by decide +kernel
theorem d_N_takeValue_0 : decode c_N_takeValue 0 = .ok (.aload_n 0, 1) := by decide +kernel
theorem d_N_takeValue_1 : decode c_N_takeValue 1 = .ok (.new 27, 3) := by decide +kernel
theorem d_N_takeValue_4 : decode c_N_takeValue 4 = .ok (.dup, 1) := by decide +kernel
theorem d_N_takeValue_5 : decode c_N_takeValue 5 = .ok (.iload_n 1, 1) := by decide +kernel
theorem d_N_takeValue_6 : decode c_N_takeValue 6 = .ok (.iload_n 2, 1) := by decide +kernel
theorem d_N_takeValue_7 : decode c_N_takeValue 7 = .ok (.aload_n 0, 1) := by decide +kernel
theorem d_N_takeValue_8 : decode c_N_takeValue 8 = .ok (.getfield 36, 3) := by decide +kernel
theorem d_N_takeValue_11 : decode c_N_takeValue 11 = .ok (.getfield 46, 3) := by decide +kernel
theorem d_N_takeValue_14 : decode c_N_takeValue 14 = .ok (.aload_n 0, 1) := by decide +kernel
theorem d_N_takeValue_15 : decode c_N_takeValue 15 = .ok (.getfield 36, 3) := by decide +kernel
theorem d_N_takeValue_18 : decode c_N_takeValue 18 = .ok (.invokespecial 29, 3) := by decide +kernel
theorem d_N_takeValue_21 : decode c_N_takeValue 21 = .ok (.putfield 36, 3) := by decide +kernel
theorem d_N_takeValue_24 : decode c_N_takeValue 24 = .ok (.aload_n 0, 1) := by decide +kernel
theorem d_N_takeValue_25 : decode c_N_takeValue 25 = .ok (.aload_n 0, 1) := by decide +kernel
theorem d_N_takeValue_26 : decode c_N_takeValue 26 = .ok (.getfield 43, 3) := by decide +kernel
theorem d_N_takeValue_29 : decode c_N_takeValue 29 = .ok (.iload_n 2, 1) := by decide +kernel
theorem d_N_takeValue_30 : decode c_N_takeValue 30 = .ok (.invokestatic 39, 3) := by decide +kernel
theorem d_N_takeValue_33 : decode c_N_takeValue 33 = .ok (.putfield 43, 3) := by decide +kernel
theorem d_N_takeValue_36 : decode c_N_takeValue 36 = .ok (.aload_n 0, 1) := by decide +kernel
theorem d_N_takeValue_37 : decode c_N_takeValue 37 = .ok (.dup, 1) := by decide +kernel
theorem d_N_takeValue_38 : decode c_N_takeValue 38 = .ok (.getfield 50, 3) := by decide +kernel
theorem d_N_takeValue_41 : decode c_N_takeValue 41 = .ok (.iconst 1, 1) := by decide +kernel
theorem d_N_takeValue_42 : decode c_N_takeValue 42 = .ok (.iadd, 1) := by decide +kernel
theorem d_N_takeValue_43 : decode c_N_takeValue 43 = .ok (.putfield 50, 3) := by decide +kernel
theorem d_N_takeValue_46 : decode c_N_takeValue 46 = .ok (.aload_n 0, 1) := by decide +kernel
theorem d_N_takeValue_47 : decode c_N_takeValue 47 = .ok (.dup, 1) := by decide +kernel
theorem d_N_takeValue_48 : decode c_N_takeValue 48 = .ok (.getfield 53, 3) := by decide +kernel
theorem d_N_takeValue_51 : decode c_N_takeValue 51 = .ok (.iconst 1, 1) := by decide +kernel
theorem d_N_takeValue_52 : decode c_N_takeValue 52 = .ok (.iadd, 1) := by decide +kernel
theorem d_N_takeValue_53 : decode c_N_takeValue 53 = .ok (.putfield 53, 3) := by decide +kernel
theorem d_N_takeValue_56 : decode c_N_takeValue 56 = .ok (.return_, 1) := by decide +kernel
theorem d_N_takeStrike_0 : decode c_N_takeStrike 0 = .ok (.aload_n 0, 1) := by decide +kernel
theorem d_N_takeStrike_1 : decode c_N_takeStrike 1 = .ok (.new 27, 3) := by decide +kernel
theorem d_N_takeStrike_4 : decode c_N_takeStrike 4 = .ok (.dup, 1) := by decide +kernel
theorem d_N_takeStrike_5 : decode c_N_takeStrike 5 = .ok (.iload_n 1, 1) := by decide +kernel
theorem d_N_takeStrike_6 : decode c_N_takeStrike 6 = .ok (.aload_n 0, 1) := by decide +kernel
theorem d_N_takeStrike_7 : decode c_N_takeStrike 7 = .ok (.getfield 36, 3) := by decide +kernel
theorem d_N_takeStrike_10 : decode c_N_takeStrike 10 = .ok (.getfield 56, 3) := by decide +kernel
theorem d_N_takeStrike_13 : decode c_N_takeStrike 13 = .ok (.iload_n 2, 1) := by decide +kernel
theorem d_N_takeStrike_14 : decode c_N_takeStrike 14 = .ok (.aload_n 0, 1) := by decide +kernel
theorem d_N_takeStrike_15 : decode c_N_takeStrike 15 = .ok (.getfield 36, 3) := by decide +kernel
theorem d_N_takeStrike_18 : decode c_N_takeStrike 18 = .ok (.invokespecial 29, 3) := by decide +kernel
theorem d_N_takeStrike_21 : decode c_N_takeStrike 21 = .ok (.putfield 36, 3) := by decide +kernel
theorem d_N_takeStrike_24 : decode c_N_takeStrike 24 = .ok (.aload_n 0, 1) := by decide +kernel
theorem d_N_takeStrike_25 : decode c_N_takeStrike 25 = .ok (.dup, 1) := by decide +kernel
theorem d_N_takeStrike_26 : decode c_N_takeStrike 26 = .ok (.getfield 53, 3) := by decide +kernel
theorem d_N_takeStrike_29 : decode c_N_takeStrike 29 = .ok (.iconst 1, 1) := by decide +kernel
theorem d_N_takeStrike_30 : decode c_N_takeStrike 30 = .ok (.iadd, 1) := by decide +kernel
theorem d_N_takeStrike_31 : decode c_N_takeStrike 31 = .ok (.putfield 53, 3) := by decide +kernel
theorem d_N_takeStrike_34 : decode c_N_takeStrike 34 = .ok (.return_, 1) := by decide +kernel
theorem d_Q_begin_0 : decode c_Q_begin 0 = .ok (.aload_n 0, 1) := by decide +kernel
theorem d_Q_begin_1 : decode c_Q_begin 1 = .ok (.iconst 1, 1) := by decide +kernel
theorem d_Q_begin_2 : decode c_Q_begin 2 = .ok (.putfield 17, 3) := by decide +kernel
theorem d_Q_begin_5 : decode c_Q_begin 5 = .ok (.aload_n 0, 1) := by decide +kernel
theorem d_Q_begin_6 : decode c_Q_begin 6 = .ok (.iload_n 1, 1) := by decide +kernel
theorem d_Q_begin_7 : decode c_Q_begin 7 = .ok (.putfield 21, 3) := by decide +kernel
theorem d_Q_begin_10 : decode c_Q_begin 10 = .ok (.aload_n 0, 1) := by decide +kernel
theorem d_Q_begin_11 : decode c_Q_begin 11 = .ok (.iconst 0, 1) := by decide +kernel
theorem d_Q_begin_12 : decode c_Q_begin 12 = .ok (.putfield 25, 3) := by decide +kernel
theorem d_Q_begin_15 : decode c_Q_begin 15 = .ok (.return_, 1) := by decide +kernel
theorem d_N_isWithin_0 : decode c_N_isWithin 0 = .ok (.aload_n 0, 1) := by decide +kernel
theorem d_N_isWithin_1 : decode c_N_isWithin 1 = .ok (.getfield 24, 3) := by decide +kernel
theorem d_N_isWithin_4 : decode c_N_isWithin 4 = .ok (.iload_n 1, 1) := by decide +kernel
theorem d_N_isWithin_5 : decode c_N_isWithin 5 = .ok (.if_icmp .lt 15, 3) := by decide +kernel
theorem d_N_isWithin_8 : decode c_N_isWithin 8 = .ok (.aload_n 0, 1) := by decide +kernel
theorem d_N_isWithin_9 : decode c_N_isWithin 9 = .ok (.getfield 24, 3) := by decide +kernel
theorem d_N_isWithin_12 : decode c_N_isWithin 12 = .ok (.iload_n 2, 1) := by decide +kernel
theorem d_N_isWithin_13 : decode c_N_isWithin 13 = .ok (.if_icmp .ge 7, 3) := by decide +kernel
theorem d_N_isWithin_16 : decode c_N_isWithin 16 = .ok (.iconst 1, 1) := by decide +kernel
theorem d_N_isWithin_17 : decode c_N_isWithin 17 = .ok (.goto 4, 3) := by decide +kernel
theorem d_N_isWithin_20 : decode c_N_isWithin 20 = .ok (.iconst 0, 1) := by decide +kernel
theorem d_N_isWithin_21 : decode c_N_isWithin 21 = .ok (.ireturn, 1) := by decide +kernel
theorem d_N_isOf_0 : decode c_N_isOf 0 = .ok (.iload_n 1, 1) := by decide +kernel
theorem d_N_isOf_1 : decode c_N_isOf 1 = .ok (.iconst (-1), 1) := by decide +kernel
theorem d_N_isOf_2 : decode c_N_isOf 2 = .ok (.if_icmp .eq 11, 3) := by decide +kernel
theorem d_N_isOf_5 : decode c_N_isOf 5 = .ok (.iload_n 1, 1) := by decide +kernel
theorem d_N_isOf_6 : decode c_N_isOf 6 = .ok (.aload_n 0, 1) := by decide +kernel
theorem d_N_isOf_7 : decode c_N_isOf 7 = .ok (.getfield 18, 3) := by decide +kernel
theorem d_N_isOf_10 : decode c_N_isOf 10 = .ok (.if_icmp .ne 20, 3) := by decide +kernel
theorem d_N_isOf_13 : decode c_N_isOf 13 = .ok (.iload_n 2, 1) := by decide +kernel
theorem d_N_isOf_14 : decode c_N_isOf 14 = .ok (.iconst (-1), 1) := by decide +kernel
theorem d_N_isOf_15 : decode c_N_isOf 15 = .ok (.if_icmp .eq 11, 3) := by decide +kernel
theorem d_N_isOf_18 : decode c_N_isOf 18 = .ok (.iload_n 2, 1) := by decide +kernel
theorem d_N_isOf_19 : decode c_N_isOf 19 = .ok (.aload_n 0, 1) := by decide +kernel
theorem d_N_isOf_20 : decode c_N_isOf 20 = .ok (.getfield 21, 3) := by decide +kernel
theorem d_N_isOf_23 : decode c_N_isOf 23 = .ok (.if_icmp .ne 7, 3) := by decide +kernel
theorem d_N_isOf_26 : decode c_N_isOf 26 = .ok (.iconst 1, 1) := by decide +kernel
theorem d_N_isOf_27 : decode c_N_isOf 27 = .ok (.goto 4, 3) := by decide +kernel
theorem d_N_isOf_30 : decode c_N_isOf 30 = .ok (.iconst 0, 1) := by decide +kernel
theorem d_N_isOf_31 : decode c_N_isOf 31 = .ok (.ireturn, 1) := by decide +kernel
theorem d_Q_take_0 : decode c_Q_take 0 = .ok (.aload_n 0, 1) := by decide +kernel
theorem d_Q_take_1 : decode c_Q_take 1 = .ok (.getfield 25, 3) := by decide +kernel
theorem d_Q_take_4 : decode c_Q_take 4 = .ok (.bipush 100, 2) := by decide +kernel
theorem d_Q_take_6 : decode c_Q_take 6 = .ok (.if_icmp .ge 23, 3) := by decide +kernel
theorem d_Q_take_9 : decode c_Q_take 9 = .ok (.aload_n 0, 1) := by decide +kernel
theorem d_Q_take_10 : decode c_Q_take 10 = .ok (.getfield 11, 3) := by decide +kernel
theorem d_Q_take_13 : decode c_Q_take 13 = .ok (.aload_n 0, 1) := by decide +kernel
theorem d_Q_take_14 : decode c_Q_take 14 = .ok (.getfield 25, 3) := by decide +kernel
theorem d_Q_take_17 : decode c_Q_take 17 = .ok (.aload_n 1, 1) := by decide +kernel
theorem d_Q_take_18 : decode c_Q_take 18 = .ok (.aastore, 1) := by decide +kernel
theorem d_Q_take_19 : decode c_Q_take 19 = .ok (.aload_n 0, 1) := by decide +kernel
theorem d_Q_take_20 : decode c_Q_take 20 = .ok (.dup, 1) := by decide +kernel
theorem d_Q_take_21 : decode c_Q_take 21 = .ok (.getfield 25, 3) := by decide +kernel
theorem d_Q_take_24 : decode c_Q_take 24 = .ok (.iconst 1, 1) := by decide +kernel
theorem d_Q_take_25 : decode c_Q_take 25 = .ok (.iadd, 1) := by decide +kernel
theorem d_Q_take_26 : decode c_Q_take 26 = .ok (.putfield 25, 3) := by decide +kernel
theorem d_Q_take_29 : decode c_Q_take 29 = .ok (.return_, 1) := by decide +kernel
theorem d_N_stateAt_0 : decode c_N_stateAt 0 = .ok (.aload_n 0, 1) := by decide +kernel
theorem d_N_stateAt_1 : decode c_N_stateAt 1 = .ok (.getfield 36, 3) := by decide +kernel
theorem d_N_stateAt_4 : decode c_N_stateAt 4 = .ok (.astore_n 2, 1) := by decide +kernel
theorem d_N_stateAt_5 : decode c_N_stateAt 5 = .ok (.aload_n 2, 1) := by decide +kernel
theorem d_N_stateAt_6 : decode c_N_stateAt 6 = .ok (.getfield 59, 3) := by decide +kernel
theorem d_N_stateAt_9 : decode c_N_stateAt 9 = .ok (.iload_n 1, 1) := by decide +kernel
theorem d_N_stateAt_10 : decode c_N_stateAt 10 = .ok (.if_icmp .le 18, 3) := by decide +kernel
theorem d_N_stateAt_13 : decode c_N_stateAt 13 = .ok (.aload_n 2, 1) := by decide +kernel
theorem d_N_stateAt_14 : decode c_N_stateAt 14 = .ok (.getfield 62, 3) := by decide +kernel
theorem d_N_stateAt_17 : decode c_N_stateAt 17 = .ok (.ifnull 11, 3) := by decide +kernel
theorem d_N_stateAt_20 : decode c_N_stateAt 20 = .ok (.aload_n 2, 1) := by decide +kernel
theorem d_N_stateAt_21 : decode c_N_stateAt 21 = .ok (.getfield 62, 3) := by decide +kernel
theorem d_N_stateAt_24 : decode c_N_stateAt 24 = .ok (.astore_n 2, 1) := by decide +kernel
theorem d_N_stateAt_25 : decode c_N_stateAt 25 = .ok (.goto (-20), 3) := by decide +kernel
theorem d_N_stateAt_28 : decode c_N_stateAt 28 = .ok (.aload_n 2, 1) := by decide +kernel
theorem d_N_stateAt_29 : decode c_N_stateAt 29 = .ok (.areturn, 1) := by decide +kernel
theorem d_L_lastReadingUpTo_0 : decode c_L_lastReadingUpTo 0 = .ok (.aload_n 0, 1) := by decide +kernel
theorem d_L_lastReadingUpTo_1 : decode c_L_lastReadingUpTo 1 = .ok (.getfield 20, 3) := by decide +kernel
theorem d_L_lastReadingUpTo_4 : decode c_L_lastReadingUpTo 4 = .ok (.iconst 1, 1) := by decide +kernel
theorem d_L_lastReadingUpTo_5 : decode c_L_lastReadingUpTo 5 = .ok (.isub, 1) := by decide +kernel
theorem d_L_lastReadingUpTo_6 : decode c_L_lastReadingUpTo 6 = .ok (.istore_n 3, 1) := by decide +kernel
theorem d_L_lastReadingUpTo_7 : decode c_L_lastReadingUpTo 7 = .ok (.iload_n 3, 1) := by decide +kernel
theorem d_L_lastReadingUpTo_8 : decode c_L_lastReadingUpTo 8 = .ok (.ifCond .lt 42, 3) := by decide +kernel
theorem d_L_lastReadingUpTo_11 : decode c_L_lastReadingUpTo 11 = .ok (.aload_n 0, 1) := by decide +kernel
theorem d_L_lastReadingUpTo_12 : decode c_L_lastReadingUpTo 12 = .ok (.getfield 17, 3) := by decide +kernel
theorem d_L_lastReadingUpTo_15 : decode c_L_lastReadingUpTo 15 = .ok (.iload_n 3, 1) := by decide +kernel
theorem d_L_lastReadingUpTo_16 : decode c_L_lastReadingUpTo 16 = .ok (.aaload, 1) := by decide +kernel
theorem d_L_lastReadingUpTo_17 : decode c_L_lastReadingUpTo 17 = .ok (.getfield 28, 3) := by decide +kernel
theorem d_L_lastReadingUpTo_20 : decode c_L_lastReadingUpTo 20 = .ok (.iload_n 2, 1) := by decide +kernel
theorem d_L_lastReadingUpTo_21 : decode c_L_lastReadingUpTo 21 = .ok (.if_icmp .gt 23, 3) := by decide +kernel
theorem d_L_lastReadingUpTo_24 : decode c_L_lastReadingUpTo 24 = .ok (.aload_n 0, 1) := by decide +kernel
theorem d_L_lastReadingUpTo_25 : decode c_L_lastReadingUpTo 25 = .ok (.getfield 17, 3) := by decide +kernel
theorem d_L_lastReadingUpTo_28 : decode c_L_lastReadingUpTo 28 = .ok (.iload_n 3, 1) := by decide +kernel
theorem d_L_lastReadingUpTo_29 : decode c_L_lastReadingUpTo 29 = .ok (.aaload, 1) := by decide +kernel
theorem d_L_lastReadingUpTo_30 : decode c_L_lastReadingUpTo 30 = .ok (.iload_n 1, 1) := by decide +kernel
theorem d_L_lastReadingUpTo_31 : decode c_L_lastReadingUpTo 31 = .ok (.invokevirtual 31, 3) := by decide +kernel
theorem d_L_lastReadingUpTo_34 : decode c_L_lastReadingUpTo 34 = .ok (.ifCond .eq 10, 3) := by decide +kernel
theorem d_L_lastReadingUpTo_37 : decode c_L_lastReadingUpTo 37 = .ok (.aload_n 0, 1) := by decide +kernel
theorem d_L_lastReadingUpTo_38 : decode c_L_lastReadingUpTo 38 = .ok (.getfield 17, 3) := by decide +kernel
theorem d_L_lastReadingUpTo_41 : decode c_L_lastReadingUpTo 41 = .ok (.iload_n 3, 1) := by decide +kernel
theorem d_L_lastReadingUpTo_42 : decode c_L_lastReadingUpTo 42 = .ok (.aaload, 1) := by decide +kernel
theorem d_L_lastReadingUpTo_43 : decode c_L_lastReadingUpTo 43 = .ok (.areturn, 1) := by decide +kernel
theorem d_L_lastReadingUpTo_44 : decode c_L_lastReadingUpTo 44 = .ok (.iinc 3 (-1), 3) := by decide +kernel
theorem d_L_lastReadingUpTo_47 : decode c_L_lastReadingUpTo 47 = .ok (.goto (-40), 3) := by decide +kernel
theorem d_L_lastReadingUpTo_50 : decode c_L_lastReadingUpTo 50 = .ok (.aconst_null, 1) := by decide +kernel
theorem d_L_lastReadingUpTo_51 : decode c_L_lastReadingUpTo 51 = .ok (.areturn, 1) := by decide +kernel
theorem d_N_isReadingOf_0 : decode c_N_isReadingOf 0 = .ok (.aload_n 0, 1) := by decide +kernel
theorem d_N_isReadingOf_1 : decode c_N_isReadingOf 1 = .ok (.getfield 18, 3) := by decide +kernel
theorem d_N_isReadingOf_4 : decode c_N_isReadingOf 4 = .ok (.iconst 2, 1) := by decide +kernel
theorem d_N_isReadingOf_5 : decode c_N_isReadingOf 5 = .ok (.if_icmp .ne 25, 3) := by decide +kernel
theorem d_N_isReadingOf_8 : decode c_N_isReadingOf 8 = .ok (.aload_n 0, 1) := by decide +kernel
theorem d_N_isReadingOf_9 : decode c_N_isReadingOf 9 = .ok (.getfield 21, 3) := by decide +kernel
theorem d_N_isReadingOf_12 : decode c_N_isReadingOf 12 = .ok (.iload_n 1, 1) := by decide +kernel
theorem d_N_isReadingOf_13 : decode c_N_isReadingOf 13 = .ok (.if_icmp .ne 17, 3) := by decide +kernel
theorem d_N_isReadingOf_16 : decode c_N_isReadingOf 16 = .ok (.aload_n 0, 1) := by decide +kernel
theorem d_N_isReadingOf_17 : decode c_N_isReadingOf 17 = .ok (.getfield 36, 3) := by decide +kernel
theorem d_N_isReadingOf_20 : decode c_N_isReadingOf 20 = .ok (.getfield 46, 3) := by decide +kernel
theorem d_N_isReadingOf_23 : decode c_N_isReadingOf 23 = .ok (.ifCond .ne 7, 3) := by decide +kernel
theorem d_N_isReadingOf_26 : decode c_N_isReadingOf 26 = .ok (.iconst 1, 1) := by decide +kernel
theorem d_N_isReadingOf_27 : decode c_N_isReadingOf 27 = .ok (.goto 4, 3) := by decide +kernel
theorem d_N_isReadingOf_30 : decode c_N_isReadingOf 30 = .ok (.iconst 0, 1) := by decide +kernel
theorem d_N_isReadingOf_31 : decode c_N_isReadingOf 31 = .ok (.ireturn, 1) := by decide +kernel
theorem d_L_firstReadingFrom_0 : decode c_L_firstReadingFrom 0 = .ok (.iconst 0, 1) := by decide +kernel
theorem d_L_firstReadingFrom_1 : decode c_L_firstReadingFrom 1 = .ok (.istore_n 3, 1) := by decide +kernel
theorem d_L_firstReadingFrom_2 : decode c_L_firstReadingFrom 2 = .ok (.iload_n 3, 1) := by decide +kernel
theorem d_L_firstReadingFrom_3 : decode c_L_firstReadingFrom 3 = .ok (.aload_n 0, 1) := by decide +kernel
theorem d_L_firstReadingFrom_4 : decode c_L_firstReadingFrom 4 = .ok (.getfield 20, 3) := by decide +kernel
theorem d_L_firstReadingFrom_7 : decode c_L_firstReadingFrom 7 = .ok (.if_icmp .ge 42, 3) := by decide +kernel
theorem d_L_firstReadingFrom_10 : decode c_L_firstReadingFrom 10 = .ok (.aload_n 0, 1) := by decide +kernel
theorem d_L_firstReadingFrom_11 : decode c_L_firstReadingFrom 11 = .ok (.getfield 17, 3) := by decide +kernel
theorem d_L_firstReadingFrom_14 : decode c_L_firstReadingFrom 14 = .ok (.iload_n 3, 1) := by decide +kernel
theorem d_L_firstReadingFrom_15 : decode c_L_firstReadingFrom 15 = .ok (.aaload, 1) := by decide +kernel
theorem d_L_firstReadingFrom_16 : decode c_L_firstReadingFrom 16 = .ok (.getfield 28, 3) := by decide +kernel
theorem d_L_firstReadingFrom_19 : decode c_L_firstReadingFrom 19 = .ok (.iload_n 2, 1) := by decide +kernel
theorem d_L_firstReadingFrom_20 : decode c_L_firstReadingFrom 20 = .ok (.if_icmp .lt 23, 3) := by decide +kernel
theorem d_L_firstReadingFrom_23 : decode c_L_firstReadingFrom 23 = .ok (.aload_n 0, 1) := by decide +kernel
theorem d_L_firstReadingFrom_24 : decode c_L_firstReadingFrom 24 = .ok (.getfield 17, 3) := by decide +kernel
theorem d_L_firstReadingFrom_27 : decode c_L_firstReadingFrom 27 = .ok (.iload_n 3, 1) := by decide +kernel
theorem d_L_firstReadingFrom_28 : decode c_L_firstReadingFrom 28 = .ok (.aaload, 1) := by decide +kernel
theorem d_L_firstReadingFrom_29 : decode c_L_firstReadingFrom 29 = .ok (.iload_n 1, 1) := by decide +kernel
theorem d_L_firstReadingFrom_30 : decode c_L_firstReadingFrom 30 = .ok (.invokevirtual 31, 3) := by decide +kernel
theorem d_L_firstReadingFrom_33 : decode c_L_firstReadingFrom 33 = .ok (.ifCond .eq 10, 3) := by decide +kernel
theorem d_L_firstReadingFrom_36 : decode c_L_firstReadingFrom 36 = .ok (.aload_n 0, 1) := by decide +kernel
theorem d_L_firstReadingFrom_37 : decode c_L_firstReadingFrom 37 = .ok (.getfield 17, 3) := by decide +kernel
theorem d_L_firstReadingFrom_40 : decode c_L_firstReadingFrom 40 = .ok (.iload_n 3, 1) := by decide +kernel
theorem d_L_firstReadingFrom_41 : decode c_L_firstReadingFrom 41 = .ok (.aaload, 1) := by decide +kernel
theorem d_L_firstReadingFrom_42 : decode c_L_firstReadingFrom 42 = .ok (.areturn, 1) := by decide +kernel
theorem d_L_firstReadingFrom_43 : decode c_L_firstReadingFrom 43 = .ok (.iinc 3 1, 3) := by decide +kernel
theorem d_L_firstReadingFrom_46 : decode c_L_firstReadingFrom 46 = .ok (.goto (-44), 3) := by decide +kernel
theorem d_L_firstReadingFrom_49 : decode c_L_firstReadingFrom 49 = .ok (.aconst_null, 1) := by decide +kernel
theorem d_L_firstReadingFrom_50 : decode c_L_firstReadingFrom 50 = .ok (.areturn, 1) := by decide +kernel
theorem d_J_floorDiv_0 : decode c_J_floorDiv 0 = .ok (.iload_n 0, 1) := by decide +kernel
theorem d_J_floorDiv_1 : decode c_J_floorDiv 1 = .ok (.iload_n 1, 1) := by decide +kernel
theorem d_J_floorDiv_2 : decode c_J_floorDiv 2 = .ok (.idiv, 1) := by decide +kernel
theorem d_J_floorDiv_3 : decode c_J_floorDiv 3 = .ok (.istore_n 2, 1) := by decide +kernel
theorem d_J_floorDiv_4 : decode c_J_floorDiv 4 = .ok (.iload_n 0, 1) := by decide +kernel
theorem d_J_floorDiv_5 : decode c_J_floorDiv 5 = .ok (.iload_n 1, 1) := by decide +kernel
theorem d_J_floorDiv_6 : decode c_J_floorDiv 6 = .ok (.ixor, 1) := by decide +kernel
theorem d_J_floorDiv_7 : decode c_J_floorDiv 7 = .ok (.ifCond .ge 14, 3) := by decide +kernel
theorem d_J_floorDiv_10 : decode c_J_floorDiv 10 = .ok (.iload_n 2, 1) := by decide +kernel
theorem d_J_floorDiv_11 : decode c_J_floorDiv 11 = .ok (.iload_n 1, 1) := by decide +kernel
theorem d_J_floorDiv_12 : decode c_J_floorDiv 12 = .ok (.imul, 1) := by decide +kernel
theorem d_J_floorDiv_13 : decode c_J_floorDiv 13 = .ok (.iload_n 0, 1) := by decide +kernel
theorem d_J_floorDiv_14 : decode c_J_floorDiv 14 = .ok (.if_icmp .eq 7, 3) := by decide +kernel
theorem d_J_floorDiv_17 : decode c_J_floorDiv 17 = .ok (.iload_n 2, 1) := by decide +kernel
theorem d_J_floorDiv_18 : decode c_J_floorDiv 18 = .ok (.iconst 1, 1) := by decide +kernel
theorem d_J_floorDiv_19 : decode c_J_floorDiv 19 = .ok (.isub, 1) := by decide +kernel
theorem d_J_floorDiv_20 : decode c_J_floorDiv 20 = .ok (.ireturn, 1) := by decide +kernel
theorem d_J_floorDiv_21 : decode c_J_floorDiv 21 = .ok (.iload_n 2, 1) := by decide +kernel
theorem d_J_floorDiv_22 : decode c_J_floorDiv 22 = .ok (.ireturn, 1) := by decide +kernel
theorem d_S_begin_0 : decode c_S_begin 0 = .ok (.aload_n 0, 1) := by decide +kernel
theorem d_S_begin_1 : decode c_S_begin 1 = .ok (.iconst 0, 1) := by decide +kernel
theorem d_S_begin_2 : decode c_S_begin 2 = .ok (.putfield 15, 3) := by decide +kernel
theorem d_S_begin_5 : decode c_S_begin 5 = .ok (.aload_n 0, 1) := by decide +kernel
theorem d_S_begin_6 : decode c_S_begin 6 = .ok (.bipush 84, 2) := by decide +kernel
theorem d_S_begin_8 : decode c_S_begin 8 = .ok (.iload_n 1, 1) := by decide +kernel
theorem d_S_begin_9 : decode c_S_begin 9 = .ok (.invokevirtual 19, 3) := by decide +kernel
theorem d_S_begin_12 : decode c_S_begin 12 = .ok (.aload_n 0, 1) := by decide +kernel
theorem d_S_begin_13 : decode c_S_begin 13 = .ok (.bipush 59, 2) := by decide +kernel
theorem d_S_begin_15 : decode c_S_begin 15 = .ok (.invokevirtual 23, 3) := by decide +kernel
theorem d_S_begin_18 : decode c_S_begin 18 = .ok (.return_, 1) := by decide +kernel
theorem d_S_putNumber_0 : decode c_S_putNumber 0 = .ok (.aload_n 0, 1) := by decide +kernel
theorem d_S_putNumber_1 : decode c_S_putNumber 1 = .ok (.iload_n 1, 1) := by decide +kernel
theorem d_S_putNumber_2 : decode c_S_putNumber 2 = .ok (.invokevirtual 23, 3) := by decide +kernel
theorem d_S_putNumber_5 : decode c_S_putNumber 5 = .ok (.aload_n 0, 1) := by decide +kernel
theorem d_S_putNumber_6 : decode c_S_putNumber 6 = .ok (.iload_n 2, 1) := by decide +kernel
theorem d_S_putNumber_7 : decode c_S_putNumber 7 = .ok (.invokevirtual 32, 3) := by decide +kernel
theorem d_S_putNumber_10 : decode c_S_putNumber 10 = .ok (.return_, 1) := by decide +kernel
theorem d_S_put_0 : decode c_S_put 0 = .ok (.aload_n 0, 1) := by decide +kernel
theorem d_S_put_1 : decode c_S_put 1 = .ok (.getfield 15, 3) := by decide +kernel
theorem d_S_put_4 : decode c_S_put 4 = .ok (.aload_n 0, 1) := by decide +kernel
theorem d_S_put_5 : decode c_S_put 5 = .ok (.getfield 11, 3) := by decide +kernel
theorem d_S_put_8 : decode c_S_put 8 = .ok (.arraylength, 1) := by decide +kernel
theorem d_S_put_9 : decode c_S_put 9 = .ok (.if_icmp .ge 24, 3) := by decide +kernel
theorem d_S_put_12 : decode c_S_put 12 = .ok (.aload_n 0, 1) := by decide +kernel
theorem d_S_put_13 : decode c_S_put 13 = .ok (.getfield 11, 3) := by decide +kernel
theorem d_S_put_16 : decode c_S_put 16 = .ok (.aload_n 0, 1) := by decide +kernel
theorem d_S_put_17 : decode c_S_put 17 = .ok (.getfield 15, 3) := by decide +kernel
theorem d_S_put_20 : decode c_S_put 20 = .ok (.iload_n 1, 1) := by decide +kernel
theorem d_S_put_21 : decode c_S_put 21 = .ok (.i2b, 1) := by decide +kernel
theorem d_S_put_22 : decode c_S_put 22 = .ok (.bastore, 1) := by decide +kernel
theorem d_S_put_23 : decode c_S_put 23 = .ok (.aload_n 0, 1) := by decide +kernel
theorem d_S_put_24 : decode c_S_put 24 = .ok (.dup, 1) := by decide +kernel
theorem d_S_put_25 : decode c_S_put 25 = .ok (.getfield 15, 3) := by decide +kernel
theorem d_S_put_28 : decode c_S_put 28 = .ok (.iconst 1, 1) := by decide +kernel
theorem d_S_put_29 : decode c_S_put 29 = .ok (.iadd, 1) := by decide +kernel
theorem d_S_put_30 : decode c_S_put 30 = .ok (.putfield 15, 3) := by decide +kernel
theorem d_S_put_33 : decode c_S_put 33 = .ok (.return_, 1) := by decide +kernel
theorem d_S_putDigits_0 : decode c_S_putDigits 0 = .ok (.sipush 10000, 3) := by decide +kernel
theorem d_S_putDigits_3 : decode c_S_putDigits 3 = .ok (.istore_n 2, 1) := by decide +kernel
theorem d_S_putDigits_4 : decode c_S_putDigits 4 = .ok (.iload_n 2, 1) := by decide +kernel
theorem d_S_putDigits_5 : decode c_S_putDigits 5 = .ok (.iconst 1, 1) := by decide +kernel
theorem d_S_putDigits_6 : decode c_S_putDigits 6 = .ok (.if_icmp .le 16, 3) := by decide +kernel
theorem d_S_putDigits_9 : decode c_S_putDigits 9 = .ok (.iload_n 2, 1) := by decide +kernel
theorem d_S_putDigits_10 : decode c_S_putDigits 10 = .ok (.iload_n 1, 1) := by decide +kernel
theorem d_S_putDigits_11 : decode c_S_putDigits 11 = .ok (.if_icmp .le 11, 3) := by decide +kernel
theorem d_S_putDigits_14 : decode c_S_putDigits 14 = .ok (.iload_n 2, 1) := by decide +kernel
theorem d_S_putDigits_15 : decode c_S_putDigits 15 = .ok (.bipush 10, 2) := by decide +kernel
theorem d_S_putDigits_17 : decode c_S_putDigits 17 = .ok (.idiv, 1) := by decide +kernel
theorem d_S_putDigits_18 : decode c_S_putDigits 18 = .ok (.istore_n 2, 1) := by decide +kernel
theorem d_S_putDigits_19 : decode c_S_putDigits 19 = .ok (.goto (-15), 3) := by decide +kernel
theorem d_S_putDigits_22 : decode c_S_putDigits 22 = .ok (.iload_n 2, 1) := by decide +kernel
theorem d_S_putDigits_23 : decode c_S_putDigits 23 = .ok (.ifCond .le 25, 3) := by decide +kernel
theorem d_S_putDigits_26 : decode c_S_putDigits 26 = .ok (.aload_n 0, 1) := by decide +kernel
theorem d_S_putDigits_27 : decode c_S_putDigits 27 = .ok (.bipush 48, 2) := by decide +kernel
theorem d_S_putDigits_29 : decode c_S_putDigits 29 = .ok (.iload_n 1, 1) := by decide +kernel
theorem d_S_putDigits_30 : decode c_S_putDigits 30 = .ok (.iload_n 2, 1) := by decide +kernel
theorem d_S_putDigits_31 : decode c_S_putDigits 31 = .ok (.idiv, 1) := by decide +kernel
theorem d_S_putDigits_32 : decode c_S_putDigits 32 = .ok (.bipush 10, 2) := by decide +kernel
theorem d_S_putDigits_34 : decode c_S_putDigits 34 = .ok (.irem, 1) := by decide +kernel
theorem d_S_putDigits_35 : decode c_S_putDigits 35 = .ok (.iadd, 1) := by decide +kernel
theorem d_S_putDigits_36 : decode c_S_putDigits 36 = .ok (.i2c, 1) := by decide +kernel
theorem d_S_putDigits_37 : decode c_S_putDigits 37 = .ok (.invokevirtual 23, 3) := by decide +kernel
theorem d_S_putDigits_40 : decode c_S_putDigits 40 = .ok (.iload_n 2, 1) := by decide +kernel
theorem d_S_putDigits_41 : decode c_S_putDigits 41 = .ok (.bipush 10, 2) := by decide +kernel
theorem d_S_putDigits_43 : decode c_S_putDigits 43 = .ok (.idiv, 1) := by decide +kernel
theorem d_S_putDigits_44 : decode c_S_putDigits 44 = .ok (.istore_n 2, 1) := by decide +kernel
theorem d_S_putDigits_45 : decode c_S_putDigits 45 = .ok (.goto (-23), 3) := by decide +kernel
theorem d_S_putDigits_48 : decode c_S_putDigits 48 = .ok (.return_, 1) := by decide +kernel
theorem d_S_putRow_0 : decode c_S_putRow 0 = .ok (.aload_n 0, 1) := by decide +kernel
theorem d_S_putRow_1 : decode c_S_putRow 1 = .ok (.aload_n 1, 1) := by decide +kernel
theorem d_S_putRow_2 : decode c_S_putRow 2 = .ok (.getfield 27, 3) := by decide +kernel
theorem d_S_putRow_5 : decode c_S_putRow 5 = .ok (.invokevirtual 32, 3) := by decide +kernel
theorem d_S_putRow_8 : decode c_S_putRow 8 = .ok (.aload_n 0, 1) := by decide +kernel
theorem d_S_putRow_9 : decode c_S_putRow 9 = .ok (.bipush 58, 2) := by decide +kernel
theorem d_S_putRow_11 : decode c_S_putRow 11 = .ok (.invokevirtual 23, 3) := by decide +kernel
theorem d_S_putRow_14 : decode c_S_putRow 14 = .ok (.aload_n 0, 1) := by decide +kernel
theorem d_S_putRow_15 : decode c_S_putRow 15 = .ok (.bipush 119, 2) := by decide +kernel
theorem d_S_putRow_17 : decode c_S_putRow 17 = .ok (.aload_n 1, 1) := by decide +kernel
theorem d_S_putRow_18 : decode c_S_putRow 18 = .ok (.getfield 36, 3) := by decide +kernel
theorem d_S_putRow_21 : decode c_S_putRow 21 = .ok (.invokevirtual 19, 3) := by decide +kernel
theorem d_S_putRow_24 : decode c_S_putRow 24 = .ok (.aload_n 0, 1) := by decide +kernel
theorem d_S_putRow_25 : decode c_S_putRow 25 = .ok (.bipush 107, 2) := by decide +kernel
theorem d_S_putRow_27 : decode c_S_putRow 27 = .ok (.aload_n 1, 1) := by decide +kernel
theorem d_S_putRow_28 : decode c_S_putRow 28 = .ok (.getfield 39, 3) := by decide +kernel
theorem d_S_putRow_31 : decode c_S_putRow 31 = .ok (.invokevirtual 19, 3) := by decide +kernel
theorem d_S_putRow_34 : decode c_S_putRow 34 = .ok (.aload_n 0, 1) := by decide +kernel
theorem d_S_putRow_35 : decode c_S_putRow 35 = .ok (.bipush 115, 2) := by decide +kernel
theorem d_S_putRow_37 : decode c_S_putRow 37 = .ok (.aload_n 1, 1) := by decide +kernel
theorem d_S_putRow_38 : decode c_S_putRow 38 = .ok (.getfield 42, 3) := by decide +kernel
theorem d_S_putRow_41 : decode c_S_putRow 41 = .ok (.invokevirtual 19, 3) := by decide +kernel
theorem d_S_putRow_44 : decode c_S_putRow 44 = .ok (.aload_n 0, 1) := by decide +kernel
theorem d_S_putRow_45 : decode c_S_putRow 45 = .ok (.bipush 61, 2) := by decide +kernel
theorem d_S_putRow_47 : decode c_S_putRow 47 = .ok (.invokevirtual 23, 3) := by decide +kernel
theorem d_S_putRow_50 : decode c_S_putRow 50 = .ok (.aload_n 2, 1) := by decide +kernel
theorem d_S_putRow_51 : decode c_S_putRow 51 = .ok (.getfield 45, 3) := by decide +kernel
theorem d_S_putRow_54 : decode c_S_putRow 54 = .ok (.ifCond .ge 9, 3) := by decide +kernel
theorem d_S_putRow_57 : decode c_S_putRow 57 = .ok (.aload_n 0, 1) := by decide +kernel
theorem d_S_putRow_58 : decode c_S_putRow 58 = .ok (.bipush 45, 2) := by decide +kernel
theorem d_S_putRow_60 : decode c_S_putRow 60 = .ok (.invokevirtual 23, 3) := by decide +kernel
theorem d_S_putRow_63 : decode c_S_putRow 63 = .ok (.aload_n 0, 1) := by decide +kernel
theorem d_S_putRow_64 : decode c_S_putRow 64 = .ok (.aload_n 2, 1) := by decide +kernel
theorem d_S_putRow_65 : decode c_S_putRow 65 = .ok (.getfield 45, 3) := by decide +kernel
theorem d_S_putRow_68 : decode c_S_putRow 68 = .ok (.invokestatic 50, 3) := by decide +kernel
theorem d_S_putRow_71 : decode c_S_putRow 71 = .ok (.invokevirtual 32, 3) := by decide +kernel
theorem d_S_putRow_74 : decode c_S_putRow 74 = .ok (.aload_n 2, 1) := by decide +kernel
theorem d_S_putRow_75 : decode c_S_putRow 75 = .ok (.getfield 56, 3) := by decide +kernel
theorem d_S_putRow_78 : decode c_S_putRow 78 = .ok (.ifCond .eq 9, 3) := by decide +kernel
theorem d_S_putRow_81 : decode c_S_putRow 81 = .ok (.aload_n 0, 1) := by decide +kernel
theorem d_S_putRow_82 : decode c_S_putRow 82 = .ok (.bipush 120, 2) := by decide +kernel
theorem d_S_putRow_84 : decode c_S_putRow 84 = .ok (.invokevirtual 23, 3) := by decide +kernel
theorem d_S_putRow_87 : decode c_S_putRow 87 = .ok (.aload_n 0, 1) := by decide +kernel
theorem d_S_putRow_88 : decode c_S_putRow 88 = .ok (.bipush 59, 2) := by decide +kernel
theorem d_S_putRow_90 : decode c_S_putRow 90 = .ok (.invokevirtual 23, 3) := by decide +kernel
theorem d_S_putRow_93 : decode c_S_putRow 93 = .ok (.return_, 1) := by decide +kernel
theorem d_J_abs_0 : decode c_J_abs 0 = .ok (.iload_n 0, 1) := by decide +kernel
theorem d_J_abs_1 : decode c_J_abs 1 = .ok (.ifCond .ge 8, 3) := by decide +kernel
theorem d_J_abs_4 : decode c_J_abs 4 = .ok (.iload_n 0, 1) := by decide +kernel
theorem d_J_abs_5 : decode c_J_abs 5 = .ok (.ineg, 1) := by decide +kernel
theorem d_J_abs_6 : decode c_J_abs 6 = .ok (.goto 4, 3) := by decide +kernel
theorem d_J_abs_9 : decode c_J_abs 9 = .ok (.iload_n 0, 1) := by decide +kernel
theorem d_J_abs_10 : decode c_J_abs 10 = .ok (.ireturn, 1) := by decide +kernel
theorem d_L_howManyStruck_0 : decode c_L_howManyStruck 0 = .ok (.iconst 0, 1) := by decide +kernel
theorem d_L_howManyStruck_1 : decode c_L_howManyStruck 1 = .ok (.istore_n 1, 1) := by decide +kernel
theorem d_L_howManyStruck_2 : decode c_L_howManyStruck 2 = .ok (.iconst 0, 1) := by decide +kernel
theorem d_L_howManyStruck_3 : decode c_L_howManyStruck 3 = .ok (.istore_n 2, 1) := by decide +kernel
theorem d_L_howManyStruck_4 : decode c_L_howManyStruck 4 = .ok (.iload_n 2, 1) := by decide +kernel
theorem d_L_howManyStruck_5 : decode c_L_howManyStruck 5 = .ok (.aload_n 0, 1) := by decide +kernel
theorem d_L_howManyStruck_6 : decode c_L_howManyStruck 6 = .ok (.getfield 20, 3) := by decide +kernel
theorem d_L_howManyStruck_9 : decode c_L_howManyStruck 9 = .ok (.if_icmp .ge 27, 3) := by decide +kernel
theorem d_L_howManyStruck_12 : decode c_L_howManyStruck 12 = .ok (.aload_n 0, 1) := by decide +kernel
theorem d_L_howManyStruck_13 : decode c_L_howManyStruck 13 = .ok (.getfield 11, 3) := by decide +kernel
theorem d_L_howManyStruck_16 : decode c_L_howManyStruck 16 = .ok (.iload_n 2, 1) := by decide +kernel
theorem d_L_howManyStruck_17 : decode c_L_howManyStruck 17 = .ok (.aaload, 1) := by decide +kernel
theorem d_L_howManyStruck_18 : decode c_L_howManyStruck 18 = .ok (.getfield 35, 3) := by decide +kernel
theorem d_L_howManyStruck_21 : decode c_L_howManyStruck 21 = .ok (.getfield 39, 3) := by decide +kernel
theorem d_L_howManyStruck_24 : decode c_L_howManyStruck 24 = .ok (.ifCond .eq 6, 3) := by decide +kernel
theorem d_L_howManyStruck_27 : decode c_L_howManyStruck 27 = .ok (.iinc 1 1, 3) := by decide +kernel
theorem d_L_howManyStruck_30 : decode c_L_howManyStruck 30 = .ok (.iinc 2 1, 3) := by decide +kernel
theorem d_L_howManyStruck_33 : decode c_L_howManyStruck 33 = .ok (.goto (-29), 3) := by decide +kernel
theorem d_L_howManyStruck_36 : decode c_L_howManyStruck 36 = .ok (.iload_n 1, 1) := by decide +kernel
theorem d_L_howManyStruck_37 : decode c_L_howManyStruck 37 = .ok (.ireturn, 1) := by decide +kernel
theorem d_L_howManyWrittenLater_0 : decode c_L_howManyWrittenLater 0 = .ok (.iconst 0, 1) := by decide +kernel
theorem d_L_howManyWrittenLater_1 : decode c_L_howManyWrittenLater 1 = .ok (.istore_n 1, 1) := by decide +kernel
theorem d_L_howManyWrittenLater_2 : decode c_L_howManyWrittenLater 2 = .ok (.iconst 0, 1) := by decide +kernel
theorem d_L_howManyWrittenLater_3 : decode c_L_howManyWrittenLater 3 = .ok (.istore_n 2, 1) := by decide +kernel
theorem d_L_howManyWrittenLater_4 : decode c_L_howManyWrittenLater 4 = .ok (.iload_n 2, 1) := by decide +kernel
theorem d_L_howManyWrittenLater_5 : decode c_L_howManyWrittenLater 5 = .ok (.aload_n 0, 1) := by decide +kernel
theorem d_L_howManyWrittenLater_6 : decode c_L_howManyWrittenLater 6 = .ok (.getfield 20, 3) := by decide +kernel
theorem d_L_howManyWrittenLater_9 : decode c_L_howManyWrittenLater 9 = .ok (.if_icmp .ge 36, 3) := by decide +kernel
theorem d_L_howManyWrittenLater_12 : decode c_L_howManyWrittenLater 12 = .ok (.aload_n 0, 1) := by decide +kernel
theorem d_L_howManyWrittenLater_13 : decode c_L_howManyWrittenLater 13 = .ok (.getfield 11, 3) := by decide +kernel
theorem d_L_howManyWrittenLater_16 : decode c_L_howManyWrittenLater 16 = .ok (.iload_n 2, 1) := by decide +kernel
theorem d_L_howManyWrittenLater_17 : decode c_L_howManyWrittenLater 17 = .ok (.aaload, 1) := by decide +kernel
theorem d_L_howManyWrittenLater_18 : decode c_L_howManyWrittenLater 18 = .ok (.getfield 45, 3) := by decide +kernel
theorem d_L_howManyWrittenLater_21 : decode c_L_howManyWrittenLater 21 = .ok (.getfield 48, 3) := by decide +kernel
theorem d_L_howManyWrittenLater_24 : decode c_L_howManyWrittenLater 24 = .ok (.aload_n 0, 1) := by decide +kernel
theorem d_L_howManyWrittenLater_25 : decode c_L_howManyWrittenLater 25 = .ok (.getfield 11, 3) := by decide +kernel
theorem d_L_howManyWrittenLater_28 : decode c_L_howManyWrittenLater 28 = .ok (.iload_n 2, 1) := by decide +kernel
theorem d_L_howManyWrittenLater_29 : decode c_L_howManyWrittenLater 29 = .ok (.aaload, 1) := by decide +kernel
theorem d_L_howManyWrittenLater_30 : decode c_L_howManyWrittenLater 30 = .ok (.getfield 28, 3) := by decide +kernel
theorem d_L_howManyWrittenLater_33 : decode c_L_howManyWrittenLater 33 = .ok (.if_icmp .le 6, 3) := by decide +kernel
theorem d_L_howManyWrittenLater_36 : decode c_L_howManyWrittenLater 36 = .ok (.iinc 1 1, 3) := by decide +kernel
theorem d_L_howManyWrittenLater_39 : decode c_L_howManyWrittenLater 39 = .ok (.iinc 2 1, 3) := by decide +kernel
theorem d_L_howManyWrittenLater_42 : decode c_L_howManyWrittenLater 42 = .ok (.goto (-38), 3) := by decide +kernel
theorem d_L_howManyWrittenLater_45 : decode c_L_howManyWrittenLater 45 = .ok (.iload_n 1, 1) := by decide +kernel
theorem d_L_howManyWrittenLater_46 : decode c_L_howManyWrittenLater 46 = .ok (.ireturn, 1) := by decide +kernel
end
section
/-! decode rows, printed by wip/gen/names.py -/
theorem d_M_init_0 : decode c_M_init 0 = .ok (.aload_n 0, 1) := by decide +kernel
theorem d_M_init_1 : decode c_M_init 1 = .ok (.invokespecial 1, 3) := by decide +kernel
theorem d_M_init_4 : decode c_M_init 4 = .ok (.aload_n 0, 1) := by decide +kernel
theorem d_M_init_5 : decode c_M_init 5 = .ok (.bipush 100, 2) := by decide +kernel
theorem d_M_init_7 : decode c_M_init 7 = .ok (.newarray .int, 2) := by decide +kernel
theorem d_M_init_9 : decode c_M_init 9 = .ok (.putfield 7, 3) := by decide +kernel
theorem d_M_init_12 : decode c_M_init 12 = .ok (.aload_n 0, 1) := by decide +kernel
theorem d_M_init_13 : decode c_M_init 13 = .ok (.bipush 100, 2) := by decide +kernel
theorem d_M_init_15 : decode c_M_init 15 = .ok (.newarray .int, 2) := by decide +kernel
theorem d_M_init_17 : decode c_M_init 17 = .ok (.putfield 13, 3) := by decide +kernel
theorem d_M_init_20 : decode c_M_init 20 = .ok (.aload_n 0, 1) := by decide +kernel
theorem d_M_init_21 : decode c_M_init 21 = .ok (.bipush 100, 2) := by decide +kernel
theorem d_M_init_23 : decode c_M_init 23 = .ok (.newarray .int, 2) := by decide +kernel
theorem d_M_init_25 : decode c_M_init 25 = .ok (.putfield 16, 3) := by decide +kernel
theorem d_M_init_28 : decode c_M_init 28 = .ok (.aload_n 0, 1) := by decide +kernel
theorem d_M_init_29 : decode c_M_init 29 = .ok (.bipush 100, 2) := by decide +kernel
theorem d_M_init_31 : decode c_M_init 31 = .ok (.newarray .int, 2) := by decide +kernel
theorem d_M_init_33 : decode c_M_init 33 = .ok (.putfield 19, 3) := by decide +kernel
theorem d_M_init_36 : decode c_M_init 36 = .ok (.aload_n 0, 1) := by decide +kernel
theorem d_M_init_37 : decode c_M_init 37 = .ok (.bipush 100, 2) := by decide +kernel
theorem d_M_init_39 : decode c_M_init 39 = .ok (.newarray .int, 2) := by decide +kernel
theorem d_M_init_41 : decode c_M_init 41 = .ok (.putfield 22, 3) := by decide +kernel
theorem d_M_init_44 : decode c_M_init 44 = .ok (.aload_n 0, 1) := by decide +kernel
theorem d_M_init_45 : decode c_M_init 45 = .ok (.bipush 100, 2) := by decide +kernel
theorem d_M_init_47 : decode c_M_init 47 = .ok (.newarray .int, 2) := by decide +kernel
theorem d_M_init_49 : decode c_M_init 49 = .ok (.putfield 25, 3) := by decide +kernel
theorem d_M_init_52 : decode c_M_init 52 = .ok (.aload_n 0, 1) := by decide +kernel
theorem d_M_init_53 : decode c_M_init 53 = .ok (.sipush 200, 3) := by decide +kernel
theorem d_M_init_56 : decode c_M_init 56 = .ok (.newarray .int, 2) := by decide +kernel
theorem d_M_init_58 : decode c_M_init 58 = .ok (.putfield 28, 3) := by decide +kernel
theorem d_M_init_61 : decode c_M_init 61 = .ok (.aload_n 0, 1) := by decide +kernel
theorem d_M_init_62 : decode c_M_init 62 = .ok (.sipush 200, 3) := by decide +kernel
theorem d_M_init_65 : decode c_M_init 65 = .ok (.newarray .int, 2) := by decide +kernel
theorem d_M_init_67 : decode c_M_init 67 = .ok (.putfield 31, 3) := by decide +kernel
theorem d_M_init_70 : decode c_M_init 70 = .ok (.aload_n 0, 1) := by decide +kernel
theorem d_M_init_71 : decode c_M_init 71 = .ok (.sipush 200, 3) := by decide +kernel
theorem d_M_init_74 : decode c_M_init 74 = .ok (.newarray .int, 2) := by decide +kernel
theorem d_M_init_76 : decode c_M_init 76 = .ok (.putfield 34, 3) := by decide +kernel
theorem d_M_init_79 : decode c_M_init 79 = .ok (.aload_n 0, 1) := by decide +kernel
theorem d_M_init_80 : decode c_M_init 80 = .ok (.sipush 200, 3) := by decide +kernel
theorem d_M_init_83 : decode c_M_init 83 = .ok (.newarray .int, 2) := by decide +kernel
theorem d_M_init_85 : decode c_M_init 85 = .ok (.putfield 37, 3) := by decide +kernel
theorem d_M_init_88 : decode c_M_init 88 = .ok (.aload_n 0, 1) := by decide +kernel
theorem d_M_init_89 : decode c_M_init 89 = .ok (.bipush 100, 2) := by decide +kernel
theorem d_M_init_91 : decode c_M_init 91 = .ok (.newarray .int, 2) := by decide +kernel
theorem d_M_init_93 : decode c_M_init 93 = .ok (.putfield 40, 3) := by decide +kernel
theorem d_M_init_96 : decode c_M_init 96 = .ok (.aload_n 0, 1) := by decide +kernel
theorem d_M_init_97 : decode c_M_init 97 = .ok (.sipush 2400, 3) := by decide +kernel
theorem d_M_init_100 : decode c_M_init 100 = .ok (.newarray .int, 2) := by decide +kernel
theorem d_M_init_102 : decode c_M_init 102 = .ok (.putfield 43, 3) := by decide +kernel
theorem d_M_init_105 : decode c_M_init 105 = .ok (.return_, 1) := by decide +kernel
theorem d_M_thrown_0 : decode c_M_thrown 0 = .ok (.aload_n 0, 1) := by decide +kernel
theorem d_M_thrown_1 : decode c_M_thrown 1 = .ok (.getfield 46, 3) := by decide +kernel
theorem d_M_thrown_4 : decode c_M_thrown 4 = .ok (.ireturn, 1) := by decide +kernel
theorem d_M_writer_0 : decode c_M_writer 0 = .ok (.aload_n 0, 1) := by decide +kernel
theorem d_M_writer_1 : decode c_M_writer 1 = .ok (.bipush 8, 2) := by decide +kernel
theorem d_M_writer_3 : decode c_M_writer 3 = .ok (.iconst 1, 1) := by decide +kernel
theorem d_M_writer_4 : decode c_M_writer 4 = .ok (.iconst 1, 1) := by decide +kernel
theorem d_M_writer_5 : decode c_M_writer 5 = .ok (.iconst 1, 1) := by decide +kernel
theorem d_M_writer_6 : decode c_M_writer 6 = .ok (.aload_n 0, 1) := by decide +kernel
theorem d_M_writer_7 : decode c_M_writer 7 = .ok (.getfield 60, 3) := by decide +kernel
theorem d_M_writer_10 : decode c_M_writer 10 = .ok (.bipush 10, 2) := by decide +kernel
theorem d_M_writer_12 : decode c_M_writer 12 = .ok (.if_icmp .ge 7, 3) := by decide +kernel
theorem d_M_writer_15 : decode c_M_writer 15 = .ok (.iconst 1, 1) := by decide +kernel
theorem d_M_writer_16 : decode c_M_writer 16 = .ok (.goto 4, 3) := by decide +kernel
theorem d_M_writer_19 : decode c_M_writer 19 = .ok (.iconst 0, 1) := by decide +kernel
theorem d_M_writer_20 : decode c_M_writer 20 = .ok (.invokevirtual 63, 3) := by decide +kernel
theorem d_M_writer_23 : decode c_M_writer 23 = .ok (.ifCond .ne 5, 3) := by decide +kernel
theorem d_M_writer_26 : decode c_M_writer 26 = .ok (.iconst 0, 1) := by decide +kernel
theorem d_M_writer_27 : decode c_M_writer 27 = .ok (.ireturn, 1) := by decide +kernel
theorem d_M_writer_28 : decode c_M_writer 28 = .ok (.aload_n 0, 1) := by decide +kernel
theorem d_M_writer_29 : decode c_M_writer 29 = .ok (.dup, 1) := by decide +kernel
theorem d_M_writer_30 : decode c_M_writer 30 = .ok (.getfield 60, 3) := by decide +kernel
theorem d_M_writer_33 : decode c_M_writer 33 = .ok (.iconst 1, 1) := by decide +kernel
theorem d_M_writer_34 : decode c_M_writer 34 = .ok (.iadd, 1) := by decide +kernel
theorem d_M_writer_35 : decode c_M_writer 35 = .ok (.putfield 60, 3) := by decide +kernel
theorem d_M_writer_38 : decode c_M_writer 38 = .ok (.aload_n 0, 1) := by decide +kernel
theorem d_M_writer_39 : decode c_M_writer 39 = .ok (.getfield 60, 3) := by decide +kernel
theorem d_M_writer_42 : decode c_M_writer 42 = .ok (.iconst 1, 1) := by decide +kernel
theorem d_M_writer_43 : decode c_M_writer 43 = .ok (.isub, 1) := by decide +kernel
theorem d_M_writer_44 : decode c_M_writer 44 = .ok (.ireturn, 1) := by decide +kernel
theorem d_M_goes_0 : decode c_M_goes 0 = .ok (.iload_n 2, 1) := by decide +kernel
theorem d_M_goes_1 : decode c_M_goes 1 = .ok (.ifCond .ne 7, 3) := by decide +kernel
theorem d_M_goes_4 : decode c_M_goes 4 = .ok (.iconst 1, 1) := by decide +kernel
theorem d_M_goes_5 : decode c_M_goes 5 = .ok (.goto 31, 3) := by decide +kernel
theorem d_M_goes_8 : decode c_M_goes 8 = .ok (.iload_n 3, 1) := by decide +kernel
theorem d_M_goes_9 : decode c_M_goes 9 = .ok (.ifCond .ne 7, 3) := by decide +kernel
theorem d_M_goes_12 : decode c_M_goes 12 = .ok (.iconst 2, 1) := by decide +kernel
theorem d_M_goes_13 : decode c_M_goes 13 = .ok (.goto 23, 3) := by decide +kernel
theorem d_M_goes_16 : decode c_M_goes 16 = .ok (.iload 4, 2) := by decide +kernel
theorem d_M_goes_18 : decode c_M_goes 18 = .ok (.ifCond .ne 7, 3) := by decide +kernel
theorem d_M_goes_21 : decode c_M_goes 21 = .ok (.iconst 4, 1) := by decide +kernel
theorem d_M_goes_22 : decode c_M_goes 22 = .ok (.goto 14, 3) := by decide +kernel
theorem d_M_goes_25 : decode c_M_goes 25 = .ok (.iload 5, 2) := by decide +kernel
theorem d_M_goes_27 : decode c_M_goes 27 = .ok (.ifCond .ne 8, 3) := by decide +kernel
theorem d_M_goes_30 : decode c_M_goes 30 = .ok (.bipush 8, 2) := by decide +kernel
theorem d_M_goes_32 : decode c_M_goes 32 = .ok (.goto 4, 3) := by decide +kernel
theorem d_M_goes_35 : decode c_M_goes 35 = .ok (.iconst 0, 1) := by decide +kernel
theorem d_M_goes_36 : decode c_M_goes 36 = .ok (.istore 6, 2) := by decide +kernel
theorem d_M_goes_38 : decode c_M_goes 38 = .ok (.aload_n 0, 1) := by decide +kernel
theorem d_M_goes_39 : decode c_M_goes 39 = .ok (.iconst 0, 1) := by decide +kernel
theorem d_M_goes_40 : decode c_M_goes 40 = .ok (.putfield 46, 3) := by decide +kernel
theorem d_M_goes_43 : decode c_M_goes 43 = .ok (.iconst 1, 1) := by decide +kernel
theorem d_M_goes_44 : decode c_M_goes 44 = .ok (.istore 7, 2) := by decide +kernel
theorem d_M_goes_46 : decode c_M_goes 46 = .ok (.iload 7, 2) := by decide +kernel
theorem d_M_goes_48 : decode c_M_goes 48 = .ok (.iload 6, 2) := by decide +kernel
theorem d_M_goes_50 : decode c_M_goes 50 = .ok (.if_icmp .gt 29, 3) := by decide +kernel
theorem d_M_goes_53 : decode c_M_goes 53 = .ok (.iload_n 1, 1) := by decide +kernel
theorem d_M_goes_54 : decode c_M_goes 54 = .ok (.iload 7, 2) := by decide +kernel
theorem d_M_goes_56 : decode c_M_goes 56 = .ok (.iand, 1) := by decide +kernel
theorem d_M_goes_57 : decode c_M_goes 57 = .ok (.ifCond .le 13, 3) := by decide +kernel
theorem d_M_goes_60 : decode c_M_goes 60 = .ok (.aload_n 0, 1) := by decide +kernel
theorem d_M_goes_61 : decode c_M_goes 61 = .ok (.dup, 1) := by decide +kernel
theorem d_M_goes_62 : decode c_M_goes 62 = .ok (.getfield 46, 3) := by decide +kernel
theorem d_M_goes_65 : decode c_M_goes 65 = .ok (.iconst 1, 1) := by decide +kernel
theorem d_M_goes_66 : decode c_M_goes 66 = .ok (.iadd, 1) := by decide +kernel
theorem d_M_goes_67 : decode c_M_goes 67 = .ok (.putfield 46, 3) := by decide +kernel
theorem d_M_goes_70 : decode c_M_goes 70 = .ok (.iconst 2, 1) := by decide +kernel
theorem d_M_goes_71 : decode c_M_goes 71 = .ok (.iload 7, 2) := by decide +kernel
theorem d_M_goes_73 : decode c_M_goes 73 = .ok (.imul, 1) := by decide +kernel
theorem d_M_goes_74 : decode c_M_goes 74 = .ok (.istore 7, 2) := by decide +kernel
theorem d_M_goes_76 : decode c_M_goes 76 = .ok (.goto (-30), 3) := by decide +kernel
theorem d_M_goes_79 : decode c_M_goes 79 = .ok (.iload 6, 2) := by decide +kernel
theorem d_M_goes_81 : decode c_M_goes 81 = .ok (.ifCond .ne 7, 3) := by decide +kernel
theorem d_M_goes_84 : decode c_M_goes 84 = .ok (.iconst 1, 1) := by decide +kernel
theorem d_M_goes_85 : decode c_M_goes 85 = .ok (.goto 4, 3) := by decide +kernel
theorem d_M_goes_88 : decode c_M_goes 88 = .ok (.iconst 0, 1) := by decide +kernel
theorem d_M_goes_89 : decode c_M_goes 89 = .ok (.ireturn, 1) := by decide +kernel
theorem d_M_note_0 : decode c_M_note 0 = .ok (.aload_n 0, 1) := by decide +kernel
theorem d_M_note_1 : decode c_M_note 1 = .ok (.bipush 11, 2) := by decide +kernel
theorem d_M_note_3 : decode c_M_note 3 = .ok (.iload_n 1, 1) := by decide +kernel
theorem d_M_note_4 : decode c_M_note 4 = .ok (.iconst 0, 1) := by decide +kernel
theorem d_M_note_5 : decode c_M_note 5 = .ok (.aload_n 0, 1) := by decide +kernel
theorem d_M_note_6 : decode c_M_note 6 = .ok (.getfield 60, 3) := by decide +kernel
theorem d_M_note_9 : decode c_M_note 9 = .ok (.iconst 1, 1) := by decide +kernel
theorem d_M_note_10 : decode c_M_note 10 = .ok (.isub, 1) := by decide +kernel
theorem d_M_note_11 : decode c_M_note 11 = .ok (.invokestatic 53, 3) := by decide +kernel
theorem d_M_note_14 : decode c_M_note 14 = .ok (.ifCond .eq 26, 3) := by decide +kernel
theorem d_M_note_17 : decode c_M_note 17 = .ok (.iload_n 2, 1) := by decide +kernel
theorem d_M_note_18 : decode c_M_note 18 = .ok (.iconst 0, 1) := by decide +kernel
theorem d_M_note_19 : decode c_M_note 19 = .ok (.iconst 5, 1) := by decide +kernel
theorem d_M_note_20 : decode c_M_note 20 = .ok (.invokestatic 53, 3) := by decide +kernel
theorem d_M_note_23 : decode c_M_note 23 = .ok (.ifCond .eq 17, 3) := by decide +kernel
theorem d_M_note_26 : decode c_M_note 26 = .ok (.iload_n 3, 1) := by decide +kernel
theorem d_M_note_27 : decode c_M_note 27 = .ok (.iconst 0, 1) := by decide +kernel
theorem d_M_note_28 : decode c_M_note 28 = .ok (.bipush 9, 2) := by decide +kernel
theorem d_M_note_30 : decode c_M_note 30 = .ok (.invokestatic 53, 3) := by decide +kernel
theorem d_M_note_33 : decode c_M_note 33 = .ok (.ifCond .eq 7, 3) := by decide +kernel
theorem d_M_note_36 : decode c_M_note 36 = .ok (.iconst 1, 1) := by decide +kernel
theorem d_M_note_37 : decode c_M_note 37 = .ok (.goto 4, 3) := by decide +kernel
theorem d_M_note_40 : decode c_M_note 40 = .ok (.iconst 0, 1) := by decide +kernel
theorem d_M_note_41 : decode c_M_note 41 = .ok (.aload_n 0, 1) := by decide +kernel
theorem d_M_note_42 : decode c_M_note 42 = .ok (.iload 4, 2) := by decide +kernel
theorem d_M_note_44 : decode c_M_note 44 = .ok (.invokevirtual 67, 3) := by decide +kernel
theorem d_M_note_47 : decode c_M_note 47 = .ok (.ifCond .eq 21, 3) := by decide +kernel
theorem d_M_note_50 : decode c_M_note 50 = .ok (.iload 5, 2) := by decide +kernel
theorem d_M_note_52 : decode c_M_note 52 = .ok (.sipush (-9999), 3) := by decide +kernel
theorem d_M_note_55 : decode c_M_note 55 = .ok (.sipush 9999, 3) := by decide +kernel
theorem d_M_note_58 : decode c_M_note 58 = .ok (.invokestatic 53, 3) := by decide +kernel
theorem d_M_note_61 : decode c_M_note 61 = .ok (.ifCond .eq 7, 3) := by decide +kernel
theorem d_M_note_64 : decode c_M_note 64 = .ok (.iconst 1, 1) := by decide +kernel
theorem d_M_note_65 : decode c_M_note 65 = .ok (.goto 4, 3) := by decide +kernel
theorem d_M_note_68 : decode c_M_note 68 = .ok (.iconst 0, 1) := by decide +kernel
theorem d_M_note_69 : decode c_M_note 69 = .ok (.iconst 1, 1) := by decide +kernel
theorem d_M_note_70 : decode c_M_note 70 = .ok (.aload_n 0, 1) := by decide +kernel
theorem d_M_note_71 : decode c_M_note 71 = .ok (.getfield 50, 3) := by decide +kernel
theorem d_M_note_74 : decode c_M_note 74 = .ok (.bipush 100, 2) := by decide +kernel
theorem d_M_note_76 : decode c_M_note 76 = .ok (.if_icmp .ge 7, 3) := by decide +kernel
theorem d_M_note_79 : decode c_M_note 79 = .ok (.iconst 1, 1) := by decide +kernel
theorem d_M_note_80 : decode c_M_note 80 = .ok (.goto 4, 3) := by decide +kernel
theorem d_M_note_83 : decode c_M_note 83 = .ok (.iconst 0, 1) := by decide +kernel
theorem d_M_note_84 : decode c_M_note 84 = .ok (.invokevirtual 63, 3) := by decide +kernel
theorem d_M_note_87 : decode c_M_note 87 = .ok (.ifCond .ne 5, 3) := by decide +kernel
theorem d_M_note_90 : decode c_M_note 90 = .ok (.iconst 0, 1) := by decide +kernel
theorem d_M_note_91 : decode c_M_note 91 = .ok (.ireturn, 1) := by decide +kernel
theorem d_M_note_92 : decode c_M_note 92 = .ok (.aload_n 0, 1) := by decide +kernel
theorem d_M_note_93 : decode c_M_note 93 = .ok (.getfield 7, 3) := by decide +kernel
theorem d_M_note_96 : decode c_M_note 96 = .ok (.aload_n 0, 1) := by decide +kernel
theorem d_M_note_97 : decode c_M_note 97 = .ok (.getfield 50, 3) := by decide +kernel
theorem d_M_note_100 : decode c_M_note 100 = .ok (.iload_n 1, 1) := by decide +kernel
theorem d_M_note_101 : decode c_M_note 101 = .ok (.iastore, 1) := by decide +kernel
theorem d_M_note_102 : decode c_M_note 102 = .ok (.aload_n 0, 1) := by decide +kernel
theorem d_M_note_103 : decode c_M_note 103 = .ok (.getfield 13, 3) := by decide +kernel
theorem d_M_note_106 : decode c_M_note 106 = .ok (.aload_n 0, 1) := by decide +kernel
theorem d_M_note_107 : decode c_M_note 107 = .ok (.getfield 50, 3) := by decide +kernel
theorem d_M_note_110 : decode c_M_note 110 = .ok (.iload_n 2, 1) := by decide +kernel
theorem d_M_note_111 : decode c_M_note 111 = .ok (.iastore, 1) := by decide +kernel
theorem d_M_note_112 : decode c_M_note 112 = .ok (.aload_n 0, 1) := by decide +kernel
theorem d_M_note_113 : decode c_M_note 113 = .ok (.getfield 16, 3) := by decide +kernel
theorem d_M_note_116 : decode c_M_note 116 = .ok (.aload_n 0, 1) := by decide +kernel
theorem d_M_note_117 : decode c_M_note 117 = .ok (.getfield 50, 3) := by decide +kernel
theorem d_M_note_120 : decode c_M_note 120 = .ok (.iload_n 3, 1) := by decide +kernel
theorem d_M_note_121 : decode c_M_note 121 = .ok (.iastore, 1) := by decide +kernel
theorem d_M_note_122 : decode c_M_note 122 = .ok (.aload_n 0, 1) := by decide +kernel
theorem d_M_note_123 : decode c_M_note 123 = .ok (.getfield 19, 3) := by decide +kernel
theorem d_M_note_126 : decode c_M_note 126 = .ok (.aload_n 0, 1) := by decide +kernel
theorem d_M_note_127 : decode c_M_note 127 = .ok (.getfield 50, 3) := by decide +kernel
theorem d_M_note_130 : decode c_M_note 130 = .ok (.iload 4, 2) := by decide +kernel
theorem d_M_note_132 : decode c_M_note 132 = .ok (.iastore, 1) := by decide +kernel
theorem d_M_note_133 : decode c_M_note 133 = .ok (.aload_n 0, 1) := by decide +kernel
theorem d_M_note_134 : decode c_M_note 134 = .ok (.getfield 22, 3) := by decide +kernel
theorem d_M_note_137 : decode c_M_note 137 = .ok (.aload_n 0, 1) := by decide +kernel
theorem d_M_note_138 : decode c_M_note 138 = .ok (.getfield 50, 3) := by decide +kernel
theorem d_M_note_141 : decode c_M_note 141 = .ok (.iload 5, 2) := by decide +kernel
theorem d_M_note_143 : decode c_M_note 143 = .ok (.iastore, 1) := by decide +kernel
theorem d_M_note_144 : decode c_M_note 144 = .ok (.aload_n 0, 1) := by decide +kernel
theorem d_M_note_145 : decode c_M_note 145 = .ok (.getfield 25, 3) := by decide +kernel
theorem d_M_note_148 : decode c_M_note 148 = .ok (.aload_n 0, 1) := by decide +kernel
theorem d_M_note_149 : decode c_M_note 149 = .ok (.getfield 50, 3) := by decide +kernel
theorem d_M_note_152 : decode c_M_note 152 = .ok (.aload_n 0, 1) := by decide +kernel
theorem d_M_note_153 : decode c_M_note 153 = .ok (.getfield 57, 3) := by decide +kernel
theorem d_M_note_156 : decode c_M_note 156 = .ok (.iastore, 1) := by decide +kernel
theorem d_M_note_157 : decode c_M_note 157 = .ok (.aload_n 0, 1) := by decide +kernel
theorem d_M_note_158 : decode c_M_note 158 = .ok (.dup, 1) := by decide +kernel
theorem d_M_note_159 : decode c_M_note 159 = .ok (.getfield 50, 3) := by decide +kernel
theorem d_M_note_162 : decode c_M_note 162 = .ok (.iconst 1, 1) := by decide +kernel
theorem d_M_note_163 : decode c_M_note 163 = .ok (.iadd, 1) := by decide +kernel
theorem d_M_note_164 : decode c_M_note 164 = .ok (.putfield 50, 3) := by decide +kernel
theorem d_M_note_167 : decode c_M_note 167 = .ok (.aload_n 0, 1) := by decide +kernel
theorem d_M_note_168 : decode c_M_note 168 = .ok (.getfield 50, 3) := by decide +kernel
theorem d_M_note_171 : decode c_M_note 171 = .ok (.iconst 1, 1) := by decide +kernel
theorem d_M_note_172 : decode c_M_note 172 = .ok (.isub, 1) := by decide +kernel
theorem d_M_note_173 : decode c_M_note 173 = .ok (.ireturn, 1) := by decide +kernel
theorem d_M_in_0 : decode c_M_in 0 = .ok (.iload_n 0, 1) := by decide +kernel
theorem d_M_in_1 : decode c_M_in 1 = .ok (.iload_n 1, 1) := by decide +kernel
theorem d_M_in_2 : decode c_M_in 2 = .ok (.if_icmp .lt 12, 3) := by decide +kernel
theorem d_M_in_5 : decode c_M_in 5 = .ok (.iload_n 0, 1) := by decide +kernel
theorem d_M_in_6 : decode c_M_in 6 = .ok (.iload_n 2, 1) := by decide +kernel
theorem d_M_in_7 : decode c_M_in 7 = .ok (.if_icmp .gt 7, 3) := by decide +kernel
theorem d_M_in_10 : decode c_M_in 10 = .ok (.iconst 1, 1) := by decide +kernel
theorem d_M_in_11 : decode c_M_in 11 = .ok (.goto 4, 3) := by decide +kernel
theorem d_M_in_14 : decode c_M_in 14 = .ok (.iconst 0, 1) := by decide +kernel
theorem d_M_in_15 : decode c_M_in 15 = .ok (.ireturn, 1) := by decide +kernel
theorem d_M_isGone_0 : decode c_M_isGone 0 = .ok (.iload_n 1, 1) := by decide +kernel
theorem d_M_isGone_1 : decode c_M_isGone 1 = .ok (.iconst 0, 1) := by decide +kernel
theorem d_M_isGone_2 : decode c_M_isGone 2 = .ok (.aload_n 0, 1) := by decide +kernel
theorem d_M_isGone_3 : decode c_M_isGone 3 = .ok (.getfield 57, 3) := by decide +kernel
theorem d_M_isGone_6 : decode c_M_isGone 6 = .ok (.invokestatic 53, 3) := by decide +kernel
theorem d_M_isGone_9 : decode c_M_isGone 9 = .ok (.ireturn, 1) := by decide +kernel
theorem d_M_correct_0 : decode c_M_correct 0 = .ok (.aload_n 0, 1) := by decide +kernel
theorem d_M_correct_1 : decode c_M_correct 1 = .ok (.bipush 15, 2) := by decide +kernel
theorem d_M_correct_3 : decode c_M_correct 3 = .ok (.aload_n 0, 1) := by decide +kernel
theorem d_M_correct_4 : decode c_M_correct 4 = .ok (.iload_n 1, 1) := by decide +kernel
theorem d_M_correct_5 : decode c_M_correct 5 = .ok (.invokevirtual 74, 3) := by decide +kernel
theorem d_M_correct_8 : decode c_M_correct 8 = .ok (.iload_n 2, 1) := by decide +kernel
theorem d_M_correct_9 : decode c_M_correct 9 = .ok (.sipush (-9999), 3) := by decide +kernel
theorem d_M_correct_12 : decode c_M_correct 12 = .ok (.sipush 9999, 3) := by decide +kernel
theorem d_M_correct_15 : decode c_M_correct 15 = .ok (.invokestatic 53, 3) := by decide +kernel
theorem d_M_correct_18 : decode c_M_correct 18 = .ok (.aload_n 0, 1) := by decide +kernel
theorem d_M_correct_19 : decode c_M_correct 19 = .ok (.iload_n 1, 1) := by decide +kernel
theorem d_M_correct_20 : decode c_M_correct 20 = .ok (.invokevirtual 74, 3) := by decide +kernel
theorem d_M_correct_23 : decode c_M_correct 23 = .ok (.ifCond .eq 19, 3) := by decide +kernel
theorem d_M_correct_26 : decode c_M_correct 26 = .ok (.aload_n 0, 1) := by decide +kernel
theorem d_M_correct_27 : decode c_M_correct 27 = .ok (.iload_n 1, 1) := by decide +kernel
theorem d_M_correct_28 : decode c_M_correct 28 = .ok (.aload_n 0, 1) := by decide +kernel
theorem d_M_correct_29 : decode c_M_correct 29 = .ok (.getfield 57, 3) := by decide +kernel
theorem d_M_correct_32 : decode c_M_correct 32 = .ok (.invokevirtual 77, 3) := by decide +kernel
theorem d_M_correct_35 : decode c_M_correct 35 = .ok (.ifCond .ne 7, 3) := by decide +kernel
theorem d_M_correct_38 : decode c_M_correct 38 = .ok (.iconst 1, 1) := by decide +kernel
theorem d_M_correct_39 : decode c_M_correct 39 = .ok (.goto 4, 3) := by decide +kernel
theorem d_M_correct_42 : decode c_M_correct 42 = .ok (.iconst 0, 1) := by decide +kernel
theorem d_M_correct_43 : decode c_M_correct 43 = .ok (.aload_n 0, 1) := by decide +kernel
theorem d_M_correct_44 : decode c_M_correct 44 = .ok (.getfield 71, 3) := by decide +kernel
theorem d_M_correct_47 : decode c_M_correct 47 = .ok (.sipush 200, 3) := by decide +kernel
theorem d_M_correct_50 : decode c_M_correct 50 = .ok (.if_icmp .ge 7, 3) := by decide +kernel
theorem d_M_correct_53 : decode c_M_correct 53 = .ok (.iconst 1, 1) := by decide +kernel
theorem d_M_correct_54 : decode c_M_correct 54 = .ok (.goto 4, 3) := by decide +kernel
theorem d_M_correct_57 : decode c_M_correct 57 = .ok (.iconst 0, 1) := by decide +kernel
theorem d_M_correct_58 : decode c_M_correct 58 = .ok (.invokevirtual 63, 3) := by decide +kernel
theorem d_M_correct_61 : decode c_M_correct 61 = .ok (.ifCond .ne 5, 3) := by decide +kernel
theorem d_M_correct_64 : decode c_M_correct 64 = .ok (.iconst 0, 1) := by decide +kernel
theorem d_M_correct_65 : decode c_M_correct 65 = .ok (.ireturn, 1) := by decide +kernel
theorem d_M_correct_66 : decode c_M_correct 66 = .ok (.aload_n 0, 1) := by decide +kernel
theorem d_M_correct_67 : decode c_M_correct 67 = .ok (.iload_n 1, 1) := by decide +kernel
theorem d_M_correct_68 : decode c_M_correct 68 = .ok (.iconst 2, 1) := by decide +kernel
theorem d_M_correct_69 : decode c_M_correct 69 = .ok (.iload_n 2, 1) := by decide +kernel
theorem d_M_correct_70 : decode c_M_correct 70 = .ok (.invokevirtual 81, 3) := by decide +kernel
theorem d_M_correct_73 : decode c_M_correct 73 = .ok (.aload_n 0, 1) := by decide +kernel
theorem d_M_correct_74 : decode c_M_correct 74 = .ok (.iload_n 1, 1) := by decide +kernel
theorem d_M_correct_75 : decode c_M_correct 75 = .ok (.iconst 0, 1) := by decide +kernel
theorem d_M_correct_76 : decode c_M_correct 76 = .ok (.invokevirtual 85, 3) := by decide +kernel
theorem d_M_correct_79 : decode c_M_correct 79 = .ok (.ireturn, 1) := by decide +kernel
theorem d_M_isNote_0 : decode c_M_isNote 0 = .ok (.iload_n 1, 1) := by decide +kernel
theorem d_M_isNote_1 : decode c_M_isNote 1 = .ok (.iconst 0, 1) := by decide +kernel
theorem d_M_isNote_2 : decode c_M_isNote 2 = .ok (.aload_n 0, 1) := by decide +kernel
theorem d_M_isNote_3 : decode c_M_isNote 3 = .ok (.getfield 50, 3) := by decide +kernel
theorem d_M_isNote_6 : decode c_M_isNote 6 = .ok (.iconst 1, 1) := by decide +kernel
theorem d_M_isNote_7 : decode c_M_isNote 7 = .ok (.isub, 1) := by decide +kernel
theorem d_M_isNote_8 : decode c_M_isNote 8 = .ok (.invokestatic 53, 3) := by decide +kernel
theorem d_M_isNote_11 : decode c_M_isNote 11 = .ok (.ireturn, 1) := by decide +kernel
theorem d_M_isStruck_0 : decode c_M_isStruck 0 = .ok (.iconst 0, 1) := by decide +kernel
theorem d_M_isStruck_1 : decode c_M_isStruck 1 = .ok (.istore_n 3, 1) := by decide +kernel
theorem d_M_isStruck_2 : decode c_M_isStruck 2 = .ok (.iconst 0, 1) := by decide +kernel
theorem d_M_isStruck_3 : decode c_M_isStruck 3 = .ok (.istore 4, 2) := by decide +kernel
theorem d_M_isStruck_5 : decode c_M_isStruck 5 = .ok (.iload 4, 2) := by decide +kernel
theorem d_M_isStruck_7 : decode c_M_isStruck 7 = .ok (.aload_n 0, 1) := by decide +kernel
theorem d_M_isStruck_8 : decode c_M_isStruck 8 = .ok (.getfield 71, 3) := by decide +kernel
theorem d_M_isStruck_11 : decode c_M_isStruck 11 = .ok (.if_icmp .ge 58, 3) := by decide +kernel
theorem d_M_isStruck_14 : decode c_M_isStruck 14 = .ok (.aload_n 0, 1) := by decide +kernel
theorem d_M_isStruck_15 : decode c_M_isStruck 15 = .ok (.getfield 28, 3) := by decide +kernel
theorem d_M_isStruck_18 : decode c_M_isStruck 18 = .ok (.iload 4, 2) := by decide +kernel
theorem d_M_isStruck_20 : decode c_M_isStruck 20 = .ok (.iaload, 1) := by decide +kernel
theorem d_M_isStruck_21 : decode c_M_isStruck 21 = .ok (.iload_n 1, 1) := by decide +kernel
theorem d_M_isStruck_22 : decode c_M_isStruck 22 = .ok (.if_icmp .ne 41, 3) := by decide +kernel
theorem d_M_isStruck_25 : decode c_M_isStruck 25 = .ok (.aload_n 0, 1) := by decide +kernel
theorem d_M_isStruck_26 : decode c_M_isStruck 26 = .ok (.getfield 31, 3) := by decide +kernel
theorem d_M_isStruck_29 : decode c_M_isStruck 29 = .ok (.iload 4, 2) := by decide +kernel
theorem d_M_isStruck_31 : decode c_M_isStruck 31 = .ok (.iaload, 1) := by decide +kernel
theorem d_M_isStruck_32 : decode c_M_isStruck 32 = .ok (.iconst 2, 1) := by decide +kernel
theorem d_M_isStruck_33 : decode c_M_isStruck 33 = .ok (.if_icmp .eq 30, 3) := by decide +kernel
theorem d_M_isStruck_36 : decode c_M_isStruck 36 = .ok (.aload_n 0, 1) := by decide +kernel
theorem d_M_isStruck_37 : decode c_M_isStruck 37 = .ok (.getfield 37, 3) := by decide +kernel
theorem d_M_isStruck_40 : decode c_M_isStruck 40 = .ok (.iload 4, 2) := by decide +kernel
theorem d_M_isStruck_42 : decode c_M_isStruck 42 = .ok (.iaload, 1) := by decide +kernel
theorem d_M_isStruck_43 : decode c_M_isStruck 43 = .ok (.iload_n 2, 1) := by decide +kernel
theorem d_M_isStruck_44 : decode c_M_isStruck 44 = .ok (.if_icmp .gt 19, 3) := by decide +kernel
theorem d_M_isStruck_47 : decode c_M_isStruck 47 = .ok (.aload_n 0, 1) := by decide +kernel
theorem d_M_isStruck_48 : decode c_M_isStruck 48 = .ok (.getfield 31, 3) := by decide +kernel
theorem d_M_isStruck_51 : decode c_M_isStruck 51 = .ok (.iload 4, 2) := by decide +kernel
theorem d_M_isStruck_53 : decode c_M_isStruck 53 = .ok (.iaload, 1) := by decide +kernel
theorem d_M_isStruck_54 : decode c_M_isStruck 54 = .ok (.ifCond .ne 7, 3) := by decide +kernel
theorem d_M_isStruck_57 : decode c_M_isStruck 57 = .ok (.iconst 1, 1) := by decide +kernel
theorem d_M_isStruck_58 : decode c_M_isStruck 58 = .ok (.goto 4, 3) := by decide +kernel
theorem d_M_isStruck_61 : decode c_M_isStruck 61 = .ok (.iconst 0, 1) := by decide +kernel
theorem d_M_isStruck_62 : decode c_M_isStruck 62 = .ok (.istore_n 3, 1) := by decide +kernel
theorem d_M_isStruck_63 : decode c_M_isStruck 63 = .ok (.iinc 4 1, 3) := by decide +kernel
theorem d_M_isStruck_66 : decode c_M_isStruck 66 = .ok (.goto (-61), 3) := by decide +kernel
theorem d_M_isStruck_69 : decode c_M_isStruck 69 = .ok (.iload_n 3, 1) := by decide +kernel
theorem d_M_isStruck_70 : decode c_M_isStruck 70 = .ok (.ireturn, 1) := by decide +kernel
theorem d_M_does_0 : decode c_M_does 0 = .ok (.aload_n 0, 1) := by decide +kernel
theorem d_M_does_1 : decode c_M_does 1 = .ok (.getfield 28, 3) := by decide +kernel
theorem d_M_does_4 : decode c_M_does 4 = .ok (.aload_n 0, 1) := by decide +kernel
theorem d_M_does_5 : decode c_M_does 5 = .ok (.getfield 71, 3) := by decide +kernel
theorem d_M_does_8 : decode c_M_does 8 = .ok (.iload_n 1, 1) := by decide +kernel
theorem d_M_does_9 : decode c_M_does 9 = .ok (.iastore, 1) := by decide +kernel
theorem d_M_does_10 : decode c_M_does 10 = .ok (.aload_n 0, 1) := by decide +kernel
theorem d_M_does_11 : decode c_M_does 11 = .ok (.getfield 31, 3) := by decide +kernel
theorem d_M_does_14 : decode c_M_does 14 = .ok (.aload_n 0, 1) := by decide +kernel
theorem d_M_does_15 : decode c_M_does 15 = .ok (.getfield 71, 3) := by decide +kernel
theorem d_M_does_18 : decode c_M_does 18 = .ok (.iload_n 2, 1) := by decide +kernel
theorem d_M_does_19 : decode c_M_does 19 = .ok (.iastore, 1) := by decide +kernel
theorem d_M_does_20 : decode c_M_does 20 = .ok (.aload_n 0, 1) := by decide +kernel
theorem d_M_does_21 : decode c_M_does 21 = .ok (.getfield 34, 3) := by decide +kernel
theorem d_M_does_24 : decode c_M_does 24 = .ok (.aload_n 0, 1) := by decide +kernel
theorem d_M_does_25 : decode c_M_does 25 = .ok (.getfield 71, 3) := by decide +kernel
theorem d_M_does_28 : decode c_M_does 28 = .ok (.iload_n 3, 1) := by decide +kernel
theorem d_M_does_29 : decode c_M_does 29 = .ok (.iastore, 1) := by decide +kernel
theorem d_M_does_30 : decode c_M_does 30 = .ok (.aload_n 0, 1) := by decide +kernel
theorem d_M_does_31 : decode c_M_does 31 = .ok (.getfield 37, 3) := by decide +kernel
theorem d_M_does_34 : decode c_M_does 34 = .ok (.aload_n 0, 1) := by decide +kernel
theorem d_M_does_35 : decode c_M_does 35 = .ok (.getfield 71, 3) := by decide +kernel
theorem d_M_does_38 : decode c_M_does 38 = .ok (.aload_n 0, 1) := by decide +kernel
theorem d_M_does_39 : decode c_M_does 39 = .ok (.getfield 57, 3) := by decide +kernel
theorem d_M_does_42 : decode c_M_does 42 = .ok (.iastore, 1) := by decide +kernel
theorem d_M_does_43 : decode c_M_does 43 = .ok (.aload_n 0, 1) := by decide +kernel
theorem d_M_does_44 : decode c_M_does 44 = .ok (.dup, 1) := by decide +kernel
theorem d_M_does_45 : decode c_M_does 45 = .ok (.getfield 71, 3) := by decide +kernel
theorem d_M_does_48 : decode c_M_does 48 = .ok (.iconst 1, 1) := by decide +kernel
theorem d_M_does_49 : decode c_M_does 49 = .ok (.iadd, 1) := by decide +kernel
theorem d_M_does_50 : decode c_M_does 50 = .ok (.putfield 71, 3) := by decide +kernel
theorem d_M_does_53 : decode c_M_does 53 = .ok (.return_, 1) := by decide +kernel
theorem d_M_many_0 : decode c_M_many 0 = .ok (.iconst 0, 1) := by decide +kernel
theorem d_M_many_1 : decode c_M_many 1 = .ok (.istore_n 3, 1) := by decide +kernel
theorem d_M_many_2 : decode c_M_many 2 = .ok (.iconst 0, 1) := by decide +kernel
theorem d_M_many_3 : decode c_M_many 3 = .ok (.istore 4, 2) := by decide +kernel
theorem d_M_many_5 : decode c_M_many 5 = .ok (.iload 4, 2) := by decide +kernel
theorem d_M_many_7 : decode c_M_many 7 = .ok (.aload_n 0, 1) := by decide +kernel
theorem d_M_many_8 : decode c_M_many 8 = .ok (.getfield 71, 3) := by decide +kernel
theorem d_M_many_11 : decode c_M_many 11 = .ok (.if_icmp .ge 38, 3) := by decide +kernel
theorem d_M_many_14 : decode c_M_many 14 = .ok (.aload_n 0, 1) := by decide +kernel
theorem d_M_many_15 : decode c_M_many 15 = .ok (.getfield 28, 3) := by decide +kernel
theorem d_M_many_18 : decode c_M_many 18 = .ok (.iload 4, 2) := by decide +kernel
theorem d_M_many_20 : decode c_M_many 20 = .ok (.iaload, 1) := by decide +kernel
theorem d_M_many_21 : decode c_M_many 21 = .ok (.iload_n 1, 1) := by decide +kernel
theorem d_M_many_22 : decode c_M_many 22 = .ok (.if_icmp .ne 21, 3) := by decide +kernel
theorem d_M_many_25 : decode c_M_many 25 = .ok (.iload_n 2, 1) := by decide +kernel
theorem d_M_many_26 : decode c_M_many 26 = .ok (.ifCond .ne 14, 3) := by decide +kernel
theorem d_M_many_29 : decode c_M_many 29 = .ok (.aload_n 0, 1) := by decide +kernel
theorem d_M_many_30 : decode c_M_many 30 = .ok (.getfield 31, 3) := by decide +kernel
theorem d_M_many_33 : decode c_M_many 33 = .ok (.iload 4, 2) := by decide +kernel
theorem d_M_many_35 : decode c_M_many 35 = .ok (.iaload, 1) := by decide +kernel
theorem d_M_many_36 : decode c_M_many 36 = .ok (.iconst 2, 1) := by decide +kernel
theorem d_M_many_37 : decode c_M_many 37 = .ok (.if_icmp .ne 6, 3) := by decide +kernel
theorem d_M_many_40 : decode c_M_many 40 = .ok (.iinc 3 1, 3) := by decide +kernel
theorem d_M_many_43 : decode c_M_many 43 = .ok (.iinc 4 1, 3) := by decide +kernel
theorem d_M_many_46 : decode c_M_many 46 = .ok (.goto (-41), 3) := by decide +kernel
theorem d_M_many_49 : decode c_M_many 49 = .ok (.iload_n 3, 1) := by decide +kernel
theorem d_M_many_50 : decode c_M_many 50 = .ok (.ireturn, 1) := by decide +kernel
theorem d_M_strike_0 : decode c_M_strike 0 = .ok (.aload_n 0, 1) := by decide +kernel
theorem d_M_strike_1 : decode c_M_strike 1 = .ok (.bipush 13, 2) := by decide +kernel
theorem d_M_strike_3 : decode c_M_strike 3 = .ok (.aload_n 0, 1) := by decide +kernel
theorem d_M_strike_4 : decode c_M_strike 4 = .ok (.iload_n 1, 1) := by decide +kernel
theorem d_M_strike_5 : decode c_M_strike 5 = .ok (.invokevirtual 74, 3) := by decide +kernel
theorem d_M_strike_8 : decode c_M_strike 8 = .ok (.iconst 1, 1) := by decide +kernel
theorem d_M_strike_9 : decode c_M_strike 9 = .ok (.aload_n 0, 1) := by decide +kernel
theorem d_M_strike_10 : decode c_M_strike 10 = .ok (.iload_n 1, 1) := by decide +kernel
theorem d_M_strike_11 : decode c_M_strike 11 = .ok (.invokevirtual 74, 3) := by decide +kernel
theorem d_M_strike_14 : decode c_M_strike 14 = .ok (.ifCond .eq 20, 3) := by decide +kernel
theorem d_M_strike_17 : decode c_M_strike 17 = .ok (.aload_n 0, 1) := by decide +kernel
theorem d_M_strike_18 : decode c_M_strike 18 = .ok (.iload_n 1, 1) := by decide +kernel
theorem d_M_strike_19 : decode c_M_strike 19 = .ok (.aload_n 0, 1) := by decide +kernel
theorem d_M_strike_20 : decode c_M_strike 20 = .ok (.getfield 57, 3) := by decide +kernel
theorem d_M_strike_23 : decode c_M_strike 23 = .ok (.invokevirtual 77, 3) := by decide +kernel
theorem d_M_strike_26 : decode c_M_strike 26 = .ok (.iload_n 2, 1) := by decide +kernel
theorem d_M_strike_27 : decode c_M_strike 27 = .ok (.if_icmp .eq 7, 3) := by decide +kernel
theorem d_M_strike_30 : decode c_M_strike 30 = .ok (.iconst 1, 1) := by decide +kernel
theorem d_M_strike_31 : decode c_M_strike 31 = .ok (.goto 4, 3) := by decide +kernel
theorem d_M_strike_34 : decode c_M_strike 34 = .ok (.iconst 0, 1) := by decide +kernel
theorem d_M_strike_35 : decode c_M_strike 35 = .ok (.aload_n 0, 1) := by decide +kernel
theorem d_M_strike_36 : decode c_M_strike 36 = .ok (.getfield 71, 3) := by decide +kernel
theorem d_M_strike_39 : decode c_M_strike 39 = .ok (.sipush 200, 3) := by decide +kernel
theorem d_M_strike_42 : decode c_M_strike 42 = .ok (.if_icmp .ge 7, 3) := by decide +kernel
theorem d_M_strike_45 : decode c_M_strike 45 = .ok (.iconst 1, 1) := by decide +kernel
theorem d_M_strike_46 : decode c_M_strike 46 = .ok (.goto 4, 3) := by decide +kernel
theorem d_M_strike_49 : decode c_M_strike 49 = .ok (.iconst 0, 1) := by decide +kernel
theorem d_M_strike_50 : decode c_M_strike 50 = .ok (.invokevirtual 63, 3) := by decide +kernel
theorem d_M_strike_53 : decode c_M_strike 53 = .ok (.ifCond .eq 18, 3) := by decide +kernel
theorem d_M_strike_56 : decode c_M_strike 56 = .ok (.aload_n 0, 1) := by decide +kernel
theorem d_M_strike_57 : decode c_M_strike 57 = .ok (.iload_n 1, 1) := by decide +kernel
theorem d_M_strike_58 : decode c_M_strike 58 = .ok (.iload_n 2, 1) := by decide +kernel
theorem d_M_strike_59 : decode c_M_strike 59 = .ok (.ifCond .eq 7, 3) := by decide +kernel
theorem d_M_strike_62 : decode c_M_strike 62 = .ok (.iconst 0, 1) := by decide +kernel
theorem d_M_strike_63 : decode c_M_strike 63 = .ok (.goto 4, 3) := by decide +kernel
theorem d_M_strike_66 : decode c_M_strike 66 = .ok (.iconst 1, 1) := by decide +kernel
theorem d_M_strike_67 : decode c_M_strike 67 = .ok (.iconst 0, 1) := by decide +kernel
theorem d_M_strike_68 : decode c_M_strike 68 = .ok (.invokevirtual 81, 3) := by decide +kernel
theorem d_M_strike_71 : decode c_M_strike 71 = .ok (.return_, 1) := by decide +kernel
theorem d_M_ask_0 : decode c_M_ask 0 = .ok (.aload_n 0, 1) := by decide +kernel
theorem d_M_ask_1 : decode c_M_ask 1 = .ok (.iconst 3, 1) := by decide +kernel
theorem d_M_ask_2 : decode c_M_ask 2 = .ok (.iload_n 3, 1) := by decide +kernel
theorem d_M_ask_3 : decode c_M_ask 3 = .ok (.iconst (-1), 1) := by decide +kernel
theorem d_M_ask_4 : decode c_M_ask 4 = .ok (.iconst 5, 1) := by decide +kernel
theorem d_M_ask_5 : decode c_M_ask 5 = .ok (.invokestatic 53, 3) := by decide +kernel
theorem d_M_ask_8 : decode c_M_ask 8 = .ok (.ifCond .eq 18, 3) := by decide +kernel
theorem d_M_ask_11 : decode c_M_ask 11 = .ok (.iload 4, 2) := by decide +kernel
theorem d_M_ask_13 : decode c_M_ask 13 = .ok (.iconst (-1), 1) := by decide +kernel
theorem d_M_ask_14 : decode c_M_ask 14 = .ok (.bipush 9, 2) := by decide +kernel
theorem d_M_ask_16 : decode c_M_ask 16 = .ok (.invokestatic 53, 3) := by decide +kernel
theorem d_M_ask_19 : decode c_M_ask 19 = .ok (.ifCond .eq 7, 3) := by decide +kernel
theorem d_M_ask_22 : decode c_M_ask 22 = .ok (.iconst 1, 1) := by decide +kernel
theorem d_M_ask_23 : decode c_M_ask 23 = .ok (.goto 4, 3) := by decide +kernel
theorem d_M_ask_26 : decode c_M_ask 26 = .ok (.iconst 0, 1) := by decide +kernel
theorem d_M_ask_27 : decode c_M_ask 27 = .ok (.aload_n 0, 1) := by decide +kernel
theorem d_M_ask_28 : decode c_M_ask 28 = .ok (.iload 5, 2) := by decide +kernel
theorem d_M_ask_30 : decode c_M_ask 30 = .ok (.invokevirtual 67, 3) := by decide +kernel
theorem d_M_ask_33 : decode c_M_ask 33 = .ok (.iconst 1, 1) := by decide +kernel
theorem d_M_ask_34 : decode c_M_ask 34 = .ok (.iconst 1, 1) := by decide +kernel
end
section
/-! decode rows, printed by wip/gen/names.py -/
theorem d_M_ask_35 : decode c_M_ask 35 = .ok (.invokevirtual 63, 3) := by decide +kernel
theorem d_M_ask_38 : decode c_M_ask 38 = .ok (.ifCond .ne 5, 3) := by decide +kernel
theorem d_M_ask_41 : decode c_M_ask 41 = .ok (.iconst 0, 1) := by decide +kernel
theorem d_M_ask_42 : decode c_M_ask 42 = .ok (.ireturn, 1) := by decide +kernel
theorem d_M_ask_43 : decode c_M_ask 43 = .ok (.aload_n 0, 1) := by decide +kernel
theorem d_M_ask_44 : decode c_M_ask 44 = .ok (.iconst 1, 1) := by decide +kernel
theorem d_M_ask_45 : decode c_M_ask 45 = .ok (.putfield 92, 3) := by decide +kernel
theorem d_M_ask_48 : decode c_M_ask 48 = .ok (.aload_n 0, 1) := by decide +kernel
theorem d_M_ask_49 : decode c_M_ask 49 = .ok (.iload 5, 2) := by decide +kernel
theorem d_M_ask_51 : decode c_M_ask 51 = .ok (.putfield 96, 3) := by decide +kernel
theorem d_M_ask_54 : decode c_M_ask 54 = .ok (.aload_n 0, 1) := by decide +kernel
theorem d_M_ask_55 : decode c_M_ask 55 = .ok (.iconst 0, 1) := by decide +kernel
theorem d_M_ask_56 : decode c_M_ask 56 = .ok (.putfield 99, 3) := by decide +kernel
theorem d_M_ask_59 : decode c_M_ask 59 = .ok (.aload_n 0, 1) := by decide +kernel
theorem d_M_ask_60 : decode c_M_ask 60 = .ok (.iconst (-1), 1) := by decide +kernel
theorem d_M_ask_61 : decode c_M_ask 61 = .ok (.iconst 1, 1) := by decide +kernel
theorem d_M_ask_62 : decode c_M_ask 62 = .ok (.iload_n 3, 1) := by decide +kernel
theorem d_M_ask_63 : decode c_M_ask 63 = .ok (.iload 4, 2) := by decide +kernel
theorem d_M_ask_65 : decode c_M_ask 65 = .ok (.iload 5, 2) := by decide +kernel
theorem d_M_ask_67 : decode c_M_ask 67 = .ok (.invokevirtual 102, 3) := by decide +kernel
theorem d_M_ask_70 : decode c_M_ask 70 = .ok (.istore 6, 2) := by decide +kernel
theorem d_M_ask_72 : decode c_M_ask 72 = .ok (.iload 6, 2) := by decide +kernel
theorem d_M_ask_74 : decode c_M_ask 74 = .ok (.ifCond .lt 63, 3) := by decide +kernel
theorem d_M_ask_77 : decode c_M_ask 77 = .ok (.aload_n 0, 1) := by decide +kernel
theorem d_M_ask_78 : decode c_M_ask 78 = .ok (.getfield 19, 3) := by decide +kernel
theorem d_M_ask_81 : decode c_M_ask 81 = .ok (.iload 6, 2) := by decide +kernel
theorem d_M_ask_83 : decode c_M_ask 83 = .ok (.iaload, 1) := by decide +kernel
theorem d_M_ask_84 : decode c_M_ask 84 = .ok (.iload_n 1, 1) := by decide +kernel
theorem d_M_ask_85 : decode c_M_ask 85 = .ok (.if_icmp .lt 35, 3) := by decide +kernel
theorem d_M_ask_88 : decode c_M_ask 88 = .ok (.aload_n 0, 1) := by decide +kernel
theorem d_M_ask_89 : decode c_M_ask 89 = .ok (.getfield 19, 3) := by decide +kernel
theorem d_M_ask_92 : decode c_M_ask 92 = .ok (.iload 6, 2) := by decide +kernel
theorem d_M_ask_94 : decode c_M_ask 94 = .ok (.iaload, 1) := by decide +kernel
theorem d_M_ask_95 : decode c_M_ask 95 = .ok (.iload_n 2, 1) := by decide +kernel
theorem d_M_ask_96 : decode c_M_ask 96 = .ok (.if_icmp .ge 24, 3) := by decide +kernel
theorem d_M_ask_99 : decode c_M_ask 99 = .ok (.aload_n 0, 1) := by decide +kernel
theorem d_M_ask_100 : decode c_M_ask 100 = .ok (.getfield 40, 3) := by decide +kernel
theorem d_M_ask_103 : decode c_M_ask 103 = .ok (.aload_n 0, 1) := by decide +kernel
theorem d_M_ask_104 : decode c_M_ask 104 = .ok (.getfield 99, 3) := by decide +kernel
theorem d_M_ask_107 : decode c_M_ask 107 = .ok (.iload 6, 2) := by decide +kernel
theorem d_M_ask_109 : decode c_M_ask 109 = .ok (.iastore, 1) := by decide +kernel
theorem d_M_ask_110 : decode c_M_ask 110 = .ok (.aload_n 0, 1) := by decide +kernel
theorem d_M_ask_111 : decode c_M_ask 111 = .ok (.dup, 1) := by decide +kernel
theorem d_M_ask_112 : decode c_M_ask 112 = .ok (.getfield 99, 3) := by decide +kernel
theorem d_M_ask_115 : decode c_M_ask 115 = .ok (.iconst 1, 1) := by decide +kernel
theorem d_M_ask_116 : decode c_M_ask 116 = .ok (.iadd, 1) := by decide +kernel
theorem d_M_ask_117 : decode c_M_ask 117 = .ok (.putfield 99, 3) := by decide +kernel
theorem d_M_ask_120 : decode c_M_ask 120 = .ok (.aload_n 0, 1) := by decide +kernel
theorem d_M_ask_121 : decode c_M_ask 121 = .ok (.iload 6, 2) := by decide +kernel
theorem d_M_ask_123 : decode c_M_ask 123 = .ok (.iconst 1, 1) := by decide +kernel
theorem d_M_ask_124 : decode c_M_ask 124 = .ok (.iload_n 3, 1) := by decide +kernel
theorem d_M_ask_125 : decode c_M_ask 125 = .ok (.iload 4, 2) := by decide +kernel
theorem d_M_ask_127 : decode c_M_ask 127 = .ok (.iload 5, 2) := by decide +kernel
theorem d_M_ask_129 : decode c_M_ask 129 = .ok (.invokevirtual 102, 3) := by decide +kernel
theorem d_M_ask_132 : decode c_M_ask 132 = .ok (.istore 6, 2) := by decide +kernel
theorem d_M_ask_134 : decode c_M_ask 134 = .ok (.goto (-62), 3) := by decide +kernel
theorem d_M_ask_137 : decode c_M_ask 137 = .ok (.aload_n 0, 1) := by decide +kernel
theorem d_M_ask_138 : decode c_M_ask 138 = .ok (.getfield 99, 3) := by decide +kernel
theorem d_M_ask_141 : decode c_M_ask 141 = .ok (.ireturn, 1) := by decide +kernel
theorem d_M_following_0 : decode c_M_following 0 = .ok (.iconst (-1), 1) := by decide +kernel
theorem d_M_following_1 : decode c_M_following 1 = .ok (.istore 6, 2) := by decide +kernel
theorem d_M_following_3 : decode c_M_following 3 = .ok (.iconst 0, 1) := by decide +kernel
theorem d_M_following_4 : decode c_M_following 4 = .ok (.istore 7, 2) := by decide +kernel
theorem d_M_following_6 : decode c_M_following 6 = .ok (.iload 7, 2) := by decide +kernel
theorem d_M_following_8 : decode c_M_following 8 = .ok (.aload_n 0, 1) := by decide +kernel
theorem d_M_following_9 : decode c_M_following 9 = .ok (.getfield 50, 3) := by decide +kernel
theorem d_M_following_12 : decode c_M_following 12 = .ok (.if_icmp .ge 110, 3) := by decide +kernel
theorem d_M_following_15 : decode c_M_following 15 = .ok (.aload_n 0, 1) := by decide +kernel
theorem d_M_following_16 : decode c_M_following 16 = .ok (.getfield 25, 3) := by decide +kernel
theorem d_M_following_19 : decode c_M_following 19 = .ok (.iload 7, 2) := by decide +kernel
theorem d_M_following_21 : decode c_M_following 21 = .ok (.iaload, 1) := by decide +kernel
theorem d_M_following_22 : decode c_M_following 22 = .ok (.iload 5, 2) := by decide +kernel
theorem d_M_following_24 : decode c_M_following 24 = .ok (.if_icmp .gt 92, 3) := by decide +kernel
theorem d_M_following_27 : decode c_M_following 27 = .ok (.iload_n 1, 1) := by decide +kernel
theorem d_M_following_28 : decode c_M_following 28 = .ok (.ifCond .lt 13, 3) := by decide +kernel
theorem d_M_following_31 : decode c_M_following 31 = .ok (.aload_n 0, 1) := by decide +kernel
theorem d_M_following_32 : decode c_M_following 32 = .ok (.iload_n 1, 1) := by decide +kernel
theorem d_M_following_33 : decode c_M_following 33 = .ok (.iload 7, 2) := by decide +kernel
theorem d_M_following_35 : decode c_M_following 35 = .ok (.invokevirtual 89, 3) := by decide +kernel
theorem d_M_following_38 : decode c_M_following 38 = .ok (.ifCond .eq 78, 3) := by decide +kernel
theorem d_M_following_41 : decode c_M_following 41 = .ok (.iload_n 3, 1) := by decide +kernel
theorem d_M_following_42 : decode c_M_following 42 = .ok (.ifCond .lt 14, 3) := by decide +kernel
theorem d_M_following_45 : decode c_M_following 45 = .ok (.aload_n 0, 1) := by decide +kernel
theorem d_M_following_46 : decode c_M_following 46 = .ok (.getfield 13, 3) := by decide +kernel
theorem d_M_following_49 : decode c_M_following 49 = .ok (.iload 7, 2) := by decide +kernel
theorem d_M_following_51 : decode c_M_following 51 = .ok (.iaload, 1) := by decide +kernel
theorem d_M_following_52 : decode c_M_following 52 = .ok (.iload_n 3, 1) := by decide +kernel
theorem d_M_following_53 : decode c_M_following 53 = .ok (.if_icmp .ne 63, 3) := by decide +kernel
theorem d_M_following_56 : decode c_M_following 56 = .ok (.iload 4, 2) := by decide +kernel
theorem d_M_following_58 : decode c_M_following 58 = .ok (.ifCond .lt 18, 3) := by decide +kernel
theorem d_M_following_61 : decode c_M_following 61 = .ok (.aload_n 0, 1) := by decide +kernel
theorem d_M_following_62 : decode c_M_following 62 = .ok (.getfield 16, 3) := by decide +kernel
theorem d_M_following_65 : decode c_M_following 65 = .ok (.iload 7, 2) := by decide +kernel
theorem d_M_following_67 : decode c_M_following 67 = .ok (.iaload, 1) := by decide +kernel
theorem d_M_following_68 : decode c_M_following 68 = .ok (.iload 4, 2) := by decide +kernel
theorem d_M_following_70 : decode c_M_following 70 = .ok (.if_icmp .eq 6, 3) := by decide +kernel
theorem d_M_following_73 : decode c_M_following 73 = .ok (.goto 43, 3) := by decide +kernel
theorem d_M_following_76 : decode c_M_following 76 = .ok (.iload_n 2, 1) := by decide +kernel
theorem d_M_following_77 : decode c_M_following 77 = .ok (.ifCond .ne 19, 3) := by decide +kernel
theorem d_M_following_80 : decode c_M_following 80 = .ok (.aload_n 0, 1) := by decide +kernel
theorem d_M_following_81 : decode c_M_following 81 = .ok (.iload 7, 2) := by decide +kernel
theorem d_M_following_83 : decode c_M_following 83 = .ok (.aload_n 0, 1) := by decide +kernel
theorem d_M_following_84 : decode c_M_following 84 = .ok (.getfield 57, 3) := by decide +kernel
theorem d_M_following_87 : decode c_M_following 87 = .ok (.invokevirtual 77, 3) := by decide +kernel
theorem d_M_following_90 : decode c_M_following 90 = .ok (.ifCond .eq 6, 3) := by decide +kernel
theorem d_M_following_93 : decode c_M_following 93 = .ok (.goto 23, 3) := by decide +kernel
theorem d_M_following_96 : decode c_M_following 96 = .ok (.iload 6, 2) := by decide +kernel
theorem d_M_following_98 : decode c_M_following 98 = .ok (.ifCond .lt 14, 3) := by decide +kernel
theorem d_M_following_101 : decode c_M_following 101 = .ok (.aload_n 0, 1) := by decide +kernel
theorem d_M_following_102 : decode c_M_following 102 = .ok (.iload 7, 2) := by decide +kernel
theorem d_M_following_104 : decode c_M_following 104 = .ok (.iload 6, 2) := by decide +kernel
theorem d_M_following_106 : decode c_M_following 106 = .ok (.invokevirtual 89, 3) := by decide +kernel
theorem d_M_following_109 : decode c_M_following 109 = .ok (.ifCond .eq 7, 3) := by decide +kernel
theorem d_M_following_112 : decode c_M_following 112 = .ok (.iload 7, 2) := by decide +kernel
theorem d_M_following_114 : decode c_M_following 114 = .ok (.istore 6, 2) := by decide +kernel
theorem d_M_following_116 : decode c_M_following 116 = .ok (.iinc 7 1, 3) := by decide +kernel
theorem d_M_following_119 : decode c_M_following 119 = .ok (.goto (-113), 3) := by decide +kernel
theorem d_M_following_122 : decode c_M_following 122 = .ok (.iload 6, 2) := by decide +kernel
theorem d_M_following_124 : decode c_M_following 124 = .ok (.ireturn, 1) := by decide +kernel
theorem d_M_isBefore_0 : decode c_M_isBefore 0 = .ok (.aload_n 0, 1) := by decide +kernel
theorem d_M_isBefore_1 : decode c_M_isBefore 1 = .ok (.getfield 19, 3) := by decide +kernel
theorem d_M_isBefore_4 : decode c_M_isBefore 4 = .ok (.iload_n 1, 1) := by decide +kernel
theorem d_M_isBefore_5 : decode c_M_isBefore 5 = .ok (.iaload, 1) := by decide +kernel
theorem d_M_isBefore_6 : decode c_M_isBefore 6 = .ok (.aload_n 0, 1) := by decide +kernel
theorem d_M_isBefore_7 : decode c_M_isBefore 7 = .ok (.getfield 19, 3) := by decide +kernel
theorem d_M_isBefore_10 : decode c_M_isBefore 10 = .ok (.iload_n 2, 1) := by decide +kernel
theorem d_M_isBefore_11 : decode c_M_isBefore 11 = .ok (.iaload, 1) := by decide +kernel
theorem d_M_isBefore_12 : decode c_M_isBefore 12 = .ok (.if_icmp .eq 24, 3) := by decide +kernel
theorem d_M_isBefore_15 : decode c_M_isBefore 15 = .ok (.aload_n 0, 1) := by decide +kernel
theorem d_M_isBefore_16 : decode c_M_isBefore 16 = .ok (.getfield 19, 3) := by decide +kernel
theorem d_M_isBefore_19 : decode c_M_isBefore 19 = .ok (.iload_n 1, 1) := by decide +kernel
theorem d_M_isBefore_20 : decode c_M_isBefore 20 = .ok (.iaload, 1) := by decide +kernel
theorem d_M_isBefore_21 : decode c_M_isBefore 21 = .ok (.aload_n 0, 1) := by decide +kernel
theorem d_M_isBefore_22 : decode c_M_isBefore 22 = .ok (.getfield 19, 3) := by decide +kernel
theorem d_M_isBefore_25 : decode c_M_isBefore 25 = .ok (.iload_n 2, 1) := by decide +kernel
theorem d_M_isBefore_26 : decode c_M_isBefore 26 = .ok (.iaload, 1) := by decide +kernel
theorem d_M_isBefore_27 : decode c_M_isBefore 27 = .ok (.if_icmp .ge 7, 3) := by decide +kernel
theorem d_M_isBefore_30 : decode c_M_isBefore 30 = .ok (.iconst 1, 1) := by decide +kernel
theorem d_M_isBefore_31 : decode c_M_isBefore 31 = .ok (.goto 4, 3) := by decide +kernel
theorem d_M_isBefore_34 : decode c_M_isBefore 34 = .ok (.iconst 0, 1) := by decide +kernel
theorem d_M_isBefore_35 : decode c_M_isBefore 35 = .ok (.ireturn, 1) := by decide +kernel
theorem d_M_isBefore_36 : decode c_M_isBefore 36 = .ok (.aload_n 0, 1) := by decide +kernel
theorem d_M_isBefore_37 : decode c_M_isBefore 37 = .ok (.getfield 7, 3) := by decide +kernel
theorem d_M_isBefore_40 : decode c_M_isBefore 40 = .ok (.iload_n 1, 1) := by decide +kernel
theorem d_M_isBefore_41 : decode c_M_isBefore 41 = .ok (.iaload, 1) := by decide +kernel
theorem d_M_isBefore_42 : decode c_M_isBefore 42 = .ok (.aload_n 0, 1) := by decide +kernel
theorem d_M_isBefore_43 : decode c_M_isBefore 43 = .ok (.getfield 7, 3) := by decide +kernel
theorem d_M_isBefore_46 : decode c_M_isBefore 46 = .ok (.iload_n 2, 1) := by decide +kernel
theorem d_M_isBefore_47 : decode c_M_isBefore 47 = .ok (.iaload, 1) := by decide +kernel
theorem d_M_isBefore_48 : decode c_M_isBefore 48 = .ok (.if_icmp .eq 26, 3) := by decide +kernel
theorem d_M_isBefore_51 : decode c_M_isBefore 51 = .ok (.aload_n 0, 1) := by decide +kernel
theorem d_M_isBefore_52 : decode c_M_isBefore 52 = .ok (.getfield 7, 3) := by decide +kernel
theorem d_M_isBefore_55 : decode c_M_isBefore 55 = .ok (.iload_n 1, 1) := by decide +kernel
theorem d_M_isBefore_56 : decode c_M_isBefore 56 = .ok (.iaload, 1) := by decide +kernel
theorem d_M_isBefore_57 : decode c_M_isBefore 57 = .ok (.aload_n 0, 1) := by decide +kernel
theorem d_M_isBefore_58 : decode c_M_isBefore 58 = .ok (.getfield 7, 3) := by decide +kernel
theorem d_M_isBefore_61 : decode c_M_isBefore 61 = .ok (.iload_n 2, 1) := by decide +kernel
theorem d_M_isBefore_62 : decode c_M_isBefore 62 = .ok (.iaload, 1) := by decide +kernel
theorem d_M_isBefore_63 : decode c_M_isBefore 63 = .ok (.if_icmp .ge 7, 3) := by decide +kernel
theorem d_M_isBefore_66 : decode c_M_isBefore 66 = .ok (.iconst 1, 1) := by decide +kernel
theorem d_M_isBefore_67 : decode c_M_isBefore 67 = .ok (.goto 17, 3) := by decide +kernel
theorem d_M_isBefore_70 : decode c_M_isBefore 70 = .ok (.iconst 0, 1) := by decide +kernel
theorem d_M_isBefore_71 : decode c_M_isBefore 71 = .ok (.goto 13, 3) := by decide +kernel
theorem d_M_isBefore_74 : decode c_M_isBefore 74 = .ok (.iload_n 1, 1) := by decide +kernel
theorem d_M_isBefore_75 : decode c_M_isBefore 75 = .ok (.iload_n 2, 1) := by decide +kernel
theorem d_M_isBefore_76 : decode c_M_isBefore 76 = .ok (.if_icmp .ge 7, 3) := by decide +kernel
theorem d_M_isBefore_79 : decode c_M_isBefore 79 = .ok (.iconst 1, 1) := by decide +kernel
theorem d_M_isBefore_80 : decode c_M_isBefore 80 = .ok (.goto 4, 3) := by decide +kernel
theorem d_M_isBefore_83 : decode c_M_isBefore 83 = .ok (.iconst 0, 1) := by decide +kernel
theorem d_M_isBefore_84 : decode c_M_isBefore 84 = .ok (.ireturn, 1) := by decide +kernel
theorem d_M_row_0 : decode c_M_row 0 = .ok (.aload_n 0, 1) := by decide +kernel
theorem d_M_row_1 : decode c_M_row 1 = .ok (.iconst 1, 1) := by decide +kernel
theorem d_M_row_2 : decode c_M_row 2 = .ok (.iload_n 1, 1) := by decide +kernel
theorem d_M_row_3 : decode c_M_row 3 = .ok (.iconst 0, 1) := by decide +kernel
theorem d_M_row_4 : decode c_M_row 4 = .ok (.aload_n 0, 1) := by decide +kernel
theorem d_M_row_5 : decode c_M_row 5 = .ok (.getfield 99, 3) := by decide +kernel
theorem d_M_row_8 : decode c_M_row 8 = .ok (.iconst 1, 1) := by decide +kernel
theorem d_M_row_9 : decode c_M_row 9 = .ok (.isub, 1) := by decide +kernel
theorem d_M_row_10 : decode c_M_row 10 = .ok (.invokestatic 53, 3) := by decide +kernel
theorem d_M_row_13 : decode c_M_row 13 = .ok (.ifCond .eq 16, 3) := by decide +kernel
theorem d_M_row_16 : decode c_M_row 16 = .ok (.iload_n 2, 1) := by decide +kernel
theorem d_M_row_17 : decode c_M_row 17 = .ok (.iconst 0, 1) := by decide +kernel
theorem d_M_row_18 : decode c_M_row 18 = .ok (.iconst 4, 1) := by decide +kernel
theorem d_M_row_19 : decode c_M_row 19 = .ok (.invokestatic 53, 3) := by decide +kernel
theorem d_M_row_22 : decode c_M_row 22 = .ok (.ifCond .eq 7, 3) := by decide +kernel
theorem d_M_row_25 : decode c_M_row 25 = .ok (.iconst 1, 1) := by decide +kernel
theorem d_M_row_26 : decode c_M_row 26 = .ok (.goto 4, 3) := by decide +kernel
theorem d_M_row_29 : decode c_M_row 29 = .ok (.iconst 0, 1) := by decide +kernel
theorem d_M_row_30 : decode c_M_row 30 = .ok (.iconst 1, 1) := by decide +kernel
theorem d_M_row_31 : decode c_M_row 31 = .ok (.iconst 1, 1) := by decide +kernel
theorem d_M_row_32 : decode c_M_row 32 = .ok (.iconst 1, 1) := by decide +kernel
theorem d_M_row_33 : decode c_M_row 33 = .ok (.invokevirtual 63, 3) := by decide +kernel
theorem d_M_row_36 : decode c_M_row 36 = .ok (.ifCond .ne 5, 3) := by decide +kernel
theorem d_M_row_39 : decode c_M_row 39 = .ok (.iconst 0, 1) := by decide +kernel
theorem d_M_row_40 : decode c_M_row 40 = .ok (.ireturn, 1) := by decide +kernel
theorem d_M_row_41 : decode c_M_row 41 = .ok (.aload_n 0, 1) := by decide +kernel
theorem d_M_row_42 : decode c_M_row 42 = .ok (.getfield 40, 3) := by decide +kernel
theorem d_M_row_45 : decode c_M_row 45 = .ok (.iload_n 1, 1) := by decide +kernel
theorem d_M_row_46 : decode c_M_row 46 = .ok (.iaload, 1) := by decide +kernel
theorem d_M_row_47 : decode c_M_row 47 = .ok (.istore_n 3, 1) := by decide +kernel
theorem d_M_row_48 : decode c_M_row 48 = .ok (.iload_n 2, 1) := by decide +kernel
theorem d_M_row_49 : decode c_M_row 49 = .ok (.ifCond .ne 7, 3) := by decide +kernel
theorem d_M_row_52 : decode c_M_row 52 = .ok (.iload_n 3, 1) := by decide +kernel
theorem d_M_row_53 : decode c_M_row 53 = .ok (.goto 65, 3) := by decide +kernel
theorem d_M_row_56 : decode c_M_row 56 = .ok (.iload_n 2, 1) := by decide +kernel
theorem d_M_row_57 : decode c_M_row 57 = .ok (.iconst 1, 1) := by decide +kernel
theorem d_M_row_58 : decode c_M_row 58 = .ok (.if_icmp .ne 12, 3) := by decide +kernel
theorem d_M_row_61 : decode c_M_row 61 = .ok (.aload_n 0, 1) := by decide +kernel
theorem d_M_row_62 : decode c_M_row 62 = .ok (.getfield 19, 3) := by decide +kernel
theorem d_M_row_65 : decode c_M_row 65 = .ok (.iload_n 3, 1) := by decide +kernel
theorem d_M_row_66 : decode c_M_row 66 = .ok (.iaload, 1) := by decide +kernel
theorem d_M_row_67 : decode c_M_row 67 = .ok (.goto 51, 3) := by decide +kernel
theorem d_M_row_70 : decode c_M_row 70 = .ok (.iload_n 2, 1) := by decide +kernel
theorem d_M_row_71 : decode c_M_row 71 = .ok (.iconst 2, 1) := by decide +kernel
theorem d_M_row_72 : decode c_M_row 72 = .ok (.if_icmp .ne 15, 3) := by decide +kernel
theorem d_M_row_75 : decode c_M_row 75 = .ok (.aload_n 0, 1) := by decide +kernel
theorem d_M_row_76 : decode c_M_row 76 = .ok (.iload_n 3, 1) := by decide +kernel
theorem d_M_row_77 : decode c_M_row 77 = .ok (.aload_n 0, 1) := by decide +kernel
theorem d_M_row_78 : decode c_M_row 78 = .ok (.getfield 96, 3) := by decide +kernel
theorem d_M_row_81 : decode c_M_row 81 = .ok (.invokevirtual 106, 3) := by decide +kernel
theorem d_M_row_84 : decode c_M_row 84 = .ok (.goto 34, 3) := by decide +kernel
theorem d_M_row_87 : decode c_M_row 87 = .ok (.iload_n 2, 1) := by decide +kernel
theorem d_M_row_88 : decode c_M_row 88 = .ok (.iconst 3, 1) := by decide +kernel
theorem d_M_row_89 : decode c_M_row 89 = .ok (.if_icmp .ne 23, 3) := by decide +kernel
theorem d_M_row_92 : decode c_M_row 92 = .ok (.aload_n 0, 1) := by decide +kernel
theorem d_M_row_93 : decode c_M_row 93 = .ok (.iload_n 3, 1) := by decide +kernel
theorem d_M_row_94 : decode c_M_row 94 = .ok (.aload_n 0, 1) := by decide +kernel
theorem d_M_row_95 : decode c_M_row 95 = .ok (.getfield 96, 3) := by decide +kernel
theorem d_M_row_98 : decode c_M_row 98 = .ok (.invokevirtual 77, 3) := by decide +kernel
theorem d_M_row_101 : decode c_M_row 101 = .ok (.ifCond .eq 7, 3) := by decide +kernel
theorem d_M_row_104 : decode c_M_row 104 = .ok (.iconst 1, 1) := by decide +kernel
theorem d_M_row_105 : decode c_M_row 105 = .ok (.goto 13, 3) := by decide +kernel
theorem d_M_row_108 : decode c_M_row 108 = .ok (.iconst 0, 1) := by decide +kernel
theorem d_M_row_109 : decode c_M_row 109 = .ok (.goto 9, 3) := by decide +kernel
theorem d_M_row_112 : decode c_M_row 112 = .ok (.aload_n 0, 1) := by decide +kernel
theorem d_M_row_113 : decode c_M_row 113 = .ok (.getfield 7, 3) := by decide +kernel
theorem d_M_row_116 : decode c_M_row 116 = .ok (.iload_n 3, 1) := by decide +kernel
theorem d_M_row_117 : decode c_M_row 117 = .ok (.iaload, 1) := by decide +kernel
theorem d_M_row_118 : decode c_M_row 118 = .ok (.ireturn, 1) := by decide +kernel
theorem d_M_value_0 : decode c_M_value 0 = .ok (.aload_n 0, 1) := by decide +kernel
theorem d_M_value_1 : decode c_M_value 1 = .ok (.getfield 22, 3) := by decide +kernel
theorem d_M_value_4 : decode c_M_value 4 = .ok (.iload_n 1, 1) := by decide +kernel
theorem d_M_value_5 : decode c_M_value 5 = .ok (.iaload, 1) := by decide +kernel
theorem d_M_value_6 : decode c_M_value 6 = .ok (.istore_n 3, 1) := by decide +kernel
theorem d_M_value_7 : decode c_M_value 7 = .ok (.iconst 0, 1) := by decide +kernel
theorem d_M_value_8 : decode c_M_value 8 = .ok (.istore 4, 2) := by decide +kernel
theorem d_M_value_10 : decode c_M_value 10 = .ok (.iload 4, 2) := by decide +kernel
theorem d_M_value_12 : decode c_M_value 12 = .ok (.aload_n 0, 1) := by decide +kernel
theorem d_M_value_13 : decode c_M_value 13 = .ok (.getfield 71, 3) := by decide +kernel
theorem d_M_value_16 : decode c_M_value 16 = .ok (.if_icmp .ge 50, 3) := by decide +kernel
theorem d_M_value_19 : decode c_M_value 19 = .ok (.aload_n 0, 1) := by decide +kernel
theorem d_M_value_20 : decode c_M_value 20 = .ok (.getfield 28, 3) := by decide +kernel
theorem d_M_value_23 : decode c_M_value 23 = .ok (.iload 4, 2) := by decide +kernel
theorem d_M_value_25 : decode c_M_value 25 = .ok (.iaload, 1) := by decide +kernel
theorem d_M_value_26 : decode c_M_value 26 = .ok (.iload_n 1, 1) := by decide +kernel
theorem d_M_value_27 : decode c_M_value 27 = .ok (.if_icmp .ne 33, 3) := by decide +kernel
theorem d_M_value_30 : decode c_M_value 30 = .ok (.aload_n 0, 1) := by decide +kernel
theorem d_M_value_31 : decode c_M_value 31 = .ok (.getfield 31, 3) := by decide +kernel
theorem d_M_value_34 : decode c_M_value 34 = .ok (.iload 4, 2) := by decide +kernel
theorem d_M_value_36 : decode c_M_value 36 = .ok (.iaload, 1) := by decide +kernel
theorem d_M_value_37 : decode c_M_value 37 = .ok (.iconst 2, 1) := by decide +kernel
theorem d_M_value_38 : decode c_M_value 38 = .ok (.if_icmp .ne 22, 3) := by decide +kernel
theorem d_M_value_41 : decode c_M_value 41 = .ok (.aload_n 0, 1) := by decide +kernel
theorem d_M_value_42 : decode c_M_value 42 = .ok (.getfield 37, 3) := by decide +kernel
theorem d_M_value_45 : decode c_M_value 45 = .ok (.iload 4, 2) := by decide +kernel
theorem d_M_value_47 : decode c_M_value 47 = .ok (.iaload, 1) := by decide +kernel
theorem d_M_value_48 : decode c_M_value 48 = .ok (.iload_n 2, 1) := by decide +kernel
theorem d_M_value_49 : decode c_M_value 49 = .ok (.if_icmp .gt 11, 3) := by decide +kernel
theorem d_M_value_52 : decode c_M_value 52 = .ok (.aload_n 0, 1) := by decide +kernel
theorem d_M_value_53 : decode c_M_value 53 = .ok (.getfield 34, 3) := by decide +kernel
theorem d_M_value_56 : decode c_M_value 56 = .ok (.iload 4, 2) := by decide +kernel
theorem d_M_value_58 : decode c_M_value 58 = .ok (.iaload, 1) := by decide +kernel
theorem d_M_value_59 : decode c_M_value 59 = .ok (.istore_n 3, 1) := by decide +kernel
theorem d_M_value_60 : decode c_M_value 60 = .ok (.iinc 4 1, 3) := by decide +kernel
theorem d_M_value_63 : decode c_M_value 63 = .ok (.goto (-53), 3) := by decide +kernel
theorem d_M_value_66 : decode c_M_value 66 = .ok (.iload_n 3, 1) := by decide +kernel
theorem d_M_value_67 : decode c_M_value 67 = .ok (.ireturn, 1) := by decide +kernel
theorem d_M_reading_0 : decode c_M_reading 0 = .ok (.iload_n 1, 1) := by decide +kernel
theorem d_M_reading_1 : decode c_M_reading 1 = .ok (.iconst 0, 1) := by decide +kernel
theorem d_M_reading_2 : decode c_M_reading 2 = .ok (.bipush 9, 2) := by decide +kernel
theorem d_M_reading_4 : decode c_M_reading 4 = .ok (.invokestatic 53, 3) := by decide +kernel
theorem d_M_reading_7 : decode c_M_reading 7 = .ok (.istore_n 3, 1) := by decide +kernel
theorem d_M_reading_8 : decode c_M_reading 8 = .ok (.iconst (-1), 1) := by decide +kernel
theorem d_M_reading_9 : decode c_M_reading 9 = .ok (.istore 4, 2) := by decide +kernel
theorem d_M_reading_11 : decode c_M_reading 11 = .ok (.iconst (-1), 1) := by decide +kernel
theorem d_M_reading_12 : decode c_M_reading 12 = .ok (.istore 5, 2) := by decide +kernel
theorem d_M_reading_14 : decode c_M_reading 14 = .ok (.iload_n 3, 1) := by decide +kernel
theorem d_M_reading_15 : decode c_M_reading 15 = .ok (.ifCond .eq 18, 3) := by decide +kernel
theorem d_M_reading_18 : decode c_M_reading 18 = .ok (.aload_n 0, 1) := by decide +kernel
theorem d_M_reading_19 : decode c_M_reading 19 = .ok (.iconst (-1), 1) := by decide +kernel
theorem d_M_reading_20 : decode c_M_reading 20 = .ok (.iconst 0, 1) := by decide +kernel
theorem d_M_reading_21 : decode c_M_reading 21 = .ok (.iconst 2, 1) := by decide +kernel
theorem d_M_reading_22 : decode c_M_reading 22 = .ok (.iload_n 1, 1) := by decide +kernel
theorem d_M_reading_23 : decode c_M_reading 23 = .ok (.aload_n 0, 1) := by decide +kernel
theorem d_M_reading_24 : decode c_M_reading 24 = .ok (.getfield 57, 3) := by decide +kernel
theorem d_M_reading_27 : decode c_M_reading 27 = .ok (.invokevirtual 102, 3) := by decide +kernel
theorem d_M_reading_30 : decode c_M_reading 30 = .ok (.goto 4, 3) := by decide +kernel
theorem d_M_reading_33 : decode c_M_reading 33 = .ok (.iconst (-1), 1) := by decide +kernel
theorem d_M_reading_34 : decode c_M_reading 34 = .ok (.istore 6, 2) := by decide +kernel
theorem d_M_reading_36 : decode c_M_reading 36 = .ok (.iload 6, 2) := by decide +kernel
theorem d_M_reading_38 : decode c_M_reading 38 = .ok (.ifCond .lt 56, 3) := by decide +kernel
theorem d_M_reading_41 : decode c_M_reading 41 = .ok (.aload_n 0, 1) := by decide +kernel
theorem d_M_reading_42 : decode c_M_reading 42 = .ok (.getfield 19, 3) := by decide +kernel
theorem d_M_reading_45 : decode c_M_reading 45 = .ok (.iload 6, 2) := by decide +kernel
theorem d_M_reading_47 : decode c_M_reading 47 = .ok (.iaload, 1) := by decide +kernel
theorem d_M_reading_48 : decode c_M_reading 48 = .ok (.iload_n 2, 1) := by decide +kernel
theorem d_M_reading_49 : decode c_M_reading 49 = .ok (.if_icmp .gt 7, 3) := by decide +kernel
theorem d_M_reading_52 : decode c_M_reading 52 = .ok (.iload 6, 2) := by decide +kernel
theorem d_M_reading_54 : decode c_M_reading 54 = .ok (.istore 4, 2) := by decide +kernel
theorem d_M_reading_56 : decode c_M_reading 56 = .ok (.aload_n 0, 1) := by decide +kernel
theorem d_M_reading_57 : decode c_M_reading 57 = .ok (.getfield 19, 3) := by decide +kernel
theorem d_M_reading_60 : decode c_M_reading 60 = .ok (.iload 6, 2) := by decide +kernel
theorem d_M_reading_62 : decode c_M_reading 62 = .ok (.iaload, 1) := by decide +kernel
theorem d_M_reading_63 : decode c_M_reading 63 = .ok (.iload_n 2, 1) := by decide +kernel
theorem d_M_reading_64 : decode c_M_reading 64 = .ok (.if_icmp .lt 12, 3) := by decide +kernel
theorem d_M_reading_67 : decode c_M_reading 67 = .ok (.iload 5, 2) := by decide +kernel
theorem d_M_reading_69 : decode c_M_reading 69 = .ok (.ifCond .ge 7, 3) := by decide +kernel
theorem d_M_reading_72 : decode c_M_reading 72 = .ok (.iload 6, 2) := by decide +kernel
theorem d_M_reading_74 : decode c_M_reading 74 = .ok (.istore 5, 2) := by decide +kernel
theorem d_M_reading_76 : decode c_M_reading 76 = .ok (.aload_n 0, 1) := by decide +kernel
theorem d_M_reading_77 : decode c_M_reading 77 = .ok (.iload 6, 2) := by decide +kernel
theorem d_M_reading_79 : decode c_M_reading 79 = .ok (.iconst 0, 1) := by decide +kernel
theorem d_M_reading_80 : decode c_M_reading 80 = .ok (.iconst 2, 1) := by decide +kernel
theorem d_M_reading_81 : decode c_M_reading 81 = .ok (.iload_n 1, 1) := by decide +kernel
theorem d_M_reading_82 : decode c_M_reading 82 = .ok (.aload_n 0, 1) := by decide +kernel
theorem d_M_reading_83 : decode c_M_reading 83 = .ok (.getfield 57, 3) := by decide +kernel
theorem d_M_reading_86 : decode c_M_reading 86 = .ok (.invokevirtual 102, 3) := by decide +kernel
theorem d_M_reading_89 : decode c_M_reading 89 = .ok (.istore 6, 2) := by decide +kernel
theorem d_M_reading_91 : decode c_M_reading 91 = .ok (.goto (-55), 3) := by decide +kernel
theorem d_M_reading_94 : decode c_M_reading 94 = .ok (.aload_n 0, 1) := by decide +kernel
theorem d_M_reading_95 : decode c_M_reading 95 = .ok (.bipush 7, 2) := by decide +kernel
theorem d_M_reading_97 : decode c_M_reading 97 = .ok (.iload_n 3, 1) := by decide +kernel
theorem d_M_reading_98 : decode c_M_reading 98 = .ok (.aload_n 0, 1) := by decide +kernel
theorem d_M_reading_99 : decode c_M_reading 99 = .ok (.iload_n 2, 1) := by decide +kernel
theorem d_M_reading_100 : decode c_M_reading 100 = .ok (.invokevirtual 67, 3) := by decide +kernel
theorem d_M_reading_103 : decode c_M_reading 103 = .ok (.iload 4, 2) := by decide +kernel
theorem d_M_reading_105 : decode c_M_reading 105 = .ok (.ifCond .lt 12, 3) := by decide +kernel
theorem d_M_reading_108 : decode c_M_reading 108 = .ok (.iload 5, 2) := by decide +kernel
theorem d_M_reading_110 : decode c_M_reading 110 = .ok (.ifCond .lt 7, 3) := by decide +kernel
theorem d_M_reading_113 : decode c_M_reading 113 = .ok (.iconst 1, 1) := by decide +kernel
theorem d_M_reading_114 : decode c_M_reading 114 = .ok (.goto 4, 3) := by decide +kernel
theorem d_M_reading_117 : decode c_M_reading 117 = .ok (.iconst 0, 1) := by decide +kernel
theorem d_M_reading_118 : decode c_M_reading 118 = .ok (.iconst 1, 1) := by decide +kernel
theorem d_M_reading_119 : decode c_M_reading 119 = .ok (.invokevirtual 63, 3) := by decide +kernel
theorem d_M_reading_122 : decode c_M_reading 122 = .ok (.ifCond .ne 5, 3) := by decide +kernel
theorem d_M_reading_125 : decode c_M_reading 125 = .ok (.iconst 0, 1) := by decide +kernel
theorem d_M_reading_126 : decode c_M_reading 126 = .ok (.ireturn, 1) := by decide +kernel
theorem d_M_reading_127 : decode c_M_reading 127 = .ok (.aload_n 0, 1) := by decide +kernel
theorem d_M_reading_128 : decode c_M_reading 128 = .ok (.iload 4, 2) := by decide +kernel
theorem d_M_reading_130 : decode c_M_reading 130 = .ok (.aload_n 0, 1) := by decide +kernel
theorem d_M_reading_131 : decode c_M_reading 131 = .ok (.getfield 57, 3) := by decide +kernel
theorem d_M_reading_134 : decode c_M_reading 134 = .ok (.invokevirtual 106, 3) := by decide +kernel
theorem d_M_reading_137 : decode c_M_reading 137 = .ok (.istore 7, 2) := by decide +kernel
theorem d_M_reading_139 : decode c_M_reading 139 = .ok (.aload_n 0, 1) := by decide +kernel
theorem d_M_reading_140 : decode c_M_reading 140 = .ok (.getfield 19, 3) := by decide +kernel
theorem d_M_reading_143 : decode c_M_reading 143 = .ok (.iload 4, 2) := by decide +kernel
theorem d_M_reading_145 : decode c_M_reading 145 = .ok (.iaload, 1) := by decide +kernel
theorem d_M_reading_146 : decode c_M_reading 146 = .ok (.iload_n 2, 1) := by decide +kernel
theorem d_M_reading_147 : decode c_M_reading 147 = .ok (.if_icmp .ne 6, 3) := by decide +kernel
theorem d_M_reading_150 : decode c_M_reading 150 = .ok (.iload 7, 2) := by decide +kernel
theorem d_M_reading_152 : decode c_M_reading 152 = .ok (.ireturn, 1) := by decide +kernel
theorem d_M_reading_153 : decode c_M_reading 153 = .ok (.iload 7, 2) := by decide +kernel
theorem d_M_reading_155 : decode c_M_reading 155 = .ok (.aload_n 0, 1) := by decide +kernel
theorem d_M_reading_156 : decode c_M_reading 156 = .ok (.iload 5, 2) := by decide +kernel
theorem d_M_reading_158 : decode c_M_reading 158 = .ok (.aload_n 0, 1) := by decide +kernel
theorem d_M_reading_159 : decode c_M_reading 159 = .ok (.getfield 57, 3) := by decide +kernel
theorem d_M_reading_162 : decode c_M_reading 162 = .ok (.invokevirtual 106, 3) := by decide +kernel
theorem d_M_reading_165 : decode c_M_reading 165 = .ok (.iload 7, 2) := by decide +kernel
theorem d_M_reading_167 : decode c_M_reading 167 = .ok (.isub, 1) := by decide +kernel
theorem d_M_reading_168 : decode c_M_reading 168 = .ok (.iload_n 2, 1) := by decide +kernel
theorem d_M_reading_169 : decode c_M_reading 169 = .ok (.aload_n 0, 1) := by decide +kernel
theorem d_M_reading_170 : decode c_M_reading 170 = .ok (.getfield 19, 3) := by decide +kernel
theorem d_M_reading_173 : decode c_M_reading 173 = .ok (.iload 4, 2) := by decide +kernel
theorem d_M_reading_175 : decode c_M_reading 175 = .ok (.iaload, 1) := by decide +kernel
theorem d_M_reading_176 : decode c_M_reading 176 = .ok (.isub, 1) := by decide +kernel
theorem d_M_reading_177 : decode c_M_reading 177 = .ok (.imul, 1) := by decide +kernel
theorem d_M_reading_178 : decode c_M_reading 178 = .ok (.aload_n 0, 1) := by decide +kernel
theorem d_M_reading_179 : decode c_M_reading 179 = .ok (.getfield 19, 3) := by decide +kernel
theorem d_M_reading_182 : decode c_M_reading 182 = .ok (.iload 5, 2) := by decide +kernel
theorem d_M_reading_184 : decode c_M_reading 184 = .ok (.iaload, 1) := by decide +kernel
theorem d_M_reading_185 : decode c_M_reading 185 = .ok (.aload_n 0, 1) := by decide +kernel
theorem d_M_reading_186 : decode c_M_reading 186 = .ok (.getfield 19, 3) := by decide +kernel
theorem d_M_reading_189 : decode c_M_reading 189 = .ok (.iload 4, 2) := by decide +kernel
theorem d_M_reading_191 : decode c_M_reading 191 = .ok (.iaload, 1) := by decide +kernel
theorem d_M_reading_192 : decode c_M_reading 192 = .ok (.isub, 1) := by decide +kernel
theorem d_M_reading_193 : decode c_M_reading 193 = .ok (.invokestatic 110, 3) := by decide +kernel
theorem d_M_reading_196 : decode c_M_reading 196 = .ok (.iadd, 1) := by decide +kernel
theorem d_M_reading_197 : decode c_M_reading 197 = .ok (.ireturn, 1) := by decide +kernel
theorem d_M_floor_0 : decode c_M_floor 0 = .ok (.iload_n 0, 1) := by decide +kernel
theorem d_M_floor_1 : decode c_M_floor 1 = .ok (.iload_n 1, 1) := by decide +kernel
theorem d_M_floor_2 : decode c_M_floor 2 = .ok (.idiv, 1) := by decide +kernel
theorem d_M_floor_3 : decode c_M_floor 3 = .ok (.istore_n 2, 1) := by decide +kernel
theorem d_M_floor_4 : decode c_M_floor 4 = .ok (.iload_n 2, 1) := by decide +kernel
theorem d_M_floor_5 : decode c_M_floor 5 = .ok (.iload_n 1, 1) := by decide +kernel
theorem d_M_floor_6 : decode c_M_floor 6 = .ok (.imul, 1) := by decide +kernel
theorem d_M_floor_7 : decode c_M_floor 7 = .ok (.iload_n 0, 1) := by decide +kernel
theorem d_M_floor_8 : decode c_M_floor 8 = .ok (.if_icmp .le 9, 3) := by decide +kernel
theorem d_M_floor_11 : decode c_M_floor 11 = .ok (.iload_n 2, 1) := by decide +kernel
theorem d_M_floor_12 : decode c_M_floor 12 = .ok (.iconst 1, 1) := by decide +kernel
theorem d_M_floor_13 : decode c_M_floor 13 = .ok (.isub, 1) := by decide +kernel
theorem d_M_floor_14 : decode c_M_floor 14 = .ok (.goto 4, 3) := by decide +kernel
theorem d_M_floor_17 : decode c_M_floor 17 = .ok (.iload_n 2, 1) := by decide +kernel
theorem d_M_floor_18 : decode c_M_floor 18 = .ok (.ireturn, 1) := by decide +kernel
theorem d_M_gap_0 : decode c_M_gap 0 = .ok (.aload_n 0, 1) := by decide +kernel
theorem d_M_gap_1 : decode c_M_gap 1 = .ok (.iconst 2, 1) := by decide +kernel
theorem d_M_gap_2 : decode c_M_gap 2 = .ok (.iconst 1, 1) := by decide +kernel
theorem d_M_gap_3 : decode c_M_gap 3 = .ok (.iload_n 1, 1) := by decide +kernel
theorem d_M_gap_4 : decode c_M_gap 4 = .ok (.iconst 0, 1) := by decide +kernel
theorem d_M_gap_5 : decode c_M_gap 5 = .ok (.ldc 113, 2) := by decide +kernel
theorem d_M_gap_7 : decode c_M_gap 7 = .ok (.invokestatic 53, 3) := by decide +kernel
theorem d_M_gap_10 : decode c_M_gap 10 = .ok (.ifCond .eq 11, 3) := by decide +kernel
theorem d_M_gap_13 : decode c_M_gap 13 = .ok (.iload_n 2, 1) := by decide +kernel
theorem d_M_gap_14 : decode c_M_gap 14 = .ok (.ifCond .lt 7, 3) := by decide +kernel
theorem d_M_gap_17 : decode c_M_gap 17 = .ok (.iconst 1, 1) := by decide +kernel
theorem d_M_gap_18 : decode c_M_gap 18 = .ok (.goto 4, 3) := by decide +kernel
theorem d_M_gap_21 : decode c_M_gap 21 = .ok (.iconst 0, 1) := by decide +kernel
theorem d_M_gap_22 : decode c_M_gap 22 = .ok (.iconst 1, 1) := by decide +kernel
theorem d_M_gap_23 : decode c_M_gap 23 = .ok (.iconst 1, 1) := by decide +kernel
theorem d_M_gap_24 : decode c_M_gap 24 = .ok (.invokevirtual 63, 3) := by decide +kernel
theorem d_M_gap_27 : decode c_M_gap 27 = .ok (.ifCond .ne 5, 3) := by decide +kernel
theorem d_M_gap_30 : decode c_M_gap 30 = .ok (.iconst 0, 1) := by decide +kernel
theorem d_M_gap_31 : decode c_M_gap 31 = .ok (.ireturn, 1) := by decide +kernel
theorem d_M_gap_32 : decode c_M_gap 32 = .ok (.iload_n 2, 1) := by decide +kernel
theorem d_M_gap_33 : decode c_M_gap 33 = .ok (.istore_n 3, 1) := by decide +kernel
theorem d_M_gap_34 : decode c_M_gap 34 = .ok (.aload_n 0, 1) := by decide +kernel
theorem d_M_gap_35 : decode c_M_gap 35 = .ok (.iconst (-1), 1) := by decide +kernel
theorem d_M_gap_36 : decode c_M_gap 36 = .ok (.iconst 0, 1) := by decide +kernel
theorem d_M_gap_37 : decode c_M_gap 37 = .ok (.iconst (-1), 1) := by decide +kernel
theorem d_M_gap_38 : decode c_M_gap 38 = .ok (.iconst (-1), 1) := by decide +kernel
theorem d_M_gap_39 : decode c_M_gap 39 = .ok (.aload_n 0, 1) := by decide +kernel
theorem d_M_gap_40 : decode c_M_gap 40 = .ok (.getfield 57, 3) := by decide +kernel
theorem d_M_gap_43 : decode c_M_gap 43 = .ok (.invokevirtual 102, 3) := by decide +kernel
theorem d_M_gap_46 : decode c_M_gap 46 = .ok (.istore 4, 2) := by decide +kernel
theorem d_M_gap_48 : decode c_M_gap 48 = .ok (.iload 4, 2) := by decide +kernel
theorem d_M_gap_50 : decode c_M_gap 50 = .ok (.ifCond .lt 59, 3) := by decide +kernel
theorem d_M_gap_53 : decode c_M_gap 53 = .ok (.aload_n 0, 1) := by decide +kernel
theorem d_M_gap_54 : decode c_M_gap 54 = .ok (.iload 4, 2) := by decide +kernel
theorem d_M_gap_56 : decode c_M_gap 56 = .ok (.iconst 0, 1) := by decide +kernel
theorem d_M_gap_57 : decode c_M_gap 57 = .ok (.iconst (-1), 1) := by decide +kernel
theorem d_M_gap_58 : decode c_M_gap 58 = .ok (.iconst (-1), 1) := by decide +kernel
theorem d_M_gap_59 : decode c_M_gap 59 = .ok (.aload_n 0, 1) := by decide +kernel
theorem d_M_gap_60 : decode c_M_gap 60 = .ok (.getfield 57, 3) := by decide +kernel
theorem d_M_gap_63 : decode c_M_gap 63 = .ok (.invokevirtual 102, 3) := by decide +kernel
theorem d_M_gap_66 : decode c_M_gap 66 = .ok (.istore 5, 2) := by decide +kernel
theorem d_M_gap_68 : decode c_M_gap 68 = .ok (.iload 5, 2) := by decide +kernel
theorem d_M_gap_70 : decode c_M_gap 70 = .ok (.ifCond .lt 32, 3) := by decide +kernel
theorem d_M_gap_73 : decode c_M_gap 73 = .ok (.aload_n 0, 1) := by decide +kernel
end
section
/-! decode rows, printed by wip/gen/names.py -/
theorem d_M_gap_74 : decode c_M_gap 74 = .ok (.getfield 19, 3) := by decide +kernel
theorem d_M_gap_77 : decode c_M_gap 77 = .ok (.iload 5, 2) := by decide +kernel
theorem d_M_gap_79 : decode c_M_gap 79 = .ok (.iaload, 1) := by decide +kernel
theorem d_M_gap_80 : decode c_M_gap 80 = .ok (.aload_n 0, 1) := by decide +kernel
theorem d_M_gap_81 : decode c_M_gap 81 = .ok (.getfield 19, 3) := by decide +kernel
theorem d_M_gap_84 : decode c_M_gap 84 = .ok (.iload 4, 2) := by decide +kernel
theorem d_M_gap_86 : decode c_M_gap 86 = .ok (.iaload, 1) := by decide +kernel
theorem d_M_gap_87 : decode c_M_gap 87 = .ok (.isub, 1) := by decide +kernel
theorem d_M_gap_88 : decode c_M_gap 88 = .ok (.iload_n 1, 1) := by decide +kernel
theorem d_M_gap_89 : decode c_M_gap 89 = .ok (.if_icmp .le 13, 3) := by decide +kernel
theorem d_M_gap_92 : decode c_M_gap 92 = .ok (.iload_n 3, 1) := by decide +kernel
theorem d_M_gap_93 : decode c_M_gap 93 = .ok (.ifCond .ne 6, 3) := by decide +kernel
theorem d_M_gap_96 : decode c_M_gap 96 = .ok (.iload 4, 2) := by decide +kernel
theorem d_M_gap_98 : decode c_M_gap 98 = .ok (.ireturn, 1) := by decide +kernel
theorem d_M_gap_99 : decode c_M_gap 99 = .ok (.iinc 3 (-1), 3) := by decide +kernel
theorem d_M_gap_102 : decode c_M_gap 102 = .ok (.iload 5, 2) := by decide +kernel
theorem d_M_gap_104 : decode c_M_gap 104 = .ok (.istore 4, 2) := by decide +kernel
theorem d_M_gap_106 : decode c_M_gap 106 = .ok (.goto (-58), 3) := by decide +kernel
theorem d_M_gap_109 : decode c_M_gap 109 = .ok (.iconst (-1), 1) := by decide +kernel
theorem d_M_gap_110 : decode c_M_gap 110 = .ok (.ireturn, 1) := by decide +kernel
theorem d_M_digest_0 : decode c_M_digest 0 = .ok (.aload_n 0, 1) := by decide +kernel
theorem d_M_digest_1 : decode c_M_digest 1 = .ok (.iconst 1, 1) := by decide +kernel
theorem d_M_digest_2 : decode c_M_digest 2 = .ok (.aload_n 0, 1) := by decide +kernel
theorem d_M_digest_3 : decode c_M_digest 3 = .ok (.iload_n 1, 1) := by decide +kernel
theorem d_M_digest_4 : decode c_M_digest 4 = .ok (.invokevirtual 74, 3) := by decide +kernel
theorem d_M_digest_7 : decode c_M_digest 7 = .ok (.iconst 1, 1) := by decide +kernel
theorem d_M_digest_8 : decode c_M_digest 8 = .ok (.iconst 1, 1) := by decide +kernel
theorem d_M_digest_9 : decode c_M_digest 9 = .ok (.iconst 1, 1) := by decide +kernel
theorem d_M_digest_10 : decode c_M_digest 10 = .ok (.invokevirtual 63, 3) := by decide +kernel
theorem d_M_digest_13 : decode c_M_digest 13 = .ok (.ifCond .ne 5, 3) := by decide +kernel
theorem d_M_digest_16 : decode c_M_digest 16 = .ok (.iconst 0, 1) := by decide +kernel
theorem d_M_digest_17 : decode c_M_digest 17 = .ok (.ireturn, 1) := by decide +kernel
theorem d_M_digest_18 : decode c_M_digest 18 = .ok (.bipush 7, 2) := by decide +kernel
theorem d_M_digest_20 : decode c_M_digest 20 = .ok (.aload_n 0, 1) := by decide +kernel
theorem d_M_digest_21 : decode c_M_digest 21 = .ok (.getfield 7, 3) := by decide +kernel
theorem d_M_digest_24 : decode c_M_digest 24 = .ok (.iload_n 1, 1) := by decide +kernel
theorem d_M_digest_25 : decode c_M_digest 25 = .ok (.iaload, 1) := by decide +kernel
theorem d_M_digest_26 : decode c_M_digest 26 = .ok (.invokestatic 114, 3) := by decide +kernel
theorem d_M_digest_29 : decode c_M_digest 29 = .ok (.aload_n 0, 1) := by decide +kernel
theorem d_M_digest_30 : decode c_M_digest 30 = .ok (.getfield 13, 3) := by decide +kernel
theorem d_M_digest_33 : decode c_M_digest 33 = .ok (.iload_n 1, 1) := by decide +kernel
theorem d_M_digest_34 : decode c_M_digest 34 = .ok (.iaload, 1) := by decide +kernel
theorem d_M_digest_35 : decode c_M_digest 35 = .ok (.invokestatic 114, 3) := by decide +kernel
theorem d_M_digest_38 : decode c_M_digest 38 = .ok (.aload_n 0, 1) := by decide +kernel
theorem d_M_digest_39 : decode c_M_digest 39 = .ok (.getfield 16, 3) := by decide +kernel
theorem d_M_digest_42 : decode c_M_digest 42 = .ok (.iload_n 1, 1) := by decide +kernel
theorem d_M_digest_43 : decode c_M_digest 43 = .ok (.iaload, 1) := by decide +kernel
theorem d_M_digest_44 : decode c_M_digest 44 = .ok (.invokestatic 114, 3) := by decide +kernel
theorem d_M_digest_47 : decode c_M_digest 47 = .ok (.aload_n 0, 1) := by decide +kernel
theorem d_M_digest_48 : decode c_M_digest 48 = .ok (.getfield 19, 3) := by decide +kernel
theorem d_M_digest_51 : decode c_M_digest 51 = .ok (.iload_n 1, 1) := by decide +kernel
theorem d_M_digest_52 : decode c_M_digest 52 = .ok (.iaload, 1) := by decide +kernel
theorem d_M_digest_53 : decode c_M_digest 53 = .ok (.invokestatic 114, 3) := by decide +kernel
theorem d_M_digest_56 : decode c_M_digest 56 = .ok (.aload_n 0, 1) := by decide +kernel
theorem d_M_digest_57 : decode c_M_digest 57 = .ok (.getfield 22, 3) := by decide +kernel
theorem d_M_digest_60 : decode c_M_digest 60 = .ok (.iload_n 1, 1) := by decide +kernel
theorem d_M_digest_61 : decode c_M_digest 61 = .ok (.iaload, 1) := by decide +kernel
theorem d_M_digest_62 : decode c_M_digest 62 = .ok (.invokestatic 114, 3) := by decide +kernel
theorem d_M_digest_65 : decode c_M_digest 65 = .ok (.istore_n 2, 1) := by decide +kernel
theorem d_M_digest_66 : decode c_M_digest 66 = .ok (.iconst 0, 1) := by decide +kernel
theorem d_M_digest_67 : decode c_M_digest 67 = .ok (.istore_n 3, 1) := by decide +kernel
theorem d_M_digest_68 : decode c_M_digest 68 = .ok (.iload_n 3, 1) := by decide +kernel
theorem d_M_digest_69 : decode c_M_digest 69 = .ok (.aload_n 0, 1) := by decide +kernel
theorem d_M_digest_70 : decode c_M_digest 70 = .ok (.getfield 71, 3) := by decide +kernel
theorem d_M_digest_73 : decode c_M_digest 73 = .ok (.if_icmp .ge 40, 3) := by decide +kernel
theorem d_M_digest_76 : decode c_M_digest 76 = .ok (.aload_n 0, 1) := by decide +kernel
theorem d_M_digest_77 : decode c_M_digest 77 = .ok (.getfield 28, 3) := by decide +kernel
theorem d_M_digest_80 : decode c_M_digest 80 = .ok (.iload_n 3, 1) := by decide +kernel
theorem d_M_digest_81 : decode c_M_digest 81 = .ok (.iaload, 1) := by decide +kernel
theorem d_M_digest_82 : decode c_M_digest 82 = .ok (.iload_n 1, 1) := by decide +kernel
theorem d_M_digest_83 : decode c_M_digest 83 = .ok (.if_icmp .ne 24, 3) := by decide +kernel
theorem d_M_digest_86 : decode c_M_digest 86 = .ok (.aload_n 0, 1) := by decide +kernel
theorem d_M_digest_87 : decode c_M_digest 87 = .ok (.getfield 31, 3) := by decide +kernel
theorem d_M_digest_90 : decode c_M_digest 90 = .ok (.iload_n 3, 1) := by decide +kernel
theorem d_M_digest_91 : decode c_M_digest 91 = .ok (.iaload, 1) := by decide +kernel
theorem d_M_digest_92 : decode c_M_digest 92 = .ok (.iconst 2, 1) := by decide +kernel
theorem d_M_digest_93 : decode c_M_digest 93 = .ok (.if_icmp .ne 14, 3) := by decide +kernel
theorem d_M_digest_96 : decode c_M_digest 96 = .ok (.iload_n 2, 1) := by decide +kernel
theorem d_M_digest_97 : decode c_M_digest 97 = .ok (.aload_n 0, 1) := by decide +kernel
theorem d_M_digest_98 : decode c_M_digest 98 = .ok (.getfield 34, 3) := by decide +kernel
theorem d_M_digest_101 : decode c_M_digest 101 = .ok (.iload_n 3, 1) := by decide +kernel
theorem d_M_digest_102 : decode c_M_digest 102 = .ok (.iaload, 1) := by decide +kernel
theorem d_M_digest_103 : decode c_M_digest 103 = .ok (.invokestatic 114, 3) := by decide +kernel
theorem d_M_digest_106 : decode c_M_digest 106 = .ok (.istore_n 2, 1) := by decide +kernel
theorem d_M_digest_107 : decode c_M_digest 107 = .ok (.iinc 3 1, 3) := by decide +kernel
theorem d_M_digest_110 : decode c_M_digest 110 = .ok (.goto (-42), 3) := by decide +kernel
theorem d_M_digest_113 : decode c_M_digest 113 = .ok (.iload_n 2, 1) := by decide +kernel
theorem d_M_digest_114 : decode c_M_digest 114 = .ok (.ireturn, 1) := by decide +kernel
theorem d_M_mix_0 : decode c_M_mix 0 = .ok (.iload_n 0, 1) := by decide +kernel
theorem d_M_mix_1 : decode c_M_mix 1 = .ok (.iload_n 1, 1) := by decide +kernel
theorem d_M_mix_2 : decode c_M_mix 2 = .ok (.ixor, 1) := by decide +kernel
theorem d_M_mix_3 : decode c_M_mix 3 = .ok (.istore_n 2, 1) := by decide +kernel
theorem d_M_mix_4 : decode c_M_mix 4 = .ok (.iload_n 2, 1) := by decide +kernel
theorem d_M_mix_5 : decode c_M_mix 5 = .ok (.bipush 7, 2) := by decide +kernel
theorem d_M_mix_7 : decode c_M_mix 7 = .ok (.ishl, 1) := by decide +kernel
theorem d_M_mix_8 : decode c_M_mix 8 = .ok (.iload_n 2, 1) := by decide +kernel
theorem d_M_mix_9 : decode c_M_mix 9 = .ok (.bipush 25, 2) := by decide +kernel
theorem d_M_mix_11 : decode c_M_mix 11 = .ok (.iushr, 1) := by decide +kernel
theorem d_M_mix_12 : decode c_M_mix 12 = .ok (.ior, 1) := by decide +kernel
theorem d_M_mix_13 : decode c_M_mix 13 = .ok (.iload_n 1, 1) := by decide +kernel
theorem d_M_mix_14 : decode c_M_mix 14 = .ok (.iadd, 1) := by decide +kernel
theorem d_M_mix_15 : decode c_M_mix 15 = .ok (.ireturn, 1) := by decide +kernel
theorem d_M_noteAt_0 : decode c_M_noteAt 0 = .ok (.aload_n 0, 1) := by decide +kernel
theorem d_M_noteAt_1 : decode c_M_noteAt 1 = .ok (.iconst 1, 1) := by decide +kernel
theorem d_M_noteAt_2 : decode c_M_noteAt 2 = .ok (.aload_n 0, 1) := by decide +kernel
theorem d_M_noteAt_3 : decode c_M_noteAt 3 = .ok (.iload_n 1, 1) := by decide +kernel
theorem d_M_noteAt_4 : decode c_M_noteAt 4 = .ok (.invokevirtual 74, 3) := by decide +kernel
theorem d_M_noteAt_7 : decode c_M_noteAt 7 = .ok (.ifCond .eq 16, 3) := by decide +kernel
theorem d_M_noteAt_10 : decode c_M_noteAt 10 = .ok (.iload_n 2, 1) := by decide +kernel
theorem d_M_noteAt_11 : decode c_M_noteAt 11 = .ok (.iconst 0, 1) := by decide +kernel
theorem d_M_noteAt_12 : decode c_M_noteAt 12 = .ok (.iconst 4, 1) := by decide +kernel
theorem d_M_noteAt_13 : decode c_M_noteAt 13 = .ok (.invokestatic 53, 3) := by decide +kernel
theorem d_M_noteAt_16 : decode c_M_noteAt 16 = .ok (.ifCond .eq 7, 3) := by decide +kernel
theorem d_M_noteAt_19 : decode c_M_noteAt 19 = .ok (.iconst 1, 1) := by decide +kernel
theorem d_M_noteAt_20 : decode c_M_noteAt 20 = .ok (.goto 4, 3) := by decide +kernel
theorem d_M_noteAt_23 : decode c_M_noteAt 23 = .ok (.iconst 0, 1) := by decide +kernel
theorem d_M_noteAt_24 : decode c_M_noteAt 24 = .ok (.iconst 1, 1) := by decide +kernel
theorem d_M_noteAt_25 : decode c_M_noteAt 25 = .ok (.iconst 1, 1) := by decide +kernel
theorem d_M_noteAt_26 : decode c_M_noteAt 26 = .ok (.iconst 1, 1) := by decide +kernel
theorem d_M_noteAt_27 : decode c_M_noteAt 27 = .ok (.invokevirtual 63, 3) := by decide +kernel
theorem d_M_noteAt_30 : decode c_M_noteAt 30 = .ok (.ifCond .ne 5, 3) := by decide +kernel
theorem d_M_noteAt_33 : decode c_M_noteAt 33 = .ok (.iconst 0, 1) := by decide +kernel
theorem d_M_noteAt_34 : decode c_M_noteAt 34 = .ok (.ireturn, 1) := by decide +kernel
theorem d_M_noteAt_35 : decode c_M_noteAt 35 = .ok (.iload_n 2, 1) := by decide +kernel
theorem d_M_noteAt_36 : decode c_M_noteAt 36 = .ok (.ifCond .ne 12, 3) := by decide +kernel
theorem d_M_noteAt_39 : decode c_M_noteAt 39 = .ok (.aload_n 0, 1) := by decide +kernel
theorem d_M_noteAt_40 : decode c_M_noteAt 40 = .ok (.getfield 25, 3) := by decide +kernel
theorem d_M_noteAt_43 : decode c_M_noteAt 43 = .ok (.iload_n 1, 1) := by decide +kernel
theorem d_M_noteAt_44 : decode c_M_noteAt 44 = .ok (.iaload, 1) := by decide +kernel
theorem d_M_noteAt_45 : decode c_M_noteAt 45 = .ok (.goto 65, 3) := by decide +kernel
theorem d_M_noteAt_48 : decode c_M_noteAt 48 = .ok (.iload_n 2, 1) := by decide +kernel
theorem d_M_noteAt_49 : decode c_M_noteAt 49 = .ok (.iconst 1, 1) := by decide +kernel
theorem d_M_noteAt_50 : decode c_M_noteAt 50 = .ok (.if_icmp .ne 12, 3) := by decide +kernel
theorem d_M_noteAt_53 : decode c_M_noteAt 53 = .ok (.aload_n 0, 1) := by decide +kernel
theorem d_M_noteAt_54 : decode c_M_noteAt 54 = .ok (.iload_n 1, 1) := by decide +kernel
theorem d_M_noteAt_55 : decode c_M_noteAt 55 = .ok (.iconst 1, 1) := by decide +kernel
theorem d_M_noteAt_56 : decode c_M_noteAt 56 = .ok (.invokevirtual 85, 3) := by decide +kernel
theorem d_M_noteAt_59 : decode c_M_noteAt 59 = .ok (.goto 51, 3) := by decide +kernel
theorem d_M_noteAt_62 : decode c_M_noteAt 62 = .ok (.iload_n 2, 1) := by decide +kernel
theorem d_M_noteAt_63 : decode c_M_noteAt 63 = .ok (.iconst 2, 1) := by decide +kernel
theorem d_M_noteAt_64 : decode c_M_noteAt 64 = .ok (.if_icmp .ne 23, 3) := by decide +kernel
theorem d_M_noteAt_67 : decode c_M_noteAt 67 = .ok (.aload_n 0, 1) := by decide +kernel
theorem d_M_noteAt_68 : decode c_M_noteAt 68 = .ok (.iload_n 1, 1) := by decide +kernel
theorem d_M_noteAt_69 : decode c_M_noteAt 69 = .ok (.aload_n 0, 1) := by decide +kernel
theorem d_M_noteAt_70 : decode c_M_noteAt 70 = .ok (.getfield 57, 3) := by decide +kernel
theorem d_M_noteAt_73 : decode c_M_noteAt 73 = .ok (.invokevirtual 77, 3) := by decide +kernel
theorem d_M_noteAt_76 : decode c_M_noteAt 76 = .ok (.ifCond .eq 7, 3) := by decide +kernel
theorem d_M_noteAt_79 : decode c_M_noteAt 79 = .ok (.iconst 1, 1) := by decide +kernel
theorem d_M_noteAt_80 : decode c_M_noteAt 80 = .ok (.goto 30, 3) := by decide +kernel
theorem d_M_noteAt_83 : decode c_M_noteAt 83 = .ok (.iconst 0, 1) := by decide +kernel
theorem d_M_noteAt_84 : decode c_M_noteAt 84 = .ok (.goto 26, 3) := by decide +kernel
theorem d_M_noteAt_87 : decode c_M_noteAt 87 = .ok (.iload_n 2, 1) := by decide +kernel
theorem d_M_noteAt_88 : decode c_M_noteAt 88 = .ok (.iconst 3, 1) := by decide +kernel
theorem d_M_noteAt_89 : decode c_M_noteAt 89 = .ok (.if_icmp .ne 15, 3) := by decide +kernel
theorem d_M_noteAt_92 : decode c_M_noteAt 92 = .ok (.aload_n 0, 1) := by decide +kernel
theorem d_M_noteAt_93 : decode c_M_noteAt 93 = .ok (.iload_n 1, 1) := by decide +kernel
theorem d_M_noteAt_94 : decode c_M_noteAt 94 = .ok (.aload_n 0, 1) := by decide +kernel
theorem d_M_noteAt_95 : decode c_M_noteAt 95 = .ok (.getfield 57, 3) := by decide +kernel
theorem d_M_noteAt_98 : decode c_M_noteAt 98 = .ok (.invokevirtual 106, 3) := by decide +kernel
theorem d_M_noteAt_101 : decode c_M_noteAt 101 = .ok (.goto 9, 3) := by decide +kernel
theorem d_M_noteAt_104 : decode c_M_noteAt 104 = .ok (.aload_n 0, 1) := by decide +kernel
theorem d_M_noteAt_105 : decode c_M_noteAt 105 = .ok (.getfield 22, 3) := by decide +kernel
theorem d_M_noteAt_108 : decode c_M_noteAt 108 = .ok (.iload_n 1, 1) := by decide +kernel
theorem d_M_noteAt_109 : decode c_M_noteAt 109 = .ok (.iaload, 1) := by decide +kernel
theorem d_M_noteAt_110 : decode c_M_noteAt 110 = .ok (.ireturn, 1) := by decide +kernel
theorem d_M_print_0 : decode c_M_print 0 = .ok (.aload_n 0, 1) := by decide +kernel
theorem d_M_print_1 : decode c_M_print 1 = .ok (.iconst 4, 1) := by decide +kernel
theorem d_M_print_2 : decode c_M_print 2 = .ok (.iconst 1, 1) := by decide +kernel
theorem d_M_print_3 : decode c_M_print 3 = .ok (.iconst 1, 1) := by decide +kernel
theorem d_M_print_4 : decode c_M_print 4 = .ok (.aload_n 0, 1) := by decide +kernel
theorem d_M_print_5 : decode c_M_print 5 = .ok (.getfield 92, 3) := by decide +kernel
theorem d_M_print_8 : decode c_M_print 8 = .ok (.iconst 1, 1) := by decide +kernel
theorem d_M_print_9 : decode c_M_print 9 = .ok (.invokevirtual 63, 3) := by decide +kernel
theorem d_M_print_12 : decode c_M_print 12 = .ok (.ifCond .ne 5, 3) := by decide +kernel
theorem d_M_print_15 : decode c_M_print 15 = .ok (.iconst 0, 1) := by decide +kernel
theorem d_M_print_16 : decode c_M_print 16 = .ok (.ireturn, 1) := by decide +kernel
theorem d_M_print_17 : decode c_M_print 17 = .ok (.aload_n 0, 1) := by decide +kernel
theorem d_M_print_18 : decode c_M_print 18 = .ok (.iconst 0, 1) := by decide +kernel
theorem d_M_print_19 : decode c_M_print 19 = .ok (.putfield 117, 3) := by decide +kernel
theorem d_M_print_22 : decode c_M_print 22 = .ok (.aload_n 0, 1) := by decide +kernel
theorem d_M_print_23 : decode c_M_print 23 = .ok (.bipush 84, 2) := by decide +kernel
theorem d_M_print_25 : decode c_M_print 25 = .ok (.aload_n 0, 1) := by decide +kernel
theorem d_M_print_26 : decode c_M_print 26 = .ok (.getfield 99, 3) := by decide +kernel
theorem d_M_print_29 : decode c_M_print 29 = .ok (.invokevirtual 124, 3) := by decide +kernel
theorem d_M_print_32 : decode c_M_print 32 = .ok (.aload_n 0, 1) := by decide +kernel
theorem d_M_print_33 : decode c_M_print 33 = .ok (.bipush 59, 2) := by decide +kernel
theorem d_M_print_35 : decode c_M_print 35 = .ok (.invokevirtual 120, 3) := by decide +kernel
theorem d_M_print_38 : decode c_M_print 38 = .ok (.iconst 0, 1) := by decide +kernel
theorem d_M_print_39 : decode c_M_print 39 = .ok (.istore_n 1, 1) := by decide +kernel
theorem d_M_print_40 : decode c_M_print 40 = .ok (.iload_n 1, 1) := by decide +kernel
theorem d_M_print_41 : decode c_M_print 41 = .ok (.aload_n 0, 1) := by decide +kernel
theorem d_M_print_42 : decode c_M_print 42 = .ok (.getfield 99, 3) := by decide +kernel
theorem d_M_print_45 : decode c_M_print 45 = .ok (.if_icmp .ge 128, 3) := by decide +kernel
theorem d_M_print_48 : decode c_M_print 48 = .ok (.aload_n 0, 1) := by decide +kernel
theorem d_M_print_49 : decode c_M_print 49 = .ok (.getfield 40, 3) := by decide +kernel
theorem d_M_print_52 : decode c_M_print 52 = .ok (.iload_n 1, 1) := by decide +kernel
theorem d_M_print_53 : decode c_M_print 53 = .ok (.iaload, 1) := by decide +kernel
theorem d_M_print_54 : decode c_M_print 54 = .ok (.istore_n 2, 1) := by decide +kernel
theorem d_M_print_55 : decode c_M_print 55 = .ok (.aload_n 0, 1) := by decide +kernel
theorem d_M_print_56 : decode c_M_print 56 = .ok (.dup, 1) := by decide +kernel
theorem d_M_print_57 : decode c_M_print 57 = .ok (.getfield 117, 3) := by decide +kernel
theorem d_M_print_60 : decode c_M_print 60 = .ok (.iconst 1, 1) := by decide +kernel
theorem d_M_print_61 : decode c_M_print 61 = .ok (.isub, 1) := by decide +kernel
theorem d_M_print_62 : decode c_M_print 62 = .ok (.putfield 117, 3) := by decide +kernel
theorem d_M_print_65 : decode c_M_print 65 = .ok (.aload_n 0, 1) := by decide +kernel
theorem d_M_print_66 : decode c_M_print 66 = .ok (.getfield 43, 3) := by decide +kernel
theorem d_M_print_69 : decode c_M_print 69 = .ok (.aload_n 0, 1) := by decide +kernel
theorem d_M_print_70 : decode c_M_print 70 = .ok (.getfield 117, 3) := by decide +kernel
theorem d_M_print_73 : decode c_M_print 73 = .ok (.iaload, 1) := by decide +kernel
theorem d_M_print_74 : decode c_M_print 74 = .ok (.istore_n 3, 1) := by decide +kernel
theorem d_M_print_75 : decode c_M_print 75 = .ok (.aload_n 0, 1) := by decide +kernel
theorem d_M_print_76 : decode c_M_print 76 = .ok (.iload_n 3, 1) := by decide +kernel
theorem d_M_print_77 : decode c_M_print 77 = .ok (.aload_n 0, 1) := by decide +kernel
theorem d_M_print_78 : decode c_M_print 78 = .ok (.getfield 19, 3) := by decide +kernel
theorem d_M_print_81 : decode c_M_print 81 = .ok (.iload_n 2, 1) := by decide +kernel
theorem d_M_print_82 : decode c_M_print 82 = .ok (.iaload, 1) := by decide +kernel
theorem d_M_print_83 : decode c_M_print 83 = .ok (.invokevirtual 124, 3) := by decide +kernel
theorem d_M_print_86 : decode c_M_print 86 = .ok (.aload_n 0, 1) := by decide +kernel
theorem d_M_print_87 : decode c_M_print 87 = .ok (.bipush 58, 2) := by decide +kernel
theorem d_M_print_89 : decode c_M_print 89 = .ok (.invokevirtual 120, 3) := by decide +kernel
theorem d_M_print_92 : decode c_M_print 92 = .ok (.aload_n 0, 1) := by decide +kernel
theorem d_M_print_93 : decode c_M_print 93 = .ok (.bipush 119, 2) := by decide +kernel
theorem d_M_print_95 : decode c_M_print 95 = .ok (.aload_n 0, 1) := by decide +kernel
theorem d_M_print_96 : decode c_M_print 96 = .ok (.getfield 7, 3) := by decide +kernel
theorem d_M_print_99 : decode c_M_print 99 = .ok (.iload_n 2, 1) := by decide +kernel
theorem d_M_print_100 : decode c_M_print 100 = .ok (.iaload, 1) := by decide +kernel
theorem d_M_print_101 : decode c_M_print 101 = .ok (.invokevirtual 124, 3) := by decide +kernel
theorem d_M_print_104 : decode c_M_print 104 = .ok (.aload_n 0, 1) := by decide +kernel
theorem d_M_print_105 : decode c_M_print 105 = .ok (.bipush 107, 2) := by decide +kernel
theorem d_M_print_107 : decode c_M_print 107 = .ok (.aload_n 0, 1) := by decide +kernel
theorem d_M_print_108 : decode c_M_print 108 = .ok (.getfield 13, 3) := by decide +kernel
theorem d_M_print_111 : decode c_M_print 111 = .ok (.iload_n 2, 1) := by decide +kernel
theorem d_M_print_112 : decode c_M_print 112 = .ok (.iaload, 1) := by decide +kernel
theorem d_M_print_113 : decode c_M_print 113 = .ok (.invokevirtual 124, 3) := by decide +kernel
theorem d_M_print_116 : decode c_M_print 116 = .ok (.aload_n 0, 1) := by decide +kernel
theorem d_M_print_117 : decode c_M_print 117 = .ok (.bipush 115, 2) := by decide +kernel
theorem d_M_print_119 : decode c_M_print 119 = .ok (.aload_n 0, 1) := by decide +kernel
theorem d_M_print_120 : decode c_M_print 120 = .ok (.getfield 16, 3) := by decide +kernel
theorem d_M_print_123 : decode c_M_print 123 = .ok (.iload_n 2, 1) := by decide +kernel
theorem d_M_print_124 : decode c_M_print 124 = .ok (.iaload, 1) := by decide +kernel
theorem d_M_print_125 : decode c_M_print 125 = .ok (.invokevirtual 124, 3) := by decide +kernel
theorem d_M_print_128 : decode c_M_print 128 = .ok (.aload_n 0, 1) := by decide +kernel
theorem d_M_print_129 : decode c_M_print 129 = .ok (.bipush 61, 2) := by decide +kernel
theorem d_M_print_131 : decode c_M_print 131 = .ok (.aload_n 0, 1) := by decide +kernel
theorem d_M_print_132 : decode c_M_print 132 = .ok (.iload_n 2, 1) := by decide +kernel
theorem d_M_print_133 : decode c_M_print 133 = .ok (.aload_n 0, 1) := by decide +kernel
theorem d_M_print_134 : decode c_M_print 134 = .ok (.getfield 96, 3) := by decide +kernel
theorem d_M_print_137 : decode c_M_print 137 = .ok (.invokevirtual 106, 3) := by decide +kernel
theorem d_M_print_140 : decode c_M_print 140 = .ok (.invokevirtual 124, 3) := by decide +kernel
theorem d_M_print_143 : decode c_M_print 143 = .ok (.aload_n 0, 1) := by decide +kernel
theorem d_M_print_144 : decode c_M_print 144 = .ok (.iload_n 2, 1) := by decide +kernel
theorem d_M_print_145 : decode c_M_print 145 = .ok (.aload_n 0, 1) := by decide +kernel
theorem d_M_print_146 : decode c_M_print 146 = .ok (.getfield 96, 3) := by decide +kernel
theorem d_M_print_149 : decode c_M_print 149 = .ok (.invokevirtual 77, 3) := by decide +kernel
theorem d_M_print_152 : decode c_M_print 152 = .ok (.ifCond .eq 9, 3) := by decide +kernel
theorem d_M_print_155 : decode c_M_print 155 = .ok (.aload_n 0, 1) := by decide +kernel
theorem d_M_print_156 : decode c_M_print 156 = .ok (.bipush 120, 2) := by decide +kernel
theorem d_M_print_158 : decode c_M_print 158 = .ok (.invokevirtual 120, 3) := by decide +kernel
theorem d_M_print_161 : decode c_M_print 161 = .ok (.aload_n 0, 1) := by decide +kernel
theorem d_M_print_162 : decode c_M_print 162 = .ok (.bipush 59, 2) := by decide +kernel
theorem d_M_print_164 : decode c_M_print 164 = .ok (.invokevirtual 120, 3) := by decide +kernel
theorem d_M_print_167 : decode c_M_print 167 = .ok (.iinc 1 1, 3) := by decide +kernel
theorem d_M_print_170 : decode c_M_print 170 = .ok (.goto (-130), 3) := by decide +kernel
theorem d_M_print_173 : decode c_M_print 173 = .ok (.aload_n 0, 1) := by decide +kernel
theorem d_M_print_174 : decode c_M_print 174 = .ok (.getfield 117, 3) := by decide +kernel
theorem d_M_print_177 : decode c_M_print 177 = .ok (.ireturn, 1) := by decide +kernel
theorem d_M_number_0 : decode c_M_number 0 = .ok (.aload_n 0, 1) := by decide +kernel
theorem d_M_number_1 : decode c_M_number 1 = .ok (.iload_n 1, 1) := by decide +kernel
theorem d_M_number_2 : decode c_M_number 2 = .ok (.invokevirtual 120, 3) := by decide +kernel
theorem d_M_number_5 : decode c_M_number 5 = .ok (.iload_n 2, 1) := by decide +kernel
theorem d_M_number_6 : decode c_M_number 6 = .ok (.ifCond .ge 8, 3) := by decide +kernel
theorem d_M_number_9 : decode c_M_number 9 = .ok (.iload_n 2, 1) := by decide +kernel
theorem d_M_number_10 : decode c_M_number 10 = .ok (.ineg, 1) := by decide +kernel
theorem d_M_number_11 : decode c_M_number 11 = .ok (.goto 4, 3) := by decide +kernel
theorem d_M_number_14 : decode c_M_number 14 = .ok (.iload_n 2, 1) := by decide +kernel
theorem d_M_number_15 : decode c_M_number 15 = .ok (.istore_n 3, 1) := by decide +kernel
theorem d_M_number_16 : decode c_M_number 16 = .ok (.iload_n 2, 1) := by decide +kernel
theorem d_M_number_17 : decode c_M_number 17 = .ok (.ifCond .ge 9, 3) := by decide +kernel
theorem d_M_number_20 : decode c_M_number 20 = .ok (.aload_n 0, 1) := by decide +kernel
theorem d_M_number_21 : decode c_M_number 21 = .ok (.bipush 45, 2) := by decide +kernel
theorem d_M_number_23 : decode c_M_number 23 = .ok (.invokevirtual 120, 3) := by decide +kernel
theorem d_M_number_26 : decode c_M_number 26 = .ok (.iconst 1, 1) := by decide +kernel
theorem d_M_number_27 : decode c_M_number 27 = .ok (.istore 4, 2) := by decide +kernel
theorem d_M_number_29 : decode c_M_number 29 = .ok (.iload_n 3, 1) := by decide +kernel
theorem d_M_number_30 : decode c_M_number 30 = .ok (.iload 4, 2) := by decide +kernel
theorem d_M_number_32 : decode c_M_number 32 = .ok (.idiv, 1) := by decide +kernel
theorem d_M_number_33 : decode c_M_number 33 = .ok (.bipush 9, 2) := by decide +kernel
theorem d_M_number_35 : decode c_M_number 35 = .ok (.if_icmp .le 13, 3) := by decide +kernel
theorem d_M_number_38 : decode c_M_number 38 = .ok (.bipush 10, 2) := by decide +kernel
theorem d_M_number_40 : decode c_M_number 40 = .ok (.iload 4, 2) := by decide +kernel
theorem d_M_number_42 : decode c_M_number 42 = .ok (.imul, 1) := by decide +kernel
theorem d_M_number_43 : decode c_M_number 43 = .ok (.istore 4, 2) := by decide +kernel
theorem d_M_number_45 : decode c_M_number 45 = .ok (.goto (-16), 3) := by decide +kernel
theorem d_M_number_48 : decode c_M_number 48 = .ok (.iload 4, 2) := by decide +kernel
theorem d_M_number_50 : decode c_M_number 50 = .ok (.ifCond .le 27, 3) := by decide +kernel
theorem d_M_number_53 : decode c_M_number 53 = .ok (.aload_n 0, 1) := by decide +kernel
theorem d_M_number_54 : decode c_M_number 54 = .ok (.bipush 48, 2) := by decide +kernel
theorem d_M_number_56 : decode c_M_number 56 = .ok (.iload_n 3, 1) := by decide +kernel
theorem d_M_number_57 : decode c_M_number 57 = .ok (.iload 4, 2) := by decide +kernel
theorem d_M_number_59 : decode c_M_number 59 = .ok (.idiv, 1) := by decide +kernel
theorem d_M_number_60 : decode c_M_number 60 = .ok (.bipush 10, 2) := by decide +kernel
theorem d_M_number_62 : decode c_M_number 62 = .ok (.irem, 1) := by decide +kernel
theorem d_M_number_63 : decode c_M_number 63 = .ok (.iadd, 1) := by decide +kernel
theorem d_M_number_64 : decode c_M_number 64 = .ok (.invokevirtual 120, 3) := by decide +kernel
theorem d_M_number_67 : decode c_M_number 67 = .ok (.iload 4, 2) := by decide +kernel
theorem d_M_number_69 : decode c_M_number 69 = .ok (.bipush 10, 2) := by decide +kernel
theorem d_M_number_71 : decode c_M_number 71 = .ok (.idiv, 1) := by decide +kernel
theorem d_M_number_72 : decode c_M_number 72 = .ok (.istore 4, 2) := by decide +kernel
theorem d_M_number_74 : decode c_M_number 74 = .ok (.goto (-26), 3) := by decide +kernel
theorem d_M_number_77 : decode c_M_number 77 = .ok (.return_, 1) := by decide +kernel
theorem d_M_put_0 : decode c_M_put 0 = .ok (.aload_n 0, 1) := by decide +kernel
theorem d_M_put_1 : decode c_M_put 1 = .ok (.getfield 43, 3) := by decide +kernel
theorem d_M_put_4 : decode c_M_put 4 = .ok (.aload_n 0, 1) := by decide +kernel
theorem d_M_put_5 : decode c_M_put 5 = .ok (.getfield 117, 3) := by decide +kernel
theorem d_M_put_8 : decode c_M_put 8 = .ok (.iload_n 1, 1) := by decide +kernel
theorem d_M_put_9 : decode c_M_put 9 = .ok (.iastore, 1) := by decide +kernel
theorem d_M_put_10 : decode c_M_put 10 = .ok (.aload_n 0, 1) := by decide +kernel
theorem d_M_put_11 : decode c_M_put 11 = .ok (.dup, 1) := by decide +kernel
theorem d_M_put_12 : decode c_M_put 12 = .ok (.getfield 117, 3) := by decide +kernel
theorem d_M_put_15 : decode c_M_put 15 = .ok (.iconst 1, 1) := by decide +kernel
theorem d_M_put_16 : decode c_M_put 16 = .ok (.iadd, 1) := by decide +kernel
theorem d_M_put_17 : decode c_M_put 17 = .ok (.putfield 117, 3) := by decide +kernel
theorem d_M_put_20 : decode c_M_put 20 = .ok (.return_, 1) := by decide +kernel
theorem d_M_at_0 : decode c_M_at 0 = .ok (.aload_n 0, 1) := by decide +kernel
theorem d_M_at_1 : decode c_M_at 1 = .ok (.iconst 2, 1) := by decide +kernel
theorem d_M_at_2 : decode c_M_at 2 = .ok (.iconst 1, 1) := by decide +kernel
theorem d_M_at_3 : decode c_M_at 3 = .ok (.iload_n 1, 1) := by decide +kernel
theorem d_M_at_4 : decode c_M_at 4 = .ok (.ifCond .lt 7, 3) := by decide +kernel
theorem d_M_at_7 : decode c_M_at 7 = .ok (.iconst 1, 1) := by decide +kernel
theorem d_M_at_8 : decode c_M_at 8 = .ok (.goto 4, 3) := by decide +kernel
theorem d_M_at_11 : decode c_M_at 11 = .ok (.iconst 0, 1) := by decide +kernel
theorem d_M_at_12 : decode c_M_at 12 = .ok (.iconst 1, 1) := by decide +kernel
theorem d_M_at_13 : decode c_M_at 13 = .ok (.iconst 1, 1) := by decide +kernel
theorem d_M_at_14 : decode c_M_at 14 = .ok (.invokevirtual 63, 3) := by decide +kernel
theorem d_M_at_17 : decode c_M_at 17 = .ok (.ifCond .ne 5, 3) := by decide +kernel
theorem d_M_at_20 : decode c_M_at 20 = .ok (.iconst 0, 1) := by decide +kernel
theorem d_M_at_21 : decode c_M_at 21 = .ok (.ireturn, 1) := by decide +kernel
theorem d_M_at_22 : decode c_M_at 22 = .ok (.iload_n 1, 1) := by decide +kernel
theorem d_M_at_23 : decode c_M_at 23 = .ok (.aload_n 0, 1) := by decide +kernel
theorem d_M_at_24 : decode c_M_at 24 = .ok (.getfield 117, 3) := by decide +kernel
theorem d_M_at_27 : decode c_M_at 27 = .ok (.if_icmp .ge 12, 3) := by decide +kernel
theorem d_M_at_30 : decode c_M_at 30 = .ok (.aload_n 0, 1) := by decide +kernel
theorem d_M_at_31 : decode c_M_at 31 = .ok (.getfield 43, 3) := by decide +kernel
theorem d_M_at_34 : decode c_M_at 34 = .ok (.iload_n 1, 1) := by decide +kernel
theorem d_M_at_35 : decode c_M_at 35 = .ok (.iaload, 1) := by decide +kernel
theorem d_M_at_36 : decode c_M_at 36 = .ok (.goto 4, 3) := by decide +kernel
theorem d_M_at_39 : decode c_M_at 39 = .ok (.iconst (-1), 1) := by decide +kernel
theorem d_M_at_40 : decode c_M_at 40 = .ok (.ireturn, 1) := by decide +kernel
theorem d_M_tick_0 : decode c_M_tick 0 = .ok (.aload_n 0, 1) := by decide +kernel
theorem d_M_tick_1 : decode c_M_tick 1 = .ok (.iconst 2, 1) := by decide +kernel
theorem d_M_tick_2 : decode c_M_tick 2 = .ok (.iconst 1, 1) := by decide +kernel
theorem d_M_tick_3 : decode c_M_tick 3 = .ok (.iload_n 1, 1) := by decide +kernel
theorem d_M_tick_4 : decode c_M_tick 4 = .ok (.iconst 1, 1) := by decide +kernel
theorem d_M_tick_5 : decode c_M_tick 5 = .ok (.sipush 5000, 3) := by decide +kernel
theorem d_M_tick_8 : decode c_M_tick 8 = .ok (.invokestatic 53, 3) := by decide +kernel
theorem d_M_tick_11 : decode c_M_tick 11 = .ok (.ifCond .eq 18, 3) := by decide +kernel
theorem d_M_tick_14 : decode c_M_tick 14 = .ok (.iload_n 1, 1) := by decide +kernel
theorem d_M_tick_15 : decode c_M_tick 15 = .ok (.ldc 113, 2) := by decide +kernel
theorem d_M_tick_17 : decode c_M_tick 17 = .ok (.aload_n 0, 1) := by decide +kernel
theorem d_M_tick_18 : decode c_M_tick 18 = .ok (.getfield 57, 3) := by decide +kernel
theorem d_M_tick_21 : decode c_M_tick 21 = .ok (.isub, 1) := by decide +kernel
theorem d_M_tick_22 : decode c_M_tick 22 = .ok (.if_icmp .gt 7, 3) := by decide +kernel
theorem d_M_tick_25 : decode c_M_tick 25 = .ok (.iconst 1, 1) := by decide +kernel
theorem d_M_tick_26 : decode c_M_tick 26 = .ok (.goto 4, 3) := by decide +kernel
theorem d_M_tick_29 : decode c_M_tick 29 = .ok (.iconst 0, 1) := by decide +kernel
theorem d_M_tick_30 : decode c_M_tick 30 = .ok (.iconst 1, 1) := by decide +kernel
theorem d_M_tick_31 : decode c_M_tick 31 = .ok (.iconst 1, 1) := by decide +kernel
theorem d_M_tick_32 : decode c_M_tick 32 = .ok (.invokevirtual 63, 3) := by decide +kernel
theorem d_M_tick_35 : decode c_M_tick 35 = .ok (.ifCond .ne 5, 3) := by decide +kernel
theorem d_M_tick_38 : decode c_M_tick 38 = .ok (.iconst 0, 1) := by decide +kernel
theorem d_M_tick_39 : decode c_M_tick 39 = .ok (.ireturn, 1) := by decide +kernel
theorem d_M_tick_40 : decode c_M_tick 40 = .ok (.aload_n 0, 1) := by decide +kernel
theorem d_M_tick_41 : decode c_M_tick 41 = .ok (.aload_n 0, 1) := by decide +kernel
theorem d_M_tick_42 : decode c_M_tick 42 = .ok (.getfield 57, 3) := by decide +kernel
theorem d_M_tick_45 : decode c_M_tick 45 = .ok (.iload_n 1, 1) := by decide +kernel
theorem d_M_tick_46 : decode c_M_tick 46 = .ok (.iadd, 1) := by decide +kernel
theorem d_M_tick_47 : decode c_M_tick 47 = .ok (.putfield 57, 3) := by decide +kernel
theorem d_M_tick_50 : decode c_M_tick 50 = .ok (.aload_n 0, 1) := by decide +kernel
theorem d_M_tick_51 : decode c_M_tick 51 = .ok (.getfield 57, 3) := by decide +kernel
theorem d_M_tick_54 : decode c_M_tick 54 = .ok (.ireturn, 1) := by decide +kernel
theorem d_M_count_0 : decode c_M_count 0 = .ok (.aload_n 0, 1) := by decide +kernel
theorem d_M_count_1 : decode c_M_count 1 = .ok (.iconst 1, 1) := by decide +kernel
theorem d_M_count_2 : decode c_M_count 2 = .ok (.iload_n 1, 1) := by decide +kernel
theorem d_M_count_3 : decode c_M_count 3 = .ok (.iconst 0, 1) := by decide +kernel
theorem d_M_count_4 : decode c_M_count 4 = .ok (.iconst 4, 1) := by decide +kernel
theorem d_M_count_5 : decode c_M_count 5 = .ok (.invokestatic 53, 3) := by decide +kernel
theorem d_M_count_8 : decode c_M_count 8 = .ok (.iconst 1, 1) := by decide +kernel
theorem d_M_count_9 : decode c_M_count 9 = .ok (.iconst 1, 1) := by decide +kernel
theorem d_M_count_10 : decode c_M_count 10 = .ok (.iconst 1, 1) := by decide +kernel
theorem d_M_count_11 : decode c_M_count 11 = .ok (.invokevirtual 63, 3) := by decide +kernel
theorem d_M_count_14 : decode c_M_count 14 = .ok (.ifCond .ne 5, 3) := by decide +kernel
theorem d_M_count_17 : decode c_M_count 17 = .ok (.iconst 0, 1) := by decide +kernel
theorem d_M_count_18 : decode c_M_count 18 = .ok (.ireturn, 1) := by decide +kernel
theorem d_M_count_19 : decode c_M_count 19 = .ok (.iconst 0, 1) := by decide +kernel
theorem d_M_count_20 : decode c_M_count 20 = .ok (.istore_n 2, 1) := by decide +kernel
theorem d_M_count_21 : decode c_M_count 21 = .ok (.iconst 0, 1) := by decide +kernel
theorem d_M_count_22 : decode c_M_count 22 = .ok (.istore_n 3, 1) := by decide +kernel
theorem d_M_count_23 : decode c_M_count 23 = .ok (.iconst 0, 1) := by decide +kernel
theorem d_M_count_24 : decode c_M_count 24 = .ok (.istore 4, 2) := by decide +kernel
theorem d_M_count_26 : decode c_M_count 26 = .ok (.iload 4, 2) := by decide +kernel
theorem d_M_count_28 : decode c_M_count 28 = .ok (.aload_n 0, 1) := by decide +kernel
theorem d_M_count_29 : decode c_M_count 29 = .ok (.getfield 50, 3) := by decide +kernel
theorem d_M_count_32 : decode c_M_count 32 = .ok (.if_icmp .ge 45, 3) := by decide +kernel
theorem d_M_count_35 : decode c_M_count 35 = .ok (.aload_n 0, 1) := by decide +kernel
theorem d_M_count_36 : decode c_M_count 36 = .ok (.iload 4, 2) := by decide +kernel
theorem d_M_count_38 : decode c_M_count 38 = .ok (.aload_n 0, 1) := by decide +kernel
theorem d_M_count_39 : decode c_M_count 39 = .ok (.getfield 57, 3) := by decide +kernel
theorem d_M_count_42 : decode c_M_count 42 = .ok (.invokevirtual 77, 3) := by decide +kernel
theorem d_M_count_45 : decode c_M_count 45 = .ok (.ifCond .eq 6, 3) := by decide +kernel
theorem d_M_count_48 : decode c_M_count 48 = .ok (.iinc 2 1, 3) := by decide +kernel
theorem d_M_count_51 : decode c_M_count 51 = .ok (.aload_n 0, 1) := by decide +kernel
theorem d_M_count_52 : decode c_M_count 52 = .ok (.getfield 25, 3) := by decide +kernel
theorem d_M_count_55 : decode c_M_count 55 = .ok (.iload 4, 2) := by decide +kernel
theorem d_M_count_57 : decode c_M_count 57 = .ok (.iaload, 1) := by decide +kernel
theorem d_M_count_58 : decode c_M_count 58 = .ok (.aload_n 0, 1) := by decide +kernel
theorem d_M_count_59 : decode c_M_count 59 = .ok (.getfield 19, 3) := by decide +kernel
theorem d_M_count_62 : decode c_M_count 62 = .ok (.iload 4, 2) := by decide +kernel
theorem d_M_count_64 : decode c_M_count 64 = .ok (.iaload, 1) := by decide +kernel
theorem d_M_count_65 : decode c_M_count 65 = .ok (.if_icmp .le 6, 3) := by decide +kernel
theorem d_M_count_68 : decode c_M_count 68 = .ok (.iinc 3 1, 3) := by decide +kernel
theorem d_M_count_71 : decode c_M_count 71 = .ok (.iinc 4 1, 3) := by decide +kernel
theorem d_M_count_74 : decode c_M_count 74 = .ok (.goto (-48), 3) := by decide +kernel
theorem d_M_count_77 : decode c_M_count 77 = .ok (.iload_n 1, 1) := by decide +kernel
theorem d_M_count_78 : decode c_M_count 78 = .ok (.ifCond .ne 10, 3) := by decide +kernel
theorem d_M_count_81 : decode c_M_count 81 = .ok (.aload_n 0, 1) := by decide +kernel
theorem d_M_count_82 : decode c_M_count 82 = .ok (.getfield 60, 3) := by decide +kernel
theorem d_M_count_85 : decode c_M_count 85 = .ok (.goto 37, 3) := by decide +kernel
theorem d_M_count_88 : decode c_M_count 88 = .ok (.iload_n 1, 1) := by decide +kernel
theorem d_M_count_89 : decode c_M_count 89 = .ok (.iconst 1, 1) := by decide +kernel
theorem d_M_count_90 : decode c_M_count 90 = .ok (.if_icmp .ne 10, 3) := by decide +kernel
theorem d_M_count_93 : decode c_M_count 93 = .ok (.aload_n 0, 1) := by decide +kernel
theorem d_M_count_94 : decode c_M_count 94 = .ok (.getfield 50, 3) := by decide +kernel
theorem d_M_count_97 : decode c_M_count 97 = .ok (.goto 25, 3) := by decide +kernel
theorem d_M_count_100 : decode c_M_count 100 = .ok (.iload_n 1, 1) := by decide +kernel
theorem d_M_count_101 : decode c_M_count 101 = .ok (.iconst 2, 1) := by decide +kernel
theorem d_M_count_102 : decode c_M_count 102 = .ok (.if_icmp .ne 10, 3) := by decide +kernel
theorem d_M_count_105 : decode c_M_count 105 = .ok (.aload_n 0, 1) := by decide +kernel
theorem d_M_count_106 : decode c_M_count 106 = .ok (.getfield 71, 3) := by decide +kernel
theorem d_M_count_109 : decode c_M_count 109 = .ok (.goto 13, 3) := by decide +kernel
theorem d_M_count_112 : decode c_M_count 112 = .ok (.iload_n 1, 1) := by decide +kernel
theorem d_M_count_113 : decode c_M_count 113 = .ok (.iconst 3, 1) := by decide +kernel
theorem d_M_count_114 : decode c_M_count 114 = .ok (.if_icmp .ne 7, 3) := by decide +kernel
theorem d_M_count_117 : decode c_M_count 117 = .ok (.iload_n 2, 1) := by decide +kernel
theorem d_M_count_118 : decode c_M_count 118 = .ok (.goto 4, 3) := by decide +kernel
theorem d_M_count_121 : decode c_M_count 121 = .ok (.iload_n 3, 1) := by decide +kernel
theorem d_M_count_122 : decode c_M_count 122 = .ok (.ireturn, 1) := by decide +kernel
end
section
/-! decode rows, printed by wip/gen/names.py -/
theorem d_W_writer_0 : decode c_W_writer 0 = .ok (.aload_n 1, 1) := by decide +kernel
theorem d_W_writer_1 : decode c_W_writer 1 = .ok (.iconst 0, 1) := by decide +kernel
theorem d_W_writer_2 : decode c_W_writer 2 = .ok (.aload_n 0, 1) := by decide +kernel
theorem d_W_writer_3 : decode c_W_writer 3 = .ok (.invokevirtual 7, 3) := by decide +kernel
theorem d_W_writer_6 : decode c_W_writer 6 = .ok (.i2l, 1) := by decide +kernel
theorem d_W_writer_7 : decode c_W_writer 7 = .ok (.lastore, 1) := by decide +kernel
theorem d_W_writer_8 : decode c_W_writer 8 = .ok (.goto 6, 3) := by decide +kernel
theorem d_W_writer_11 : decode c_W_writer 11 = .ok (.astore_n 2, 1) := by decide +kernel
theorem d_W_writer_12 : decode c_W_writer 12 = .ok (.iconst 1, 1) := by decide +kernel
theorem d_W_writer_13 : decode c_W_writer 13 = .ok (.ireturn, 1) := by decide +kernel
theorem d_W_writer_14 : decode c_W_writer 14 = .ok (.iconst 0, 1) := by decide +kernel
theorem d_W_writer_15 : decode c_W_writer 15 = .ok (.ireturn, 1) := by decide +kernel
theorem d_W_note_0 : decode c_W_note 0 = .ok (.aload 6, 2) := by decide +kernel
theorem d_W_note_2 : decode c_W_note 2 = .ok (.iconst 0, 1) := by decide +kernel
theorem d_W_note_3 : decode c_W_note 3 = .ok (.aload_n 0, 1) := by decide +kernel
theorem d_W_note_4 : decode c_W_note 4 = .ok (.iload_n 1, 1) := by decide +kernel
theorem d_W_note_5 : decode c_W_note 5 = .ok (.iload_n 2, 1) := by decide +kernel
theorem d_W_note_6 : decode c_W_note 6 = .ok (.iload_n 3, 1) := by decide +kernel
theorem d_W_note_7 : decode c_W_note 7 = .ok (.iload 4, 2) := by decide +kernel
theorem d_W_note_9 : decode c_W_note 9 = .ok (.iload 5, 2) := by decide +kernel
theorem d_W_note_11 : decode c_W_note 11 = .ok (.invokevirtual 15, 3) := by decide +kernel
theorem d_W_note_14 : decode c_W_note 14 = .ok (.i2l, 1) := by decide +kernel
theorem d_W_note_15 : decode c_W_note 15 = .ok (.lastore, 1) := by decide +kernel
theorem d_W_note_16 : decode c_W_note 16 = .ok (.goto 15, 3) := by decide +kernel
theorem d_W_note_19 : decode c_W_note 19 = .ok (.astore 7, 2) := by decide +kernel
theorem d_W_note_21 : decode c_W_note 21 = .ok (.iconst 1, 1) := by decide +kernel
theorem d_W_note_22 : decode c_W_note 22 = .ok (.ireturn, 1) := by decide +kernel
theorem d_W_note_23 : decode c_W_note 23 = .ok (.astore 7, 2) := by decide +kernel
theorem d_W_note_25 : decode c_W_note 25 = .ok (.iconst 2, 1) := by decide +kernel
theorem d_W_note_26 : decode c_W_note 26 = .ok (.ireturn, 1) := by decide +kernel
theorem d_W_note_27 : decode c_W_note 27 = .ok (.astore 7, 2) := by decide +kernel
theorem d_W_note_29 : decode c_W_note 29 = .ok (.iconst 3, 1) := by decide +kernel
theorem d_W_note_30 : decode c_W_note 30 = .ok (.ireturn, 1) := by decide +kernel
theorem d_W_note_31 : decode c_W_note 31 = .ok (.iconst 0, 1) := by decide +kernel
theorem d_W_note_32 : decode c_W_note 32 = .ok (.ireturn, 1) := by decide +kernel
theorem d_W_correct_0 : decode c_W_correct 0 = .ok (.aload_n 3, 1) := by decide +kernel
theorem d_W_correct_1 : decode c_W_correct 1 = .ok (.iconst 0, 1) := by decide +kernel
theorem d_W_correct_2 : decode c_W_correct 2 = .ok (.aload_n 0, 1) := by decide +kernel
theorem d_W_correct_3 : decode c_W_correct 3 = .ok (.iload_n 1, 1) := by decide +kernel
theorem d_W_correct_4 : decode c_W_correct 4 = .ok (.iload_n 2, 1) := by decide +kernel
theorem d_W_correct_5 : decode c_W_correct 5 = .ok (.invokevirtual 23, 3) := by decide +kernel
theorem d_W_correct_8 : decode c_W_correct 8 = .ok (.i2l, 1) := by decide +kernel
theorem d_W_correct_9 : decode c_W_correct 9 = .ok (.lastore, 1) := by decide +kernel
theorem d_W_correct_10 : decode c_W_correct 10 = .ok (.goto 19, 3) := by decide +kernel
theorem d_W_correct_13 : decode c_W_correct 13 = .ok (.astore 4, 2) := by decide +kernel
theorem d_W_correct_15 : decode c_W_correct 15 = .ok (.iconst 1, 1) := by decide +kernel
theorem d_W_correct_16 : decode c_W_correct 16 = .ok (.ireturn, 1) := by decide +kernel
theorem d_W_correct_17 : decode c_W_correct 17 = .ok (.astore 4, 2) := by decide +kernel
theorem d_W_correct_19 : decode c_W_correct 19 = .ok (.iconst 2, 1) := by decide +kernel
theorem d_W_correct_20 : decode c_W_correct 20 = .ok (.ireturn, 1) := by decide +kernel
theorem d_W_correct_21 : decode c_W_correct 21 = .ok (.astore 4, 2) := by decide +kernel
theorem d_W_correct_23 : decode c_W_correct 23 = .ok (.iconst 3, 1) := by decide +kernel
theorem d_W_correct_24 : decode c_W_correct 24 = .ok (.ireturn, 1) := by decide +kernel
theorem d_W_correct_25 : decode c_W_correct 25 = .ok (.astore 4, 2) := by decide +kernel
theorem d_W_correct_27 : decode c_W_correct 27 = .ok (.iconst 4, 1) := by decide +kernel
theorem d_W_correct_28 : decode c_W_correct 28 = .ok (.ireturn, 1) := by decide +kernel
theorem d_W_correct_29 : decode c_W_correct 29 = .ok (.iconst 0, 1) := by decide +kernel
theorem d_W_correct_30 : decode c_W_correct 30 = .ok (.ireturn, 1) := by decide +kernel
theorem d_W_strike_0 : decode c_W_strike 0 = .ok (.aload_n 0, 1) := by decide +kernel
theorem d_W_strike_1 : decode c_W_strike 1 = .ok (.iload_n 1, 1) := by decide +kernel
theorem d_W_strike_2 : decode c_W_strike 2 = .ok (.iload_n 2, 1) := by decide +kernel
theorem d_W_strike_3 : decode c_W_strike 3 = .ok (.invokevirtual 29, 3) := by decide +kernel
theorem d_W_strike_6 : decode c_W_strike 6 = .ok (.goto 12, 3) := by decide +kernel
theorem d_W_strike_9 : decode c_W_strike 9 = .ok (.astore_n 3, 1) := by decide +kernel
theorem d_W_strike_10 : decode c_W_strike 10 = .ok (.iconst 1, 1) := by decide +kernel
theorem d_W_strike_11 : decode c_W_strike 11 = .ok (.ireturn, 1) := by decide +kernel
theorem d_W_strike_12 : decode c_W_strike 12 = .ok (.astore_n 3, 1) := by decide +kernel
theorem d_W_strike_13 : decode c_W_strike 13 = .ok (.iconst 2, 1) := by decide +kernel
theorem d_W_strike_14 : decode c_W_strike 14 = .ok (.ireturn, 1) := by decide +kernel
theorem d_W_strike_15 : decode c_W_strike 15 = .ok (.astore_n 3, 1) := by decide +kernel
theorem d_W_strike_16 : decode c_W_strike 16 = .ok (.iconst 3, 1) := by decide +kernel
theorem d_W_strike_17 : decode c_W_strike 17 = .ok (.ireturn, 1) := by decide +kernel
theorem d_W_strike_18 : decode c_W_strike 18 = .ok (.iconst 0, 1) := by decide +kernel
theorem d_W_strike_19 : decode c_W_strike 19 = .ok (.ireturn, 1) := by decide +kernel
theorem d_W_ask_0 : decode c_W_ask 0 = .ok (.aload 6, 2) := by decide +kernel
theorem d_W_ask_2 : decode c_W_ask 2 = .ok (.iconst 0, 1) := by decide +kernel
theorem d_W_ask_3 : decode c_W_ask 3 = .ok (.aload_n 0, 1) := by decide +kernel
theorem d_W_ask_4 : decode c_W_ask 4 = .ok (.iload_n 1, 1) := by decide +kernel
theorem d_W_ask_5 : decode c_W_ask 5 = .ok (.iload_n 2, 1) := by decide +kernel
theorem d_W_ask_6 : decode c_W_ask 6 = .ok (.iload_n 3, 1) := by decide +kernel
theorem d_W_ask_7 : decode c_W_ask 7 = .ok (.iload 4, 2) := by decide +kernel
theorem d_W_ask_9 : decode c_W_ask 9 = .ok (.iload 5, 2) := by decide +kernel
theorem d_W_ask_11 : decode c_W_ask 11 = .ok (.invokevirtual 33, 3) := by decide +kernel
theorem d_W_ask_14 : decode c_W_ask 14 = .ok (.i2l, 1) := by decide +kernel
theorem d_W_ask_15 : decode c_W_ask 15 = .ok (.lastore, 1) := by decide +kernel
theorem d_W_ask_16 : decode c_W_ask 16 = .ok (.goto 11, 3) := by decide +kernel
theorem d_W_ask_19 : decode c_W_ask 19 = .ok (.astore 7, 2) := by decide +kernel
theorem d_W_ask_21 : decode c_W_ask 21 = .ok (.iconst 1, 1) := by decide +kernel
theorem d_W_ask_22 : decode c_W_ask 22 = .ok (.ireturn, 1) := by decide +kernel
theorem d_W_ask_23 : decode c_W_ask 23 = .ok (.astore 7, 2) := by decide +kernel
theorem d_W_ask_25 : decode c_W_ask 25 = .ok (.iconst 2, 1) := by decide +kernel
theorem d_W_ask_26 : decode c_W_ask 26 = .ok (.ireturn, 1) := by decide +kernel
theorem d_W_ask_27 : decode c_W_ask 27 = .ok (.iconst 0, 1) := by decide +kernel
theorem d_W_ask_28 : decode c_W_ask 28 = .ok (.ireturn, 1) := by decide +kernel
theorem d_W_row_0 : decode c_W_row 0 = .ok (.aload_n 3, 1) := by decide +kernel
theorem d_W_row_1 : decode c_W_row 1 = .ok (.iconst 0, 1) := by decide +kernel
theorem d_W_row_2 : decode c_W_row 2 = .ok (.aload_n 0, 1) := by decide +kernel
theorem d_W_row_3 : decode c_W_row 3 = .ok (.iload_n 1, 1) := by decide +kernel
theorem d_W_row_4 : decode c_W_row 4 = .ok (.iload_n 2, 1) := by decide +kernel
theorem d_W_row_5 : decode c_W_row 5 = .ok (.invokevirtual 36, 3) := by decide +kernel
theorem d_W_row_8 : decode c_W_row 8 = .ok (.i2l, 1) := by decide +kernel
theorem d_W_row_9 : decode c_W_row 9 = .ok (.lastore, 1) := by decide +kernel
theorem d_W_row_10 : decode c_W_row 10 = .ok (.goto 7, 3) := by decide +kernel
theorem d_W_row_13 : decode c_W_row 13 = .ok (.astore 4, 2) := by decide +kernel
theorem d_W_row_15 : decode c_W_row 15 = .ok (.iconst 1, 1) := by decide +kernel
theorem d_W_row_16 : decode c_W_row 16 = .ok (.ireturn, 1) := by decide +kernel
theorem d_W_row_17 : decode c_W_row 17 = .ok (.iconst 0, 1) := by decide +kernel
theorem d_W_row_18 : decode c_W_row 18 = .ok (.ireturn, 1) := by decide +kernel
theorem d_W_reading_0 : decode c_W_reading 0 = .ok (.aload_n 3, 1) := by decide +kernel
theorem d_W_reading_1 : decode c_W_reading 1 = .ok (.iconst 0, 1) := by decide +kernel
theorem d_W_reading_2 : decode c_W_reading 2 = .ok (.aload_n 0, 1) := by decide +kernel
theorem d_W_reading_3 : decode c_W_reading 3 = .ok (.iload_n 1, 1) := by decide +kernel
theorem d_W_reading_4 : decode c_W_reading 4 = .ok (.iload_n 2, 1) := by decide +kernel
theorem d_W_reading_5 : decode c_W_reading 5 = .ok (.invokevirtual 39, 3) := by decide +kernel
theorem d_W_reading_8 : decode c_W_reading 8 = .ok (.i2l, 1) := by decide +kernel
theorem d_W_reading_9 : decode c_W_reading 9 = .ok (.lastore, 1) := by decide +kernel
theorem d_W_reading_10 : decode c_W_reading 10 = .ok (.goto 15, 3) := by decide +kernel
theorem d_W_reading_13 : decode c_W_reading 13 = .ok (.astore 4, 2) := by decide +kernel
theorem d_W_reading_15 : decode c_W_reading 15 = .ok (.iconst 1, 1) := by decide +kernel
theorem d_W_reading_16 : decode c_W_reading 16 = .ok (.ireturn, 1) := by decide +kernel
theorem d_W_reading_17 : decode c_W_reading 17 = .ok (.astore 4, 2) := by decide +kernel
theorem d_W_reading_19 : decode c_W_reading 19 = .ok (.iconst 2, 1) := by decide +kernel
theorem d_W_reading_20 : decode c_W_reading 20 = .ok (.ireturn, 1) := by decide +kernel
theorem d_W_reading_21 : decode c_W_reading 21 = .ok (.astore 4, 2) := by decide +kernel
theorem d_W_reading_23 : decode c_W_reading 23 = .ok (.iconst 3, 1) := by decide +kernel
theorem d_W_reading_24 : decode c_W_reading 24 = .ok (.ireturn, 1) := by decide +kernel
theorem d_W_reading_25 : decode c_W_reading 25 = .ok (.iconst 0, 1) := by decide +kernel
theorem d_W_reading_26 : decode c_W_reading 26 = .ok (.ireturn, 1) := by decide +kernel
theorem d_W_gap_0 : decode c_W_gap 0 = .ok (.aload_n 3, 1) := by decide +kernel
theorem d_W_gap_1 : decode c_W_gap 1 = .ok (.iconst 0, 1) := by decide +kernel
theorem d_W_gap_2 : decode c_W_gap 2 = .ok (.aload_n 0, 1) := by decide +kernel
theorem d_W_gap_3 : decode c_W_gap 3 = .ok (.iload_n 1, 1) := by decide +kernel
theorem d_W_gap_4 : decode c_W_gap 4 = .ok (.iload_n 2, 1) := by decide +kernel
theorem d_W_gap_5 : decode c_W_gap 5 = .ok (.invokevirtual 42, 3) := by decide +kernel
theorem d_W_gap_8 : decode c_W_gap 8 = .ok (.i2l, 1) := by decide +kernel
theorem d_W_gap_9 : decode c_W_gap 9 = .ok (.lastore, 1) := by decide +kernel
theorem d_W_gap_10 : decode c_W_gap 10 = .ok (.goto 7, 3) := by decide +kernel
theorem d_W_gap_13 : decode c_W_gap 13 = .ok (.astore 4, 2) := by decide +kernel
theorem d_W_gap_15 : decode c_W_gap 15 = .ok (.iconst 1, 1) := by decide +kernel
theorem d_W_gap_16 : decode c_W_gap 16 = .ok (.ireturn, 1) := by decide +kernel
theorem d_W_gap_17 : decode c_W_gap 17 = .ok (.iconst 0, 1) := by decide +kernel
theorem d_W_gap_18 : decode c_W_gap 18 = .ok (.ireturn, 1) := by decide +kernel
theorem d_W_digest_0 : decode c_W_digest 0 = .ok (.aload_n 2, 1) := by decide +kernel
theorem d_W_digest_1 : decode c_W_digest 1 = .ok (.iconst 0, 1) := by decide +kernel
theorem d_W_digest_2 : decode c_W_digest 2 = .ok (.aload_n 0, 1) := by decide +kernel
theorem d_W_digest_3 : decode c_W_digest 3 = .ok (.iload_n 1, 1) := by decide +kernel
theorem d_W_digest_4 : decode c_W_digest 4 = .ok (.invokevirtual 45, 3) := by decide +kernel
theorem d_W_digest_7 : decode c_W_digest 7 = .ok (.i2l, 1) := by decide +kernel
theorem d_W_digest_8 : decode c_W_digest 8 = .ok (.lastore, 1) := by decide +kernel
theorem d_W_digest_9 : decode c_W_digest 9 = .ok (.goto 6, 3) := by decide +kernel
theorem d_W_digest_12 : decode c_W_digest 12 = .ok (.astore_n 3, 1) := by decide +kernel
theorem d_W_digest_13 : decode c_W_digest 13 = .ok (.iconst 1, 1) := by decide +kernel
theorem d_W_digest_14 : decode c_W_digest 14 = .ok (.ireturn, 1) := by decide +kernel
theorem d_W_digest_15 : decode c_W_digest 15 = .ok (.iconst 0, 1) := by decide +kernel
theorem d_W_digest_16 : decode c_W_digest 16 = .ok (.ireturn, 1) := by decide +kernel
theorem d_W_noteAt_0 : decode c_W_noteAt 0 = .ok (.aload_n 3, 1) := by decide +kernel
theorem d_W_noteAt_1 : decode c_W_noteAt 1 = .ok (.iconst 0, 1) := by decide +kernel
theorem d_W_noteAt_2 : decode c_W_noteAt 2 = .ok (.aload_n 0, 1) := by decide +kernel
theorem d_W_noteAt_3 : decode c_W_noteAt 3 = .ok (.iload_n 1, 1) := by decide +kernel
theorem d_W_noteAt_4 : decode c_W_noteAt 4 = .ok (.iload_n 2, 1) := by decide +kernel
theorem d_W_noteAt_5 : decode c_W_noteAt 5 = .ok (.invokevirtual 49, 3) := by decide +kernel
theorem d_W_noteAt_8 : decode c_W_noteAt 8 = .ok (.i2l, 1) := by decide +kernel
theorem d_W_noteAt_9 : decode c_W_noteAt 9 = .ok (.lastore, 1) := by decide +kernel
theorem d_W_noteAt_10 : decode c_W_noteAt 10 = .ok (.goto 7, 3) := by decide +kernel
theorem d_W_noteAt_13 : decode c_W_noteAt 13 = .ok (.astore 4, 2) := by decide +kernel
theorem d_W_noteAt_15 : decode c_W_noteAt 15 = .ok (.iconst 1, 1) := by decide +kernel
theorem d_W_noteAt_16 : decode c_W_noteAt 16 = .ok (.ireturn, 1) := by decide +kernel
theorem d_W_noteAt_17 : decode c_W_noteAt 17 = .ok (.iconst 0, 1) := by decide +kernel
theorem d_W_noteAt_18 : decode c_W_noteAt 18 = .ok (.ireturn, 1) := by decide +kernel
theorem d_W_print_0 : decode c_W_print 0 = .ok (.aload_n 1, 1) := by decide +kernel
theorem d_W_print_1 : decode c_W_print 1 = .ok (.iconst 0, 1) := by decide +kernel
theorem d_W_print_2 : decode c_W_print 2 = .ok (.aload_n 0, 1) := by decide +kernel
theorem d_W_print_3 : decode c_W_print 3 = .ok (.invokevirtual 52, 3) := by decide +kernel
theorem d_W_print_6 : decode c_W_print 6 = .ok (.i2l, 1) := by decide +kernel
theorem d_W_print_7 : decode c_W_print 7 = .ok (.lastore, 1) := by decide +kernel
theorem d_W_print_8 : decode c_W_print 8 = .ok (.goto 6, 3) := by decide +kernel
theorem d_W_print_11 : decode c_W_print 11 = .ok (.astore_n 2, 1) := by decide +kernel
theorem d_W_print_12 : decode c_W_print 12 = .ok (.iconst 1, 1) := by decide +kernel
theorem d_W_print_13 : decode c_W_print 13 = .ok (.ireturn, 1) := by decide +kernel
theorem d_W_print_14 : decode c_W_print 14 = .ok (.iconst 0, 1) := by decide +kernel
theorem d_W_print_15 : decode c_W_print 15 = .ok (.ireturn, 1) := by decide +kernel
theorem d_W_at_0 : decode c_W_at 0 = .ok (.aload_n 2, 1) := by decide +kernel
theorem d_W_at_1 : decode c_W_at 1 = .ok (.iconst 0, 1) := by decide +kernel
theorem d_W_at_2 : decode c_W_at 2 = .ok (.aload_n 0, 1) := by decide +kernel
theorem d_W_at_3 : decode c_W_at 3 = .ok (.iload_n 1, 1) := by decide +kernel
theorem d_W_at_4 : decode c_W_at 4 = .ok (.invokevirtual 55, 3) := by decide +kernel
theorem d_W_at_7 : decode c_W_at 7 = .ok (.i2l, 1) := by decide +kernel
theorem d_W_at_8 : decode c_W_at 8 = .ok (.lastore, 1) := by decide +kernel
theorem d_W_at_9 : decode c_W_at 9 = .ok (.goto 6, 3) := by decide +kernel
theorem d_W_at_12 : decode c_W_at 12 = .ok (.astore_n 3, 1) := by decide +kernel
theorem d_W_at_13 : decode c_W_at 13 = .ok (.iconst 1, 1) := by decide +kernel
theorem d_W_at_14 : decode c_W_at 14 = .ok (.ireturn, 1) := by decide +kernel
theorem d_W_at_15 : decode c_W_at 15 = .ok (.iconst 0, 1) := by decide +kernel
theorem d_W_at_16 : decode c_W_at 16 = .ok (.ireturn, 1) := by decide +kernel
theorem d_W_tick_0 : decode c_W_tick 0 = .ok (.aload_n 2, 1) := by decide +kernel
theorem d_W_tick_1 : decode c_W_tick 1 = .ok (.iconst 0, 1) := by decide +kernel
theorem d_W_tick_2 : decode c_W_tick 2 = .ok (.aload_n 0, 1) := by decide +kernel
theorem d_W_tick_3 : decode c_W_tick 3 = .ok (.iload_n 1, 1) := by decide +kernel
theorem d_W_tick_4 : decode c_W_tick 4 = .ok (.invokevirtual 58, 3) := by decide +kernel
theorem d_W_tick_7 : decode c_W_tick 7 = .ok (.i2l, 1) := by decide +kernel
theorem d_W_tick_8 : decode c_W_tick 8 = .ok (.lastore, 1) := by decide +kernel
theorem d_W_tick_9 : decode c_W_tick 9 = .ok (.goto 6, 3) := by decide +kernel
theorem d_W_tick_12 : decode c_W_tick 12 = .ok (.astore_n 3, 1) := by decide +kernel
theorem d_W_tick_13 : decode c_W_tick 13 = .ok (.iconst 1, 1) := by decide +kernel
theorem d_W_tick_14 : decode c_W_tick 14 = .ok (.ireturn, 1) := by decide +kernel
theorem d_W_tick_15 : decode c_W_tick 15 = .ok (.iconst 0, 1) := by decide +kernel
theorem d_W_tick_16 : decode c_W_tick 16 = .ok (.ireturn, 1) := by decide +kernel
theorem d_W_count_0 : decode c_W_count 0 = .ok (.aload_n 2, 1) := by decide +kernel
theorem d_W_count_1 : decode c_W_count 1 = .ok (.iconst 0, 1) := by decide +kernel
theorem d_W_count_2 : decode c_W_count 2 = .ok (.aload_n 0, 1) := by decide +kernel
theorem d_W_count_3 : decode c_W_count 3 = .ok (.iload_n 1, 1) := by decide +kernel
theorem d_W_count_4 : decode c_W_count 4 = .ok (.invokevirtual 61, 3) := by decide +kernel
theorem d_W_count_7 : decode c_W_count 7 = .ok (.i2l, 1) := by decide +kernel
theorem d_W_count_8 : decode c_W_count 8 = .ok (.lastore, 1) := by decide +kernel
theorem d_W_count_9 : decode c_W_count 9 = .ok (.goto 6, 3) := by decide +kernel
theorem d_W_count_12 : decode c_W_count 12 = .ok (.astore_n 3, 1) := by decide +kernel
theorem d_W_count_13 : decode c_W_count 13 = .ok (.iconst 1, 1) := by decide +kernel
theorem d_W_count_14 : decode c_W_count 14 = .ok (.ireturn, 1) := by decide +kernel
theorem d_W_count_15 : decode c_W_count 15 = .ok (.iconst 0, 1) := by decide +kernel
theorem d_W_count_16 : decode c_W_count 16 = .ok (.ireturn, 1) := by decide +kernel
theorem d_W_law_0 : decode c_W_law 0 = .ok (.new 8, 3) := by decide +kernel
theorem d_W_law_3 : decode c_W_law 3 = .ok (.dup, 1) := by decide +kernel
theorem d_W_law_4 : decode c_W_law 4 = .ok (.invokespecial 64, 3) := by decide +kernel
theorem d_W_law_7 : decode c_W_law 7 = .ok (.astore_n 1, 1) := by decide +kernel
theorem d_W_law_8 : decode c_W_law 8 = .ok (.new 65, 3) := by decide +kernel
theorem d_W_law_11 : decode c_W_law 11 = .ok (.dup, 1) := by decide +kernel
theorem d_W_law_12 : decode c_W_law 12 = .ok (.invokespecial 67, 3) := by decide +kernel
theorem d_W_law_15 : decode c_W_law 15 = .ok (.astore_n 2, 1) := by decide +kernel
theorem d_W_law_16 : decode c_W_law 16 = .ok (.iconst 1, 1) := by decide +kernel
theorem d_W_law_17 : decode c_W_law 17 = .ok (.newarray .long, 2) := by decide +kernel
theorem d_W_law_19 : decode c_W_law 19 = .ok (.astore_n 3, 1) := by decide +kernel
theorem d_W_law_20 : decode c_W_law 20 = .ok (.iconst 0, 1) := by decide +kernel
theorem d_W_law_21 : decode c_W_law 21 = .ok (.istore 4, 2) := by decide +kernel
theorem d_W_law_23 : decode c_W_law 23 = .ok (.iload 4, 2) := by decide +kernel
theorem d_W_law_25 : decode c_W_law 25 = .ok (.aload_n 0, 1) := by decide +kernel
theorem d_W_law_26 : decode c_W_law 26 = .ok (.arraylength, 1) := by decide +kernel
theorem d_W_law_27 : decode c_W_law 27 = .ok (.bipush 6, 2) := by decide +kernel
theorem d_W_law_29 : decode c_W_law 29 = .ok (.isub, 1) := by decide +kernel
theorem d_W_law_30 : decode c_W_law 30 = .ok (.if_icmp .gt 1012, 3) := by decide +kernel
theorem d_W_law_33 : decode c_W_law 33 = .ok (.aload_n 0, 1) := by decide +kernel
theorem d_W_law_34 : decode c_W_law 34 = .ok (.iload 4, 2) := by decide +kernel
theorem d_W_law_36 : decode c_W_law 36 = .ok (.iaload, 1) := by decide +kernel
theorem d_W_law_37 : decode c_W_law 37 = .ok (.bipush 15, 2) := by decide +kernel
theorem d_W_law_39 : decode c_W_law 39 = .ok (.iand, 1) := by decide +kernel
theorem d_W_law_40 : decode c_W_law 40 = .ok (.tableswitch 996 0 13 #[72, 116, 220, 288, 352, 456, 524, 592, 660, 716, 784, 828, 884, 940], 72) := by decide +kernel
theorem d_W_law_112 : decode c_W_law 112 = .ok (.aload_n 1, 1) := by decide +kernel
theorem d_W_law_113 : decode c_W_law 113 = .ok (.aload_n 3, 1) := by decide +kernel
theorem d_W_law_114 : decode c_W_law 114 = .ok (.invokestatic 68, 3) := by decide +kernel
theorem d_W_law_117 : decode c_W_law 117 = .ok (.istore 5, 2) := by decide +kernel
theorem d_W_law_119 : decode c_W_law 119 = .ok (.aload_n 2, 1) := by decide +kernel
theorem d_W_law_120 : decode c_W_law 120 = .ok (.invokevirtual 73, 3) := by decide +kernel
theorem d_W_law_123 : decode c_W_law 123 = .ok (.istore 6, 2) := by decide +kernel
theorem d_W_law_125 : decode c_W_law 125 = .ok (.aload_n 2, 1) := by decide +kernel
theorem d_W_law_126 : decode c_W_law 126 = .ok (.invokevirtual 74, 3) := by decide +kernel
theorem d_W_law_129 : decode c_W_law 129 = .ok (.iload 5, 2) := by decide +kernel
theorem d_W_law_131 : decode c_W_law 131 = .ok (.if_icmp .eq 5, 3) := by decide +kernel
theorem d_W_law_134 : decode c_W_law 134 = .ok (.iconst 0, 1) := by decide +kernel
theorem d_W_law_135 : decode c_W_law 135 = .ok (.ireturn, 1) := by decide +kernel
theorem d_W_law_136 : decode c_W_law 136 = .ok (.iload 5, 2) := by decide +kernel
theorem d_W_law_138 : decode c_W_law 138 = .ok (.ifCond .ne 15, 3) := by decide +kernel
theorem d_W_law_141 : decode c_W_law 141 = .ok (.aload_n 3, 1) := by decide +kernel
theorem d_W_law_142 : decode c_W_law 142 = .ok (.iconst 0, 1) := by decide +kernel
theorem d_W_law_143 : decode c_W_law 143 = .ok (.laload, 1) := by decide +kernel
theorem d_W_law_144 : decode c_W_law 144 = .ok (.iload 6, 2) := by decide +kernel
theorem d_W_law_146 : decode c_W_law 146 = .ok (.i2l, 1) := by decide +kernel
theorem d_W_law_147 : decode c_W_law 147 = .ok (.lcmp, 1) := by decide +kernel
theorem d_W_law_148 : decode c_W_law 148 = .ok (.ifCond .eq 5, 3) := by decide +kernel
theorem d_W_law_151 : decode c_W_law 151 = .ok (.iconst 0, 1) := by decide +kernel
theorem d_W_law_152 : decode c_W_law 152 = .ok (.ireturn, 1) := by decide +kernel
theorem d_W_law_153 : decode c_W_law 153 = .ok (.goto 883, 3) := by decide +kernel
theorem d_W_law_156 : decode c_W_law 156 = .ok (.aload_n 1, 1) := by decide +kernel
theorem d_W_law_157 : decode c_W_law 157 = .ok (.aload_n 0, 1) := by decide +kernel
theorem d_W_law_158 : decode c_W_law 158 = .ok (.iload 4, 2) := by decide +kernel
theorem d_W_law_160 : decode c_W_law 160 = .ok (.iconst 1, 1) := by decide +kernel
theorem d_W_law_161 : decode c_W_law 161 = .ok (.iadd, 1) := by decide +kernel
theorem d_W_law_162 : decode c_W_law 162 = .ok (.iaload, 1) := by decide +kernel
theorem d_W_law_163 : decode c_W_law 163 = .ok (.aload_n 0, 1) := by decide +kernel
theorem d_W_law_164 : decode c_W_law 164 = .ok (.iload 4, 2) := by decide +kernel
theorem d_W_law_166 : decode c_W_law 166 = .ok (.iconst 2, 1) := by decide +kernel
theorem d_W_law_167 : decode c_W_law 167 = .ok (.iadd, 1) := by decide +kernel
theorem d_W_law_168 : decode c_W_law 168 = .ok (.iaload, 1) := by decide +kernel
theorem d_W_law_169 : decode c_W_law 169 = .ok (.aload_n 0, 1) := by decide +kernel
theorem d_W_law_170 : decode c_W_law 170 = .ok (.iload 4, 2) := by decide +kernel
theorem d_W_law_172 : decode c_W_law 172 = .ok (.iconst 3, 1) := by decide +kernel
theorem d_W_law_173 : decode c_W_law 173 = .ok (.iadd, 1) := by decide +kernel
theorem d_W_law_174 : decode c_W_law 174 = .ok (.iaload, 1) := by decide +kernel
theorem d_W_law_175 : decode c_W_law 175 = .ok (.aload_n 0, 1) := by decide +kernel
theorem d_W_law_176 : decode c_W_law 176 = .ok (.iload 4, 2) := by decide +kernel
theorem d_W_law_178 : decode c_W_law 178 = .ok (.iconst 4, 1) := by decide +kernel
theorem d_W_law_179 : decode c_W_law 179 = .ok (.iadd, 1) := by decide +kernel
theorem d_W_law_180 : decode c_W_law 180 = .ok (.iaload, 1) := by decide +kernel
theorem d_W_law_181 : decode c_W_law 181 = .ok (.aload_n 0, 1) := by decide +kernel
theorem d_W_law_182 : decode c_W_law 182 = .ok (.iload 4, 2) := by decide +kernel
theorem d_W_law_184 : decode c_W_law 184 = .ok (.iconst 5, 1) := by decide +kernel
theorem d_W_law_185 : decode c_W_law 185 = .ok (.iadd, 1) := by decide +kernel
theorem d_W_law_186 : decode c_W_law 186 = .ok (.iaload, 1) := by decide +kernel
theorem d_W_law_187 : decode c_W_law 187 = .ok (.aload_n 3, 1) := by decide +kernel
theorem d_W_law_188 : decode c_W_law 188 = .ok (.invokestatic 77, 3) := by decide +kernel
theorem d_W_law_191 : decode c_W_law 191 = .ok (.istore 5, 2) := by decide +kernel
theorem d_W_law_193 : decode c_W_law 193 = .ok (.aload_n 2, 1) := by decide +kernel
theorem d_W_law_194 : decode c_W_law 194 = .ok (.aload_n 0, 1) := by decide +kernel
theorem d_W_law_195 : decode c_W_law 195 = .ok (.iload 4, 2) := by decide +kernel
theorem d_W_law_197 : decode c_W_law 197 = .ok (.iconst 1, 1) := by decide +kernel
theorem d_W_law_198 : decode c_W_law 198 = .ok (.iadd, 1) := by decide +kernel
theorem d_W_law_199 : decode c_W_law 199 = .ok (.iaload, 1) := by decide +kernel
theorem d_W_law_200 : decode c_W_law 200 = .ok (.aload_n 0, 1) := by decide +kernel
theorem d_W_law_201 : decode c_W_law 201 = .ok (.iload 4, 2) := by decide +kernel
theorem d_W_law_203 : decode c_W_law 203 = .ok (.iconst 2, 1) := by decide +kernel
theorem d_W_law_204 : decode c_W_law 204 = .ok (.iadd, 1) := by decide +kernel
theorem d_W_law_205 : decode c_W_law 205 = .ok (.iaload, 1) := by decide +kernel
theorem d_W_law_206 : decode c_W_law 206 = .ok (.aload_n 0, 1) := by decide +kernel
theorem d_W_law_207 : decode c_W_law 207 = .ok (.iload 4, 2) := by decide +kernel
theorem d_W_law_209 : decode c_W_law 209 = .ok (.iconst 3, 1) := by decide +kernel
theorem d_W_law_210 : decode c_W_law 210 = .ok (.iadd, 1) := by decide +kernel
theorem d_W_law_211 : decode c_W_law 211 = .ok (.iaload, 1) := by decide +kernel
theorem d_W_law_212 : decode c_W_law 212 = .ok (.aload_n 0, 1) := by decide +kernel
theorem d_W_law_213 : decode c_W_law 213 = .ok (.iload 4, 2) := by decide +kernel
theorem d_W_law_215 : decode c_W_law 215 = .ok (.iconst 4, 1) := by decide +kernel
theorem d_W_law_216 : decode c_W_law 216 = .ok (.iadd, 1) := by decide +kernel
theorem d_W_law_217 : decode c_W_law 217 = .ok (.iaload, 1) := by decide +kernel
theorem d_W_law_218 : decode c_W_law 218 = .ok (.aload_n 0, 1) := by decide +kernel
theorem d_W_law_219 : decode c_W_law 219 = .ok (.iload 4, 2) := by decide +kernel
theorem d_W_law_221 : decode c_W_law 221 = .ok (.iconst 5, 1) := by decide +kernel
theorem d_W_law_222 : decode c_W_law 222 = .ok (.iadd, 1) := by decide +kernel
theorem d_W_law_223 : decode c_W_law 223 = .ok (.iaload, 1) := by decide +kernel
theorem d_W_law_224 : decode c_W_law 224 = .ok (.invokevirtual 80, 3) := by decide +kernel
theorem d_W_law_227 : decode c_W_law 227 = .ok (.istore 6, 2) := by decide +kernel
theorem d_W_law_229 : decode c_W_law 229 = .ok (.aload_n 2, 1) := by decide +kernel
theorem d_W_law_230 : decode c_W_law 230 = .ok (.invokevirtual 74, 3) := by decide +kernel
theorem d_W_law_233 : decode c_W_law 233 = .ok (.iload 5, 2) := by decide +kernel
theorem d_W_law_235 : decode c_W_law 235 = .ok (.if_icmp .eq 5, 3) := by decide +kernel
theorem d_W_law_238 : decode c_W_law 238 = .ok (.iconst 0, 1) := by decide +kernel
theorem d_W_law_239 : decode c_W_law 239 = .ok (.ireturn, 1) := by decide +kernel
theorem d_W_law_240 : decode c_W_law 240 = .ok (.iload 5, 2) := by decide +kernel
theorem d_W_law_242 : decode c_W_law 242 = .ok (.ifCond .ne 15, 3) := by decide +kernel
theorem d_W_law_245 : decode c_W_law 245 = .ok (.aload_n 3, 1) := by decide +kernel
theorem d_W_law_246 : decode c_W_law 246 = .ok (.iconst 0, 1) := by decide +kernel
theorem d_W_law_247 : decode c_W_law 247 = .ok (.laload, 1) := by decide +kernel
theorem d_W_law_248 : decode c_W_law 248 = .ok (.iload 6, 2) := by decide +kernel
theorem d_W_law_250 : decode c_W_law 250 = .ok (.i2l, 1) := by decide +kernel
theorem d_W_law_251 : decode c_W_law 251 = .ok (.lcmp, 1) := by decide +kernel
theorem d_W_law_252 : decode c_W_law 252 = .ok (.ifCond .eq 5, 3) := by decide +kernel
theorem d_W_law_255 : decode c_W_law 255 = .ok (.iconst 0, 1) := by decide +kernel
theorem d_W_law_256 : decode c_W_law 256 = .ok (.ireturn, 1) := by decide +kernel
theorem d_W_law_257 : decode c_W_law 257 = .ok (.goto 779, 3) := by decide +kernel
theorem d_W_law_260 : decode c_W_law 260 = .ok (.aload_n 1, 1) := by decide +kernel
theorem d_W_law_261 : decode c_W_law 261 = .ok (.aload_n 0, 1) := by decide +kernel
theorem d_W_law_262 : decode c_W_law 262 = .ok (.iload 4, 2) := by decide +kernel
theorem d_W_law_264 : decode c_W_law 264 = .ok (.iconst 1, 1) := by decide +kernel
theorem d_W_law_265 : decode c_W_law 265 = .ok (.iadd, 1) := by decide +kernel
theorem d_W_law_266 : decode c_W_law 266 = .ok (.iaload, 1) := by decide +kernel
theorem d_W_law_267 : decode c_W_law 267 = .ok (.aload_n 0, 1) := by decide +kernel
theorem d_W_law_268 : decode c_W_law 268 = .ok (.iload 4, 2) := by decide +kernel
theorem d_W_law_270 : decode c_W_law 270 = .ok (.iconst 2, 1) := by decide +kernel
theorem d_W_law_271 : decode c_W_law 271 = .ok (.iadd, 1) := by decide +kernel
theorem d_W_law_272 : decode c_W_law 272 = .ok (.iaload, 1) := by decide +kernel
theorem d_W_law_273 : decode c_W_law 273 = .ok (.aload_n 3, 1) := by decide +kernel
theorem d_W_law_274 : decode c_W_law 274 = .ok (.invokestatic 81, 3) := by decide +kernel
theorem d_W_law_277 : decode c_W_law 277 = .ok (.istore 5, 2) := by decide +kernel
theorem d_W_law_279 : decode c_W_law 279 = .ok (.aload_n 2, 1) := by decide +kernel
theorem d_W_law_280 : decode c_W_law 280 = .ok (.aload_n 0, 1) := by decide +kernel
theorem d_W_law_281 : decode c_W_law 281 = .ok (.iload 4, 2) := by decide +kernel
theorem d_W_law_283 : decode c_W_law 283 = .ok (.iconst 1, 1) := by decide +kernel
theorem d_W_law_284 : decode c_W_law 284 = .ok (.iadd, 1) := by decide +kernel
theorem d_W_law_285 : decode c_W_law 285 = .ok (.iaload, 1) := by decide +kernel
theorem d_W_law_286 : decode c_W_law 286 = .ok (.aload_n 0, 1) := by decide +kernel
theorem d_W_law_287 : decode c_W_law 287 = .ok (.iload 4, 2) := by decide +kernel
theorem d_W_law_289 : decode c_W_law 289 = .ok (.iconst 2, 1) := by decide +kernel
theorem d_W_law_290 : decode c_W_law 290 = .ok (.iadd, 1) := by decide +kernel
theorem d_W_law_291 : decode c_W_law 291 = .ok (.iaload, 1) := by decide +kernel
theorem d_W_law_292 : decode c_W_law 292 = .ok (.invokevirtual 84, 3) := by decide +kernel
theorem d_W_law_295 : decode c_W_law 295 = .ok (.istore 6, 2) := by decide +kernel
theorem d_W_law_297 : decode c_W_law 297 = .ok (.aload_n 2, 1) := by decide +kernel
theorem d_W_law_298 : decode c_W_law 298 = .ok (.invokevirtual 74, 3) := by decide +kernel
theorem d_W_law_301 : decode c_W_law 301 = .ok (.iload 5, 2) := by decide +kernel
theorem d_W_law_303 : decode c_W_law 303 = .ok (.if_icmp .eq 5, 3) := by decide +kernel
theorem d_W_law_306 : decode c_W_law 306 = .ok (.iconst 0, 1) := by decide +kernel
theorem d_W_law_307 : decode c_W_law 307 = .ok (.ireturn, 1) := by decide +kernel
theorem d_W_law_308 : decode c_W_law 308 = .ok (.iload 5, 2) := by decide +kernel
theorem d_W_law_310 : decode c_W_law 310 = .ok (.ifCond .ne 15, 3) := by decide +kernel
theorem d_W_law_313 : decode c_W_law 313 = .ok (.aload_n 3, 1) := by decide +kernel
theorem d_W_law_314 : decode c_W_law 314 = .ok (.iconst 0, 1) := by decide +kernel
theorem d_W_law_315 : decode c_W_law 315 = .ok (.laload, 1) := by decide +kernel
theorem d_W_law_316 : decode c_W_law 316 = .ok (.iload 6, 2) := by decide +kernel
theorem d_W_law_318 : decode c_W_law 318 = .ok (.i2l, 1) := by decide +kernel
theorem d_W_law_319 : decode c_W_law 319 = .ok (.lcmp, 1) := by decide +kernel
theorem d_W_law_320 : decode c_W_law 320 = .ok (.ifCond .eq 5, 3) := by decide +kernel
theorem d_W_law_323 : decode c_W_law 323 = .ok (.iconst 0, 1) := by decide +kernel
theorem d_W_law_324 : decode c_W_law 324 = .ok (.ireturn, 1) := by decide +kernel
theorem d_W_law_325 : decode c_W_law 325 = .ok (.goto 711, 3) := by decide +kernel
theorem d_W_law_328 : decode c_W_law 328 = .ok (.aload_n 1, 1) := by decide +kernel
theorem d_W_law_329 : decode c_W_law 329 = .ok (.aload_n 0, 1) := by decide +kernel
theorem d_W_law_330 : decode c_W_law 330 = .ok (.iload 4, 2) := by decide +kernel
theorem d_W_law_332 : decode c_W_law 332 = .ok (.iconst 1, 1) := by decide +kernel
theorem d_W_law_333 : decode c_W_law 333 = .ok (.iadd, 1) := by decide +kernel
theorem d_W_law_334 : decode c_W_law 334 = .ok (.iaload, 1) := by decide +kernel
theorem d_W_law_335 : decode c_W_law 335 = .ok (.aload_n 0, 1) := by decide +kernel
theorem d_W_law_336 : decode c_W_law 336 = .ok (.iload 4, 2) := by decide +kernel
theorem d_W_law_338 : decode c_W_law 338 = .ok (.iconst 2, 1) := by decide +kernel
theorem d_W_law_339 : decode c_W_law 339 = .ok (.iadd, 1) := by decide +kernel
theorem d_W_law_340 : decode c_W_law 340 = .ok (.iaload, 1) := by decide +kernel
theorem d_W_law_341 : decode c_W_law 341 = .ok (.ifCond .eq 7, 3) := by decide +kernel
theorem d_W_law_344 : decode c_W_law 344 = .ok (.iconst 1, 1) := by decide +kernel
theorem d_W_law_345 : decode c_W_law 345 = .ok (.goto 4, 3) := by decide +kernel
theorem d_W_law_348 : decode c_W_law 348 = .ok (.iconst 0, 1) := by decide +kernel
theorem d_W_law_349 : decode c_W_law 349 = .ok (.invokestatic 85, 3) := by decide +kernel
theorem d_W_law_352 : decode c_W_law 352 = .ok (.istore 5, 2) := by decide +kernel
theorem d_W_law_354 : decode c_W_law 354 = .ok (.aload_n 2, 1) := by decide +kernel
theorem d_W_law_355 : decode c_W_law 355 = .ok (.aload_n 0, 1) := by decide +kernel
theorem d_W_law_356 : decode c_W_law 356 = .ok (.iload 4, 2) := by decide +kernel
theorem d_W_law_358 : decode c_W_law 358 = .ok (.iconst 1, 1) := by decide +kernel
theorem d_W_law_359 : decode c_W_law 359 = .ok (.iadd, 1) := by decide +kernel
theorem d_W_law_360 : decode c_W_law 360 = .ok (.iaload, 1) := by decide +kernel
theorem d_W_law_361 : decode c_W_law 361 = .ok (.aload_n 0, 1) := by decide +kernel
theorem d_W_law_362 : decode c_W_law 362 = .ok (.iload 4, 2) := by decide +kernel
theorem d_W_law_364 : decode c_W_law 364 = .ok (.iconst 2, 1) := by decide +kernel
theorem d_W_law_365 : decode c_W_law 365 = .ok (.iadd, 1) := by decide +kernel
theorem d_W_law_366 : decode c_W_law 366 = .ok (.iaload, 1) := by decide +kernel
theorem d_W_law_367 : decode c_W_law 367 = .ok (.ifCond .eq 7, 3) := by decide +kernel
theorem d_W_law_370 : decode c_W_law 370 = .ok (.iconst 1, 1) := by decide +kernel
theorem d_W_law_371 : decode c_W_law 371 = .ok (.goto 4, 3) := by decide +kernel
theorem d_W_law_374 : decode c_W_law 374 = .ok (.iconst 0, 1) := by decide +kernel
theorem d_W_law_375 : decode c_W_law 375 = .ok (.invokevirtual 88, 3) := by decide +kernel
theorem d_W_law_378 : decode c_W_law 378 = .ok (.aload_n 2, 1) := by decide +kernel
theorem d_W_law_379 : decode c_W_law 379 = .ok (.invokevirtual 74, 3) := by decide +kernel
theorem d_W_law_382 : decode c_W_law 382 = .ok (.iload 5, 2) := by decide +kernel
theorem d_W_law_384 : decode c_W_law 384 = .ok (.if_icmp .eq 5, 3) := by decide +kernel
end
section
/-! decode rows, printed by wip/gen/names.py -/
theorem d_W_law_387 : decode c_W_law 387 = .ok (.iconst 0, 1) := by decide +kernel
theorem d_W_law_388 : decode c_W_law 388 = .ok (.ireturn, 1) := by decide +kernel
theorem d_W_law_389 : decode c_W_law 389 = .ok (.goto 647, 3) := by decide +kernel
theorem d_W_law_392 : decode c_W_law 392 = .ok (.aload_n 1, 1) := by decide +kernel
theorem d_W_law_393 : decode c_W_law 393 = .ok (.aload_n 0, 1) := by decide +kernel
theorem d_W_law_394 : decode c_W_law 394 = .ok (.iload 4, 2) := by decide +kernel
theorem d_W_law_396 : decode c_W_law 396 = .ok (.iconst 1, 1) := by decide +kernel
theorem d_W_law_397 : decode c_W_law 397 = .ok (.iadd, 1) := by decide +kernel
theorem d_W_law_398 : decode c_W_law 398 = .ok (.iaload, 1) := by decide +kernel
theorem d_W_law_399 : decode c_W_law 399 = .ok (.aload_n 0, 1) := by decide +kernel
theorem d_W_law_400 : decode c_W_law 400 = .ok (.iload 4, 2) := by decide +kernel
theorem d_W_law_402 : decode c_W_law 402 = .ok (.iconst 2, 1) := by decide +kernel
theorem d_W_law_403 : decode c_W_law 403 = .ok (.iadd, 1) := by decide +kernel
theorem d_W_law_404 : decode c_W_law 404 = .ok (.iaload, 1) := by decide +kernel
theorem d_W_law_405 : decode c_W_law 405 = .ok (.aload_n 0, 1) := by decide +kernel
theorem d_W_law_406 : decode c_W_law 406 = .ok (.iload 4, 2) := by decide +kernel
theorem d_W_law_408 : decode c_W_law 408 = .ok (.iconst 3, 1) := by decide +kernel
theorem d_W_law_409 : decode c_W_law 409 = .ok (.iadd, 1) := by decide +kernel
theorem d_W_law_410 : decode c_W_law 410 = .ok (.iaload, 1) := by decide +kernel
theorem d_W_law_411 : decode c_W_law 411 = .ok (.aload_n 0, 1) := by decide +kernel
theorem d_W_law_412 : decode c_W_law 412 = .ok (.iload 4, 2) := by decide +kernel
theorem d_W_law_414 : decode c_W_law 414 = .ok (.iconst 4, 1) := by decide +kernel
theorem d_W_law_415 : decode c_W_law 415 = .ok (.iadd, 1) := by decide +kernel
theorem d_W_law_416 : decode c_W_law 416 = .ok (.iaload, 1) := by decide +kernel
theorem d_W_law_417 : decode c_W_law 417 = .ok (.aload_n 0, 1) := by decide +kernel
theorem d_W_law_418 : decode c_W_law 418 = .ok (.iload 4, 2) := by decide +kernel
theorem d_W_law_420 : decode c_W_law 420 = .ok (.iconst 5, 1) := by decide +kernel
theorem d_W_law_421 : decode c_W_law 421 = .ok (.iadd, 1) := by decide +kernel
theorem d_W_law_422 : decode c_W_law 422 = .ok (.iaload, 1) := by decide +kernel
theorem d_W_law_423 : decode c_W_law 423 = .ok (.aload_n 3, 1) := by decide +kernel
theorem d_W_law_424 : decode c_W_law 424 = .ok (.invokestatic 89, 3) := by decide +kernel
theorem d_W_law_427 : decode c_W_law 427 = .ok (.istore 5, 2) := by decide +kernel
theorem d_W_law_429 : decode c_W_law 429 = .ok (.aload_n 2, 1) := by decide +kernel
theorem d_W_law_430 : decode c_W_law 430 = .ok (.aload_n 0, 1) := by decide +kernel
theorem d_W_law_431 : decode c_W_law 431 = .ok (.iload 4, 2) := by decide +kernel
theorem d_W_law_433 : decode c_W_law 433 = .ok (.iconst 1, 1) := by decide +kernel
theorem d_W_law_434 : decode c_W_law 434 = .ok (.iadd, 1) := by decide +kernel
theorem d_W_law_435 : decode c_W_law 435 = .ok (.iaload, 1) := by decide +kernel
theorem d_W_law_436 : decode c_W_law 436 = .ok (.aload_n 0, 1) := by decide +kernel
theorem d_W_law_437 : decode c_W_law 437 = .ok (.iload 4, 2) := by decide +kernel
theorem d_W_law_439 : decode c_W_law 439 = .ok (.iconst 2, 1) := by decide +kernel
theorem d_W_law_440 : decode c_W_law 440 = .ok (.iadd, 1) := by decide +kernel
theorem d_W_law_441 : decode c_W_law 441 = .ok (.iaload, 1) := by decide +kernel
theorem d_W_law_442 : decode c_W_law 442 = .ok (.aload_n 0, 1) := by decide +kernel
theorem d_W_law_443 : decode c_W_law 443 = .ok (.iload 4, 2) := by decide +kernel
theorem d_W_law_445 : decode c_W_law 445 = .ok (.iconst 3, 1) := by decide +kernel
theorem d_W_law_446 : decode c_W_law 446 = .ok (.iadd, 1) := by decide +kernel
theorem d_W_law_447 : decode c_W_law 447 = .ok (.iaload, 1) := by decide +kernel
theorem d_W_law_448 : decode c_W_law 448 = .ok (.aload_n 0, 1) := by decide +kernel
theorem d_W_law_449 : decode c_W_law 449 = .ok (.iload 4, 2) := by decide +kernel
theorem d_W_law_451 : decode c_W_law 451 = .ok (.iconst 4, 1) := by decide +kernel
theorem d_W_law_452 : decode c_W_law 452 = .ok (.iadd, 1) := by decide +kernel
theorem d_W_law_453 : decode c_W_law 453 = .ok (.iaload, 1) := by decide +kernel
theorem d_W_law_454 : decode c_W_law 454 = .ok (.aload_n 0, 1) := by decide +kernel
theorem d_W_law_455 : decode c_W_law 455 = .ok (.iload 4, 2) := by decide +kernel
theorem d_W_law_457 : decode c_W_law 457 = .ok (.iconst 5, 1) := by decide +kernel
theorem d_W_law_458 : decode c_W_law 458 = .ok (.iadd, 1) := by decide +kernel
theorem d_W_law_459 : decode c_W_law 459 = .ok (.iaload, 1) := by decide +kernel
theorem d_W_law_460 : decode c_W_law 460 = .ok (.invokevirtual 91, 3) := by decide +kernel
theorem d_W_law_463 : decode c_W_law 463 = .ok (.istore 6, 2) := by decide +kernel
theorem d_W_law_465 : decode c_W_law 465 = .ok (.aload_n 2, 1) := by decide +kernel
theorem d_W_law_466 : decode c_W_law 466 = .ok (.invokevirtual 74, 3) := by decide +kernel
theorem d_W_law_469 : decode c_W_law 469 = .ok (.iload 5, 2) := by decide +kernel
theorem d_W_law_471 : decode c_W_law 471 = .ok (.if_icmp .eq 5, 3) := by decide +kernel
theorem d_W_law_474 : decode c_W_law 474 = .ok (.iconst 0, 1) := by decide +kernel
theorem d_W_law_475 : decode c_W_law 475 = .ok (.ireturn, 1) := by decide +kernel
theorem d_W_law_476 : decode c_W_law 476 = .ok (.iload 5, 2) := by decide +kernel
theorem d_W_law_478 : decode c_W_law 478 = .ok (.ifCond .ne 15, 3) := by decide +kernel
theorem d_W_law_481 : decode c_W_law 481 = .ok (.aload_n 3, 1) := by decide +kernel
theorem d_W_law_482 : decode c_W_law 482 = .ok (.iconst 0, 1) := by decide +kernel
theorem d_W_law_483 : decode c_W_law 483 = .ok (.laload, 1) := by decide +kernel
theorem d_W_law_484 : decode c_W_law 484 = .ok (.iload 6, 2) := by decide +kernel
theorem d_W_law_486 : decode c_W_law 486 = .ok (.i2l, 1) := by decide +kernel
theorem d_W_law_487 : decode c_W_law 487 = .ok (.lcmp, 1) := by decide +kernel
theorem d_W_law_488 : decode c_W_law 488 = .ok (.ifCond .eq 5, 3) := by decide +kernel
theorem d_W_law_491 : decode c_W_law 491 = .ok (.iconst 0, 1) := by decide +kernel
theorem d_W_law_492 : decode c_W_law 492 = .ok (.ireturn, 1) := by decide +kernel
theorem d_W_law_493 : decode c_W_law 493 = .ok (.goto 543, 3) := by decide +kernel
theorem d_W_law_496 : decode c_W_law 496 = .ok (.aload_n 1, 1) := by decide +kernel
theorem d_W_law_497 : decode c_W_law 497 = .ok (.aload_n 0, 1) := by decide +kernel
theorem d_W_law_498 : decode c_W_law 498 = .ok (.iload 4, 2) := by decide +kernel
theorem d_W_law_500 : decode c_W_law 500 = .ok (.iconst 1, 1) := by decide +kernel
theorem d_W_law_501 : decode c_W_law 501 = .ok (.iadd, 1) := by decide +kernel
theorem d_W_law_502 : decode c_W_law 502 = .ok (.iaload, 1) := by decide +kernel
theorem d_W_law_503 : decode c_W_law 503 = .ok (.aload_n 0, 1) := by decide +kernel
theorem d_W_law_504 : decode c_W_law 504 = .ok (.iload 4, 2) := by decide +kernel
theorem d_W_law_506 : decode c_W_law 506 = .ok (.iconst 2, 1) := by decide +kernel
theorem d_W_law_507 : decode c_W_law 507 = .ok (.iadd, 1) := by decide +kernel
theorem d_W_law_508 : decode c_W_law 508 = .ok (.iaload, 1) := by decide +kernel
theorem d_W_law_509 : decode c_W_law 509 = .ok (.aload_n 3, 1) := by decide +kernel
theorem d_W_law_510 : decode c_W_law 510 = .ok (.invokestatic 92, 3) := by decide +kernel
theorem d_W_law_513 : decode c_W_law 513 = .ok (.istore 5, 2) := by decide +kernel
theorem d_W_law_515 : decode c_W_law 515 = .ok (.aload_n 2, 1) := by decide +kernel
theorem d_W_law_516 : decode c_W_law 516 = .ok (.aload_n 0, 1) := by decide +kernel
theorem d_W_law_517 : decode c_W_law 517 = .ok (.iload 4, 2) := by decide +kernel
theorem d_W_law_519 : decode c_W_law 519 = .ok (.iconst 1, 1) := by decide +kernel
theorem d_W_law_520 : decode c_W_law 520 = .ok (.iadd, 1) := by decide +kernel
theorem d_W_law_521 : decode c_W_law 521 = .ok (.iaload, 1) := by decide +kernel
theorem d_W_law_522 : decode c_W_law 522 = .ok (.aload_n 0, 1) := by decide +kernel
theorem d_W_law_523 : decode c_W_law 523 = .ok (.iload 4, 2) := by decide +kernel
theorem d_W_law_525 : decode c_W_law 525 = .ok (.iconst 2, 1) := by decide +kernel
theorem d_W_law_526 : decode c_W_law 526 = .ok (.iadd, 1) := by decide +kernel
theorem d_W_law_527 : decode c_W_law 527 = .ok (.iaload, 1) := by decide +kernel
theorem d_W_law_528 : decode c_W_law 528 = .ok (.invokevirtual 94, 3) := by decide +kernel
theorem d_W_law_531 : decode c_W_law 531 = .ok (.istore 6, 2) := by decide +kernel
theorem d_W_law_533 : decode c_W_law 533 = .ok (.aload_n 2, 1) := by decide +kernel
theorem d_W_law_534 : decode c_W_law 534 = .ok (.invokevirtual 74, 3) := by decide +kernel
theorem d_W_law_537 : decode c_W_law 537 = .ok (.iload 5, 2) := by decide +kernel
theorem d_W_law_539 : decode c_W_law 539 = .ok (.if_icmp .eq 5, 3) := by decide +kernel
theorem d_W_law_542 : decode c_W_law 542 = .ok (.iconst 0, 1) := by decide +kernel
theorem d_W_law_543 : decode c_W_law 543 = .ok (.ireturn, 1) := by decide +kernel
theorem d_W_law_544 : decode c_W_law 544 = .ok (.iload 5, 2) := by decide +kernel
theorem d_W_law_546 : decode c_W_law 546 = .ok (.ifCond .ne 15, 3) := by decide +kernel
theorem d_W_law_549 : decode c_W_law 549 = .ok (.aload_n 3, 1) := by decide +kernel
theorem d_W_law_550 : decode c_W_law 550 = .ok (.iconst 0, 1) := by decide +kernel
theorem d_W_law_551 : decode c_W_law 551 = .ok (.laload, 1) := by decide +kernel
theorem d_W_law_552 : decode c_W_law 552 = .ok (.iload 6, 2) := by decide +kernel
theorem d_W_law_554 : decode c_W_law 554 = .ok (.i2l, 1) := by decide +kernel
theorem d_W_law_555 : decode c_W_law 555 = .ok (.lcmp, 1) := by decide +kernel
theorem d_W_law_556 : decode c_W_law 556 = .ok (.ifCond .eq 5, 3) := by decide +kernel
theorem d_W_law_559 : decode c_W_law 559 = .ok (.iconst 0, 1) := by decide +kernel
theorem d_W_law_560 : decode c_W_law 560 = .ok (.ireturn, 1) := by decide +kernel
theorem d_W_law_561 : decode c_W_law 561 = .ok (.goto 475, 3) := by decide +kernel
theorem d_W_law_564 : decode c_W_law 564 = .ok (.aload_n 1, 1) := by decide +kernel
theorem d_W_law_565 : decode c_W_law 565 = .ok (.aload_n 0, 1) := by decide +kernel
theorem d_W_law_566 : decode c_W_law 566 = .ok (.iload 4, 2) := by decide +kernel
theorem d_W_law_568 : decode c_W_law 568 = .ok (.iconst 1, 1) := by decide +kernel
theorem d_W_law_569 : decode c_W_law 569 = .ok (.iadd, 1) := by decide +kernel
theorem d_W_law_570 : decode c_W_law 570 = .ok (.iaload, 1) := by decide +kernel
theorem d_W_law_571 : decode c_W_law 571 = .ok (.aload_n 0, 1) := by decide +kernel
theorem d_W_law_572 : decode c_W_law 572 = .ok (.iload 4, 2) := by decide +kernel
theorem d_W_law_574 : decode c_W_law 574 = .ok (.iconst 2, 1) := by decide +kernel
theorem d_W_law_575 : decode c_W_law 575 = .ok (.iadd, 1) := by decide +kernel
theorem d_W_law_576 : decode c_W_law 576 = .ok (.iaload, 1) := by decide +kernel
theorem d_W_law_577 : decode c_W_law 577 = .ok (.aload_n 3, 1) := by decide +kernel
theorem d_W_law_578 : decode c_W_law 578 = .ok (.invokestatic 95, 3) := by decide +kernel
theorem d_W_law_581 : decode c_W_law 581 = .ok (.istore 5, 2) := by decide +kernel
theorem d_W_law_583 : decode c_W_law 583 = .ok (.aload_n 2, 1) := by decide +kernel
theorem d_W_law_584 : decode c_W_law 584 = .ok (.aload_n 0, 1) := by decide +kernel
theorem d_W_law_585 : decode c_W_law 585 = .ok (.iload 4, 2) := by decide +kernel
theorem d_W_law_587 : decode c_W_law 587 = .ok (.iconst 1, 1) := by decide +kernel
theorem d_W_law_588 : decode c_W_law 588 = .ok (.iadd, 1) := by decide +kernel
theorem d_W_law_589 : decode c_W_law 589 = .ok (.iaload, 1) := by decide +kernel
theorem d_W_law_590 : decode c_W_law 590 = .ok (.aload_n 0, 1) := by decide +kernel
theorem d_W_law_591 : decode c_W_law 591 = .ok (.iload 4, 2) := by decide +kernel
theorem d_W_law_593 : decode c_W_law 593 = .ok (.iconst 2, 1) := by decide +kernel
theorem d_W_law_594 : decode c_W_law 594 = .ok (.iadd, 1) := by decide +kernel
theorem d_W_law_595 : decode c_W_law 595 = .ok (.iaload, 1) := by decide +kernel
theorem d_W_law_596 : decode c_W_law 596 = .ok (.invokevirtual 97, 3) := by decide +kernel
theorem d_W_law_599 : decode c_W_law 599 = .ok (.istore 6, 2) := by decide +kernel
theorem d_W_law_601 : decode c_W_law 601 = .ok (.aload_n 2, 1) := by decide +kernel
theorem d_W_law_602 : decode c_W_law 602 = .ok (.invokevirtual 74, 3) := by decide +kernel
theorem d_W_law_605 : decode c_W_law 605 = .ok (.iload 5, 2) := by decide +kernel
theorem d_W_law_607 : decode c_W_law 607 = .ok (.if_icmp .eq 5, 3) := by decide +kernel
theorem d_W_law_610 : decode c_W_law 610 = .ok (.iconst 0, 1) := by decide +kernel
theorem d_W_law_611 : decode c_W_law 611 = .ok (.ireturn, 1) := by decide +kernel
theorem d_W_law_612 : decode c_W_law 612 = .ok (.iload 5, 2) := by decide +kernel
theorem d_W_law_614 : decode c_W_law 614 = .ok (.ifCond .ne 15, 3) := by decide +kernel
theorem d_W_law_617 : decode c_W_law 617 = .ok (.aload_n 3, 1) := by decide +kernel
theorem d_W_law_618 : decode c_W_law 618 = .ok (.iconst 0, 1) := by decide +kernel
theorem d_W_law_619 : decode c_W_law 619 = .ok (.laload, 1) := by decide +kernel
theorem d_W_law_620 : decode c_W_law 620 = .ok (.iload 6, 2) := by decide +kernel
theorem d_W_law_622 : decode c_W_law 622 = .ok (.i2l, 1) := by decide +kernel
theorem d_W_law_623 : decode c_W_law 623 = .ok (.lcmp, 1) := by decide +kernel
theorem d_W_law_624 : decode c_W_law 624 = .ok (.ifCond .eq 5, 3) := by decide +kernel
theorem d_W_law_627 : decode c_W_law 627 = .ok (.iconst 0, 1) := by decide +kernel
theorem d_W_law_628 : decode c_W_law 628 = .ok (.ireturn, 1) := by decide +kernel
theorem d_W_law_629 : decode c_W_law 629 = .ok (.goto 407, 3) := by decide +kernel
theorem d_W_law_632 : decode c_W_law 632 = .ok (.aload_n 1, 1) := by decide +kernel
theorem d_W_law_633 : decode c_W_law 633 = .ok (.aload_n 0, 1) := by decide +kernel
theorem d_W_law_634 : decode c_W_law 634 = .ok (.iload 4, 2) := by decide +kernel
theorem d_W_law_636 : decode c_W_law 636 = .ok (.iconst 1, 1) := by decide +kernel
theorem d_W_law_637 : decode c_W_law 637 = .ok (.iadd, 1) := by decide +kernel
theorem d_W_law_638 : decode c_W_law 638 = .ok (.iaload, 1) := by decide +kernel
theorem d_W_law_639 : decode c_W_law 639 = .ok (.aload_n 0, 1) := by decide +kernel
theorem d_W_law_640 : decode c_W_law 640 = .ok (.iload 4, 2) := by decide +kernel
theorem d_W_law_642 : decode c_W_law 642 = .ok (.iconst 2, 1) := by decide +kernel
theorem d_W_law_643 : decode c_W_law 643 = .ok (.iadd, 1) := by decide +kernel
theorem d_W_law_644 : decode c_W_law 644 = .ok (.iaload, 1) := by decide +kernel
theorem d_W_law_645 : decode c_W_law 645 = .ok (.aload_n 3, 1) := by decide +kernel
theorem d_W_law_646 : decode c_W_law 646 = .ok (.invokestatic 98, 3) := by decide +kernel
theorem d_W_law_649 : decode c_W_law 649 = .ok (.istore 5, 2) := by decide +kernel
theorem d_W_law_651 : decode c_W_law 651 = .ok (.aload_n 2, 1) := by decide +kernel
theorem d_W_law_652 : decode c_W_law 652 = .ok (.aload_n 0, 1) := by decide +kernel
theorem d_W_law_653 : decode c_W_law 653 = .ok (.iload 4, 2) := by decide +kernel
theorem d_W_law_655 : decode c_W_law 655 = .ok (.iconst 1, 1) := by decide +kernel
theorem d_W_law_656 : decode c_W_law 656 = .ok (.iadd, 1) := by decide +kernel
theorem d_W_law_657 : decode c_W_law 657 = .ok (.iaload, 1) := by decide +kernel
theorem d_W_law_658 : decode c_W_law 658 = .ok (.aload_n 0, 1) := by decide +kernel
theorem d_W_law_659 : decode c_W_law 659 = .ok (.iload 4, 2) := by decide +kernel
theorem d_W_law_661 : decode c_W_law 661 = .ok (.iconst 2, 1) := by decide +kernel
theorem d_W_law_662 : decode c_W_law 662 = .ok (.iadd, 1) := by decide +kernel
theorem d_W_law_663 : decode c_W_law 663 = .ok (.iaload, 1) := by decide +kernel
theorem d_W_law_664 : decode c_W_law 664 = .ok (.invokevirtual 100, 3) := by decide +kernel
theorem d_W_law_667 : decode c_W_law 667 = .ok (.istore 6, 2) := by decide +kernel
theorem d_W_law_669 : decode c_W_law 669 = .ok (.aload_n 2, 1) := by decide +kernel
theorem d_W_law_670 : decode c_W_law 670 = .ok (.invokevirtual 74, 3) := by decide +kernel
theorem d_W_law_673 : decode c_W_law 673 = .ok (.iload 5, 2) := by decide +kernel
theorem d_W_law_675 : decode c_W_law 675 = .ok (.if_icmp .eq 5, 3) := by decide +kernel
theorem d_W_law_678 : decode c_W_law 678 = .ok (.iconst 0, 1) := by decide +kernel
theorem d_W_law_679 : decode c_W_law 679 = .ok (.ireturn, 1) := by decide +kernel
theorem d_W_law_680 : decode c_W_law 680 = .ok (.iload 5, 2) := by decide +kernel
theorem d_W_law_682 : decode c_W_law 682 = .ok (.ifCond .ne 15, 3) := by decide +kernel
theorem d_W_law_685 : decode c_W_law 685 = .ok (.aload_n 3, 1) := by decide +kernel
theorem d_W_law_686 : decode c_W_law 686 = .ok (.iconst 0, 1) := by decide +kernel
theorem d_W_law_687 : decode c_W_law 687 = .ok (.laload, 1) := by decide +kernel
theorem d_W_law_688 : decode c_W_law 688 = .ok (.iload 6, 2) := by decide +kernel
theorem d_W_law_690 : decode c_W_law 690 = .ok (.i2l, 1) := by decide +kernel
theorem d_W_law_691 : decode c_W_law 691 = .ok (.lcmp, 1) := by decide +kernel
theorem d_W_law_692 : decode c_W_law 692 = .ok (.ifCond .eq 5, 3) := by decide +kernel
theorem d_W_law_695 : decode c_W_law 695 = .ok (.iconst 0, 1) := by decide +kernel
theorem d_W_law_696 : decode c_W_law 696 = .ok (.ireturn, 1) := by decide +kernel
theorem d_W_law_697 : decode c_W_law 697 = .ok (.goto 339, 3) := by decide +kernel
theorem d_W_law_700 : decode c_W_law 700 = .ok (.aload_n 1, 1) := by decide +kernel
theorem d_W_law_701 : decode c_W_law 701 = .ok (.aload_n 0, 1) := by decide +kernel
theorem d_W_law_702 : decode c_W_law 702 = .ok (.iload 4, 2) := by decide +kernel
theorem d_W_law_704 : decode c_W_law 704 = .ok (.iconst 1, 1) := by decide +kernel
theorem d_W_law_705 : decode c_W_law 705 = .ok (.iadd, 1) := by decide +kernel
theorem d_W_law_706 : decode c_W_law 706 = .ok (.iaload, 1) := by decide +kernel
theorem d_W_law_707 : decode c_W_law 707 = .ok (.aload_n 3, 1) := by decide +kernel
theorem d_W_law_708 : decode c_W_law 708 = .ok (.invokestatic 101, 3) := by decide +kernel
theorem d_W_law_711 : decode c_W_law 711 = .ok (.istore 5, 2) := by decide +kernel
theorem d_W_law_713 : decode c_W_law 713 = .ok (.aload_n 2, 1) := by decide +kernel
theorem d_W_law_714 : decode c_W_law 714 = .ok (.aload_n 0, 1) := by decide +kernel
theorem d_W_law_715 : decode c_W_law 715 = .ok (.iload 4, 2) := by decide +kernel
theorem d_W_law_717 : decode c_W_law 717 = .ok (.iconst 1, 1) := by decide +kernel
theorem d_W_law_718 : decode c_W_law 718 = .ok (.iadd, 1) := by decide +kernel
theorem d_W_law_719 : decode c_W_law 719 = .ok (.iaload, 1) := by decide +kernel
theorem d_W_law_720 : decode c_W_law 720 = .ok (.invokevirtual 104, 3) := by decide +kernel
theorem d_W_law_723 : decode c_W_law 723 = .ok (.istore 6, 2) := by decide +kernel
theorem d_W_law_725 : decode c_W_law 725 = .ok (.aload_n 2, 1) := by decide +kernel
theorem d_W_law_726 : decode c_W_law 726 = .ok (.invokevirtual 74, 3) := by decide +kernel
theorem d_W_law_729 : decode c_W_law 729 = .ok (.iload 5, 2) := by decide +kernel
theorem d_W_law_731 : decode c_W_law 731 = .ok (.if_icmp .eq 5, 3) := by decide +kernel
theorem d_W_law_734 : decode c_W_law 734 = .ok (.iconst 0, 1) := by decide +kernel
theorem d_W_law_735 : decode c_W_law 735 = .ok (.ireturn, 1) := by decide +kernel
theorem d_W_law_736 : decode c_W_law 736 = .ok (.iload 5, 2) := by decide +kernel
theorem d_W_law_738 : decode c_W_law 738 = .ok (.ifCond .ne 15, 3) := by decide +kernel
theorem d_W_law_741 : decode c_W_law 741 = .ok (.aload_n 3, 1) := by decide +kernel
theorem d_W_law_742 : decode c_W_law 742 = .ok (.iconst 0, 1) := by decide +kernel
theorem d_W_law_743 : decode c_W_law 743 = .ok (.laload, 1) := by decide +kernel
theorem d_W_law_744 : decode c_W_law 744 = .ok (.iload 6, 2) := by decide +kernel
theorem d_W_law_746 : decode c_W_law 746 = .ok (.i2l, 1) := by decide +kernel
theorem d_W_law_747 : decode c_W_law 747 = .ok (.lcmp, 1) := by decide +kernel
theorem d_W_law_748 : decode c_W_law 748 = .ok (.ifCond .eq 5, 3) := by decide +kernel
theorem d_W_law_751 : decode c_W_law 751 = .ok (.iconst 0, 1) := by decide +kernel
theorem d_W_law_752 : decode c_W_law 752 = .ok (.ireturn, 1) := by decide +kernel
theorem d_W_law_753 : decode c_W_law 753 = .ok (.goto 283, 3) := by decide +kernel
theorem d_W_law_756 : decode c_W_law 756 = .ok (.aload_n 1, 1) := by decide +kernel
theorem d_W_law_757 : decode c_W_law 757 = .ok (.aload_n 0, 1) := by decide +kernel
theorem d_W_law_758 : decode c_W_law 758 = .ok (.iload 4, 2) := by decide +kernel
theorem d_W_law_760 : decode c_W_law 760 = .ok (.iconst 1, 1) := by decide +kernel
theorem d_W_law_761 : decode c_W_law 761 = .ok (.iadd, 1) := by decide +kernel
theorem d_W_law_762 : decode c_W_law 762 = .ok (.iaload, 1) := by decide +kernel
theorem d_W_law_763 : decode c_W_law 763 = .ok (.aload_n 0, 1) := by decide +kernel
theorem d_W_law_764 : decode c_W_law 764 = .ok (.iload 4, 2) := by decide +kernel
theorem d_W_law_766 : decode c_W_law 766 = .ok (.iconst 2, 1) := by decide +kernel
theorem d_W_law_767 : decode c_W_law 767 = .ok (.iadd, 1) := by decide +kernel
theorem d_W_law_768 : decode c_W_law 768 = .ok (.iaload, 1) := by decide +kernel
theorem d_W_law_769 : decode c_W_law 769 = .ok (.aload_n 3, 1) := by decide +kernel
theorem d_W_law_770 : decode c_W_law 770 = .ok (.invokestatic 105, 3) := by decide +kernel
theorem d_W_law_773 : decode c_W_law 773 = .ok (.istore 5, 2) := by decide +kernel
theorem d_W_law_775 : decode c_W_law 775 = .ok (.aload_n 2, 1) := by decide +kernel
theorem d_W_law_776 : decode c_W_law 776 = .ok (.aload_n 0, 1) := by decide +kernel
theorem d_W_law_777 : decode c_W_law 777 = .ok (.iload 4, 2) := by decide +kernel
theorem d_W_law_779 : decode c_W_law 779 = .ok (.iconst 1, 1) := by decide +kernel
theorem d_W_law_780 : decode c_W_law 780 = .ok (.iadd, 1) := by decide +kernel
theorem d_W_law_781 : decode c_W_law 781 = .ok (.iaload, 1) := by decide +kernel
theorem d_W_law_782 : decode c_W_law 782 = .ok (.aload_n 0, 1) := by decide +kernel
theorem d_W_law_783 : decode c_W_law 783 = .ok (.iload 4, 2) := by decide +kernel
theorem d_W_law_785 : decode c_W_law 785 = .ok (.iconst 2, 1) := by decide +kernel
theorem d_W_law_786 : decode c_W_law 786 = .ok (.iadd, 1) := by decide +kernel
theorem d_W_law_787 : decode c_W_law 787 = .ok (.iaload, 1) := by decide +kernel
theorem d_W_law_788 : decode c_W_law 788 = .ok (.invokevirtual 107, 3) := by decide +kernel
theorem d_W_law_791 : decode c_W_law 791 = .ok (.istore 6, 2) := by decide +kernel
theorem d_W_law_793 : decode c_W_law 793 = .ok (.aload_n 2, 1) := by decide +kernel
theorem d_W_law_794 : decode c_W_law 794 = .ok (.invokevirtual 74, 3) := by decide +kernel
theorem d_W_law_797 : decode c_W_law 797 = .ok (.iload 5, 2) := by decide +kernel
theorem d_W_law_799 : decode c_W_law 799 = .ok (.if_icmp .eq 5, 3) := by decide +kernel
theorem d_W_law_802 : decode c_W_law 802 = .ok (.iconst 0, 1) := by decide +kernel
theorem d_W_law_803 : decode c_W_law 803 = .ok (.ireturn, 1) := by decide +kernel
theorem d_W_law_804 : decode c_W_law 804 = .ok (.iload 5, 2) := by decide +kernel
theorem d_W_law_806 : decode c_W_law 806 = .ok (.ifCond .ne 15, 3) := by decide +kernel
theorem d_W_law_809 : decode c_W_law 809 = .ok (.aload_n 3, 1) := by decide +kernel
theorem d_W_law_810 : decode c_W_law 810 = .ok (.iconst 0, 1) := by decide +kernel
theorem d_W_law_811 : decode c_W_law 811 = .ok (.laload, 1) := by decide +kernel
theorem d_W_law_812 : decode c_W_law 812 = .ok (.iload 6, 2) := by decide +kernel
theorem d_W_law_814 : decode c_W_law 814 = .ok (.i2l, 1) := by decide +kernel
theorem d_W_law_815 : decode c_W_law 815 = .ok (.lcmp, 1) := by decide +kernel
theorem d_W_law_816 : decode c_W_law 816 = .ok (.ifCond .eq 5, 3) := by decide +kernel
theorem d_W_law_819 : decode c_W_law 819 = .ok (.iconst 0, 1) := by decide +kernel
theorem d_W_law_820 : decode c_W_law 820 = .ok (.ireturn, 1) := by decide +kernel
theorem d_W_law_821 : decode c_W_law 821 = .ok (.goto 215, 3) := by decide +kernel
theorem d_W_law_824 : decode c_W_law 824 = .ok (.aload_n 1, 1) := by decide +kernel
theorem d_W_law_825 : decode c_W_law 825 = .ok (.aload_n 3, 1) := by decide +kernel
theorem d_W_law_826 : decode c_W_law 826 = .ok (.invokestatic 108, 3) := by decide +kernel
theorem d_W_law_829 : decode c_W_law 829 = .ok (.istore 5, 2) := by decide +kernel
theorem d_W_law_831 : decode c_W_law 831 = .ok (.aload_n 2, 1) := by decide +kernel
theorem d_W_law_832 : decode c_W_law 832 = .ok (.invokevirtual 110, 3) := by decide +kernel
theorem d_W_law_835 : decode c_W_law 835 = .ok (.istore 6, 2) := by decide +kernel
theorem d_W_law_837 : decode c_W_law 837 = .ok (.aload_n 2, 1) := by decide +kernel
theorem d_W_law_838 : decode c_W_law 838 = .ok (.invokevirtual 74, 3) := by decide +kernel
theorem d_W_law_841 : decode c_W_law 841 = .ok (.iload 5, 2) := by decide +kernel
theorem d_W_law_843 : decode c_W_law 843 = .ok (.if_icmp .eq 5, 3) := by decide +kernel
theorem d_W_law_846 : decode c_W_law 846 = .ok (.iconst 0, 1) := by decide +kernel
theorem d_W_law_847 : decode c_W_law 847 = .ok (.ireturn, 1) := by decide +kernel
theorem d_W_law_848 : decode c_W_law 848 = .ok (.iload 5, 2) := by decide +kernel
theorem d_W_law_850 : decode c_W_law 850 = .ok (.ifCond .ne 15, 3) := by decide +kernel
theorem d_W_law_853 : decode c_W_law 853 = .ok (.aload_n 3, 1) := by decide +kernel
theorem d_W_law_854 : decode c_W_law 854 = .ok (.iconst 0, 1) := by decide +kernel
theorem d_W_law_855 : decode c_W_law 855 = .ok (.laload, 1) := by decide +kernel
theorem d_W_law_856 : decode c_W_law 856 = .ok (.iload 6, 2) := by decide +kernel
theorem d_W_law_858 : decode c_W_law 858 = .ok (.i2l, 1) := by decide +kernel
theorem d_W_law_859 : decode c_W_law 859 = .ok (.lcmp, 1) := by decide +kernel
theorem d_W_law_860 : decode c_W_law 860 = .ok (.ifCond .eq 5, 3) := by decide +kernel
theorem d_W_law_863 : decode c_W_law 863 = .ok (.iconst 0, 1) := by decide +kernel
theorem d_W_law_864 : decode c_W_law 864 = .ok (.ireturn, 1) := by decide +kernel
theorem d_W_law_865 : decode c_W_law 865 = .ok (.goto 171, 3) := by decide +kernel
theorem d_W_law_868 : decode c_W_law 868 = .ok (.aload_n 1, 1) := by decide +kernel
theorem d_W_law_869 : decode c_W_law 869 = .ok (.aload_n 0, 1) := by decide +kernel
theorem d_W_law_870 : decode c_W_law 870 = .ok (.iload 4, 2) := by decide +kernel
theorem d_W_law_872 : decode c_W_law 872 = .ok (.iconst 1, 1) := by decide +kernel
theorem d_W_law_873 : decode c_W_law 873 = .ok (.iadd, 1) := by decide +kernel
theorem d_W_law_874 : decode c_W_law 874 = .ok (.iaload, 1) := by decide +kernel
theorem d_W_law_875 : decode c_W_law 875 = .ok (.aload_n 3, 1) := by decide +kernel
theorem d_W_law_876 : decode c_W_law 876 = .ok (.invokestatic 111, 3) := by decide +kernel
theorem d_W_law_879 : decode c_W_law 879 = .ok (.istore 5, 2) := by decide +kernel
theorem d_W_law_881 : decode c_W_law 881 = .ok (.aload_n 2, 1) := by decide +kernel
theorem d_W_law_882 : decode c_W_law 882 = .ok (.aload_n 0, 1) := by decide +kernel
theorem d_W_law_883 : decode c_W_law 883 = .ok (.iload 4, 2) := by decide +kernel
theorem d_W_law_885 : decode c_W_law 885 = .ok (.iconst 1, 1) := by decide +kernel
theorem d_W_law_886 : decode c_W_law 886 = .ok (.iadd, 1) := by decide +kernel
theorem d_W_law_887 : decode c_W_law 887 = .ok (.iaload, 1) := by decide +kernel
theorem d_W_law_888 : decode c_W_law 888 = .ok (.invokevirtual 113, 3) := by decide +kernel
theorem d_W_law_891 : decode c_W_law 891 = .ok (.istore 6, 2) := by decide +kernel
theorem d_W_law_893 : decode c_W_law 893 = .ok (.aload_n 2, 1) := by decide +kernel
theorem d_W_law_894 : decode c_W_law 894 = .ok (.invokevirtual 74, 3) := by decide +kernel
theorem d_W_law_897 : decode c_W_law 897 = .ok (.iload 5, 2) := by decide +kernel
theorem d_W_law_899 : decode c_W_law 899 = .ok (.if_icmp .eq 5, 3) := by decide +kernel
theorem d_W_law_902 : decode c_W_law 902 = .ok (.iconst 0, 1) := by decide +kernel
theorem d_W_law_903 : decode c_W_law 903 = .ok (.ireturn, 1) := by decide +kernel
theorem d_W_law_904 : decode c_W_law 904 = .ok (.iload 5, 2) := by decide +kernel
theorem d_W_law_906 : decode c_W_law 906 = .ok (.ifCond .ne 15, 3) := by decide +kernel
theorem d_W_law_909 : decode c_W_law 909 = .ok (.aload_n 3, 1) := by decide +kernel
theorem d_W_law_910 : decode c_W_law 910 = .ok (.iconst 0, 1) := by decide +kernel
theorem d_W_law_911 : decode c_W_law 911 = .ok (.laload, 1) := by decide +kernel
theorem d_W_law_912 : decode c_W_law 912 = .ok (.iload 6, 2) := by decide +kernel
theorem d_W_law_914 : decode c_W_law 914 = .ok (.i2l, 1) := by decide +kernel
theorem d_W_law_915 : decode c_W_law 915 = .ok (.lcmp, 1) := by decide +kernel
theorem d_W_law_916 : decode c_W_law 916 = .ok (.ifCond .eq 5, 3) := by decide +kernel
theorem d_W_law_919 : decode c_W_law 919 = .ok (.iconst 0, 1) := by decide +kernel
theorem d_W_law_920 : decode c_W_law 920 = .ok (.ireturn, 1) := by decide +kernel
theorem d_W_law_921 : decode c_W_law 921 = .ok (.goto 115, 3) := by decide +kernel
theorem d_W_law_924 : decode c_W_law 924 = .ok (.aload_n 1, 1) := by decide +kernel
theorem d_W_law_925 : decode c_W_law 925 = .ok (.aload_n 0, 1) := by decide +kernel
theorem d_W_law_926 : decode c_W_law 926 = .ok (.iload 4, 2) := by decide +kernel
theorem d_W_law_928 : decode c_W_law 928 = .ok (.iconst 1, 1) := by decide +kernel
theorem d_W_law_929 : decode c_W_law 929 = .ok (.iadd, 1) := by decide +kernel
theorem d_W_law_930 : decode c_W_law 930 = .ok (.iaload, 1) := by decide +kernel
theorem d_W_law_931 : decode c_W_law 931 = .ok (.aload_n 3, 1) := by decide +kernel
theorem d_W_law_932 : decode c_W_law 932 = .ok (.invokestatic 114, 3) := by decide +kernel
theorem d_W_law_935 : decode c_W_law 935 = .ok (.istore 5, 2) := by decide +kernel
theorem d_W_law_937 : decode c_W_law 937 = .ok (.aload_n 2, 1) := by decide +kernel
theorem d_W_law_938 : decode c_W_law 938 = .ok (.aload_n 0, 1) := by decide +kernel
theorem d_W_law_939 : decode c_W_law 939 = .ok (.iload 4, 2) := by decide +kernel
theorem d_W_law_941 : decode c_W_law 941 = .ok (.iconst 1, 1) := by decide +kernel
theorem d_W_law_942 : decode c_W_law 942 = .ok (.iadd, 1) := by decide +kernel
theorem d_W_law_943 : decode c_W_law 943 = .ok (.iaload, 1) := by decide +kernel
theorem d_W_law_944 : decode c_W_law 944 = .ok (.invokevirtual 116, 3) := by decide +kernel
theorem d_W_law_947 : decode c_W_law 947 = .ok (.istore 6, 2) := by decide +kernel
theorem d_W_law_949 : decode c_W_law 949 = .ok (.aload_n 2, 1) := by decide +kernel
theorem d_W_law_950 : decode c_W_law 950 = .ok (.invokevirtual 74, 3) := by decide +kernel
theorem d_W_law_953 : decode c_W_law 953 = .ok (.iload 5, 2) := by decide +kernel
theorem d_W_law_955 : decode c_W_law 955 = .ok (.if_icmp .eq 5, 3) := by decide +kernel
theorem d_W_law_958 : decode c_W_law 958 = .ok (.iconst 0, 1) := by decide +kernel
theorem d_W_law_959 : decode c_W_law 959 = .ok (.ireturn, 1) := by decide +kernel
theorem d_W_law_960 : decode c_W_law 960 = .ok (.iload 5, 2) := by decide +kernel
theorem d_W_law_962 : decode c_W_law 962 = .ok (.ifCond .ne 15, 3) := by decide +kernel
theorem d_W_law_965 : decode c_W_law 965 = .ok (.aload_n 3, 1) := by decide +kernel
theorem d_W_law_966 : decode c_W_law 966 = .ok (.iconst 0, 1) := by decide +kernel
theorem d_W_law_967 : decode c_W_law 967 = .ok (.laload, 1) := by decide +kernel
theorem d_W_law_968 : decode c_W_law 968 = .ok (.iload 6, 2) := by decide +kernel
theorem d_W_law_970 : decode c_W_law 970 = .ok (.i2l, 1) := by decide +kernel
theorem d_W_law_971 : decode c_W_law 971 = .ok (.lcmp, 1) := by decide +kernel
theorem d_W_law_972 : decode c_W_law 972 = .ok (.ifCond .eq 5, 3) := by decide +kernel
theorem d_W_law_975 : decode c_W_law 975 = .ok (.iconst 0, 1) := by decide +kernel
theorem d_W_law_976 : decode c_W_law 976 = .ok (.ireturn, 1) := by decide +kernel
theorem d_W_law_977 : decode c_W_law 977 = .ok (.goto 59, 3) := by decide +kernel
theorem d_W_law_980 : decode c_W_law 980 = .ok (.aload_n 1, 1) := by decide +kernel
theorem d_W_law_981 : decode c_W_law 981 = .ok (.aload_n 0, 1) := by decide +kernel
theorem d_W_law_982 : decode c_W_law 982 = .ok (.iload 4, 2) := by decide +kernel
theorem d_W_law_984 : decode c_W_law 984 = .ok (.iconst 1, 1) := by decide +kernel
theorem d_W_law_985 : decode c_W_law 985 = .ok (.iadd, 1) := by decide +kernel
theorem d_W_law_986 : decode c_W_law 986 = .ok (.iaload, 1) := by decide +kernel
theorem d_W_law_987 : decode c_W_law 987 = .ok (.aload_n 3, 1) := by decide +kernel
theorem d_W_law_988 : decode c_W_law 988 = .ok (.invokestatic 117, 3) := by decide +kernel
theorem d_W_law_991 : decode c_W_law 991 = .ok (.istore 5, 2) := by decide +kernel
theorem d_W_law_993 : decode c_W_law 993 = .ok (.aload_n 2, 1) := by decide +kernel
theorem d_W_law_994 : decode c_W_law 994 = .ok (.aload_n 0, 1) := by decide +kernel
theorem d_W_law_995 : decode c_W_law 995 = .ok (.iload 4, 2) := by decide +kernel
theorem d_W_law_997 : decode c_W_law 997 = .ok (.iconst 1, 1) := by decide +kernel
theorem d_W_law_998 : decode c_W_law 998 = .ok (.iadd, 1) := by decide +kernel
theorem d_W_law_999 : decode c_W_law 999 = .ok (.iaload, 1) := by decide +kernel
theorem d_W_law_1000 : decode c_W_law 1000 = .ok (.invokevirtual 119, 3) := by decide +kernel
theorem d_W_law_1003 : decode c_W_law 1003 = .ok (.istore 6, 2) := by decide +kernel
theorem d_W_law_1005 : decode c_W_law 1005 = .ok (.aload_n 2, 1) := by decide +kernel
theorem d_W_law_1006 : decode c_W_law 1006 = .ok (.invokevirtual 74, 3) := by decide +kernel
theorem d_W_law_1009 : decode c_W_law 1009 = .ok (.iload 5, 2) := by decide +kernel
theorem d_W_law_1011 : decode c_W_law 1011 = .ok (.if_icmp .eq 5, 3) := by decide +kernel
theorem d_W_law_1014 : decode c_W_law 1014 = .ok (.iconst 0, 1) := by decide +kernel
theorem d_W_law_1015 : decode c_W_law 1015 = .ok (.ireturn, 1) := by decide +kernel
theorem d_W_law_1016 : decode c_W_law 1016 = .ok (.iload 5, 2) := by decide +kernel
theorem d_W_law_1018 : decode c_W_law 1018 = .ok (.ifCond .ne 15, 3) := by decide +kernel
theorem d_W_law_1021 : decode c_W_law 1021 = .ok (.aload_n 3, 1) := by decide +kernel
theorem d_W_law_1022 : decode c_W_law 1022 = .ok (.iconst 0, 1) := by decide +kernel
theorem d_W_law_1023 : decode c_W_law 1023 = .ok (.laload, 1) := by decide +kernel
theorem d_W_law_1024 : decode c_W_law 1024 = .ok (.iload 6, 2) := by decide +kernel
theorem d_W_law_1026 : decode c_W_law 1026 = .ok (.i2l, 1) := by decide +kernel
theorem d_W_law_1027 : decode c_W_law 1027 = .ok (.lcmp, 1) := by decide +kernel
theorem d_W_law_1028 : decode c_W_law 1028 = .ok (.ifCond .eq 5, 3) := by decide +kernel
theorem d_W_law_1031 : decode c_W_law 1031 = .ok (.iconst 0, 1) := by decide +kernel
theorem d_W_law_1032 : decode c_W_law 1032 = .ok (.ireturn, 1) := by decide +kernel
theorem d_W_law_1033 : decode c_W_law 1033 = .ok (.goto 3, 3) := by decide +kernel
theorem d_W_law_1036 : decode c_W_law 1036 = .ok (.iinc 4 6, 3) := by decide +kernel
theorem d_W_law_1039 : decode c_W_law 1039 = .ok (.goto (-1016), 3) := by decide +kernel
theorem d_W_law_1042 : decode c_W_law 1042 = .ok (.iconst 1, 1) := by decide +kernel
theorem d_W_law_1043 : decode c_W_law 1043 = .ok (.ireturn, 1) := by decide +kernel
end
section
/-! leaves: methods that only read and answer a number -/
set_option maxHeartbeats 4000000 in
set_option maxRecDepth 100000 in
theorem k_X_isKind (l : Launch) (k : Int32) : Met l y_X_isKind (wm y_X_isKind c_X_isKind 1 (some .boolean)) ({ frames := 0, cells := 0, slots := 0, locals := 0 }) (va_Pc [.int k] (fun _ => True)) (vp_Si (fun r => r = if ¬ k < 0 ∧ ¬ 6 ≤ k then 1 else 0)) 0 0 (fun _ => False) := by
  refine Met.ofW (cc := c_X_isKind) (maxL := 1) (ret := (some .boolean)) (by decide) rfl ?_
  intro p e s m args below meth c s₁ B hml hv
  obtain ⟨rfl, -⟩ := hv
  have hx := B.exec
  have hb := B.bytes
  have hr := B.returns
  have hts := atoms_spec (ws := (wm y_X_isKind c_X_isKind 1 (some .boolean))) B.pre
  have hta : ∀ w ∈ AL, w.before _ s = true := fun w h => hts w (List.mem_cons_of_mem _ h)
  have hown : s.vm.findClass nR_X = some m.cls := findClass_of_methodNamed B.named
  have hlocks := B.notSynchronized
  have hl := lv_entry ([.int k]) (n := 1) (Nat.le_of_ble_eq_true rfl)
  rw [lg_entry_eq]
  generalize (lg_sl ([.int k]) ++ List.replicate (1 - (lg_sl ([.int k])).length) Slot.unset).toArray = ls at hl ⊢
  have hl : lv_has ls 1 [(0, .int k)] := hl
  refine lv_iload_n hx hb d_X_isKind_0 rfl (lv_at hl 0 rfl) ?_
  refine lv_if_lt (tgt := 14) hx hb d_X_isKind_1 (by decide) (fun c_1 => ?_) (fun c_1 => ?_)
  · refine lv_iconst (v := 0) hx hb d_X_isKind_14 (by decide) ?_
    exact W.zret (v := 0) hx hb hr rfl (fun t ht hW => ⟨0, rfl, by simp [c_1], ht⟩) (fun q h => nomatch h) d_X_isKind_15
  · refine lv_iload_n hx hb d_X_isKind_4 rfl (lv_at hl 0 rfl) ?_
    refine lv_bipush (v := 6) hx hb d_X_isKind_5 (by decide) ?_
    refine lv_icmp_ge (tgt := 14) hx hb d_X_isKind_7 (by decide) (fun c_2 => ?_) (fun c_2 => ?_)
    · refine lv_iconst (v := 0) hx hb d_X_isKind_14 (by decide) ?_
      exact W.zret (v := 0) hx hb hr rfl (fun t ht hW => ⟨0, rfl, by simp [c_1, c_2], ht⟩) (fun q h => nomatch h) d_X_isKind_15
    · refine lv_iconst (v := 1) hx hb d_X_isKind_10 (by decide) ?_
      refine lv_goto (tgt := 15) hx hb d_X_isKind_11 (by decide) ?_
      exact W.zret (v := 1) hx hb hr rfl (fun t ht hW => ⟨1, rfl, by simp [c_1, c_2], ht⟩) (fun q h => nomatch h) d_X_isKind_15
set_option maxHeartbeats 4000000 in
set_option maxRecDepth 100000 in
theorem k_X_isSector (l : Launch) (k : Int32) : Met l y_X_isSector (wm y_X_isSector c_X_isSector 1 (some .boolean)) ({ frames := 0, cells := 0, slots := 0, locals := 0 }) (va_Pc [.int k] (fun _ => True)) (vp_Si (fun r => r = if ¬ k < 0 ∧ ¬ 10 ≤ k then 1 else 0)) 0 0 (fun _ => False) := by
  refine Met.ofW (cc := c_X_isSector) (maxL := 1) (ret := (some .boolean)) (by decide) rfl ?_
  intro p e s m args below meth c s₁ B hml hv
  obtain ⟨rfl, -⟩ := hv
  have hx := B.exec
  have hb := B.bytes
  have hr := B.returns
  have hts := atoms_spec (ws := (wm y_X_isSector c_X_isSector 1 (some .boolean))) B.pre
  have hta : ∀ w ∈ AL, w.before _ s = true := fun w h => hts w (List.mem_cons_of_mem _ h)
  have hown : s.vm.findClass nR_X = some m.cls := findClass_of_methodNamed B.named
  have hlocks := B.notSynchronized
  have hl := lv_entry ([.int k]) (n := 1) (Nat.le_of_ble_eq_true rfl)
  rw [lg_entry_eq]
  generalize (lg_sl ([.int k]) ++ List.replicate (1 - (lg_sl ([.int k])).length) Slot.unset).toArray = ls at hl ⊢
  have hl : lv_has ls 1 [(0, .int k)] := hl
  refine lv_iload_n hx hb d_X_isSector_0 rfl (lv_at hl 0 rfl) ?_
  refine lv_if_lt (tgt := 14) hx hb d_X_isSector_1 (by decide) (fun c_1 => ?_) (fun c_1 => ?_)
  · refine lv_iconst (v := 0) hx hb d_X_isSector_14 (by decide) ?_
    exact W.zret (v := 0) hx hb hr rfl (fun t ht hW => ⟨0, rfl, by simp [c_1], ht⟩) (fun q h => nomatch h) d_X_isSector_15
  · refine lv_iload_n hx hb d_X_isSector_4 rfl (lv_at hl 0 rfl) ?_
    refine lv_bipush (v := 10) hx hb d_X_isSector_5 (by decide) ?_
    refine lv_icmp_ge (tgt := 14) hx hb d_X_isSector_7 (by decide) (fun c_2 => ?_) (fun c_2 => ?_)
    · refine lv_iconst (v := 0) hx hb d_X_isSector_14 (by decide) ?_
      exact W.zret (v := 0) hx hb hr rfl (fun t ht hW => ⟨0, rfl, by simp [c_1, c_2], ht⟩) (fun q h => nomatch h) d_X_isSector_15
    · refine lv_iconst (v := 1) hx hb d_X_isSector_10 (by decide) ?_
      refine lv_goto (tgt := 15) hx hb d_X_isSector_11 (by decide) ?_
      exact W.zret (v := 1) hx hb hr rfl (fun t ht hW => ⟨1, rfl, by simp [c_1, c_2], ht⟩) (fun q h => nomatch h) d_X_isSector_15
set_option maxHeartbeats 4000000 in
set_option maxRecDepth 100000 in
theorem k_X_isValue (l : Launch) (k : Int32) : Met l y_X_isValue (wm y_X_isValue c_X_isValue 1 (some .boolean)) ({ frames := 0, cells := 0, slots := 0, locals := 0 }) (va_Pc [.int k] (fun _ => True)) (vp_Si (fun r => r = if ¬ k < (-9999) ∧ ¬ 9999 < k then 1 else 0)) 0 0 (fun _ => False) := by
  refine Met.ofW (cc := c_X_isValue) (maxL := 1) (ret := (some .boolean)) (by decide) rfl ?_
  intro p e s m args below meth c s₁ B hml hv
  obtain ⟨rfl, -⟩ := hv
  have hx := B.exec
  have hb := B.bytes
  have hr := B.returns
  have hts := atoms_spec (ws := (wm y_X_isValue c_X_isValue 1 (some .boolean))) B.pre
  have hta : ∀ w ∈ AL, w.before _ s = true := fun w h => hts w (List.mem_cons_of_mem _ h)
  have hown : s.vm.findClass nR_X = some m.cls := findClass_of_methodNamed B.named
  have hlocks := B.notSynchronized
  have hl := lv_entry ([.int k]) (n := 1) (Nat.le_of_ble_eq_true rfl)
  rw [lg_entry_eq]
  generalize (lg_sl ([.int k]) ++ List.replicate (1 - (lg_sl ([.int k])).length) Slot.unset).toArray = ls at hl ⊢
  have hl : lv_has ls 1 [(0, .int k)] := hl
  refine lv_iload_n hx hb d_X_isValue_0 rfl (lv_at hl 0 rfl) ?_
  refine lv_sipush (v := (-9999)) hx hb d_X_isValue_1 (by decide) ?_
  refine lv_icmp_lt (tgt := 18) hx hb d_X_isValue_4 (by decide) (fun c_1 => ?_) (fun c_1 => ?_)
  · refine lv_iconst (v := 0) hx hb d_X_isValue_18 (by decide) ?_
    exact W.zret (v := 0) hx hb hr rfl (fun t ht hW => ⟨0, rfl, by simp [c_1], ht⟩) (fun q h => nomatch h) d_X_isValue_19
  · refine lv_iload_n hx hb d_X_isValue_7 rfl (lv_at hl 0 rfl) ?_
    refine lv_sipush (v := 9999) hx hb d_X_isValue_8 (by decide) ?_
    refine lv_icmp_gt (tgt := 18) hx hb d_X_isValue_11 (by decide) (fun c_2 => ?_) (fun c_2 => ?_)
    · refine lv_iconst (v := 0) hx hb d_X_isValue_18 (by decide) ?_
      exact W.zret (v := 0) hx hb hr rfl (fun t ht hW => ⟨0, rfl, by simp [c_1, c_2], ht⟩) (fun q h => nomatch h) d_X_isValue_19
    · refine lv_iconst (v := 1) hx hb d_X_isValue_14 (by decide) ?_
      refine lv_goto (tgt := 19) hx hb d_X_isValue_15 (by decide) ?_
      exact W.zret (v := 1) hx hb hr rfl (fun t ht hW => ⟨1, rfl, by simp [c_1, c_2], ht⟩) (fun q h => nomatch h) d_X_isValue_19
set_option maxHeartbeats 4000000 in
set_option maxRecDepth 100000 in
theorem k_X_oneIf (l : Launch) (k : Int32) : Met l y_X_oneIf (wm y_X_oneIf c_X_oneIf 1 (some .int)) ({ frames := 0, cells := 0, slots := 0, locals := 0 }) (va_Pc [.int k] (fun _ => True)) (vp_Si (fun r => r = if k = 0 then 0 else 1)) 0 0 (fun _ => False) := by
  refine Met.ofW (cc := c_X_oneIf) (maxL := 1) (ret := (some .int)) (by decide) rfl ?_
  intro p e s m args below meth c s₁ B hml hv
  obtain ⟨rfl, -⟩ := hv
  have hx := B.exec
  have hb := B.bytes
  have hr := B.returns
  have hts := atoms_spec (ws := (wm y_X_oneIf c_X_oneIf 1 (some .int))) B.pre
  have hta : ∀ w ∈ AL, w.before _ s = true := fun w h => hts w (List.mem_cons_of_mem _ h)
  have hown : s.vm.findClass nR_X = some m.cls := findClass_of_methodNamed B.named
  have hlocks := B.notSynchronized
  have hl := lv_entry ([.int k]) (n := 1) (Nat.le_of_ble_eq_true rfl)
  rw [lg_entry_eq]
  generalize (lg_sl ([.int k]) ++ List.replicate (1 - (lg_sl ([.int k])).length) Slot.unset).toArray = ls at hl ⊢
  have hl : lv_has ls 1 [(0, .int k)] := hl
  refine lv_iload_n hx hb d_X_oneIf_0 rfl (lv_at hl 0 rfl) ?_
  refine lv_if_eq (tgt := 8) hx hb d_X_oneIf_1 (by decide) (fun c_1 => ?_) (fun c_1 => ?_)
  · refine lv_iconst (v := 0) hx hb d_X_oneIf_8 (by decide) ?_
    exact W.iret (v := 0) hx hb hr (fun t ht hW => ⟨0, rfl, by simp [c_1], ht⟩) (fun q h => nomatch h) d_X_oneIf_9
  · refine lv_iconst (v := 1) hx hb d_X_oneIf_4 (by decide) ?_
    refine lv_goto (tgt := 9) hx hb d_X_oneIf_5 (by decide) ?_
    exact W.iret (v := 1) hx hb hr (fun t ht hW => ⟨1, rfl, by simp [c_1], ht⟩) (fun q h => nomatch h) d_X_oneIf_9
def mixv (d v : Int32) : Int32 := (((d ^^^ v) <<< ((7 : Int32) &&& 31)) ||| ((d ^^^ v).toUInt32 >>> (Int32.toUInt32 25 &&& Int32.toUInt32 31)).toInt32) + v
set_option maxHeartbeats 4000000 in
set_option maxRecDepth 100000 in
theorem k_N_mix (l : Launch) (d v : Int32) : Met l y_N_mix (wm y_N_mix c_N_mix 3 (some .int)) ({ frames := 0, cells := 0, slots := 0, locals := 0 }) (va_Pc [.int d, .int v] (fun _ => True)) (vp_Si (fun r => r = mixv d v)) 0 0 (fun _ => False) := by
  refine Met.ofW (cc := c_N_mix) (maxL := 3) (ret := (some .int)) (by decide) rfl ?_
  intro p e s m args below meth c s₁ B hml hv
  obtain ⟨rfl, -⟩ := hv
  have hx := B.exec
  have hb := B.bytes
  have hr := B.returns
  have hts := atoms_spec (ws := (wm y_N_mix c_N_mix 3 (some .int))) B.pre
  have hta : ∀ w ∈ AL, w.before _ s = true := fun w h => hts w (List.mem_cons_of_mem _ h)
  have hown : s.vm.findClass nR_N = some m.cls := findClass_of_methodNamed B.named
  have hlocks := B.notSynchronized
  have hl := lv_entry ([.int d, .int v]) (n := 3) (Nat.le_of_ble_eq_true rfl)
  rw [lg_entry_eq]
  generalize (lg_sl ([.int d, .int v]) ++ List.replicate (3 - (lg_sl ([.int d, .int v])).length) Slot.unset).toArray = ls at hl ⊢
  have hl : lv_has ls 3 [(0, .int d), (1, .int v)] := hl
  refine lv_iload_n hx hb d_N_mix_0 rfl (lv_at hl 0 rfl) ?_
  refine lv_iload_n hx hb d_N_mix_1 rfl (lv_at hl 1 rfl) ?_
  refine lv_ixor hx hb d_N_mix_2 ?_
  refine lv_istore_n (lv' := [(2, .int (d ^^^ v)), (0, .int d), (1, .int v)]) hx hb d_N_mix_3 rfl hl (by decide) rfl (fun ls hl => ?_)
  refine lv_iload_n hx hb d_N_mix_4 rfl (lv_at hl 0 rfl) ?_
  refine lv_bipush (v := 7) hx hb d_N_mix_5 (by decide) ?_
  refine lv_ishl hx hb d_N_mix_7 ?_
  refine lv_iload_n hx hb d_N_mix_8 rfl (lv_at hl 0 rfl) ?_
  refine lv_bipush (v := 25) hx hb d_N_mix_9 (by decide) ?_
  refine lv_iushr hx hb d_N_mix_11 rfl ?_
  refine lv_ior hx hb d_N_mix_12 ?_
  refine lv_iload_n hx hb d_N_mix_13 rfl (lv_at hl 2 rfl) ?_
  refine lv_iadd hx hb d_N_mix_14 ?_
  exact W.iret (v := (((d ^^^ v) <<< (7 &&& 31)) ||| (((d ^^^ v).toUInt32 >>> (Int32.toUInt32 25 &&& Int32.toUInt32 31)).toInt32)) + v) hx hb hr (fun t ht hW => ⟨(((d ^^^ v) <<< (7 &&& 31)) ||| (((d ^^^ v).toUInt32 >>> (Int32.toUInt32 25 &&& Int32.toUInt32 31)).toInt32)) + v, rfl, rfl, ht⟩) (fun q h => nomatch h) d_N_mix_15
set_option maxHeartbeats 4000000 in
set_option maxRecDepth 100000 in
theorem k_M_mix (l : Launch) (d v : Int32) : Met l y_M_mix (wm y_M_mix c_M_mix 3 (some .int)) ({ frames := 0, cells := 0, slots := 0, locals := 0 }) (va_Pc [.int d, .int v] (fun _ => True)) (vp_Si (fun r => r = mixv d v)) 0 0 (fun _ => False) := by
  refine Met.ofW (cc := c_M_mix) (maxL := 3) (ret := (some .int)) (by decide) rfl ?_
  intro p e s m args below meth c s₁ B hml hv
  obtain ⟨rfl, -⟩ := hv
  have hx := B.exec
  have hb := B.bytes
  have hr := B.returns
  have hts := atoms_spec (ws := (wm y_M_mix c_M_mix 3 (some .int))) B.pre
  have hta : ∀ w ∈ AL, w.before _ s = true := fun w h => hts w (List.mem_cons_of_mem _ h)
  have hown : s.vm.findClass nR_M = some m.cls := findClass_of_methodNamed B.named
  have hlocks := B.notSynchronized
  have hl := lv_entry ([.int d, .int v]) (n := 3) (Nat.le_of_ble_eq_true rfl)
  rw [lg_entry_eq]
  generalize (lg_sl ([.int d, .int v]) ++ List.replicate (3 - (lg_sl ([.int d, .int v])).length) Slot.unset).toArray = ls at hl ⊢
  have hl : lv_has ls 3 [(0, .int d), (1, .int v)] := hl
  refine lv_iload_n hx hb d_M_mix_0 rfl (lv_at hl 0 rfl) ?_
  refine lv_iload_n hx hb d_M_mix_1 rfl (lv_at hl 1 rfl) ?_
  refine lv_ixor hx hb d_M_mix_2 ?_
  refine lv_istore_n (lv' := [(2, .int (d ^^^ v)), (0, .int d), (1, .int v)]) hx hb d_M_mix_3 rfl hl (by decide) rfl (fun ls hl => ?_)
  refine lv_iload_n hx hb d_M_mix_4 rfl (lv_at hl 0 rfl) ?_
  refine lv_bipush (v := 7) hx hb d_M_mix_5 (by decide) ?_
  refine lv_ishl hx hb d_M_mix_7 ?_
  refine lv_iload_n hx hb d_M_mix_8 rfl (lv_at hl 0 rfl) ?_
  refine lv_bipush (v := 25) hx hb d_M_mix_9 (by decide) ?_
  refine lv_iushr hx hb d_M_mix_11 rfl ?_
  refine lv_ior hx hb d_M_mix_12 ?_
  refine lv_iload_n hx hb d_M_mix_13 rfl (lv_at hl 2 rfl) ?_
  refine lv_iadd hx hb d_M_mix_14 ?_
  exact W.iret (v := (((d ^^^ v) <<< (7 &&& 31)) ||| (((d ^^^ v).toUInt32 >>> (Int32.toUInt32 25 &&& Int32.toUInt32 31)).toInt32)) + v) hx hb hr (fun t ht hW => ⟨(((d ^^^ v) <<< (7 &&& 31)) ||| (((d ^^^ v).toUInt32 >>> (Int32.toUInt32 25 &&& Int32.toUInt32 31)).toInt32)) + v, rfl, rfl, ht⟩) (fun q h => nomatch h) d_M_mix_15
set_option maxHeartbeats 4000000 in
set_option maxRecDepth 100000 in
theorem k_M_in (l : Launch) (x a b : Int32) : Met l y_M_in (wm y_M_in c_M_in 3 (some .boolean)) ({ frames := 0, cells := 0, slots := 0, locals := 0 }) (va_Pc [.int x, .int a, .int b] (fun _ => True)) (vp_Si (fun r => r = if ¬ x < a ∧ ¬ b < x then 1 else 0)) 0 0 (fun _ => False) := by
  refine Met.ofW (cc := c_M_in) (maxL := 3) (ret := (some .boolean)) (by decide) rfl ?_
  intro p e s m args below meth c s₁ B hml hv
  obtain ⟨rfl, -⟩ := hv
  have hx := B.exec
  have hb := B.bytes
  have hr := B.returns
  have hts := atoms_spec (ws := (wm y_M_in c_M_in 3 (some .boolean))) B.pre
  have hta : ∀ w ∈ AL, w.before _ s = true := fun w h => hts w (List.mem_cons_of_mem _ h)
  have hown : s.vm.findClass nR_M = some m.cls := findClass_of_methodNamed B.named
  have hlocks := B.notSynchronized
  have hl := lv_entry ([.int x, .int a, .int b]) (n := 3) (Nat.le_of_ble_eq_true rfl)
  rw [lg_entry_eq]
  generalize (lg_sl ([.int x, .int a, .int b]) ++ List.replicate (3 - (lg_sl ([.int x, .int a, .int b])).length) Slot.unset).toArray = ls at hl ⊢
  have hl : lv_has ls 3 [(0, .int x), (1, .int a), (2, .int b)] := hl
  refine lv_iload_n hx hb d_M_in_0 rfl (lv_at hl 0 rfl) ?_
  refine lv_iload_n hx hb d_M_in_1 rfl (lv_at hl 1 rfl) ?_
  refine lv_icmp_lt (tgt := 14) hx hb d_M_in_2 (by decide) (fun c_1 => ?_) (fun c_1 => ?_)
  · refine lv_iconst (v := 0) hx hb d_M_in_14 (by decide) ?_
    exact W.zret (v := 0) hx hb hr rfl (fun t ht hW => ⟨0, rfl, by simp [c_1], ht⟩) (fun q h => nomatch h) d_M_in_15
  · refine lv_iload_n hx hb d_M_in_5 rfl (lv_at hl 0 rfl) ?_
    refine lv_iload_n hx hb d_M_in_6 rfl (lv_at hl 2 rfl) ?_
    refine lv_icmp_gt (tgt := 14) hx hb d_M_in_7 (by decide) (fun c_2 => ?_) (fun c_2 => ?_)
    · refine lv_iconst (v := 0) hx hb d_M_in_14 (by decide) ?_
      exact W.zret (v := 0) hx hb hr rfl (fun t ht hW => ⟨0, rfl, by simp [c_1, c_2], ht⟩) (fun q h => nomatch h) d_M_in_15
    · refine lv_iconst (v := 1) hx hb d_M_in_10 (by decide) ?_
      refine lv_goto (tgt := 15) hx hb d_M_in_11 (by decide) ?_
      exact W.zret (v := 1) hx hb hr rfl (fun t ht hW => ⟨1, rfl, by simp [c_1, c_2], ht⟩) (fun q h => nomatch h) d_M_in_15
def flrv (x y : Int32) : Int32 := if x / y * y ≤ x then x / y else x / y - 1
def flrd (x y : Int32) : Int32 := if 0 ≤ x ^^^ y then x / y else if x / y * y = x then x / y else x / y - 1
set_option maxHeartbeats 4000000 in
set_option maxRecDepth 100000 in
theorem k_M_floor (l : Launch) (x y : Int32) (hy : ¬ y = 0) : Met l y_M_floor (wm y_M_floor c_M_floor 3 (some .int)) ({ frames := 0, cells := 0, slots := 0, locals := 0 }) (va_Pc [.int x, .int y] (fun _ => True)) (vp_Si (fun r => r = flrv x y)) 0 0 (fun _ => False) := by
  refine Met.ofW (cc := c_M_floor) (maxL := 3) (ret := (some .int)) (by decide) rfl ?_
  intro p e s m args below meth c s₁ B hml hv
  obtain ⟨rfl, -⟩ := hv
  have hx := B.exec
  have hb := B.bytes
  have hr := B.returns
  have hts := atoms_spec (ws := (wm y_M_floor c_M_floor 3 (some .int))) B.pre
  have hta : ∀ w ∈ AL, w.before _ s = true := fun w h => hts w (List.mem_cons_of_mem _ h)
  have hown : s.vm.findClass nR_M = some m.cls := findClass_of_methodNamed B.named
  have hlocks := B.notSynchronized
  have hl := lv_entry ([.int x, .int y]) (n := 3) (Nat.le_of_ble_eq_true rfl)
  rw [lg_entry_eq]
  generalize (lg_sl ([.int x, .int y]) ++ List.replicate (3 - (lg_sl ([.int x, .int y])).length) Slot.unset).toArray = ls at hl ⊢
  have hl : lv_has ls 3 [(0, .int x), (1, .int y)] := hl
  refine lv_iload_n hx hb d_M_floor_0 rfl (lv_at hl 0 rfl) ?_
  refine lv_iload_n hx hb d_M_floor_1 rfl (lv_at hl 1 rfl) ?_
  refine lv_idiv hx hb d_M_floor_2 (hy) ?_
  refine lv_istore_n (lv' := [(2, .int (x / y)), (0, .int x), (1, .int y)]) hx hb d_M_floor_3 rfl hl (by decide) rfl (fun ls hl => ?_)
  refine lv_iload_n hx hb d_M_floor_4 rfl (lv_at hl 0 rfl) ?_
  refine lv_iload_n hx hb d_M_floor_5 rfl (lv_at hl 2 rfl) ?_
  refine lv_imul hx hb d_M_floor_6 ?_
  refine lv_iload_n hx hb d_M_floor_7 rfl (lv_at hl 1 rfl) ?_
  refine lv_icmp_le (tgt := 17) hx hb d_M_floor_8 (by decide) (fun c_1 => ?_) (fun c_1 => ?_)
  · refine lv_iload_n hx hb d_M_floor_17 rfl (lv_at hl 0 rfl) ?_
    exact W.iret (v := x / y) hx hb hr (fun t ht hW => ⟨x / y, rfl, by simp [flrv, c_1], ht⟩) (fun q h => nomatch h) d_M_floor_18
  · refine lv_iload_n hx hb d_M_floor_11 rfl (lv_at hl 0 rfl) ?_
    refine lv_iconst (v := 1) hx hb d_M_floor_12 (by decide) ?_
    refine lv_isub hx hb d_M_floor_13 ?_
    refine lv_goto (tgt := 18) hx hb d_M_floor_14 (by decide) ?_
    exact W.iret (v := (x / y) - 1) hx hb hr (fun t ht hW => ⟨(x / y) - 1, rfl, by simp [flrv, c_1], ht⟩) (fun q h => nomatch h) d_M_floor_18
set_option maxHeartbeats 4000000 in
set_option maxRecDepth 100000 in
theorem k_J_floorDiv (l : Launch) (x y : Int32) (hy : ¬ y = 0) : Met l y_J_floorDiv (wm y_J_floorDiv c_J_floorDiv 3 (some .int)) ({ frames := 0, cells := 0, slots := 0, locals := 0 }) (va_Pc [.int x, .int y] (fun _ => True)) (vp_Si (fun r => r = flrd x y)) 0 0 (fun _ => False) := by
  refine va_MetF (cc := c_J_floorDiv) (maxL := 3) (ret := (some .int)) (by decide +kernel) rfl ?_
  intro p e s m args below meth c s₁ B hml hv
  obtain ⟨rfl, -⟩ := hv
  have hx := B.exec
  have hb := B.bytes
  have hr := B.returns
  have hts := atoms_spec (ws := (wm y_J_floorDiv c_J_floorDiv 3 (some .int))) B.pre
  have hta : ∀ w ∈ AL, w.before _ s = true := fun w h => hts w (List.mem_cons_of_mem _ h)
  have hown : s.vm.findClass nR_J = some m.cls := findClass_of_methodNamed B.named
  have hlocks := B.notSynchronized
  have hl := lv_entry ([.int x, .int y]) (n := 3) (Nat.le_of_ble_eq_true rfl)
  rw [lg_entry_eq]
  generalize (lg_sl ([.int x, .int y]) ++ List.replicate (3 - (lg_sl ([.int x, .int y])).length) Slot.unset).toArray = ls at hl ⊢
  have hl : lv_has ls 3 [(0, .int x), (1, .int y)] := hl
  refine lv_iload_n hx hb d_J_floorDiv_0 rfl (lv_at hl 0 rfl) ?_
  refine lv_iload_n hx hb d_J_floorDiv_1 rfl (lv_at hl 1 rfl) ?_
  refine lv_idiv hx hb d_J_floorDiv_2 (hy) ?_
  refine lv_istore_n (lv' := [(2, .int (x / y)), (0, .int x), (1, .int y)]) hx hb d_J_floorDiv_3 rfl hl (by decide) rfl (fun ls hl => ?_)
  refine lv_iload_n hx hb d_J_floorDiv_4 rfl (lv_at hl 1 rfl) ?_
  refine lv_iload_n hx hb d_J_floorDiv_5 rfl (lv_at hl 2 rfl) ?_
  refine lv_ixor hx hb d_J_floorDiv_6 ?_
  refine lv_if_ge (tgt := 21) hx hb d_J_floorDiv_7 (by decide) (fun c_1 => ?_) (fun c_1 => ?_)
  · refine lv_iload_n hx hb d_J_floorDiv_21 rfl (lv_at hl 0 rfl) ?_
    exact W.iret (v := x / y) hx hb hr (fun t ht hW => ⟨x / y, rfl, by simp [flrd, c_1], ht⟩) (fun q h => nomatch h) d_J_floorDiv_22
  · refine lv_iload_n hx hb d_J_floorDiv_10 rfl (lv_at hl 0 rfl) ?_
    refine lv_iload_n hx hb d_J_floorDiv_11 rfl (lv_at hl 2 rfl) ?_
    refine lv_imul hx hb d_J_floorDiv_12 ?_
    refine lv_iload_n hx hb d_J_floorDiv_13 rfl (lv_at hl 1 rfl) ?_
    refine lv_icmp_eq (tgt := 21) hx hb d_J_floorDiv_14 (by decide) (fun c_2 => ?_) (fun c_2 => ?_)
    · refine lv_iload_n hx hb d_J_floorDiv_21 rfl (lv_at hl 0 rfl) ?_
      exact W.iret (v := x / y) hx hb hr (fun t ht hW => ⟨x / y, rfl, by simp [flrd, c_1, c_2], ht⟩) (fun q h => nomatch h) d_J_floorDiv_22
    · refine lv_iload_n hx hb d_J_floorDiv_17 rfl (lv_at hl 0 rfl) ?_
      refine lv_iconst (v := 1) hx hb d_J_floorDiv_18 (by decide) ?_
      refine lv_isub hx hb d_J_floorDiv_19 ?_
      exact W.iret (v := (x / y) - 1) hx hb hr (fun t ht hW => ⟨(x / y) - 1, rfl, by simp [flrd, c_1, c_2], ht⟩) (fun q h => nomatch h) d_J_floorDiv_20
abbrev eN (nu wr kd sc se : Int32) (fi la : Nat) (ac co mx : Int32) : va_E := .inr (4, [.int nu, .int wr, .int kd, .int sc, .int se, .ref fi, .ref la, .int ac, .int co, .int mx])
abbrev eT (fr va z : Int32) (ea : Option Nat) : va_E := .inr (5, [.int fr, .int va, .int z, va_rf ea])
abbrev eX (ln qu sh : Nat) (se wr ac : Int32) : va_E := .inr (0, [.ref ln, .ref qu, .ref sh, .int se, .int wr, .int ac])
abbrev eL (bn io : Nat) (n : Int32) : va_E := .inr (1, [.ref bn, .ref io, .int n])
abbrev eQ (ro : Nat) (n kn z : Int32) : va_E := .inr (2, [.ref ro, .int n, .int kn, .int z])
abbrev eS (b : Nat) (n : Int32) : va_E := .inr (3, [.ref b, .int n])
abbrev aQ (cA : ClassId) (n : Nat) (f : Nat → Option Nat) : va_E := .inl (cA, n, .inr (.inr (.inr (.inr f))))
abbrev aI (cA : ClassId) (n : Nat) (f : Nat → Int32) : va_E := .inl (cA, n, .inl f)
abbrev aJ (cA : ClassId) (n : Nat) (f : Nat → Int64) : va_E := .inl (cA, n, .inr (.inl f))
set_option maxHeartbeats 4000000 in
set_option maxRecDepth 100000 in
theorem k_N_isWithin (l : Launch) (G : va_G) (tys : List (ClassId × FieldType)) (w : Nat → Option va_E) {a : Nat} {nu wr kd sc se : Int32} {fi la : Nat} {ac co mx : Int32} (hn : w a = some (eN nu wr kd sc se fi la ac co mx)) (f t : Int32) : Met l y_N_isWithin (wm y_N_isWithin c_N_isWithin 3 (some .boolean)) ({ frames := 0, cells := 0, slots := 0, locals := 0 }) (pW G tys w [.ref a, .int f, .int t]) (vp_Si (fun r => r = if ¬ se < f ∧ ¬ t ≤ se then 1 else 0)) 0 0 (fun _ => False) := by
  refine Met.ofW (cc := c_N_isWithin) (maxL := 3) (ret := (some .boolean)) (by decide) rfl ?_
  intro p e s m args below meth c s₁ B hml hv
  obtain ⟨rfl, hM, hK⟩ := hv
  have hx := B.exec
  have hb := B.bytes
  have hr := B.returns
  have hts := atoms_spec (ws := (wm y_N_isWithin c_N_isWithin 3 (some .boolean))) B.pre
  have hta : ∀ w ∈ AL, w.before _ s = true := fun w h => hts w (List.mem_cons_of_mem _ h)
  have hown : s.vm.findClass nR_N = some m.cls := findClass_of_methodNamed B.named
  have hlocks := B.notSynchronized
  have hl := lv_entry ([.ref a, .int f, .int t]) (n := 3) (Nat.le_of_ble_eq_true rfl)
  rw [lg_entry_eq]
  generalize (lg_sl ([.ref a, .int f, .int t]) ++ List.replicate (3 - (lg_sl ([.ref a, .int f, .int t])).length) Slot.unset).toArray = ls at hl ⊢
  have hl : lv_has ls 3 [(0, .ref a), (1, .int f), (2, .int t)] := hl
  refine lv_aload_n hx hb d_N_isWithin_0 rfl (lv_at hl 0 rfl) ?_
  refine m_get (D := G) (ci := 4) (v := .int se) (C := nR_N) (T := nT_N) (N := 10) hx hb hta in_N hown hK hM hn rfl 4 (by decide) (hta _ aw_287) (fun _ h9 => h9) rfl d_N_isWithin_1 ?_
  refine lv_iload_n hx hb d_N_isWithin_4 rfl (lv_at hl 1 rfl) ?_
  refine lv_icmp_lt (tgt := 20) hx hb d_N_isWithin_5 (by decide) (fun c_1 => ?_) (fun c_1 => ?_)
  · refine lv_iconst (v := 0) hx hb d_N_isWithin_20 (by decide) ?_
    exact W.zret (v := 0) hx hb hr rfl (fun t ht hW => ⟨0, rfl, by simp [c_1], ht⟩) (fun q h => nomatch h) d_N_isWithin_21
  · refine lv_aload_n hx hb d_N_isWithin_8 rfl (lv_at hl 0 rfl) ?_
    refine m_get (D := G) (ci := 4) (v := .int se) (C := nR_N) (T := nT_N) (N := 10) hx hb hta in_N hown hK hM hn rfl 4 (by decide) (hta _ aw_287) (fun _ h9 => h9) rfl d_N_isWithin_9 ?_
    refine lv_iload_n hx hb d_N_isWithin_12 rfl (lv_at hl 2 rfl) ?_
    refine lv_icmp_ge (tgt := 20) hx hb d_N_isWithin_13 (by decide) (fun c_2 => ?_) (fun c_2 => ?_)
    · refine lv_iconst (v := 0) hx hb d_N_isWithin_20 (by decide) ?_
      exact W.zret (v := 0) hx hb hr rfl (fun t ht hW => ⟨0, rfl, by simp [c_1, c_2], ht⟩) (fun q h => nomatch h) d_N_isWithin_21
    · refine lv_iconst (v := 1) hx hb d_N_isWithin_16 (by decide) ?_
      refine lv_goto (tgt := 21) hx hb d_N_isWithin_17 (by decide) ?_
      exact W.zret (v := 1) hx hb hr rfl (fun t ht hW => ⟨1, rfl, by simp [c_1, c_2], ht⟩) (fun q h => nomatch h) d_N_isWithin_21
set_option maxHeartbeats 4000000 in
set_option maxRecDepth 100000 in
theorem k_N_isOf (l : Launch) (G : va_G) (tys : List (ClassId × FieldType)) (w : Nat → Option va_E) {a : Nat} {nu wr kd sc se : Int32} {fi la : Nat} {ac co mx : Int32} (hn : w a = some (eN nu wr kd sc se fi la ac co mx)) (k z : Int32) : Met l y_N_isOf (wm y_N_isOf c_N_isOf 3 (some .boolean)) ({ frames := 0, cells := 0, slots := 0, locals := 0 }) (pW G tys w [.ref a, .int k, .int z]) (vp_Si (fun r => r = if (k = (-1) ∨ k = kd) ∧ (z = (-1) ∨ z = sc) then 1 else 0)) 0 0 (fun _ => False) := by
  refine Met.ofW (cc := c_N_isOf) (maxL := 3) (ret := (some .boolean)) (by decide) rfl ?_
  intro p e s m args below meth c s₁ B hml hv
  obtain ⟨rfl, hM, hK⟩ := hv
  have hx := B.exec
  have hb := B.bytes
  have hr := B.returns
  have hts := atoms_spec (ws := (wm y_N_isOf c_N_isOf 3 (some .boolean))) B.pre
  have hta : ∀ w ∈ AL, w.before _ s = true := fun w h => hts w (List.mem_cons_of_mem _ h)
  have hown : s.vm.findClass nR_N = some m.cls := findClass_of_methodNamed B.named
  have hlocks := B.notSynchronized
  have hl := lv_entry ([.ref a, .int k, .int z]) (n := 3) (Nat.le_of_ble_eq_true rfl)
  rw [lg_entry_eq]
  generalize (lg_sl ([.ref a, .int k, .int z]) ++ List.replicate (3 - (lg_sl ([.ref a, .int k, .int z])).length) Slot.unset).toArray = ls at hl ⊢
  have hl : lv_has ls 3 [(0, .ref a), (1, .int k), (2, .int z)] := hl
  refine lv_iload_n hx hb d_N_isOf_0 rfl (lv_at hl 1 rfl) ?_
  refine lv_iconst (v := (-1)) hx hb d_N_isOf_1 (by decide) ?_
  refine lv_icmp_eq (tgt := 13) hx hb d_N_isOf_2 (by decide) (fun c_1 => ?_) (fun c_1 => ?_)
  · refine lv_iload_n hx hb d_N_isOf_13 rfl (lv_at hl 2 rfl) ?_
    refine lv_iconst (v := (-1)) hx hb d_N_isOf_14 (by decide) ?_
    refine lv_icmp_eq (tgt := 26) hx hb d_N_isOf_15 (by decide) (fun c_2 => ?_) (fun c_2 => ?_)
    · refine lv_iconst (v := 1) hx hb d_N_isOf_26 (by decide) ?_
      refine lv_goto (tgt := 31) hx hb d_N_isOf_27 (by decide) ?_
      exact W.zret (v := 1) hx hb hr rfl (fun t ht hW => ⟨1, rfl, by simp [c_1, c_2], ht⟩) (fun q h => nomatch h) d_N_isOf_31
    · refine lv_iload_n hx hb d_N_isOf_18 rfl (lv_at hl 2 rfl) ?_
      refine lv_aload_n hx hb d_N_isOf_19 rfl (lv_at hl 0 rfl) ?_
      refine m_get (D := G) (ci := 4) (v := .int sc) (C := nR_N) (T := nT_N) (N := 10) hx hb hta in_N hown hK hM hn rfl 3 (by decide) (hta _ aw_285) (fun _ h9 => h9) rfl d_N_isOf_20 ?_
      refine lv_icmp_ne (tgt := 30) hx hb d_N_isOf_23 (by decide) (fun c_3 => ?_) (fun c_3 => ?_)
      · refine lv_iconst (v := 0) hx hb d_N_isOf_30 (by decide) ?_
        exact W.zret (v := 0) hx hb hr rfl (fun t ht hW => ⟨0, rfl, by simp [c_1, c_2, c_3], ht⟩) (fun q h => nomatch h) d_N_isOf_31
      · refine lv_iconst (v := 1) hx hb d_N_isOf_26 (by decide) ?_
        refine lv_goto (tgt := 31) hx hb d_N_isOf_27 (by decide) ?_
        exact W.zret (v := 1) hx hb hr rfl (fun t ht hW => ⟨1, rfl, by simp [c_1, c_2, c_3], ht⟩) (fun q h => nomatch h) d_N_isOf_31
  · refine lv_iload_n hx hb d_N_isOf_5 rfl (lv_at hl 1 rfl) ?_
    refine lv_aload_n hx hb d_N_isOf_6 rfl (lv_at hl 0 rfl) ?_
    refine m_get (D := G) (ci := 4) (v := .int kd) (C := nR_N) (T := nT_N) (N := 10) hx hb hta in_N hown hK hM hn rfl 2 (by decide) (hta _ aw_283) (fun _ h9 => h9) rfl d_N_isOf_7 ?_
    refine lv_icmp_ne (tgt := 30) hx hb d_N_isOf_10 (by decide) (fun c_4 => ?_) (fun c_4 => ?_)
    · refine lv_iconst (v := 0) hx hb d_N_isOf_30 (by decide) ?_
      exact W.zret (v := 0) hx hb hr rfl (fun t ht hW => ⟨0, rfl, by simp [c_1, c_4], ht⟩) (fun q h => nomatch h) d_N_isOf_31
    · refine lv_iload_n hx hb d_N_isOf_13 rfl (lv_at hl 2 rfl) ?_
      refine lv_iconst (v := (-1)) hx hb d_N_isOf_14 (by decide) ?_
      refine lv_icmp_eq (tgt := 26) hx hb d_N_isOf_15 (by decide) (fun c_5 => ?_) (fun c_5 => ?_)
      · refine lv_iconst (v := 1) hx hb d_N_isOf_26 (by decide) ?_
        refine lv_goto (tgt := 31) hx hb d_N_isOf_27 (by decide) ?_
        exact W.zret (v := 1) hx hb hr rfl (fun t ht hW => ⟨1, rfl, by simp [c_1, c_4, c_5], ht⟩) (fun q h => nomatch h) d_N_isOf_31
      · refine lv_iload_n hx hb d_N_isOf_18 rfl (lv_at hl 2 rfl) ?_
        refine lv_aload_n hx hb d_N_isOf_19 rfl (lv_at hl 0 rfl) ?_
        refine m_get (D := G) (ci := 4) (v := .int sc) (C := nR_N) (T := nT_N) (N := 10) hx hb hta in_N hown hK hM hn rfl 3 (by decide) (hta _ aw_285) (fun _ h9 => h9) rfl d_N_isOf_20 ?_
        refine lv_icmp_ne (tgt := 30) hx hb d_N_isOf_23 (by decide) (fun c_6 => ?_) (fun c_6 => ?_)
        · refine lv_iconst (v := 0) hx hb d_N_isOf_30 (by decide) ?_
          exact W.zret (v := 0) hx hb hr rfl (fun t ht hW => ⟨0, rfl, by simp [c_1, c_4, c_5, c_6], ht⟩) (fun q h => nomatch h) d_N_isOf_31
        · refine lv_iconst (v := 1) hx hb d_N_isOf_26 (by decide) ?_
          refine lv_goto (tgt := 31) hx hb d_N_isOf_27 (by decide) ?_
          exact W.zret (v := 1) hx hb hr rfl (fun t ht hW => ⟨1, rfl, by simp [c_1, c_4, c_5, c_6], ht⟩) (fun q h => nomatch h) d_N_isOf_31
set_option maxHeartbeats 4000000 in
set_option maxRecDepth 100000 in
theorem k_N_isReadingOf (l : Launch) (G : va_G) (tys : List (ClassId × FieldType)) (w : Nat → Option va_E) {a : Nat} {nu wr kd sc se : Int32} {fi la : Nat} {ac co mx : Int32} (hn : w a = some (eN nu wr kd sc se fi la ac co mx)) {fr va z : Int32} {ea : Option Nat} (hs : w la = some (eT fr va z ea)) (k : Int32) : Met l y_N_isReadingOf (wm y_N_isReadingOf c_N_isReadingOf 2 (some .boolean)) ({ frames := 0, cells := 0, slots := 0, locals := 0 }) (pW G tys w [.ref a, .int k]) (vp_Si (fun r => r = if kd = 2 ∧ sc = k ∧ z = 0 then 1 else 0)) 0 0 (fun _ => False) := by
  refine Met.ofW (cc := c_N_isReadingOf) (maxL := 2) (ret := (some .boolean)) (by decide) rfl ?_
  intro p e s m args below meth c s₁ B hml hv
  obtain ⟨rfl, hM, hK⟩ := hv
  have hx := B.exec
  have hb := B.bytes
  have hr := B.returns
  have hts := atoms_spec (ws := (wm y_N_isReadingOf c_N_isReadingOf 2 (some .boolean))) B.pre
  have hta : ∀ w ∈ AL, w.before _ s = true := fun w h => hts w (List.mem_cons_of_mem _ h)
  have hown : s.vm.findClass nR_N = some m.cls := findClass_of_methodNamed B.named
  have hlocks := B.notSynchronized
  have hl := lv_entry ([.ref a, .int k]) (n := 2) (Nat.le_of_ble_eq_true rfl)
  rw [lg_entry_eq]
  generalize (lg_sl ([.ref a, .int k]) ++ List.replicate (2 - (lg_sl ([.ref a, .int k])).length) Slot.unset).toArray = ls at hl ⊢
  have hl : lv_has ls 2 [(0, .ref a), (1, .int k)] := hl
  refine lv_aload_n hx hb d_N_isReadingOf_0 rfl (lv_at hl 0 rfl) ?_
  refine m_get (D := G) (ci := 4) (v := .int kd) (C := nR_N) (T := nT_N) (N := 10) hx hb hta in_N hown hK hM hn rfl 2 (by decide) (hta _ aw_283) (fun _ h9 => h9) rfl d_N_isReadingOf_1 ?_
  refine lv_iconst (v := 2) hx hb d_N_isReadingOf_4 (by decide) ?_
  refine lv_icmp_ne (tgt := 30) hx hb d_N_isReadingOf_5 (by decide) (fun c_1 => ?_) (fun c_1 => ?_)
  · refine lv_iconst (v := 0) hx hb d_N_isReadingOf_30 (by decide) ?_
    exact W.zret (v := 0) hx hb hr rfl (fun t ht hW => ⟨0, rfl, by simp [c_1], ht⟩) (fun q h => nomatch h) d_N_isReadingOf_31
  · refine lv_aload_n hx hb d_N_isReadingOf_8 rfl (lv_at hl 0 rfl) ?_
    refine m_get (D := G) (ci := 4) (v := .int sc) (C := nR_N) (T := nT_N) (N := 10) hx hb hta in_N hown hK hM hn rfl 3 (by decide) (hta _ aw_285) (fun _ h9 => h9) rfl d_N_isReadingOf_9 ?_
    refine lv_iload_n hx hb d_N_isReadingOf_12 rfl (lv_at hl 1 rfl) ?_
    refine lv_icmp_ne (tgt := 30) hx hb d_N_isReadingOf_13 (by decide) (fun c_2 => ?_) (fun c_2 => ?_)
    · refine lv_iconst (v := 0) hx hb d_N_isReadingOf_30 (by decide) ?_
      exact W.zret (v := 0) hx hb hr rfl (fun t ht hW => ⟨0, rfl, by simp [c_1, c_2], ht⟩) (fun q h => nomatch h) d_N_isReadingOf_31
    · refine lv_aload_n hx hb d_N_isReadingOf_16 rfl (lv_at hl 0 rfl) ?_
      refine m_get (D := G) (ci := 4) (v := .ref la) (C := nR_N) (T := nT_N) (N := 10) hx hb hta in_N hown hK hM hn rfl 6 (by decide) (hta _ aw_294) (fun _ h9 => h9) rfl d_N_isReadingOf_17 ?_
      refine m_get (D := G) (ci := 5) (v := .int z) (C := nR_T) (T := nT_T) (N := 4) hx hb hta in_T hown hK hM hs rfl 2 (by decide) (hta _ aw_260) (fun _ h9 => h9) rfl d_N_isReadingOf_20 ?_
      refine lv_if_ne (tgt := 30) hx hb d_N_isReadingOf_23 (by decide) (fun c_3 => ?_) (fun c_3 => ?_)
      · refine lv_iconst (v := 0) hx hb d_N_isReadingOf_30 (by decide) ?_
        exact W.zret (v := 0) hx hb hr rfl (fun t ht hW => ⟨0, rfl, by simp [c_1, c_2, c_3], ht⟩) (fun q h => nomatch h) d_N_isReadingOf_31
      · refine lv_iconst (v := 1) hx hb d_N_isReadingOf_26 (by decide) ?_
        refine lv_goto (tgt := 31) hx hb d_N_isReadingOf_27 (by decide) ?_
        exact W.zret (v := 1) hx hb hr rfl (fun t ht hW => ⟨1, rfl, by simp [c_1, c_2, c_3], ht⟩) (fun q h => nomatch h) d_N_isReadingOf_31
/-- which of two notes stands behind the other in the line -/
def behind (se wr nu se2 wr2 nu2 : Int32) : Prop := if se = se2 then (if wr = wr2 then ¬ nu ≤ nu2 else ¬ wr ≤ wr2) else ¬ se ≤ se2
set_option maxHeartbeats 4000000 in
set_option maxRecDepth 100000 in
theorem k_N_standsBehind (l : Launch) (G : va_G) (tys : List (ClassId × FieldType)) (w : Nat → Option va_E) {a : Nat} {nu wr kd sc se : Int32} {fi la : Nat} {ac co mx : Int32} (hn : w a = some (eN nu wr kd sc se fi la ac co mx)) {b : Nat} {nu2 wr2 kd2 sc2 se2 : Int32} {fi2 la2 : Nat} {ac2 co2 mx2 : Int32} (hn2 : w b = some (eN nu2 wr2 kd2 sc2 se2 fi2 la2 ac2 co2 mx2)) : Met l y_N_standsBehind (wm y_N_standsBehind c_N_standsBehind 2 (some .boolean)) ({ frames := 0, cells := 0, slots := 0, locals := 0 }) (pW G tys w [.ref a, .ref b]) (vp_Si (fun r => (r = 1 ∧ behind se wr nu se2 wr2 nu2) ∨ (r = 0 ∧ ¬ behind se wr nu se2 wr2 nu2))) 0 0 (fun _ => False) := by
  refine Met.ofW (cc := c_N_standsBehind) (maxL := 2) (ret := (some .boolean)) (by decide) rfl ?_
  intro p e s m args below meth c s₁ B hml hv
  obtain ⟨rfl, hM, hK⟩ := hv
  have hx := B.exec
  have hb := B.bytes
  have hr := B.returns
  have hts := atoms_spec (ws := (wm y_N_standsBehind c_N_standsBehind 2 (some .boolean))) B.pre
  have hta : ∀ w ∈ AL, w.before _ s = true := fun w h => hts w (List.mem_cons_of_mem _ h)
  have hown : s.vm.findClass nR_N = some m.cls := findClass_of_methodNamed B.named
  have hlocks := B.notSynchronized
  have hl := lv_entry ([.ref a, .ref b]) (n := 2) (Nat.le_of_ble_eq_true rfl)
  rw [lg_entry_eq]
  generalize (lg_sl ([.ref a, .ref b]) ++ List.replicate (2 - (lg_sl ([.ref a, .ref b])).length) Slot.unset).toArray = ls at hl ⊢
  have hl : lv_has ls 2 [(0, .ref a), (1, .ref b)] := hl
  refine lv_aload_n hx hb d_N_standsBehind_0 rfl (lv_at hl 0 rfl) ?_
  refine m_get (D := G) (ci := 4) (v := .int se) (C := nR_N) (T := nT_N) (N := 10) hx hb hta in_N hown hK hM hn rfl 4 (by decide) (hta _ aw_287) (fun _ h9 => h9) rfl d_N_standsBehind_1 ?_
  refine lv_aload_n hx hb d_N_standsBehind_4 rfl (lv_at hl 1 rfl) ?_
  refine m_get (D := G) (ci := 4) (v := .int se2) (C := nR_N) (T := nT_N) (N := 10) hx hb hta in_N hown hK hM hn2 rfl 4 (by decide) (hta _ aw_287) (fun _ h9 => h9) rfl d_N_standsBehind_5 ?_
  refine lv_icmp_eq (tgt := 28) hx hb d_N_standsBehind_8 (by decide) (fun c_1 => ?_) (fun c_1 => ?_)
  · refine lv_aload_n hx hb d_N_standsBehind_28 rfl (lv_at hl 0 rfl) ?_
    refine m_get (D := G) (ci := 4) (v := .int wr) (C := nR_N) (T := nT_N) (N := 10) hx hb hta in_N hown hK hM hn rfl 1 (by decide) (hta _ aw_280) (fun _ h9 => h9) rfl d_N_standsBehind_29 ?_
    refine lv_aload_n hx hb d_N_standsBehind_32 rfl (lv_at hl 1 rfl) ?_
    refine m_get (D := G) (ci := 4) (v := .int wr2) (C := nR_N) (T := nT_N) (N := 10) hx hb hta in_N hown hK hM hn2 rfl 1 (by decide) (hta _ aw_280) (fun _ h9 => h9) rfl d_N_standsBehind_33 ?_
    refine lv_icmp_eq (tgt := 56) hx hb d_N_standsBehind_36 (by decide) (fun c_2 => ?_) (fun c_2 => ?_)
    · refine lv_aload_n hx hb d_N_standsBehind_56 rfl (lv_at hl 0 rfl) ?_
      refine m_get (D := G) (ci := 4) (v := .int nu) (C := nR_N) (T := nT_N) (N := 10) hx hb hta in_N hown hK hM hn rfl 0 (by decide) (hta _ aw_278) (fun _ h9 => h9) rfl d_N_standsBehind_57 ?_
      refine lv_aload_n hx hb d_N_standsBehind_60 rfl (lv_at hl 1 rfl) ?_
      refine m_get (D := G) (ci := 4) (v := .int nu2) (C := nR_N) (T := nT_N) (N := 10) hx hb hta in_N hown hK hM hn2 rfl 0 (by decide) (hta _ aw_278) (fun _ h9 => h9) rfl d_N_standsBehind_61 ?_
      refine lv_icmp_le (tgt := 71) hx hb d_N_standsBehind_64 (by decide) (fun c_3 => ?_) (fun c_3 => ?_)
      · refine lv_iconst (v := 0) hx hb d_N_standsBehind_71 (by decide) ?_
        exact W.zret (v := 0) hx hb hr rfl (fun t ht hW => ⟨0, rfl, by simp [behind, c_1, c_2, c_3], ht⟩) (fun q h => nomatch h) d_N_standsBehind_72
      · refine lv_iconst (v := 1) hx hb d_N_standsBehind_67 (by decide) ?_
        refine lv_goto (tgt := 72) hx hb d_N_standsBehind_68 (by decide) ?_
        exact W.zret (v := 1) hx hb hr rfl (fun t ht hW => ⟨1, rfl, by simp [behind, c_1, c_2, c_3], ht⟩) (fun q h => nomatch h) d_N_standsBehind_72
    · refine lv_aload_n hx hb d_N_standsBehind_39 rfl (lv_at hl 0 rfl) ?_
      refine m_get (D := G) (ci := 4) (v := .int wr) (C := nR_N) (T := nT_N) (N := 10) hx hb hta in_N hown hK hM hn rfl 1 (by decide) (hta _ aw_280) (fun _ h9 => h9) rfl d_N_standsBehind_40 ?_
      refine lv_aload_n hx hb d_N_standsBehind_43 rfl (lv_at hl 1 rfl) ?_
      refine m_get (D := G) (ci := 4) (v := .int wr2) (C := nR_N) (T := nT_N) (N := 10) hx hb hta in_N hown hK hM hn2 rfl 1 (by decide) (hta _ aw_280) (fun _ h9 => h9) rfl d_N_standsBehind_44 ?_
      refine lv_icmp_le (tgt := 54) hx hb d_N_standsBehind_47 (by decide) (fun c_4 => ?_) (fun c_4 => ?_)
      · refine lv_iconst (v := 0) hx hb d_N_standsBehind_54 (by decide) ?_
        exact W.zret (v := 0) hx hb hr rfl (fun t ht hW => ⟨0, rfl, by simp [behind, c_1, c_2, c_4], ht⟩) (fun q h => nomatch h) d_N_standsBehind_55
      · refine lv_iconst (v := 1) hx hb d_N_standsBehind_50 (by decide) ?_
        refine lv_goto (tgt := 55) hx hb d_N_standsBehind_51 (by decide) ?_
        exact W.zret (v := 1) hx hb hr rfl (fun t ht hW => ⟨1, rfl, by simp [behind, c_1, c_2, c_4], ht⟩) (fun q h => nomatch h) d_N_standsBehind_55
  · refine lv_aload_n hx hb d_N_standsBehind_11 rfl (lv_at hl 0 rfl) ?_
    refine m_get (D := G) (ci := 4) (v := .int se) (C := nR_N) (T := nT_N) (N := 10) hx hb hta in_N hown hK hM hn rfl 4 (by decide) (hta _ aw_287) (fun _ h9 => h9) rfl d_N_standsBehind_12 ?_
    refine lv_aload_n hx hb d_N_standsBehind_15 rfl (lv_at hl 1 rfl) ?_
    refine m_get (D := G) (ci := 4) (v := .int se2) (C := nR_N) (T := nT_N) (N := 10) hx hb hta in_N hown hK hM hn2 rfl 4 (by decide) (hta _ aw_287) (fun _ h9 => h9) rfl d_N_standsBehind_16 ?_
    refine lv_icmp_le (tgt := 26) hx hb d_N_standsBehind_19 (by decide) (fun c_5 => ?_) (fun c_5 => ?_)
    · refine lv_iconst (v := 0) hx hb d_N_standsBehind_26 (by decide) ?_
      exact W.zret (v := 0) hx hb hr rfl (fun t ht hW => ⟨0, rfl, by simp [behind, c_1, c_5], ht⟩) (fun q h => nomatch h) d_N_standsBehind_27
    · refine lv_iconst (v := 1) hx hb d_N_standsBehind_22 (by decide) ?_
      refine lv_goto (tgt := 27) hx hb d_N_standsBehind_23 (by decide) ?_
      exact W.zret (v := 1) hx hb hr rfl (fun t ht hW => ⟨1, rfl, by simp [behind, c_1, c_5], ht⟩) (fun q h => nomatch h) d_N_standsBehind_27
set_option maxHeartbeats 4000000 in
set_option maxRecDepth 100000 in
theorem k_X_isWriter (l : Launch) (G : va_G) (tys : List (ClassId × FieldType)) (w : Nat → Option va_E) {x ln qu sh : Nat} {se wr ac : Int32} (hx0 : w x = some (eX ln qu sh se wr ac)) (k : Int32) : Met l y_X_isWriter (wm y_X_isWriter c_X_isWriter 2 (some .boolean)) ({ frames := 0, cells := 0, slots := 0, locals := 0 }) (pW G tys w [.ref x, .int k]) (vp_Si (fun r => r = if ¬ k < 0 ∧ ¬ wr ≤ k then 1 else 0)) 0 0 (fun _ => False) := by
  refine Met.ofW (cc := c_X_isWriter) (maxL := 2) (ret := (some .boolean)) (by decide) rfl ?_
  intro p e s m args below meth c s₁ B hml hv
  obtain ⟨rfl, hM, hK⟩ := hv
  have hx := B.exec
  have hb := B.bytes
  have hr := B.returns
  have hts := atoms_spec (ws := (wm y_X_isWriter c_X_isWriter 2 (some .boolean))) B.pre
  have hta : ∀ w ∈ AL, w.before _ s = true := fun w h => hts w (List.mem_cons_of_mem _ h)
  have hown : s.vm.findClass nR_X = some m.cls := findClass_of_methodNamed B.named
  have hlocks := B.notSynchronized
  have hl := lv_entry ([.ref x, .int k]) (n := 2) (Nat.le_of_ble_eq_true rfl)
  rw [lg_entry_eq]
  generalize (lg_sl ([.ref x, .int k]) ++ List.replicate (2 - (lg_sl ([.ref x, .int k])).length) Slot.unset).toArray = ls at hl ⊢
  have hl : lv_has ls 2 [(0, .ref x), (1, .int k)] := hl
  refine lv_iload_n hx hb d_X_isWriter_0 rfl (lv_at hl 1 rfl) ?_
  refine lv_if_lt (tgt := 16) hx hb d_X_isWriter_1 (by decide) (fun c_1 => ?_) (fun c_1 => ?_)
  · refine lv_iconst (v := 0) hx hb d_X_isWriter_16 (by decide) ?_
    exact W.zret (v := 0) hx hb hr rfl (fun t ht hW => ⟨0, rfl, by simp [c_1], ht⟩) (fun q h => nomatch h) d_X_isWriter_17
  · refine lv_iload_n hx hb d_X_isWriter_4 rfl (lv_at hl 1 rfl) ?_
    refine lv_aload_n hx hb d_X_isWriter_5 rfl (lv_at hl 0 rfl) ?_
    refine m_get (D := G) (ci := 0) (v := .int wr) (C := nR_X) (T := nT_X) (N := 6) hx hb hta in_X hown hK hM hx0 rfl 4 (by decide) (hta _ aw_89) (fun _ h9 => h9) rfl d_X_isWriter_6 ?_
    refine lv_icmp_ge (tgt := 16) hx hb d_X_isWriter_9 (by decide) (fun c_2 => ?_) (fun c_2 => ?_)
    · refine lv_iconst (v := 0) hx hb d_X_isWriter_16 (by decide) ?_
      exact W.zret (v := 0) hx hb hr rfl (fun t ht hW => ⟨0, rfl, by simp [c_1, c_2], ht⟩) (fun q h => nomatch h) d_X_isWriter_17
    · refine lv_iconst (v := 1) hx hb d_X_isWriter_12 (by decide) ?_
      refine lv_goto (tgt := 17) hx hb d_X_isWriter_13 (by decide) ?_
      exact W.zret (v := 1) hx hb hr rfl (fun t ht hW => ⟨1, rfl, by simp [c_1, c_2], ht⟩) (fun q h => nomatch h) d_X_isWriter_17
set_option maxHeartbeats 4000000 in
set_option maxRecDepth 100000 in
theorem k_X_hasCome (l : Launch) (G : va_G) (tys : List (ClassId × FieldType)) (w : Nat → Option va_E) {x ln qu sh : Nat} {se wr ac : Int32} (hx0 : w x = some (eX ln qu sh se wr ac)) (k : Int32) : Met l y_X_hasCome (wm y_X_hasCome c_X_hasCome 2 (some .boolean)) ({ frames := 0, cells := 0, slots := 0, locals := 0 }) (pW G tys w [.ref x, .int k]) (vp_Si (fun r => r = if ¬ k < 0 ∧ ¬ se < k then 1 else 0)) 0 0 (fun _ => False) := by
  refine Met.ofW (cc := c_X_hasCome) (maxL := 2) (ret := (some .boolean)) (by decide) rfl ?_
  intro p e s m args below meth c s₁ B hml hv
  obtain ⟨rfl, hM, hK⟩ := hv
  have hx := B.exec
  have hb := B.bytes
  have hr := B.returns
  have hts := atoms_spec (ws := (wm y_X_hasCome c_X_hasCome 2 (some .boolean))) B.pre
  have hta : ∀ w ∈ AL, w.before _ s = true := fun w h => hts w (List.mem_cons_of_mem _ h)
  have hown : s.vm.findClass nR_X = some m.cls := findClass_of_methodNamed B.named
  have hlocks := B.notSynchronized
  have hl := lv_entry ([.ref x, .int k]) (n := 2) (Nat.le_of_ble_eq_true rfl)
  rw [lg_entry_eq]
  generalize (lg_sl ([.ref x, .int k]) ++ List.replicate (2 - (lg_sl ([.ref x, .int k])).length) Slot.unset).toArray = ls at hl ⊢
  have hl : lv_has ls 2 [(0, .ref x), (1, .int k)] := hl
  refine lv_iload_n hx hb d_X_hasCome_0 rfl (lv_at hl 1 rfl) ?_
  refine lv_if_lt (tgt := 16) hx hb d_X_hasCome_1 (by decide) (fun c_1 => ?_) (fun c_1 => ?_)
  · refine lv_iconst (v := 0) hx hb d_X_hasCome_16 (by decide) ?_
    exact W.zret (v := 0) hx hb hr rfl (fun t ht hW => ⟨0, rfl, by simp [c_1], ht⟩) (fun q h => nomatch h) d_X_hasCome_17
  · refine lv_iload_n hx hb d_X_hasCome_4 rfl (lv_at hl 1 rfl) ?_
    refine lv_aload_n hx hb d_X_hasCome_5 rfl (lv_at hl 0 rfl) ?_
    refine m_get (D := G) (ci := 0) (v := .int se) (C := nR_X) (T := nT_X) (N := 6) hx hb hta in_X hown hK hM hx0 rfl 3 (by decide) (hta _ aw_88) (fun _ h9 => h9) rfl d_X_hasCome_6 ?_
    refine lv_icmp_gt (tgt := 16) hx hb d_X_hasCome_9 (by decide) (fun c_2 => ?_) (fun c_2 => ?_)
    · refine lv_iconst (v := 0) hx hb d_X_hasCome_16 (by decide) ?_
      exact W.zret (v := 0) hx hb hr rfl (fun t ht hW => ⟨0, rfl, by simp [c_1, c_2], ht⟩) (fun q h => nomatch h) d_X_hasCome_17
    · refine lv_iconst (v := 1) hx hb d_X_hasCome_12 (by decide) ?_
      refine lv_goto (tgt := 17) hx hb d_X_hasCome_13 (by decide) ?_
      exact W.zret (v := 1) hx hb hr rfl (fun t ht hW => ⟨1, rfl, by simp [c_1, c_2], ht⟩) (fun q h => nomatch h) d_X_hasCome_17
end
section
/-! readers with loops: a note at a second, the line -/
/-- a note's states, the latest first: where they lie, from when, value, struck -/
abbrev cS4 : Type := Nat × Int32 × Int32 × Int32
def ch (w : Nat → Option va_E) : List cS4 → Prop
  | [] => True
  | c :: r => w c.1 = some (eT c.2.1 c.2.2.1 c.2.2.2 (r.head?.map Prod.fst)) ∧ ch w r
def stAt (k : Int32) : List cS4 → cS4
  | [] => (0, 0, 0, 0)
  | [c] => c
  | c :: d :: r => if c.2.1 ≤ k then c else stAt k (d :: r)
set_option maxHeartbeats 4000000 in
set_option maxRecDepth 100000 in
theorem k_N_stateAt (l : Launch) (G : va_G) (tys : List (ClassId × FieldType)) (w : Nat → Option va_E) {a : Nat} {nu wr kd sc se : Int32} {fi la : Nat} {ac co mx : Int32} (hn : w a = some (eN nu wr kd sc se fi la ac co mx)) (k : Int32) {cf cv cz : Int32} {cr : List cS4} (hc : ch w ((la, cf, cv, cz) :: cr)) : Met l y_N_stateAt (wm y_N_stateAt c_N_stateAt 3 (some (.object "SceneTimes$State"))) ({ frames := 0, cells := 0, slots := 0, locals := 0 }) (pW G tys w [.ref a, .int k]) (va_Sq (fun r => r = some (stAt k ((la, cf, cv, cz) :: cr)).1)) 0 0 (fun _ => False) := by
  refine Met.ofW (cc := c_N_stateAt) (maxL := 3) (ret := (some (.object "SceneTimes$State"))) (by decide) rfl ?_
  intro p e s m args below meth c s₁ B hml hv
  obtain ⟨rfl, hM, hK⟩ := hv
  have hx := B.exec
  have hb := B.bytes
  have hr := B.returns
  have hts := atoms_spec (ws := (wm y_N_stateAt c_N_stateAt 3 (some (.object "SceneTimes$State")))) B.pre
  have hta : ∀ w ∈ AL, w.before _ s = true := fun w h => hts w (List.mem_cons_of_mem _ h)
  have hown : s.vm.findClass nR_N = some m.cls := findClass_of_methodNamed B.named
  have hlocks := B.notSynchronized
  have hl := lv_entry ([.ref a, .int k]) (n := 3) (Nat.le_of_ble_eq_true rfl)
  rw [lg_entry_eq]
  generalize (lg_sl ([.ref a, .int k]) ++ List.replicate (3 - (lg_sl ([.ref a, .int k])).length) Slot.unset).toArray = ls at hl ⊢
  have hl : lv_has ls 3 [(0, .ref a), (1, .int k)] := hl
  have loop : ∀ (r : List cS4) (b : Nat) (f v z : Int32) (ls : Array Slot), ch w ((b, f, v, z) :: r) → stAt k ((b, f, v, z) :: r) = stAt k ((la, cf, cv, cz) :: cr) → lv_has ls 3 [(0, .ref a), (1, .int k), (2, .ref b)] → W p l e (headSpec (wm y_N_stateAt c_N_stateAt 3 (some (.object "SceneTimes$State"))) ({ frames := 0, cells := 0, slots := 0, locals := 0 })).room s m ([.ref a, .int k] : List Value).toArray below meth c s.heap [] 0 0 (MQ below (va_Sq (fun r => r = some (stAt k ((la, cf, cv, cz) :: cr)).1)) ([.ref a, .int k] : List Value).toArray s 0 0 (fun _ => False)) (F0 m 5 ls []) := by
    intro r
    induction r with
    | nil =>
      intro b f v z ls hb2 hst hl
      have hs := hb2.1
      refine lv_aload_n hx hb d_N_stateAt_5 rfl (lv_at hl 2 rfl) ?_
      refine m_get (D := G) (ci := 5) (v := .int f) (C := nR_T) (T := nT_T) (N := 4) hx hb hta in_T hown hK hM hs rfl 0 (by decide) (hta _ aw_252) (fun _ h9 => h9) rfl d_N_stateAt_6 ?_
      refine lv_iload_n hx hb d_N_stateAt_9 rfl (lv_at hl 1 rfl) ?_
      refine lv_icmp_le (tgt := 28) hx hb d_N_stateAt_10 (by decide) (fun c_1 => ?_) (fun c_1 => ?_)
      · refine lv_aload_n hx hb d_N_stateAt_28 rfl (lv_at hl 2 rfl) ?_
        exact W.aret (v := .ref b) (rt := .object "SceneTimes$State") hx hb hr (Or.inl ⟨_, rfl⟩) (Or.inr ⟨_, rfl⟩) (fun t ht hW => ⟨some b, rfl, by rw [← hst]; simp [stAt, c_1], ht⟩) (fun q h => nomatch h) d_N_stateAt_29
      · refine lv_aload_n hx hb d_N_stateAt_13 rfl (lv_at hl 2 rfl) ?_
        refine m_get (D := G) (ci := 5) (v := .null) (C := nR_T) (T := nT_T) (N := 4) hx hb hta in_T hown hK hM hs rfl 3 (by decide) (hta _ aw_265) (fun _ h9 => h9) rfl d_N_stateAt_14 ?_
        refine lv_ifnullN (tgt := 28) hx hb d_N_stateAt_17 (by decide) ?_
        refine lv_aload_n hx hb d_N_stateAt_28 rfl (lv_at hl 2 rfl) ?_
        exact W.aret (v := .ref b) (rt := .object "SceneTimes$State") hx hb hr (Or.inl ⟨_, rfl⟩) (Or.inr ⟨_, rfl⟩) (fun t ht hW => ⟨some b, rfl, by rw [← hst]; simp [stAt, c_1], ht⟩) (fun q h => nomatch h) d_N_stateAt_29
    | cons d r ih =>
      intro b f v z ls hb2 hst hl
      have hs := hb2.1
      refine lv_aload_n hx hb d_N_stateAt_5 rfl (lv_at hl 2 rfl) ?_
      refine m_get (D := G) (ci := 5) (v := .int f) (C := nR_T) (T := nT_T) (N := 4) hx hb hta in_T hown hK hM hs rfl 0 (by decide) (hta _ aw_252) (fun _ h9 => h9) rfl d_N_stateAt_6 ?_
      refine lv_iload_n hx hb d_N_stateAt_9 rfl (lv_at hl 1 rfl) ?_
      refine lv_icmp_le (tgt := 28) hx hb d_N_stateAt_10 (by decide) (fun c_2 => ?_) (fun c_2 => ?_)
      · refine lv_aload_n hx hb d_N_stateAt_28 rfl (lv_at hl 2 rfl) ?_
        exact W.aret (v := .ref b) (rt := .object "SceneTimes$State") hx hb hr (Or.inl ⟨_, rfl⟩) (Or.inr ⟨_, rfl⟩) (fun t ht hW => ⟨some b, rfl, by rw [← hst]; simp [stAt, c_2], ht⟩) (fun q h => nomatch h) d_N_stateAt_29
      · refine lv_aload_n hx hb d_N_stateAt_13 rfl (lv_at hl 2 rfl) ?_
        refine m_get (D := G) (ci := 5) (v := .ref d.1) (C := nR_T) (T := nT_T) (N := 4) hx hb hta in_T hown hK hM hs rfl 3 (by decide) (hta _ aw_265) (fun _ h9 => h9) rfl d_N_stateAt_14 ?_
        refine lv_ifnull hx hb d_N_stateAt_17 ?_
        refine lv_aload_n hx hb d_N_stateAt_20 rfl (lv_at hl 2 rfl) ?_
        refine m_get (D := G) (ci := 5) (v := .ref d.1) (C := nR_T) (T := nT_T) (N := 4) hx hb hta in_T hown hK hM hs rfl 3 (by decide) (hta _ aw_265) (fun _ h9 => h9) rfl d_N_stateAt_21 ?_
        refine lv_astore_n (lv' := [(2, .ref d.1), (0, .ref a), (1, .int k)]) hx hb d_N_stateAt_24 rfl hl (by decide) rfl (fun ls hl => ?_)
        refine lv_goto (tgt := 5) hx hb d_N_stateAt_25 (by decide) ?_
        exact ih d.1 d.2.1 d.2.2.1 d.2.2.2 ls hb2.2 (by rw [← hst]; simp [stAt, c_2]) (lv_sub hl [1, 2, 0] rfl)
  refine lv_aload_n hx hb d_N_stateAt_0 rfl (lv_at hl 0 rfl) ?_
  refine m_get (D := G) (ci := 4) (v := .ref la) (C := nR_N) (T := nT_N) (N := 10) hx hb hta in_N hown hK hM hn rfl 6 (by decide) (hta _ aw_294) (fun _ h9 => h9) rfl d_N_stateAt_1 ?_
  refine lv_astore_n (lv' := [(2, .ref la), (0, .ref a), (1, .int k)]) hx hb d_N_stateAt_4 rfl hl (by decide) rfl (fun ls hl => ?_)
  exact loop cr la cf cv cz ls hc rfl (lv_sub hl [1, 2, 0] rfl)
end
section
/-! the line: a note by what is written in it, the searches -/
theorem i_m1 (x : Int32) : x + (-1) = x - 1 := by rw [Int32.sub_eq_add_neg]
abbrev nV : Type := Nat × (Int32 × Int32 × Int32 × Int32 × Int32) × Nat × (Int32 × Int32 × Int32) × List cS4
def nA (v : nV) : Nat := v.1
def nN (v : nV) : Int32 := v.2.1.1
def nW (v : nV) : Int32 := v.2.1.2.1
def nK (v : nV) : Int32 := v.2.1.2.2.1
def nS (v : nV) : Int32 := v.2.1.2.2.2.1
def nT (v : nV) : Int32 := v.2.1.2.2.2.2
def nF (v : nV) : Nat := v.2.2.1
def nAc (v : nV) : Int32 := v.2.2.2.1.1
def nCo (v : nV) : Int32 := v.2.2.2.1.2.1
def nMx (v : nV) : Int32 := v.2.2.2.1.2.2
def nC (v : nV) : List cS4 := v.2.2.2.2
def hd (c : List cS4) : cS4 := c.headD (0, 0, 0, 0)
def okN (w : Nat → Option va_E) (v : nV) : Prop := nC v ≠ [] ∧ w (nA v) = some (eN (nN v) (nW v) (nK v) (nS v) (nT v) (nF v) (hd (nC v)).1 (nAc v) (nCo v) (nMx v)) ∧ ch w (nC v)
theorem okN_s {w : Nat → Option va_E} {v : nV} (h : okN w v) : w (hd (nC v)).1 = some (eT (hd (nC v)).2.1 (hd (nC v)).2.2.1 (hd (nC v)).2.2.2 ((nC v).tail.head?.map Prod.fst)) := by
  obtain ⟨h1, -, h3⟩ := h
  cases hc : nC v with
  | nil => exact absurd hc h1
  | cons c r => rw [hc] at h3; exact h3.1
theorem okN_c {w : Nat → Option va_E} {v : nV} (h : okN w v) : nC v = ((hd (nC v)).1, (hd (nC v)).2.1, (hd (nC v)).2.2.1, (hd (nC v)).2.2.2) :: (nC v).tail := by
  cases hc : nC v with
  | nil => exact absurd hc h.1
  | cons c r => rfl
def lastP (P : Nat → Bool) : Nat → Option Nat
  | 0 => none
  | i + 1 => if P i = true then some i else lastP P i
def firstP (P : Nat → Bool) : Nat → Nat → Option Nat
  | 0, _ => none
  | m + 1, i => if P i = true then some i else firstP P m (i + 1)
def cntP (P : Nat → Bool) : Nat → Nat
  | 0 => 0
  | i + 1 => cntP P i + (if P i = true then 1 else 0)
theorem cntP_le (P : Nat → Bool) (n : Nat) : cntP P n ≤ n := by
  induction n with
  | zero => exact Nat.le_refl 0
  | succ n ih => unfold cntP; split <;> omega
def isRd (k : Int32) (v : nV) : Bool := decide (nK v = 2 ∧ nS v = k ∧ (hd (nC v)).2.2.2 = 0)
theorem okN_n {w : Nat → Option va_E} {v : nV} (h : okN w v) : w (nA v) = some (eN (nN v) (nW v) (nK v) (nS v) (nT v) (nF v) (hd (nC v)).1 (nAc v) (nCo v) (nMx v)) := h.2.1
theorem lp_t {k t r : Int32} {v : nV} (h1 : ¬ t < nT v) (h2 : r = if nK v = 2 ∧ nS v = k ∧ (hd (nC v)).2.2.2 = 0 then 1 else 0) (h3 : ¬ r = 0) : (decide (¬ t < nT v) && isRd k v) = true := by
  have h4 : nK v = 2 ∧ nS v = k ∧ (hd (nC v)).2.2.2 = 0 := by
    by_cases h : nK v = 2 ∧ nS v = k ∧ (hd (nC v)).2.2.2 = 0
    · exact h
    · rw [if_neg h] at h2; exact absurd h2 h3
  simp [isRd, h1, h4]
theorem lp_f1 {k t : Int32} {v : nV} (h1 : t < nT v) : ¬ (decide (¬ t < nT v) && isRd k v) = true := by simp [h1]
theorem rd_0 {k r : Int32} {v : nV} (h2 : r = if nK v = 2 ∧ nS v = k ∧ (hd (nC v)).2.2.2 = 0 then 1 else 0) (h3 : r = 0) : isRd k v = false := by
  by_cases h : nK v = 2 ∧ nS v = k ∧ (hd (nC v)).2.2.2 = 0
  · rw [if_pos h, h3] at h2; exact absurd h2 (by decide)
  · exact decide_eq_false h
theorem lp_f2 {b : Bool} {k r : Int32} {v : nV} (h2 : r = if nK v = 2 ∧ nS v = k ∧ (hd (nC v)).2.2.2 = 0 then 1 else 0) (h3 : r = 0) : ¬ (b && isRd k v) = true := by
  rw [rd_0 h2 h3]; simp
theorem lp_t' {k t r : Int32} {v : nV} (h1 : ¬ nT v < t) (h2 : r = if nK v = 2 ∧ nS v = k ∧ (hd (nC v)).2.2.2 = 0 then 1 else 0) (h3 : ¬ r = 0) : (decide (¬ nT v < t) && isRd k v) = true := by
  have h4 : nK v = 2 ∧ nS v = k ∧ (hd (nC v)).2.2.2 = 0 := by
    by_cases h : nK v = 2 ∧ nS v = k ∧ (hd (nC v)).2.2.2 = 0
    · exact h
    · rw [if_neg h] at h2; exact absurd h2 h3
  simp [isRd, h1, h4]
theorem lp_f1' {k t : Int32} {v : nV} (h1 : nT v < t) : ¬ (decide (¬ nT v < t) && isRd k v) = true := by simp [h1]
set_option maxHeartbeats 4000000 in
set_option maxRecDepth 100000 in
theorem k_L_lastReadingUpTo (l : Launch) (G : va_G) (cN : ClassId) (ty2 : List (ClassId × FieldType)) (w : Nat → Option va_E) {ln bn io n : Nat} (hn : n ≤ 100) (hL : w ln = some (eL bn io (nI n))) {fi : Nat → Option Nat} (hio : w io = some (aQ cN 100 fi)) {v : Nat → nV} (hfi : ∀ i, i < n → fi i = some (nA (v i))) (hok : ∀ i, i < n → okN w (v i)) (k t : Int32) : Met l y_L_lastReadingUpTo (wm y_L_lastReadingUpTo c_L_lastReadingUpTo 4 (some (.object "SceneTimes$Note"))) ({ frames := 1, cells := 0, slots := 0, locals := 21 }) (pW G ((cN, .object nR_N) :: ty2) w [.ref ln, .int k, .int t]) (va_Sq (fun r => r = (lastP (fun i => decide (¬ t < nT (v i)) && isRd k (v i)) n).map (fun i => nA (v i)))) 0 0 (fun _ => False) := by
  refine Met.ofW (cc := c_L_lastReadingUpTo) (maxL := 4) (ret := (some (.object "SceneTimes$Note"))) (by decide) rfl ?_
  intro p e s m args below meth c s₁ B hml hv
  obtain ⟨rfl, hM, hK⟩ := hv
  have hx := B.exec
  have hb := B.bytes
  have hr := B.returns
  have hts := atoms_spec (ws := (wm y_L_lastReadingUpTo c_L_lastReadingUpTo 4 (some (.object "SceneTimes$Note")))) B.pre
  have hta : ∀ w ∈ AL, w.before _ s = true := fun w h => hts w (List.mem_cons_of_mem _ h)
  have hown : s.vm.findClass nR_L = some m.cls := findClass_of_methodNamed B.named
  have hlocks := B.notSynchronized
  have hl := lv_entry ([.ref ln, .int k, .int t]) (n := 4) (Nat.le_of_ble_eq_true rfl)
  rw [lg_entry_eq]
  generalize (lg_sl ([.ref ln, .int k, .int t]) ++ List.replicate (4 - (lg_sl ([.ref ln, .int k, .int t])).length) Slot.unset).toArray = ls at hl ⊢
  have hl : lv_has ls 4 [(0, .ref ln), (1, .int k), (2, .int t)] := hl
  have loop : ∀ (i : Nat) (x3 : Int32) (ls : Array Slot), i ≤ n → x3 = nI i - 1 → lastP (fun i => decide (¬ t < nT (v i)) && isRd k (v i)) i = lastP (fun i => decide (¬ t < nT (v i)) && isRd k (v i)) n → lv_has ls 4 [(0, .ref ln), (1, .int k), (2, .int t), (3, .int x3)] → W p l e (headSpec (wm y_L_lastReadingUpTo c_L_lastReadingUpTo 4 (some (.object "SceneTimes$Note"))) ({ frames := 1, cells := 0, slots := 0, locals := 21 })).room s m ([.ref ln, .int k, .int t] : List Value).toArray below meth c s.heap [] 0 0 (MQ below (va_Sq (fun r => r = (lastP (fun i => decide (¬ t < nT (v i)) && isRd k (v i)) n).map (fun i => nA (v i)))) ([.ref ln, .int k, .int t] : List Value).toArray s 0 0 (fun _ => False)) (F0 m 7 ls []) := by
    intro i
    induction i with
    | zero =>
      intro x3 ls hi e3 hst hl
      refine lv_iload_n hx hb d_L_lastReadingUpTo_7 rfl (lv_at hl 3 rfl) ?_
      refine lv_if_lt (tgt := 50) hx hb d_L_lastReadingUpTo_8 (by decide) (fun c_1 => ?_) (fun c_1 => absurd (by rw [e3]; decide) c_1)
      refine lv_null hx hb d_L_lastReadingUpTo_50 ?_
      exact W.aret (v := .null) (rt := .object "SceneTimes$Note") hx hb hr (Or.inl ⟨_, rfl⟩) (Or.inl rfl) (fun t ht hW => ⟨none, rfl, by rw [← hst]; rfl, ht⟩) (fun q h => nomatch h) d_L_lastReadingUpTo_51
    | succ i ih =>
      intro x3 ls hi e3 hst hl
      rw [nI_pred] at e3
      have hv := hok i (by omega)
      refine lv_iload_n hx hb d_L_lastReadingUpTo_7 rfl (lv_at hl 3 rfl) ?_
      refine lv_if_lt (tgt := 50) hx hb d_L_lastReadingUpTo_8 (by decide) (fun c_2 => absurd c_2 (by rw [e3]; exact nI_pos (by omega))) (fun c_2 => ?_)
      refine lv_aload_n hx hb d_L_lastReadingUpTo_11 rfl (lv_at hl 0 rfl) ?_
      refine m_get (D := G) (ci := 1) (v := .ref io) (C := nR_L) (T := nT_L) (N := 3) hx hb hta in_L hown hK hM hL rfl 1 (by decide) (hta _ aw_34) (fun _ h9 => h9) rfl d_L_lastReadingUpTo_12 ?_
      refine lv_iload_n hx hb d_L_lastReadingUpTo_15 rfl (lv_at hl 3 rfl) ?_
      refine m_aald hx hb hK hM 0 hio rfl (by rw [e3]; exact vp_in_nI (by omega) (by omega)) (v := .ref (nA (v i))) (by rw [e3, nI_clamp (by omega), hfi i (by omega)]; rfl) d_L_lastReadingUpTo_16 ?_
      refine m_get (D := G) (ci := 4) (v := .int (nT (v i))) (C := nR_N) (T := nT_N) (N := 10) hx hb hta in_N hown hK hM hv.2.1 rfl 4 (by decide) (hta _ aw_289) (fun _ h9 => h9) rfl d_L_lastReadingUpTo_17 ?_
      refine lv_iload_n hx hb d_L_lastReadingUpTo_20 rfl (lv_at hl 2 rfl) ?_
      refine lv_icmp_gt (tgt := 44) hx hb d_L_lastReadingUpTo_21 (by decide) (fun c_3 => ?_) (fun c_3 => ?_)
      · obtain ⟨x_4, ex_4⟩ : ∃ y : Int32, y = x3 + (-1) := ⟨_, rfl⟩
        refine lv_iinc (v := x_4) (lv' := [(3, .int x_4), (0, .ref ln), (1, .int k), (2, .int t)]) hx hb d_L_lastReadingUpTo_44 hl (k := 3) rfl (by rw [ex_4]; rfl) (by decide) rfl (fun ls hl => ?_)
        refine lv_goto (tgt := 7) hx hb d_L_lastReadingUpTo_47 (by decide) ?_
        exact ih x_4 ls (by omega) (by rw [ex_4, e3, i_m1]) (by rw [← hst, lastP, if_neg (lp_f1 c_3)]) (lv_sub hl [1, 2, 3, 0] rfl)
      · refine lv_aload_n hx hb d_L_lastReadingUpTo_24 rfl (lv_at hl 0 rfl) ?_
        refine m_get (D := G) (ci := 1) (v := .ref io) (C := nR_L) (T := nT_L) (N := 3) hx hb hta in_L hown hK hM hL rfl 1 (by decide) (hta _ aw_34) (fun _ h9 => h9) rfl d_L_lastReadingUpTo_25 ?_
        refine lv_iload_n hx hb d_L_lastReadingUpTo_28 rfl (lv_at hl 3 rfl) ?_
        refine m_aald hx hb hK hM 0 hio rfl (by rw [e3]; exact vp_in_nI (by omega) (by omega)) (v := .ref (nA (v i))) (by rw [e3, nI_clamp (by omega), hfi i (by omega)]; rfl) d_L_lastReadingUpTo_29 ?_
        refine lv_iload_n hx hb d_L_lastReadingUpTo_30 rfl (lv_at hl 1 rfl) ?_
        refine vp_callSi (W.runV (As := [.int k]) (rest := []) ⟨hx, hb, hml, hown, hta⟩ (k_N_isReadingOf l G ((cN, .object nR_N) :: ty2) w hv.2.1 (okN_s hv) k) (cV 1 hta aw_440 aw_12 aw_437 aw_438 aw_439 rfl rfl (by decide +kernel) ⟨Nat.le_of_ble_eq_true rfl, Nat.le_of_ble_eq_true rfl⟩) (pW_V hK hM rfl hv.2.1) rfl rfl hl.1 rfl (lv_room (Nat.le_of_ble_eq_true rfl)) d_L_lastReadingUpTo_31 ⟨Nat.le_of_ble_eq_true rfl, Nat.le_of_ble_eq_true rfl⟩) (fun r_5 hr_5 => ?_)
        refine lv_if_eq (tgt := 44) hx hb d_L_lastReadingUpTo_34 (by decide) (fun c_6 => ?_) (fun c_6 => ?_)
        · obtain ⟨x_7, ex_7⟩ : ∃ y : Int32, y = x3 + (-1) := ⟨_, rfl⟩
          refine lv_iinc (v := x_7) (lv' := [(3, .int x_7), (0, .ref ln), (1, .int k), (2, .int t)]) hx hb d_L_lastReadingUpTo_44 hl (k := 3) rfl (by rw [ex_7]; rfl) (by decide) rfl (fun ls hl => ?_)
          refine lv_goto (tgt := 7) hx hb d_L_lastReadingUpTo_47 (by decide) ?_
          exact ih x_7 ls (by omega) (by rw [ex_7, e3, i_m1]) (by rw [← hst, lastP, if_neg (lp_f2 hr_5 c_6)]) (lv_sub hl [1, 2, 3, 0] rfl)
        · refine lv_aload_n hx hb d_L_lastReadingUpTo_37 rfl (lv_at hl 0 rfl) ?_
          refine m_get (D := G) (ci := 1) (v := .ref io) (C := nR_L) (T := nT_L) (N := 3) hx hb hta in_L hown hK hM hL rfl 1 (by decide) (hta _ aw_34) (fun _ h9 => h9) rfl d_L_lastReadingUpTo_38 ?_
          refine lv_iload_n hx hb d_L_lastReadingUpTo_41 rfl (lv_at hl 3 rfl) ?_
          refine m_aald hx hb hK hM 0 hio rfl (by rw [e3]; exact vp_in_nI (by omega) (by omega)) (v := .ref (nA (v i))) (by rw [e3, nI_clamp (by omega), hfi i (by omega)]; rfl) d_L_lastReadingUpTo_42 ?_
          exact W.aret (v := .ref (nA (v i))) (rt := .object "SceneTimes$Note") hx hb hr (Or.inl ⟨_, rfl⟩) (Or.inr ⟨_, rfl⟩) (fun t ht hW => ⟨some (nA (v i)), rfl, by rw [← hst, lastP, if_pos (lp_t c_3 hr_5 c_6)]; rfl, ht⟩) (fun q h => nomatch h) d_L_lastReadingUpTo_43
  refine lv_aload_n hx hb d_L_lastReadingUpTo_0 rfl (lv_at hl 0 rfl) ?_
  refine m_get (D := G) (ci := 1) (v := .int (nI n)) (C := nR_L) (T := nT_L) (N := 3) hx hb hta in_L hown hK hM hL rfl 2 (by decide) (hta _ aw_36) (fun _ h9 => h9) rfl d_L_lastReadingUpTo_1 ?_
  refine lv_iconst (v := 1) hx hb d_L_lastReadingUpTo_4 (by decide) ?_
  refine lv_isub hx hb d_L_lastReadingUpTo_5 ?_
  refine lv_istore_n (lv' := [(3, .int ((nI n) - 1)), (0, .ref ln), (1, .int k), (2, .int t)]) hx hb d_L_lastReadingUpTo_6 rfl hl (by decide) rfl (fun ls hl => ?_)
  exact loop n _ ls (Nat.le_refl n) rfl rfl (lv_sub hl [1, 2, 3, 0] rfl)
set_option maxHeartbeats 4000000 in
set_option maxRecDepth 100000 in
theorem k_L_firstReadingFrom (l : Launch) (G : va_G) (cN : ClassId) (ty2 : List (ClassId × FieldType)) (w : Nat → Option va_E) {ln bn io n : Nat} (hn : n ≤ 100) (hL : w ln = some (eL bn io (nI n))) {fi : Nat → Option Nat} (hio : w io = some (aQ cN 100 fi)) {v : Nat → nV} (hfi : ∀ i, i < n → fi i = some (nA (v i))) (hok : ∀ i, i < n → okN w (v i)) (k t : Int32) : Met l y_L_firstReadingFrom (wm y_L_firstReadingFrom c_L_firstReadingFrom 4 (some (.object "SceneTimes$Note"))) ({ frames := 1, cells := 0, slots := 0, locals := 21 }) (pW G ((cN, .object nR_N) :: ty2) w [.ref ln, .int k, .int t]) (va_Sq (fun r => r = (firstP (fun i => decide (¬ nT (v i) < t) && isRd k (v i)) n 0).map (fun i => nA (v i)))) 0 0 (fun _ => False) := by
  refine Met.ofW (cc := c_L_firstReadingFrom) (maxL := 4) (ret := (some (.object "SceneTimes$Note"))) (by decide) rfl ?_
  intro p e s m args below meth c s₁ B hml hv
  obtain ⟨rfl, hM, hK⟩ := hv
  have hx := B.exec
  have hb := B.bytes
  have hr := B.returns
  have hts := atoms_spec (ws := (wm y_L_firstReadingFrom c_L_firstReadingFrom 4 (some (.object "SceneTimes$Note")))) B.pre
  have hta : ∀ w ∈ AL, w.before _ s = true := fun w h => hts w (List.mem_cons_of_mem _ h)
  have hown : s.vm.findClass nR_L = some m.cls := findClass_of_methodNamed B.named
  have hlocks := B.notSynchronized
  have hl := lv_entry ([.ref ln, .int k, .int t]) (n := 4) (Nat.le_of_ble_eq_true rfl)
  rw [lg_entry_eq]
  generalize (lg_sl ([.ref ln, .int k, .int t]) ++ List.replicate (4 - (lg_sl ([.ref ln, .int k, .int t])).length) Slot.unset).toArray = ls at hl ⊢
  have hl : lv_has ls 4 [(0, .ref ln), (1, .int k), (2, .int t)] := hl
  have loop : ∀ (m9 i : Nat) (x3 : Int32) (ls : Array Slot), i + m9 = n → x3 = nI i → firstP (fun i => decide (¬ nT (v i) < t) && isRd k (v i)) m9 i = firstP (fun i => decide (¬ nT (v i) < t) && isRd k (v i)) n 0 → lv_has ls 4 [(0, .ref ln), (1, .int k), (2, .int t), (3, .int x3)] → W p l e (headSpec (wm y_L_firstReadingFrom c_L_firstReadingFrom 4 (some (.object "SceneTimes$Note"))) ({ frames := 1, cells := 0, slots := 0, locals := 21 })).room s m ([.ref ln, .int k, .int t] : List Value).toArray below meth c s.heap [] 0 0 (MQ below (va_Sq (fun r => r = (firstP (fun i => decide (¬ nT (v i) < t) && isRd k (v i)) n 0).map (fun i => nA (v i)))) ([.ref ln, .int k, .int t] : List Value).toArray s 0 0 (fun _ => False)) (F0 m 2 ls []) := by
    intro m9
    induction m9 with
    | zero =>
      intro i x3 ls hi e3 hst hl
      refine lv_iload_n hx hb d_L_firstReadingFrom_2 rfl (lv_at hl 3 rfl) ?_
      refine lv_aload_n hx hb d_L_firstReadingFrom_3 rfl (lv_at hl 0 rfl) ?_
      refine m_get (D := G) (ci := 1) (v := .int (nI n)) (C := nR_L) (T := nT_L) (N := 3) hx hb hta in_L hown hK hM hL rfl 2 (by decide) (hta _ aw_36) (fun _ h9 => h9) rfl d_L_firstReadingFrom_4 ?_
      refine lv_icmp_ge (tgt := 49) hx hb d_L_firstReadingFrom_7 (by decide) (fun c_1 => ?_) (fun c_1 => absurd (by rw [e3]; exact nI_le (by omega) (by omega)) c_1)
      refine lv_null hx hb d_L_firstReadingFrom_49 ?_
      exact W.aret (v := .null) (rt := .object "SceneTimes$Note") hx hb hr (Or.inl ⟨_, rfl⟩) (Or.inl rfl) (fun t ht hW => ⟨none, rfl, by rw [← hst]; rfl, ht⟩) (fun q h => nomatch h) d_L_firstReadingFrom_50
    | succ m9 ih =>
      intro i x3 ls hi e3 hst hl
      have hv := hok i (by omega)
      refine lv_iload_n hx hb d_L_firstReadingFrom_2 rfl (lv_at hl 3 rfl) ?_
      refine lv_aload_n hx hb d_L_firstReadingFrom_3 rfl (lv_at hl 0 rfl) ?_
      refine m_get (D := G) (ci := 1) (v := .int (nI n)) (C := nR_L) (T := nT_L) (N := 3) hx hb hta in_L hown hK hM hL rfl 2 (by decide) (hta _ aw_36) (fun _ h9 => h9) rfl d_L_firstReadingFrom_4 ?_
      refine lv_icmp_ge (tgt := 49) hx hb d_L_firstReadingFrom_7 (by decide) (fun c_2 => absurd c_2 (by rw [e3]; exact nI_ge (by omega) (by omega))) (fun c_2 => ?_)
      refine lv_aload_n hx hb d_L_firstReadingFrom_10 rfl (lv_at hl 0 rfl) ?_
      refine m_get (D := G) (ci := 1) (v := .ref io) (C := nR_L) (T := nT_L) (N := 3) hx hb hta in_L hown hK hM hL rfl 1 (by decide) (hta _ aw_34) (fun _ h9 => h9) rfl d_L_firstReadingFrom_11 ?_
      refine lv_iload_n hx hb d_L_firstReadingFrom_14 rfl (lv_at hl 3 rfl) ?_
      refine m_aald hx hb hK hM 0 hio rfl (by rw [e3]; exact vp_in_nI (by omega) (by omega)) (v := .ref (nA (v i))) (by rw [e3, nI_clamp (by omega), hfi i (by omega)]; rfl) d_L_firstReadingFrom_15 ?_
      refine m_get (D := G) (ci := 4) (v := .int (nT (v i))) (C := nR_N) (T := nT_N) (N := 10) hx hb hta in_N hown hK hM hv.2.1 rfl 4 (by decide) (hta _ aw_289) (fun _ h9 => h9) rfl d_L_firstReadingFrom_16 ?_
      refine lv_iload_n hx hb d_L_firstReadingFrom_19 rfl (lv_at hl 2 rfl) ?_
      refine lv_icmp_lt (tgt := 43) hx hb d_L_firstReadingFrom_20 (by decide) (fun c_3 => ?_) (fun c_3 => ?_)
      · obtain ⟨x_4, ex_4⟩ : ∃ y : Int32, y = x3 + 1 := ⟨_, rfl⟩
        refine lv_iinc (v := x_4) (lv' := [(3, .int x_4), (0, .ref ln), (1, .int k), (2, .int t)]) hx hb d_L_firstReadingFrom_43 hl (k := 3) rfl (by rw [ex_4]; rfl) (by decide) rfl (fun ls hl => ?_)
        refine lv_goto (tgt := 2) hx hb d_L_firstReadingFrom_46 (by decide) ?_
        exact ih (i + 1) x_4 ls (by omega) (by rw [ex_4, e3, nI_1]) (by rw [← hst, firstP, if_neg (lp_f1' c_3)]) (lv_sub hl [1, 2, 3, 0] rfl)
      · refine lv_aload_n hx hb d_L_firstReadingFrom_23 rfl (lv_at hl 0 rfl) ?_
        refine m_get (D := G) (ci := 1) (v := .ref io) (C := nR_L) (T := nT_L) (N := 3) hx hb hta in_L hown hK hM hL rfl 1 (by decide) (hta _ aw_34) (fun _ h9 => h9) rfl d_L_firstReadingFrom_24 ?_
        refine lv_iload_n hx hb d_L_firstReadingFrom_27 rfl (lv_at hl 3 rfl) ?_
        refine m_aald hx hb hK hM 0 hio rfl (by rw [e3]; exact vp_in_nI (by omega) (by omega)) (v := .ref (nA (v i))) (by rw [e3, nI_clamp (by omega), hfi i (by omega)]; rfl) d_L_firstReadingFrom_28 ?_
        refine lv_iload_n hx hb d_L_firstReadingFrom_29 rfl (lv_at hl 1 rfl) ?_
        refine vp_callSi (W.runV (As := [.int k]) (rest := []) ⟨hx, hb, hml, hown, hta⟩ (k_N_isReadingOf l G ((cN, .object nR_N) :: ty2) w hv.2.1 (okN_s hv) k) (cV 1 hta aw_440 aw_12 aw_437 aw_438 aw_439 rfl rfl (by decide +kernel) ⟨Nat.le_of_ble_eq_true rfl, Nat.le_of_ble_eq_true rfl⟩) (pW_V hK hM rfl hv.2.1) rfl rfl hl.1 rfl (lv_room (Nat.le_of_ble_eq_true rfl)) d_L_firstReadingFrom_30 ⟨Nat.le_of_ble_eq_true rfl, Nat.le_of_ble_eq_true rfl⟩) (fun r_5 hr_5 => ?_)
        refine lv_if_eq (tgt := 43) hx hb d_L_firstReadingFrom_33 (by decide) (fun c_6 => ?_) (fun c_6 => ?_)
        · obtain ⟨x_7, ex_7⟩ : ∃ y : Int32, y = x3 + 1 := ⟨_, rfl⟩
          refine lv_iinc (v := x_7) (lv' := [(3, .int x_7), (0, .ref ln), (1, .int k), (2, .int t)]) hx hb d_L_firstReadingFrom_43 hl (k := 3) rfl (by rw [ex_7]; rfl) (by decide) rfl (fun ls hl => ?_)
          refine lv_goto (tgt := 2) hx hb d_L_firstReadingFrom_46 (by decide) ?_
          exact ih (i + 1) x_7 ls (by omega) (by rw [ex_7, e3, nI_1]) (by rw [← hst, firstP, if_neg (lp_f2 hr_5 c_6)]) (lv_sub hl [1, 2, 3, 0] rfl)
        · refine lv_aload_n hx hb d_L_firstReadingFrom_36 rfl (lv_at hl 0 rfl) ?_
          refine m_get (D := G) (ci := 1) (v := .ref io) (C := nR_L) (T := nT_L) (N := 3) hx hb hta in_L hown hK hM hL rfl 1 (by decide) (hta _ aw_34) (fun _ h9 => h9) rfl d_L_firstReadingFrom_37 ?_
          refine lv_iload_n hx hb d_L_firstReadingFrom_40 rfl (lv_at hl 3 rfl) ?_
          refine m_aald hx hb hK hM 0 hio rfl (by rw [e3]; exact vp_in_nI (by omega) (by omega)) (v := .ref (nA (v i))) (by rw [e3, nI_clamp (by omega), hfi i (by omega)]; rfl) d_L_firstReadingFrom_41 ?_
          exact W.aret (v := .ref (nA (v i))) (rt := .object "SceneTimes$Note") hx hb hr (Or.inl ⟨_, rfl⟩) (Or.inr ⟨_, rfl⟩) (fun t ht hW => ⟨some (nA (v i)), rfl, by rw [← hst, firstP, if_pos (lp_t' c_3 hr_5 c_6)]; rfl, ht⟩) (fun q h => nomatch h) d_L_firstReadingFrom_42
  refine lv_iconst (v := 0) hx hb d_L_firstReadingFrom_0 (by decide) ?_
  refine lv_istore_n (lv' := [(3, .int 0), (0, .ref ln), (1, .int k), (2, .int t)]) hx hb d_L_firstReadingFrom_1 rfl hl (by decide) rfl (fun ls hl => ?_)
  exact loop n 0 0 ls (by omega) rfl rfl (lv_sub hl [1, 2, 3, 0] rfl)
set_option maxHeartbeats 4000000 in
set_option maxRecDepth 100000 in
theorem k_L_howManyStruck (l : Launch) (G : va_G) (cN : ClassId) (ty2 : List (ClassId × FieldType)) (w : Nat → Option va_E) {ln bn io n : Nat} (hn : n ≤ 100) (hL : w ln = some (eL bn io (nI n))) {fb : Nat → Option Nat} (hbn : w bn = some (aQ cN 100 fb)) {v : Nat → nV} (hfb : ∀ i, i < n → fb i = some (nA (v i))) (hok : ∀ i, i < n → okN w (v i)) : Met l y_L_howManyStruck (wm y_L_howManyStruck c_L_howManyStruck 3 (some .int)) ({ frames := 0, cells := 0, slots := 0, locals := 0 }) (pW G ((cN, .object nR_N) :: ty2) w [.ref ln]) (vp_Si (fun r => r = nI (cntP (fun i => decide (¬ (hd (nC (v i))).2.2.2 = 0)) n))) 0 0 (fun _ => False) := by
  refine Met.ofW (cc := c_L_howManyStruck) (maxL := 3) (ret := (some .int)) (by decide) rfl ?_
  intro p e s m args below meth c s₁ B hml hv
  obtain ⟨rfl, hM, hK⟩ := hv
  have hx := B.exec
  have hb := B.bytes
  have hr := B.returns
  have hts := atoms_spec (ws := (wm y_L_howManyStruck c_L_howManyStruck 3 (some .int))) B.pre
  have hta : ∀ w ∈ AL, w.before _ s = true := fun w h => hts w (List.mem_cons_of_mem _ h)
  have hown : s.vm.findClass nR_L = some m.cls := findClass_of_methodNamed B.named
  have hlocks := B.notSynchronized
  have hl := lv_entry ([.ref ln]) (n := 3) (Nat.le_of_ble_eq_true rfl)
  rw [lg_entry_eq]
  generalize (lg_sl ([.ref ln]) ++ List.replicate (3 - (lg_sl ([.ref ln])).length) Slot.unset).toArray = ls at hl ⊢
  have hl : lv_has ls 3 [(0, .ref ln)] := hl
  have loop : ∀ (m9 i : Nat) (x1 x2 : Int32) (ls : Array Slot), i + m9 = n → x1 = nI (cntP (fun i => decide (¬ (hd (nC (v i))).2.2.2 = 0)) i) → x2 = nI i → lv_has ls 3 [(0, .ref ln), (1, .int x1), (2, .int x2)] → W p l e (headSpec (wm y_L_howManyStruck c_L_howManyStruck 3 (some .int)) ({ frames := 0, cells := 0, slots := 0, locals := 0 })).room s m ([.ref ln] : List Value).toArray below meth c s.heap [] 0 0 (MQ below (vp_Si (fun r => r = nI (cntP (fun i => decide (¬ (hd (nC (v i))).2.2.2 = 0)) n))) ([.ref ln] : List Value).toArray s 0 0 (fun _ => False)) (F0 m 4 ls []) := by
    intro m9
    induction m9 with
    | zero =>
      intro i x1 x2 ls hi e1 e3 hl
      refine lv_iload_n hx hb d_L_howManyStruck_4 rfl (lv_at hl 2 rfl) ?_
      refine lv_aload_n hx hb d_L_howManyStruck_5 rfl (lv_at hl 0 rfl) ?_
      refine m_get (D := G) (ci := 1) (v := .int (nI n)) (C := nR_L) (T := nT_L) (N := 3) hx hb hta in_L hown hK hM hL rfl 2 (by decide) (hta _ aw_36) (fun _ h9 => h9) rfl d_L_howManyStruck_6 ?_
      refine lv_icmp_ge (tgt := 36) hx hb d_L_howManyStruck_9 (by decide) (fun c_1 => ?_) (fun c_1 => absurd (by rw [e3]; exact nI_le (by omega) (by omega)) c_1)
      refine lv_iload_n hx hb d_L_howManyStruck_36 rfl (lv_at hl 1 rfl) ?_
      exact W.iret (v := x1) hx hb hr (fun t ht hW => ⟨x1, rfl, by rw [e1, show i = n by omega], ht⟩) (fun q h => nomatch h) d_L_howManyStruck_37
    | succ m9 ih =>
      intro i x1 x2 ls hi e1 e3 hl
      have hv := hok i (by omega)
      refine lv_iload_n hx hb d_L_howManyStruck_4 rfl (lv_at hl 2 rfl) ?_
      refine lv_aload_n hx hb d_L_howManyStruck_5 rfl (lv_at hl 0 rfl) ?_
      refine m_get (D := G) (ci := 1) (v := .int (nI n)) (C := nR_L) (T := nT_L) (N := 3) hx hb hta in_L hown hK hM hL rfl 2 (by decide) (hta _ aw_36) (fun _ h9 => h9) rfl d_L_howManyStruck_6 ?_
      refine lv_icmp_ge (tgt := 36) hx hb d_L_howManyStruck_9 (by decide) (fun c_2 => absurd c_2 (by rw [e3]; exact nI_ge (by omega) (by omega))) (fun c_2 => ?_)
      refine lv_aload_n hx hb d_L_howManyStruck_12 rfl (lv_at hl 0 rfl) ?_
      refine m_get (D := G) (ci := 1) (v := .ref bn) (C := nR_L) (T := nT_L) (N := 3) hx hb hta in_L hown hK hM hL rfl 0 (by decide) (hta _ aw_32) (fun _ h9 => h9) rfl d_L_howManyStruck_13 ?_
      refine lv_iload_n hx hb d_L_howManyStruck_16 rfl (lv_at hl 2 rfl) ?_
      refine m_aald hx hb hK hM 0 hbn rfl (by rw [e3]; exact vp_in_nI (by omega) (by omega)) (v := .ref (nA (v i))) (by rw [e3, nI_clamp (by omega), hfb i (by omega)]; rfl) d_L_howManyStruck_17 ?_
      refine m_get (D := G) (ci := 4) (v := .ref ((hd (nC (v i))).1)) (C := nR_N) (T := nT_N) (N := 10) hx hb hta in_N hown hK hM hv.2.1 rfl 6 (by decide) (hta _ aw_296) (fun _ h9 => h9) rfl d_L_howManyStruck_18 ?_
      refine m_get (D := G) (ci := 5) (v := .int ((hd (nC (v i))).2.2.2)) (C := nR_T) (T := nT_T) (N := 4) hx hb hta in_T hown hK hM (okN_s hv) rfl 2 (by decide) (hta _ aw_263) (fun _ h9 => h9) rfl d_L_howManyStruck_21 ?_
      refine lv_if_eq (tgt := 30) hx hb d_L_howManyStruck_24 (by decide) (fun c_3 => ?_) (fun c_3 => ?_)
      · obtain ⟨x_4, ex_4⟩ : ∃ y : Int32, y = x2 + 1 := ⟨_, rfl⟩
        refine lv_iinc (v := x_4) (lv' := [(2, .int x_4), (0, .ref ln), (1, .int x1)]) hx hb d_L_howManyStruck_30 hl (k := 2) rfl (by rw [ex_4]; rfl) (by decide) rfl (fun ls hl => ?_)
        refine lv_goto (tgt := 4) hx hb d_L_howManyStruck_33 (by decide) ?_
        exact ih (i + 1) x1 x_4 ls (by omega) (by rw [e1, cntP, if_neg (by simp [c_3])]; rfl) (by rw [ex_4, e3, nI_1]) (lv_sub hl [1, 2, 0] rfl)
      · obtain ⟨x_5, ex_5⟩ : ∃ y : Int32, y = x1 + 1 := ⟨_, rfl⟩
        refine lv_iinc (v := x_5) (lv' := [(1, .int x_5), (0, .ref ln), (2, .int x2)]) hx hb d_L_howManyStruck_27 hl (k := 1) rfl (by rw [ex_5]; rfl) (by decide) rfl (fun ls hl => ?_)
        obtain ⟨x_6, ex_6⟩ : ∃ y : Int32, y = x2 + 1 := ⟨_, rfl⟩
        refine lv_iinc (v := x_6) (lv' := [(2, .int x_6), (1, .int x_5), (0, .ref ln)]) hx hb d_L_howManyStruck_30 hl (k := 2) rfl (by rw [ex_6]; rfl) (by decide) rfl (fun ls hl => ?_)
        refine lv_goto (tgt := 4) hx hb d_L_howManyStruck_33 (by decide) ?_
        exact ih (i + 1) x_5 x_6 ls (by omega) (by rw [ex_5, e1, cntP, if_pos (by simp [c_3]), nI_1]) (by rw [ex_6, e3, nI_1]) (lv_sub hl [2, 1, 0] rfl)
  refine lv_iconst (v := 0) hx hb d_L_howManyStruck_0 (by decide) ?_
  refine lv_istore_n (lv' := [(1, .int 0), (0, .ref ln)]) hx hb d_L_howManyStruck_1 rfl hl (by decide) rfl (fun ls hl => ?_)
  refine lv_iconst (v := 0) hx hb d_L_howManyStruck_2 (by decide) ?_
  refine lv_istore_n (lv' := [(2, .int 0), (1, .int 0), (0, .ref ln)]) hx hb d_L_howManyStruck_3 rfl hl (by decide) rfl (fun ls hl => ?_)
  exact loop n 0 0 0 ls (by omega) rfl rfl (lv_sub hl [2, 1, 0] rfl)
/-- a note's first state, as it was written -/
def la (v : nV) : cS4 := (nC v).getLastD (0, 0, 0, 0)
set_option maxHeartbeats 4000000 in
set_option maxRecDepth 100000 in
theorem k_L_howManyWrittenLater (l : Launch) (G : va_G) (cN : ClassId) (ty2 : List (ClassId × FieldType)) (w : Nat → Option va_E) {ln bn io n : Nat} (hn : n ≤ 100) (hL : w ln = some (eL bn io (nI n))) {fb : Nat → Option Nat} (hbn : w bn = some (aQ cN 100 fb)) {v : Nat → nV} (hfb : ∀ i, i < n → fb i = some (nA (v i))) (hok : ∀ i, i < n → okN w (v i)) (hfa : ∀ i, i < n → w (nF (v i)) = some (eT (la (v i)).2.1 (la (v i)).2.2.1 (la (v i)).2.2.2 none)) : Met l y_L_howManyWrittenLater (wm y_L_howManyWrittenLater c_L_howManyWrittenLater 3 (some .int)) ({ frames := 0, cells := 0, slots := 0, locals := 0 }) (pW G ((cN, .object nR_N) :: ty2) w [.ref ln]) (vp_Si (fun r => r = nI (cntP (fun i => decide (¬ (la (v i)).2.1 ≤ nT (v i))) n))) 0 0 (fun _ => False) := by
  refine Met.ofW (cc := c_L_howManyWrittenLater) (maxL := 3) (ret := (some .int)) (by decide) rfl ?_
  intro p e s m args below meth c s₁ B hml hv
  obtain ⟨rfl, hM, hK⟩ := hv
  have hx := B.exec
  have hb := B.bytes
  have hr := B.returns
  have hts := atoms_spec (ws := (wm y_L_howManyWrittenLater c_L_howManyWrittenLater 3 (some .int))) B.pre
  have hta : ∀ w ∈ AL, w.before _ s = true := fun w h => hts w (List.mem_cons_of_mem _ h)
  have hown : s.vm.findClass nR_L = some m.cls := findClass_of_methodNamed B.named
  have hlocks := B.notSynchronized
  have hl := lv_entry ([.ref ln]) (n := 3) (Nat.le_of_ble_eq_true rfl)
  rw [lg_entry_eq]
  generalize (lg_sl ([.ref ln]) ++ List.replicate (3 - (lg_sl ([.ref ln])).length) Slot.unset).toArray = ls at hl ⊢
  have hl : lv_has ls 3 [(0, .ref ln)] := hl
  have loop : ∀ (m9 i : Nat) (x1 x2 : Int32) (ls : Array Slot), i + m9 = n → x1 = nI (cntP (fun i => decide (¬ (la (v i)).2.1 ≤ nT (v i))) i) → x2 = nI i → lv_has ls 3 [(0, .ref ln), (1, .int x1), (2, .int x2)] → W p l e (headSpec (wm y_L_howManyWrittenLater c_L_howManyWrittenLater 3 (some .int)) ({ frames := 0, cells := 0, slots := 0, locals := 0 })).room s m ([.ref ln] : List Value).toArray below meth c s.heap [] 0 0 (MQ below (vp_Si (fun r => r = nI (cntP (fun i => decide (¬ (la (v i)).2.1 ≤ nT (v i))) n))) ([.ref ln] : List Value).toArray s 0 0 (fun _ => False)) (F0 m 4 ls []) := by
    intro m9
    induction m9 with
    | zero =>
      intro i x1 x2 ls hi e1 e3 hl
      refine lv_iload_n hx hb d_L_howManyWrittenLater_4 rfl (lv_at hl 2 rfl) ?_
      refine lv_aload_n hx hb d_L_howManyWrittenLater_5 rfl (lv_at hl 0 rfl) ?_
      refine m_get (D := G) (ci := 1) (v := .int (nI n)) (C := nR_L) (T := nT_L) (N := 3) hx hb hta in_L hown hK hM hL rfl 2 (by decide) (hta _ aw_36) (fun _ h9 => h9) rfl d_L_howManyWrittenLater_6 ?_
      refine lv_icmp_ge (tgt := 45) hx hb d_L_howManyWrittenLater_9 (by decide) (fun c_1 => ?_) (fun c_1 => absurd (by rw [e3]; exact nI_le (by omega) (by omega)) c_1)
      refine lv_iload_n hx hb d_L_howManyWrittenLater_45 rfl (lv_at hl 1 rfl) ?_
      exact W.iret (v := x1) hx hb hr (fun t ht hW => ⟨x1, rfl, by rw [e1, show i = n by omega], ht⟩) (fun q h => nomatch h) d_L_howManyWrittenLater_46
    | succ m9 ih =>
      intro i x1 x2 ls hi e1 e3 hl
      have hv := hok i (by omega)
      refine lv_iload_n hx hb d_L_howManyWrittenLater_4 rfl (lv_at hl 2 rfl) ?_
      refine lv_aload_n hx hb d_L_howManyWrittenLater_5 rfl (lv_at hl 0 rfl) ?_
      refine m_get (D := G) (ci := 1) (v := .int (nI n)) (C := nR_L) (T := nT_L) (N := 3) hx hb hta in_L hown hK hM hL rfl 2 (by decide) (hta _ aw_36) (fun _ h9 => h9) rfl d_L_howManyWrittenLater_6 ?_
      refine lv_icmp_ge (tgt := 45) hx hb d_L_howManyWrittenLater_9 (by decide) (fun c_2 => absurd c_2 (by rw [e3]; exact nI_ge (by omega) (by omega))) (fun c_2 => ?_)
      refine lv_aload_n hx hb d_L_howManyWrittenLater_12 rfl (lv_at hl 0 rfl) ?_
      refine m_get (D := G) (ci := 1) (v := .ref bn) (C := nR_L) (T := nT_L) (N := 3) hx hb hta in_L hown hK hM hL rfl 0 (by decide) (hta _ aw_32) (fun _ h9 => h9) rfl d_L_howManyWrittenLater_13 ?_
      refine lv_iload_n hx hb d_L_howManyWrittenLater_16 rfl (lv_at hl 2 rfl) ?_
      refine m_aald hx hb hK hM 0 hbn rfl (by rw [e3]; exact vp_in_nI (by omega) (by omega)) (v := .ref (nA (v i))) (by rw [e3, nI_clamp (by omega), hfb i (by omega)]; rfl) d_L_howManyWrittenLater_17 ?_
      refine m_get (D := G) (ci := 4) (v := .ref (nF (v i))) (C := nR_N) (T := nT_N) (N := 10) hx hb hta in_N hown hK hM hv.2.1 rfl 5 (by decide) (hta _ aw_292) (fun _ h9 => h9) rfl d_L_howManyWrittenLater_18 ?_
      refine m_get (D := G) (ci := 5) (v := .int ((la (v i)).2.1)) (C := nR_T) (T := nT_T) (N := 4) hx hb hta in_T hown hK hM (hfa i (by omega)) rfl 0 (by decide) (hta _ aw_253) (fun _ h9 => h9) rfl d_L_howManyWrittenLater_21 ?_
      refine lv_aload_n hx hb d_L_howManyWrittenLater_24 rfl (lv_at hl 0 rfl) ?_
      refine m_get (D := G) (ci := 1) (v := .ref bn) (C := nR_L) (T := nT_L) (N := 3) hx hb hta in_L hown hK hM hL rfl 0 (by decide) (hta _ aw_32) (fun _ h9 => h9) rfl d_L_howManyWrittenLater_25 ?_
      refine lv_iload_n hx hb d_L_howManyWrittenLater_28 rfl (lv_at hl 2 rfl) ?_
      refine m_aald hx hb hK hM 0 hbn rfl (by rw [e3]; exact vp_in_nI (by omega) (by omega)) (v := .ref (nA (v i))) (by rw [e3, nI_clamp (by omega), hfb i (by omega)]; rfl) d_L_howManyWrittenLater_29 ?_
      refine m_get (D := G) (ci := 4) (v := .int (nT (v i))) (C := nR_N) (T := nT_N) (N := 10) hx hb hta in_N hown hK hM hv.2.1 rfl 4 (by decide) (hta _ aw_289) (fun _ h9 => h9) rfl d_L_howManyWrittenLater_30 ?_
      refine lv_icmp_le (tgt := 39) hx hb d_L_howManyWrittenLater_33 (by decide) (fun c_3 => ?_) (fun c_3 => ?_)
      · obtain ⟨x_4, ex_4⟩ : ∃ y : Int32, y = x2 + 1 := ⟨_, rfl⟩
        refine lv_iinc (v := x_4) (lv' := [(2, .int x_4), (0, .ref ln), (1, .int x1)]) hx hb d_L_howManyWrittenLater_39 hl (k := 2) rfl (by rw [ex_4]; rfl) (by decide) rfl (fun ls hl => ?_)
        refine lv_goto (tgt := 4) hx hb d_L_howManyWrittenLater_42 (by decide) ?_
        exact ih (i + 1) x1 x_4 ls (by omega) (by rw [e1, cntP, if_neg (by simp [c_3])]; rfl) (by rw [ex_4, e3, nI_1]) (lv_sub hl [1, 2, 0] rfl)
      · obtain ⟨x_5, ex_5⟩ : ∃ y : Int32, y = x1 + 1 := ⟨_, rfl⟩
        refine lv_iinc (v := x_5) (lv' := [(1, .int x_5), (0, .ref ln), (2, .int x2)]) hx hb d_L_howManyWrittenLater_36 hl (k := 1) rfl (by rw [ex_5]; rfl) (by decide) rfl (fun ls hl => ?_)
        obtain ⟨x_6, ex_6⟩ : ∃ y : Int32, y = x2 + 1 := ⟨_, rfl⟩
        refine lv_iinc (v := x_6) (lv' := [(2, .int x_6), (1, .int x_5), (0, .ref ln)]) hx hb d_L_howManyWrittenLater_39 hl (k := 2) rfl (by rw [ex_6]; rfl) (by decide) rfl (fun ls hl => ?_)
        refine lv_goto (tgt := 4) hx hb d_L_howManyWrittenLater_42 (by decide) ?_
        exact ih (i + 1) x_5 x_6 ls (by omega) (by rw [ex_5, e1, cntP, if_pos (by simp [c_3]), nI_1]) (by rw [ex_6, e3, nI_1]) (lv_sub hl [2, 1, 0] rfl)
  refine lv_iconst (v := 0) hx hb d_L_howManyWrittenLater_0 (by decide) ?_
  refine lv_istore_n (lv' := [(1, .int 0), (0, .ref ln)]) hx hb d_L_howManyWrittenLater_1 rfl hl (by decide) rfl (fun ls hl => ?_)
  refine lv_iconst (v := 0) hx hb d_L_howManyWrittenLater_2 (by decide) ?_
  refine lv_istore_n (lv' := [(2, .int 0), (1, .int 0), (0, .ref ln)]) hx hb d_L_howManyWrittenLater_3 rfl hl (by decide) rfl (fun ls hl => ?_)
  exact loop n 0 0 0 ls (by omega) rfl rfl (lv_sub hl [2, 1, 0] rfl)
end
section
/-! the reference: its picture, its readers -/
theorem m_ialv {p : Program} {l : Launch} {e : Env} {R : Room} {s : State} {m : MethodId} {args : Array Value} {below : List Frame} {meth : Method} {c : Code} {H : Heap} {locs : List Loc} {cells slots : Nat} {Q : State → Prop} {cc : ByteArray} {pc : Nat} {ls : Array Slot} {rest : List Value} {D : va_G} {cl : List vw_C} {A : Nat → Prop} {a : Nat} {tys : List (ClassId × FieldType)} {w : Nat → Option va_E}
    (hexec : p.tables.exec = Jvm.exec) (hb : c.code = cc) (hK : va_K D cl tys s) (hM : mw D cl A w H) (t0 : Nat) {cA : ClassId} {n : Nat} {f : Nat → Int32} (ha : w a = some (.inl (cA, n, .inl f))) (ht : tys[t0]? = some (cA, .int)) {i : Int32} (hin : vp_in i n) {v : Int32} (hv : f i.toNatClampNeg = v) (hdg : decode cc pc = .ok (.iaload, 1))
    (kk : W p l e R s m args below meth c H locs cells slots Q (F0 m (pc + 1) ls (.int v :: rest))) : W p l e R s m args below meth c H locs cells slots Q (F0 m pc ls (.int i :: .ref a :: rest)) := by
  subst hv
  exact m_iald hexec hb hK hM t0 ha ht hin hdg kk
/-- the reference's object: ad 0 .. 11 its arrays writer kind sector was first known actOn act actValue actAt rowNote out -/
abbrev eM (ad : Nat → Nat) (th no wr n k z r so pr : Int32) : va_E := .inr (6, [.int th, .int no, .int wr, .int n, .ref (ad 0), .ref (ad 1), .ref (ad 2), .ref (ad 3), .ref (ad 4), .ref (ad 5), .int k, .ref (ad 6), .ref (ad 7), .ref (ad 8), .ref (ad 9), .int z, .int r, .int so, .ref (ad 10), .int pr, .ref (ad 11)])
def msz (i : Nat) : Nat := if i < 6 then 100 else if i < 10 then 200 else if i = 10 then 100 else 2400
def oI (o : Option Nat) : Int32 := match o with | none => -1 | some j => nI j
/-- a note's value, whether it is struck, how many acts: by the first a acts -/
def valM (f : Nat → Nat → Int32) (t : Int32) (j : Nat) : Nat → Int32
  | 0 => f 4 j
  | a + 1 => if f 6 a = nI j ∧ f 7 a = 2 ∧ ¬ t < f 9 a then f 8 a else valM f t j a
def strM (f : Nat → Nat → Int32) (t : Int32) (j : Nat) : Nat → Int32
  | 0 => 0
  | a + 1 => if f 6 a = nI j ∧ ¬ f 7 a = 2 ∧ ¬ t < f 9 a then (if f 7 a = 0 then 1 else 0) else strM f t j a
def manM (f : Nat → Nat → Int32) (al : Int32) (j : Nat) : Nat → Nat
  | 0 => 0
  | a + 1 => manM f al j a + (if f 6 a = nI j ∧ (¬ al = 0 ∨ f 7 a = 2) then 1 else 0)
def digM (f : Nat → Nat → Int32) (j : Nat) : Nat → Int32
  | 0 => mixv (mixv (mixv (mixv (mixv 7 (f 0 j)) (f 1 j)) (f 2 j)) (f 3 j)) (f 4 j)
  | a + 1 => if f 6 a = nI j ∧ f 7 a = 2 then mixv (digM f j a) (f 8 a) else digM f j a
def befN (f : Nat → Nat → Int32) (a b : Nat) : Bool := if f 3 a = f 3 b then (if f 0 a = f 0 b then decide (¬ b ≤ a) else decide (¬ f 0 b ≤ f 0 a)) else decide (¬ f 3 b ≤ f 3 a)
def lsB (f : Nat → Nat → Int32) (lo : Option Nat) (i : Nat) : Bool := match lo with | none => true | some j => befN f j i
def filM (f : Nat → Nat → Int32) (lo : Option Nat) (sk k z t no : Int32) (ka i : Nat) : Bool :=
  decide (¬ t < f 5 i) && lsB f lo i && decide (k < 0 ∨ f 1 i = k) && decide (z < 0 ∨ f 2 i = z) && decide (¬ sk = 0 ∨ strM f no i ka = 0)
def folM (F : Nat → Bool) (B : Nat → Nat → Bool) : Nat → Option Nat
  | 0 => none
  | i + 1 => if F i = true then (match folM F B i with | none => some i | some b => if B i b = true then some i else some b) else folM F B i
theorem folM_lt {F : Nat → Bool} {B : Nat → Nat → Bool} {n b : Nat} (h : folM F B n = some b) : b < n ∧ F b = true := by
  induction n with
  | zero => cases h
  | succ n ih =>
    unfold folM at h
    split at h
    · rename_i hF
      split at h
      · cases h; exact ⟨by omega, hF⟩
      · rename_i b2 hb2
        split at h
        · cases h; exact ⟨by omega, hF⟩
        · cases h; exact ⟨by have := (ih hb2).1; omega, (ih hb2).2⟩
    · exact ⟨by have := (ih h).1; omega, (ih h).2⟩
set_option maxHeartbeats 4000000 in
set_option maxRecDepth 100000 in
theorem k_M_value (l : Launch) (G : va_G) (q0 q1 : ClassId × FieldType) (cI : ClassId) (ty2 : List (ClassId × FieldType)) (w : Nat → Option va_E) {mm : Nat} {ad : Nat → Nat} {f : Nat → Nat → Int32} {th no wr n k z r so pr : Int32} (hm : w mm = some (eM ad th no wr n k z r so pr)) (hma : ∀ i, i < 12 → w (ad i) = some (aI cI (msz i) (f i))) {ka : Nat} (hk : ka ≤ 200) (ek : k = nI ka) (j : Nat) (hj : j < 100) (t : Int32) : Met l y_M_value (wm y_M_value c_M_value 5 (some .int)) ({ frames := 0, cells := 0, slots := 0, locals := 0 }) (pW G (q0 :: q1 :: (cI, .int) :: ty2) w [.ref mm, .int (nI j), .int t]) (vp_Si (fun r => r = valM f t j ka)) 0 0 (fun _ => False) := by
  refine Met.ofW (cc := c_M_value) (maxL := 5) (ret := (some .int)) (by decide) rfl ?_
  intro p e s m args below meth c s₁ B hml hv
  obtain ⟨rfl, hM, hK⟩ := hv
  have hx := B.exec
  have hb := B.bytes
  have hr := B.returns
  have hts := atoms_spec (ws := (wm y_M_value c_M_value 5 (some .int))) B.pre
  have hta : ∀ w ∈ AL, w.before _ s = true := fun w h => hts w (List.mem_cons_of_mem _ h)
  have hown : s.vm.findClass nR_M = some m.cls := findClass_of_methodNamed B.named
  have hlocks := B.notSynchronized
  have hl := lv_entry ([.ref mm, .int (nI j), .int t]) (n := 5) (Nat.le_of_ble_eq_true rfl)
  rw [lg_entry_eq]
  generalize (lg_sl ([.ref mm, .int (nI j), .int t]) ++ List.replicate (5 - (lg_sl ([.ref mm, .int (nI j), .int t])).length) Slot.unset).toArray = ls at hl ⊢
  have hl : lv_has ls 5 [(0, .ref mm), (1, .int (nI j)), (2, .int t)] := hl
  have ha4 : w (ad 4) = some (aI cI 100 (f 4)) := hma 4 (by decide)
  have ha6 : w (ad 6) = some (aI cI 200 (f 6)) := hma 6 (by decide)
  have ha7 : w (ad 7) = some (aI cI 200 (f 7)) := hma 7 (by decide)
  have ha8 : w (ad 8) = some (aI cI 200 (f 8)) := hma 8 (by decide)
  have ha9 : w (ad 9) = some (aI cI 200 (f 9)) := hma 9 (by decide)
  have loop : ∀ (m9 a : Nat) (x3 x4 : Int32) (ls : Array Slot), a + m9 = ka → x3 = valM f t j a → x4 = nI a → lv_has ls 5 [(0, .ref mm), (1, .int (nI j)), (2, .int t), (3, .int x3), (4, .int x4)] → W p l e (headSpec (wm y_M_value c_M_value 5 (some .int)) ({ frames := 0, cells := 0, slots := 0, locals := 0 })).room s m ([.ref mm, .int (nI j), .int t] : List Value).toArray below meth c s.heap [] 0 0 (MQ below (vp_Si (fun r => r = valM f t j ka)) ([.ref mm, .int (nI j), .int t] : List Value).toArray s 0 0 (fun _ => False)) (F0 m 10 ls []) := by
    intro m9
    induction m9 with
    | zero =>
      intro a x3 x4 ls hi e3 e4 hl
      refine lv_iload hx hb d_M_value_10 (lv_at hl 4 rfl) ?_
      refine lv_aload_n hx hb d_M_value_12 rfl (lv_at hl 0 rfl) ?_
      refine m_get (D := G) (ci := 6) (v := .int k) (C := nR_M) (T := nT_M) (N := 21) hx hb hta in_M hown hK hM hm rfl 10 (by decide) (hta _ aw_553) (fun _ h9 => h9) rfl d_M_value_13 ?_
      refine lv_icmp_ge (tgt := 66) hx hb d_M_value_16 (by decide) (fun c_1 => ?_) (fun c_1 => absurd (by rw [e4, ek]; exact nI_le (by omega) (by omega)) c_1)
      refine lv_iload_n hx hb d_M_value_66 rfl (lv_at hl 3 rfl) ?_
      exact W.iret (v := x3) hx hb hr (fun t ht hW => ⟨x3, rfl, by rw [e3, show a = ka by omega], ht⟩) (fun q h => nomatch h) d_M_value_67
    | succ m9 ih =>
      intro a x3 x4 ls hi e3 e4 hl
      refine lv_iload hx hb d_M_value_10 (lv_at hl 4 rfl) ?_
      refine lv_aload_n hx hb d_M_value_12 rfl (lv_at hl 0 rfl) ?_
      refine m_get (D := G) (ci := 6) (v := .int k) (C := nR_M) (T := nT_M) (N := 21) hx hb hta in_M hown hK hM hm rfl 10 (by decide) (hta _ aw_553) (fun _ h9 => h9) rfl d_M_value_13 ?_
      refine lv_icmp_ge (tgt := 66) hx hb d_M_value_16 (by decide) (fun c_2 => absurd c_2 (by rw [e4, ek]; exact nI_ge (by omega) (by omega))) (fun c_2 => ?_)
      refine lv_aload_n hx hb d_M_value_19 rfl (lv_at hl 0 rfl) ?_
      refine m_get (D := G) (ci := 6) (v := .ref (ad 6)) (C := nR_M) (T := nT_M) (N := 21) hx hb hta in_M hown hK hM hm rfl 11 (by decide) (hta _ aw_554) (fun _ h9 => h9) rfl d_M_value_20 ?_
      refine lv_iload hx hb d_M_value_23 (lv_at hl 4 rfl) ?_
      refine m_ialv hx hb hK hM 2 ha6 rfl (by rw [e4]; exact vp_in_nI (by omega) (by omega)) (v := f 6 a) (by rw [e4, nI_clamp (by omega)]) d_M_value_25 ?_
      refine lv_iload_n hx hb d_M_value_26 rfl (lv_at hl 1 rfl) ?_
      refine lv_icmp_ne (tgt := 60) hx hb d_M_value_27 (by decide) (fun c_3 => ?_) (fun c_3 => ?_)
      · obtain ⟨x_4, ex_4⟩ : ∃ y : Int32, y = x4 + 1 := ⟨_, rfl⟩
        refine lv_iinc (v := x_4) (lv' := [(4, .int x_4), (0, .ref mm), (1, .int (nI j)), (2, .int t), (3, .int x3)]) hx hb d_M_value_60 hl (k := 4) rfl (by rw [ex_4]; rfl) (by decide) rfl (fun ls hl => ?_)
        refine lv_goto (tgt := 10) hx hb d_M_value_63 (by decide) ?_
        exact ih (a + 1) x3 x_4 ls (by omega) (by simp [valM, e3, c_3]) (by rw [ex_4, e4, nI_1]) (lv_sub hl [1, 2, 3, 4, 0] rfl)
      · refine lv_aload_n hx hb d_M_value_30 rfl (lv_at hl 0 rfl) ?_
        refine m_get (D := G) (ci := 6) (v := .ref (ad 7)) (C := nR_M) (T := nT_M) (N := 21) hx hb hta in_M hown hK hM hm rfl 12 (by decide) (hta _ aw_555) (fun _ h9 => h9) rfl d_M_value_31 ?_
        refine lv_iload hx hb d_M_value_34 (lv_at hl 4 rfl) ?_
        refine m_ialv hx hb hK hM 2 ha7 rfl (by rw [e4]; exact vp_in_nI (by omega) (by omega)) (v := f 7 a) (by rw [e4, nI_clamp (by omega)]) d_M_value_36 ?_
        refine lv_iconst (v := 2) hx hb d_M_value_37 (by decide) ?_
        refine lv_icmp_ne (tgt := 60) hx hb d_M_value_38 (by decide) (fun c_5 => ?_) (fun c_5 => ?_)
        · obtain ⟨x_6, ex_6⟩ : ∃ y : Int32, y = x4 + 1 := ⟨_, rfl⟩
          refine lv_iinc (v := x_6) (lv' := [(4, .int x_6), (0, .ref mm), (1, .int (nI j)), (2, .int t), (3, .int x3)]) hx hb d_M_value_60 hl (k := 4) rfl (by rw [ex_6]; rfl) (by decide) rfl (fun ls hl => ?_)
          refine lv_goto (tgt := 10) hx hb d_M_value_63 (by decide) ?_
          exact ih (a + 1) x3 x_6 ls (by omega) (by simp [valM, e3, c_3, c_5]) (by rw [ex_6, e4, nI_1]) (lv_sub hl [1, 2, 3, 4, 0] rfl)
        · refine lv_aload_n hx hb d_M_value_41 rfl (lv_at hl 0 rfl) ?_
          refine m_get (D := G) (ci := 6) (v := .ref (ad 9)) (C := nR_M) (T := nT_M) (N := 21) hx hb hta in_M hown hK hM hm rfl 14 (by decide) (hta _ aw_557) (fun _ h9 => h9) rfl d_M_value_42 ?_
          refine lv_iload hx hb d_M_value_45 (lv_at hl 4 rfl) ?_
          refine m_ialv hx hb hK hM 2 ha9 rfl (by rw [e4]; exact vp_in_nI (by omega) (by omega)) (v := f 9 a) (by rw [e4, nI_clamp (by omega)]) d_M_value_47 ?_
          refine lv_iload_n hx hb d_M_value_48 rfl (lv_at hl 2 rfl) ?_
          refine lv_icmp_gt (tgt := 60) hx hb d_M_value_49 (by decide) (fun c_7 => ?_) (fun c_7 => ?_)
          · obtain ⟨x_8, ex_8⟩ : ∃ y : Int32, y = x4 + 1 := ⟨_, rfl⟩
            refine lv_iinc (v := x_8) (lv' := [(4, .int x_8), (0, .ref mm), (1, .int (nI j)), (2, .int t), (3, .int x3)]) hx hb d_M_value_60 hl (k := 4) rfl (by rw [ex_8]; rfl) (by decide) rfl (fun ls hl => ?_)
            refine lv_goto (tgt := 10) hx hb d_M_value_63 (by decide) ?_
            exact ih (a + 1) x3 x_8 ls (by omega) (by simp [valM, e3, c_3, c_5, c_7]) (by rw [ex_8, e4, nI_1]) (lv_sub hl [1, 2, 3, 4, 0] rfl)
          · refine lv_aload_n hx hb d_M_value_52 rfl (lv_at hl 0 rfl) ?_
            refine m_get (D := G) (ci := 6) (v := .ref (ad 8)) (C := nR_M) (T := nT_M) (N := 21) hx hb hta in_M hown hK hM hm rfl 13 (by decide) (hta _ aw_556) (fun _ h9 => h9) rfl d_M_value_53 ?_
            refine lv_iload hx hb d_M_value_56 (lv_at hl 4 rfl) ?_
            refine m_ialv hx hb hK hM 2 ha8 rfl (by rw [e4]; exact vp_in_nI (by omega) (by omega)) (v := f 8 a) (by rw [e4, nI_clamp (by omega)]) d_M_value_58 ?_
            refine lv_istore_n (lv' := [(3, .int (f 8 a)), (0, .ref mm), (1, .int (nI j)), (2, .int t), (4, .int x4)]) hx hb d_M_value_59 rfl hl (by decide) rfl (fun ls hl => ?_)
            obtain ⟨x_9, ex_9⟩ : ∃ y : Int32, y = x4 + 1 := ⟨_, rfl⟩
            refine lv_iinc (v := x_9) (lv' := [(4, .int x_9), (3, .int (f 8 a)), (0, .ref mm), (1, .int (nI j)), (2, .int t)]) hx hb d_M_value_60 hl (k := 4) rfl (by rw [ex_9]; rfl) (by decide) rfl (fun ls hl => ?_)
            refine lv_goto (tgt := 10) hx hb d_M_value_63 (by decide) ?_
            exact ih (a + 1) (f 8 a) x_9 ls (by omega) (by simp [valM, e3, c_3, c_5, c_7]) (by rw [ex_9, e4, nI_1]) (lv_sub hl [2, 3, 4, 1, 0] rfl)
  refine lv_aload_n hx hb d_M_value_0 rfl (lv_at hl 0 rfl) ?_
  refine m_get (D := G) (ci := 6) (v := .ref (ad 4)) (C := nR_M) (T := nT_M) (N := 21) hx hb hta in_M hown hK hM hm rfl 8 (by decide) (hta _ aw_551) (fun _ h9 => h9) rfl d_M_value_1 ?_
  refine lv_iload_n hx hb d_M_value_4 rfl (lv_at hl 1 rfl) ?_
  refine m_ialv hx hb hK hM 2 ha4 rfl (vp_in_nI hj (by omega)) (v := f 4 j) (by rw [nI_clamp (by omega)]) d_M_value_5 ?_
  refine lv_istore_n (lv' := [(3, .int (f 4 j)), (0, .ref mm), (1, .int (nI j)), (2, .int t)]) hx hb d_M_value_6 rfl hl (by decide) rfl (fun ls hl => ?_)
  refine lv_iconst (v := 0) hx hb d_M_value_7 (by decide) ?_
  refine lv_istore (lv' := [(4, .int 0), (3, .int (f 4 j)), (0, .ref mm), (1, .int (nI j)), (2, .int t)]) hx hb d_M_value_8 hl (by decide) rfl (fun ls hl => ?_)
  exact loop ka 0 _ 0 ls (by omega) rfl rfl (lv_sub hl [2, 3, 4, 1, 0] rfl)
theorem strM_01 (f : Nat → Nat → Int32) (t : Int32) (j a : Nat) : strM f t j a = 0 ∨ strM f t j a = 1 := by
  induction a with
  | zero => exact Or.inl rfl
  | succ a ih => unfold strM; split
                 · split
                   · exact Or.inr rfl
                   · exact Or.inl rfl
                 · exact ih
theorem z_01 {x : Int32} (h : x = 0 ∨ x = 1) : narrow .boolean (.int x) = .int x := by rcases h with h | h <;> rw [h] <;> rfl
set_option maxHeartbeats 4000000 in
set_option maxRecDepth 100000 in
theorem k_M_isStruck (l : Launch) (G : va_G) (q0 q1 : ClassId × FieldType) (cI : ClassId) (ty2 : List (ClassId × FieldType)) (w : Nat → Option va_E) {mm : Nat} {ad : Nat → Nat} {f : Nat → Nat → Int32} {th no wr n k z r so pr : Int32} (hm : w mm = some (eM ad th no wr n k z r so pr)) (hma : ∀ i, i < 12 → w (ad i) = some (aI cI (msz i) (f i))) {ka : Nat} (hk : ka ≤ 200) (ek : k = nI ka) (j : Nat) (t : Int32) : Met l y_M_isStruck (wm y_M_isStruck c_M_isStruck 5 (some .boolean)) ({ frames := 0, cells := 0, slots := 0, locals := 0 }) (pW G (q0 :: q1 :: (cI, .int) :: ty2) w [.ref mm, .int (nI j), .int t]) (vp_Si (fun r => r = strM f t j ka)) 0 0 (fun _ => False) := by
  refine Met.ofW (cc := c_M_isStruck) (maxL := 5) (ret := (some .boolean)) (by decide) rfl ?_
  intro p e s m args below meth c s₁ B hml hv
  obtain ⟨rfl, hM, hK⟩ := hv
  have hx := B.exec
  have hb := B.bytes
  have hr := B.returns
  have hts := atoms_spec (ws := (wm y_M_isStruck c_M_isStruck 5 (some .boolean))) B.pre
  have hta : ∀ w ∈ AL, w.before _ s = true := fun w h => hts w (List.mem_cons_of_mem _ h)
  have hown : s.vm.findClass nR_M = some m.cls := findClass_of_methodNamed B.named
  have hlocks := B.notSynchronized
  have hl := lv_entry ([.ref mm, .int (nI j), .int t]) (n := 5) (Nat.le_of_ble_eq_true rfl)
  rw [lg_entry_eq]
  generalize (lg_sl ([.ref mm, .int (nI j), .int t]) ++ List.replicate (5 - (lg_sl ([.ref mm, .int (nI j), .int t])).length) Slot.unset).toArray = ls at hl ⊢
  have hl : lv_has ls 5 [(0, .ref mm), (1, .int (nI j)), (2, .int t)] := hl
  have ha6 : w (ad 6) = some (aI cI 200 (f 6)) := hma 6 (by decide)
  have ha7 : w (ad 7) = some (aI cI 200 (f 7)) := hma 7 (by decide)
  have ha9 : w (ad 9) = some (aI cI 200 (f 9)) := hma 9 (by decide)
  have loop : ∀ (m9 a : Nat) (x3 x4 : Int32) (ls : Array Slot), a + m9 = ka → x3 = strM f t j a → x4 = nI a → lv_has ls 5 [(0, .ref mm), (1, .int (nI j)), (2, .int t), (3, .int x3), (4, .int x4)] → W p l e (headSpec (wm y_M_isStruck c_M_isStruck 5 (some .boolean)) ({ frames := 0, cells := 0, slots := 0, locals := 0 })).room s m ([.ref mm, .int (nI j), .int t] : List Value).toArray below meth c s.heap [] 0 0 (MQ below (vp_Si (fun r => r = strM f t j ka)) ([.ref mm, .int (nI j), .int t] : List Value).toArray s 0 0 (fun _ => False)) (F0 m 5 ls []) := by
    intro m9
    induction m9 with
    | zero =>
      intro a x3 x4 ls hi e3 e4 hl
      refine lv_iload hx hb d_M_isStruck_5 (lv_at hl 4 rfl) ?_
      refine lv_aload_n hx hb d_M_isStruck_7 rfl (lv_at hl 0 rfl) ?_
      refine m_get (D := G) (ci := 6) (v := .int k) (C := nR_M) (T := nT_M) (N := 21) hx hb hta in_M hown hK hM hm rfl 10 (by decide) (hta _ aw_553) (fun _ h9 => h9) rfl d_M_isStruck_8 ?_
      refine lv_icmp_ge (tgt := 69) hx hb d_M_isStruck_11 (by decide) (fun c_1 => ?_) (fun c_1 => absurd (by rw [e4, ek]; exact nI_le (by omega) (by omega)) c_1)
      refine lv_iload_n hx hb d_M_isStruck_69 rfl (lv_at hl 3 rfl) ?_
      exact W.zret (v := x3) hx hb hr (z_01 (by rw [e3]; exact strM_01 f t j a)) (fun t ht hW => ⟨x3, rfl, by rw [e3, show a = ka by omega], ht⟩) (fun q h => nomatch h) d_M_isStruck_70
    | succ m9 ih =>
      intro a x3 x4 ls hi e3 e4 hl
      refine lv_iload hx hb d_M_isStruck_5 (lv_at hl 4 rfl) ?_
      refine lv_aload_n hx hb d_M_isStruck_7 rfl (lv_at hl 0 rfl) ?_
      refine m_get (D := G) (ci := 6) (v := .int k) (C := nR_M) (T := nT_M) (N := 21) hx hb hta in_M hown hK hM hm rfl 10 (by decide) (hta _ aw_553) (fun _ h9 => h9) rfl d_M_isStruck_8 ?_
      refine lv_icmp_ge (tgt := 69) hx hb d_M_isStruck_11 (by decide) (fun c_2 => absurd c_2 (by rw [e4, ek]; exact nI_ge (by omega) (by omega))) (fun c_2 => ?_)
      refine lv_aload_n hx hb d_M_isStruck_14 rfl (lv_at hl 0 rfl) ?_
      refine m_get (D := G) (ci := 6) (v := .ref (ad 6)) (C := nR_M) (T := nT_M) (N := 21) hx hb hta in_M hown hK hM hm rfl 11 (by decide) (hta _ aw_554) (fun _ h9 => h9) rfl d_M_isStruck_15 ?_
      refine lv_iload hx hb d_M_isStruck_18 (lv_at hl 4 rfl) ?_
      refine m_ialv hx hb hK hM 2 ha6 rfl (by rw [e4]; exact vp_in_nI (by omega) (by omega)) (v := f 6 a) (by rw [e4, nI_clamp (by omega)]) d_M_isStruck_20 ?_
      refine lv_iload_n hx hb d_M_isStruck_21 rfl (lv_at hl 1 rfl) ?_
      refine lv_icmp_ne (tgt := 63) hx hb d_M_isStruck_22 (by decide) (fun c_3 => ?_) (fun c_3 => ?_)
      · obtain ⟨x_4, ex_4⟩ : ∃ y : Int32, y = x4 + 1 := ⟨_, rfl⟩
        refine lv_iinc (v := x_4) (lv' := [(4, .int x_4), (0, .ref mm), (1, .int (nI j)), (2, .int t), (3, .int x3)]) hx hb d_M_isStruck_63 hl (k := 4) rfl (by rw [ex_4]; rfl) (by decide) rfl (fun ls hl => ?_)
        refine lv_goto (tgt := 5) hx hb d_M_isStruck_66 (by decide) ?_
        exact ih (a + 1) x3 x_4 ls (by omega) (by simp [strM, e3, c_3]) (by rw [ex_4, e4, nI_1]) (lv_sub hl [1, 2, 3, 4, 0] rfl)
      · refine lv_aload_n hx hb d_M_isStruck_25 rfl (lv_at hl 0 rfl) ?_
        refine m_get (D := G) (ci := 6) (v := .ref (ad 7)) (C := nR_M) (T := nT_M) (N := 21) hx hb hta in_M hown hK hM hm rfl 12 (by decide) (hta _ aw_555) (fun _ h9 => h9) rfl d_M_isStruck_26 ?_
        refine lv_iload hx hb d_M_isStruck_29 (lv_at hl 4 rfl) ?_
        refine m_ialv hx hb hK hM 2 ha7 rfl (by rw [e4]; exact vp_in_nI (by omega) (by omega)) (v := f 7 a) (by rw [e4, nI_clamp (by omega)]) d_M_isStruck_31 ?_
        refine lv_iconst (v := 2) hx hb d_M_isStruck_32 (by decide) ?_
        refine lv_icmp_eq (tgt := 63) hx hb d_M_isStruck_33 (by decide) (fun c_5 => ?_) (fun c_5 => ?_)
        · obtain ⟨x_6, ex_6⟩ : ∃ y : Int32, y = x4 + 1 := ⟨_, rfl⟩
          refine lv_iinc (v := x_6) (lv' := [(4, .int x_6), (0, .ref mm), (1, .int (nI j)), (2, .int t), (3, .int x3)]) hx hb d_M_isStruck_63 hl (k := 4) rfl (by rw [ex_6]; rfl) (by decide) rfl (fun ls hl => ?_)
          refine lv_goto (tgt := 5) hx hb d_M_isStruck_66 (by decide) ?_
          exact ih (a + 1) x3 x_6 ls (by omega) (by simp [strM, e3, c_3, c_5]) (by rw [ex_6, e4, nI_1]) (lv_sub hl [1, 2, 3, 4, 0] rfl)
        · refine lv_aload_n hx hb d_M_isStruck_36 rfl (lv_at hl 0 rfl) ?_
          refine m_get (D := G) (ci := 6) (v := .ref (ad 9)) (C := nR_M) (T := nT_M) (N := 21) hx hb hta in_M hown hK hM hm rfl 14 (by decide) (hta _ aw_557) (fun _ h9 => h9) rfl d_M_isStruck_37 ?_
          refine lv_iload hx hb d_M_isStruck_40 (lv_at hl 4 rfl) ?_
          refine m_ialv hx hb hK hM 2 ha9 rfl (by rw [e4]; exact vp_in_nI (by omega) (by omega)) (v := f 9 a) (by rw [e4, nI_clamp (by omega)]) d_M_isStruck_42 ?_
          refine lv_iload_n hx hb d_M_isStruck_43 rfl (lv_at hl 2 rfl) ?_
          refine lv_icmp_gt (tgt := 63) hx hb d_M_isStruck_44 (by decide) (fun c_7 => ?_) (fun c_7 => ?_)
          · obtain ⟨x_8, ex_8⟩ : ∃ y : Int32, y = x4 + 1 := ⟨_, rfl⟩
            refine lv_iinc (v := x_8) (lv' := [(4, .int x_8), (0, .ref mm), (1, .int (nI j)), (2, .int t), (3, .int x3)]) hx hb d_M_isStruck_63 hl (k := 4) rfl (by rw [ex_8]; rfl) (by decide) rfl (fun ls hl => ?_)
            refine lv_goto (tgt := 5) hx hb d_M_isStruck_66 (by decide) ?_
            exact ih (a + 1) x3 x_8 ls (by omega) (by simp [strM, e3, c_3, c_5, c_7]) (by rw [ex_8, e4, nI_1]) (lv_sub hl [1, 2, 3, 4, 0] rfl)
          · refine lv_aload_n hx hb d_M_isStruck_47 rfl (lv_at hl 0 rfl) ?_
            refine m_get (D := G) (ci := 6) (v := .ref (ad 7)) (C := nR_M) (T := nT_M) (N := 21) hx hb hta in_M hown hK hM hm rfl 12 (by decide) (hta _ aw_555) (fun _ h9 => h9) rfl d_M_isStruck_48 ?_
            refine lv_iload hx hb d_M_isStruck_51 (lv_at hl 4 rfl) ?_
            refine m_ialv hx hb hK hM 2 ha7 rfl (by rw [e4]; exact vp_in_nI (by omega) (by omega)) (v := f 7 a) (by rw [e4, nI_clamp (by omega)]) d_M_isStruck_53 ?_
            refine lv_if_ne (tgt := 61) hx hb d_M_isStruck_54 (by decide) (fun c_9 => ?_) (fun c_9 => ?_)
            · refine lv_iconst (v := 0) hx hb d_M_isStruck_61 (by decide) ?_
              refine lv_istore_n (lv' := [(3, .int 0), (0, .ref mm), (1, .int (nI j)), (2, .int t), (4, .int x4)]) hx hb d_M_isStruck_62 rfl hl (by decide) rfl (fun ls hl => ?_)
              obtain ⟨x_10, ex_10⟩ : ∃ y : Int32, y = x4 + 1 := ⟨_, rfl⟩
              refine lv_iinc (v := x_10) (lv' := [(4, .int x_10), (3, .int 0), (0, .ref mm), (1, .int (nI j)), (2, .int t)]) hx hb d_M_isStruck_63 hl (k := 4) rfl (by rw [ex_10]; rfl) (by decide) rfl (fun ls hl => ?_)
              refine lv_goto (tgt := 5) hx hb d_M_isStruck_66 (by decide) ?_
              exact ih (a + 1) 0 x_10 ls (by omega) (by simp [strM, e3, c_3, c_5, c_7, c_9]) (by rw [ex_10, e4, nI_1]) (lv_sub hl [2, 3, 4, 1, 0] rfl)
            · refine lv_iconst (v := 1) hx hb d_M_isStruck_57 (by decide) ?_
              refine lv_goto (tgt := 62) hx hb d_M_isStruck_58 (by decide) ?_
              refine lv_istore_n (lv' := [(3, .int 1), (0, .ref mm), (1, .int (nI j)), (2, .int t), (4, .int x4)]) hx hb d_M_isStruck_62 rfl hl (by decide) rfl (fun ls hl => ?_)
              obtain ⟨x_11, ex_11⟩ : ∃ y : Int32, y = x4 + 1 := ⟨_, rfl⟩
              refine lv_iinc (v := x_11) (lv' := [(4, .int x_11), (3, .int 1), (0, .ref mm), (1, .int (nI j)), (2, .int t)]) hx hb d_M_isStruck_63 hl (k := 4) rfl (by rw [ex_11]; rfl) (by decide) rfl (fun ls hl => ?_)
              refine lv_goto (tgt := 5) hx hb d_M_isStruck_66 (by decide) ?_
              exact ih (a + 1) 1 x_11 ls (by omega) (by simp [strM, e3, c_3, c_5, c_7, c_9]) (by rw [ex_11, e4, nI_1]) (lv_sub hl [2, 3, 4, 1, 0] rfl)
  refine lv_iconst (v := 0) hx hb d_M_isStruck_0 (by decide) ?_
  refine lv_istore_n (lv' := [(3, .int 0), (0, .ref mm), (1, .int (nI j)), (2, .int t)]) hx hb d_M_isStruck_1 rfl hl (by decide) rfl (fun ls hl => ?_)
  refine lv_iconst (v := 0) hx hb d_M_isStruck_2 (by decide) ?_
  refine lv_istore (lv' := [(4, .int 0), (3, .int 0), (0, .ref mm), (1, .int (nI j)), (2, .int t)]) hx hb d_M_isStruck_3 hl (by decide) rfl (fun ls hl => ?_)
  exact loop ka 0 _ 0 ls (by omega) rfl rfl (lv_sub hl [2, 3, 4, 1, 0] rfl)
set_option maxHeartbeats 4000000 in
set_option maxRecDepth 100000 in
theorem k_M_many (l : Launch) (G : va_G) (q0 q1 : ClassId × FieldType) (cI : ClassId) (ty2 : List (ClassId × FieldType)) (w : Nat → Option va_E) {mm : Nat} {ad : Nat → Nat} {f : Nat → Nat → Int32} {th no wr n k z r so pr : Int32} (hm : w mm = some (eM ad th no wr n k z r so pr)) (hma : ∀ i, i < 12 → w (ad i) = some (aI cI (msz i) (f i))) {ka : Nat} (hk : ka ≤ 200) (ek : k = nI ka) (j : Nat) (t : Int32) : Met l y_M_many (wm y_M_many c_M_many 5 (some .int)) ({ frames := 0, cells := 0, slots := 0, locals := 0 }) (pW G (q0 :: q1 :: (cI, .int) :: ty2) w [.ref mm, .int (nI j), .int t]) (vp_Si (fun r => r = nI (manM f t j ka))) 0 0 (fun _ => False) := by
  refine Met.ofW (cc := c_M_many) (maxL := 5) (ret := (some .int)) (by decide) rfl ?_
  intro p e s m args below meth c s₁ B hml hv
  obtain ⟨rfl, hM, hK⟩ := hv
  have hx := B.exec
  have hb := B.bytes
  have hr := B.returns
  have hts := atoms_spec (ws := (wm y_M_many c_M_many 5 (some .int))) B.pre
  have hta : ∀ w ∈ AL, w.before _ s = true := fun w h => hts w (List.mem_cons_of_mem _ h)
  have hown : s.vm.findClass nR_M = some m.cls := findClass_of_methodNamed B.named
  have hlocks := B.notSynchronized
  have hl := lv_entry ([.ref mm, .int (nI j), .int t]) (n := 5) (Nat.le_of_ble_eq_true rfl)
  rw [lg_entry_eq]
  generalize (lg_sl ([.ref mm, .int (nI j), .int t]) ++ List.replicate (5 - (lg_sl ([.ref mm, .int (nI j), .int t])).length) Slot.unset).toArray = ls at hl ⊢
  have hl : lv_has ls 5 [(0, .ref mm), (1, .int (nI j)), (2, .int t)] := hl
  have ha6 : w (ad 6) = some (aI cI 200 (f 6)) := hma 6 (by decide)
  have ha7 : w (ad 7) = some (aI cI 200 (f 7)) := hma 7 (by decide)
  have loop : ∀ (m9 a : Nat) (x3 x4 : Int32) (ls : Array Slot), a + m9 = ka → x3 = nI (manM f t j a) → x4 = nI a → lv_has ls 5 [(0, .ref mm), (1, .int (nI j)), (2, .int t), (3, .int x3), (4, .int x4)] → W p l e (headSpec (wm y_M_many c_M_many 5 (some .int)) ({ frames := 0, cells := 0, slots := 0, locals := 0 })).room s m ([.ref mm, .int (nI j), .int t] : List Value).toArray below meth c s.heap [] 0 0 (MQ below (vp_Si (fun r => r = nI (manM f t j ka))) ([.ref mm, .int (nI j), .int t] : List Value).toArray s 0 0 (fun _ => False)) (F0 m 5 ls []) := by
    intro m9
    induction m9 with
    | zero =>
      intro a x3 x4 ls hi e3 e4 hl
      refine lv_iload hx hb d_M_many_5 (lv_at hl 4 rfl) ?_
      refine lv_aload_n hx hb d_M_many_7 rfl (lv_at hl 0 rfl) ?_
      refine m_get (D := G) (ci := 6) (v := .int k) (C := nR_M) (T := nT_M) (N := 21) hx hb hta in_M hown hK hM hm rfl 10 (by decide) (hta _ aw_553) (fun _ h9 => h9) rfl d_M_many_8 ?_
      refine lv_icmp_ge (tgt := 49) hx hb d_M_many_11 (by decide) (fun c_1 => ?_) (fun c_1 => absurd (by rw [e4, ek]; exact nI_le (by omega) (by omega)) c_1)
      refine lv_iload_n hx hb d_M_many_49 rfl (lv_at hl 3 rfl) ?_
      exact W.iret (v := x3) hx hb hr (fun t ht hW => ⟨x3, rfl, by rw [e3, show a = ka by omega], ht⟩) (fun q h => nomatch h) d_M_many_50
    | succ m9 ih =>
      intro a x3 x4 ls hi e3 e4 hl
      refine lv_iload hx hb d_M_many_5 (lv_at hl 4 rfl) ?_
      refine lv_aload_n hx hb d_M_many_7 rfl (lv_at hl 0 rfl) ?_
      refine m_get (D := G) (ci := 6) (v := .int k) (C := nR_M) (T := nT_M) (N := 21) hx hb hta in_M hown hK hM hm rfl 10 (by decide) (hta _ aw_553) (fun _ h9 => h9) rfl d_M_many_8 ?_
      refine lv_icmp_ge (tgt := 49) hx hb d_M_many_11 (by decide) (fun c_2 => absurd c_2 (by rw [e4, ek]; exact nI_ge (by omega) (by omega))) (fun c_2 => ?_)
      refine lv_aload_n hx hb d_M_many_14 rfl (lv_at hl 0 rfl) ?_
      refine m_get (D := G) (ci := 6) (v := .ref (ad 6)) (C := nR_M) (T := nT_M) (N := 21) hx hb hta in_M hown hK hM hm rfl 11 (by decide) (hta _ aw_554) (fun _ h9 => h9) rfl d_M_many_15 ?_
      refine lv_iload hx hb d_M_many_18 (lv_at hl 4 rfl) ?_
      refine m_ialv hx hb hK hM 2 ha6 rfl (by rw [e4]; exact vp_in_nI (by omega) (by omega)) (v := f 6 a) (by rw [e4, nI_clamp (by omega)]) d_M_many_20 ?_
      refine lv_iload_n hx hb d_M_many_21 rfl (lv_at hl 1 rfl) ?_
      refine lv_icmp_ne (tgt := 43) hx hb d_M_many_22 (by decide) (fun c_3 => ?_) (fun c_3 => ?_)
      · obtain ⟨x_4, ex_4⟩ : ∃ y : Int32, y = x4 + 1 := ⟨_, rfl⟩
        refine lv_iinc (v := x_4) (lv' := [(4, .int x_4), (0, .ref mm), (1, .int (nI j)), (2, .int t), (3, .int x3)]) hx hb d_M_many_43 hl (k := 4) rfl (by rw [ex_4]; rfl) (by decide) rfl (fun ls hl => ?_)
        refine lv_goto (tgt := 5) hx hb d_M_many_46 (by decide) ?_
        exact ih (a + 1) x3 x_4 ls (by omega) (by rw [e3, manM, if_neg (by simp [c_3])]; rfl) (by rw [ex_4, e4, nI_1]) (lv_sub hl [1, 2, 3, 4, 0] rfl)
      · refine lv_iload_n hx hb d_M_many_25 rfl (lv_at hl 2 rfl) ?_
        refine lv_if_ne (tgt := 40) hx hb d_M_many_26 (by decide) (fun c_5 => ?_) (fun c_5 => ?_)
        · obtain ⟨x_6, ex_6⟩ : ∃ y : Int32, y = x3 + 1 := ⟨_, rfl⟩
          refine lv_iinc (v := x_6) (lv' := [(3, .int x_6), (0, .ref mm), (1, .int (nI j)), (2, .int t), (4, .int x4)]) hx hb d_M_many_40 hl (k := 3) rfl (by rw [ex_6]; rfl) (by decide) rfl (fun ls hl => ?_)
          obtain ⟨x_7, ex_7⟩ : ∃ y : Int32, y = x4 + 1 := ⟨_, rfl⟩
          refine lv_iinc (v := x_7) (lv' := [(4, .int x_7), (3, .int x_6), (0, .ref mm), (1, .int (nI j)), (2, .int t)]) hx hb d_M_many_43 hl (k := 4) rfl (by rw [ex_7]; rfl) (by decide) rfl (fun ls hl => ?_)
          refine lv_goto (tgt := 5) hx hb d_M_many_46 (by decide) ?_
          exact ih (a + 1) x_6 x_7 ls (by omega) (by rw [ex_6, e3, manM, if_pos (by simp [c_3, c_5]), nI_1]) (by rw [ex_7, e4, nI_1]) (lv_sub hl [2, 3, 4, 1, 0] rfl)
        · refine lv_aload_n hx hb d_M_many_29 rfl (lv_at hl 0 rfl) ?_
          refine m_get (D := G) (ci := 6) (v := .ref (ad 7)) (C := nR_M) (T := nT_M) (N := 21) hx hb hta in_M hown hK hM hm rfl 12 (by decide) (hta _ aw_555) (fun _ h9 => h9) rfl d_M_many_30 ?_
          refine lv_iload hx hb d_M_many_33 (lv_at hl 4 rfl) ?_
          refine m_ialv hx hb hK hM 2 ha7 rfl (by rw [e4]; exact vp_in_nI (by omega) (by omega)) (v := f 7 a) (by rw [e4, nI_clamp (by omega)]) d_M_many_35 ?_
          refine lv_iconst (v := 2) hx hb d_M_many_36 (by decide) ?_
          refine lv_icmp_ne (tgt := 43) hx hb d_M_many_37 (by decide) (fun c_8 => ?_) (fun c_8 => ?_)
          · obtain ⟨x_9, ex_9⟩ : ∃ y : Int32, y = x4 + 1 := ⟨_, rfl⟩
            refine lv_iinc (v := x_9) (lv' := [(4, .int x_9), (0, .ref mm), (1, .int (nI j)), (2, .int t), (3, .int x3)]) hx hb d_M_many_43 hl (k := 4) rfl (by rw [ex_9]; rfl) (by decide) rfl (fun ls hl => ?_)
            refine lv_goto (tgt := 5) hx hb d_M_many_46 (by decide) ?_
            exact ih (a + 1) x3 x_9 ls (by omega) (by rw [e3, manM, if_neg (by simp [c_3, c_5, c_8])]; rfl) (by rw [ex_9, e4, nI_1]) (lv_sub hl [1, 2, 3, 4, 0] rfl)
          · obtain ⟨x_10, ex_10⟩ : ∃ y : Int32, y = x3 + 1 := ⟨_, rfl⟩
            refine lv_iinc (v := x_10) (lv' := [(3, .int x_10), (0, .ref mm), (1, .int (nI j)), (2, .int t), (4, .int x4)]) hx hb d_M_many_40 hl (k := 3) rfl (by rw [ex_10]; rfl) (by decide) rfl (fun ls hl => ?_)
            obtain ⟨x_11, ex_11⟩ : ∃ y : Int32, y = x4 + 1 := ⟨_, rfl⟩
            refine lv_iinc (v := x_11) (lv' := [(4, .int x_11), (3, .int x_10), (0, .ref mm), (1, .int (nI j)), (2, .int t)]) hx hb d_M_many_43 hl (k := 4) rfl (by rw [ex_11]; rfl) (by decide) rfl (fun ls hl => ?_)
            refine lv_goto (tgt := 5) hx hb d_M_many_46 (by decide) ?_
            exact ih (a + 1) x_10 x_11 ls (by omega) (by rw [ex_10, e3, manM, if_pos (by simp [c_3, c_5, c_8]), nI_1]) (by rw [ex_11, e4, nI_1]) (lv_sub hl [2, 3, 4, 1, 0] rfl)
  refine lv_iconst (v := 0) hx hb d_M_many_0 (by decide) ?_
  refine lv_istore_n (lv' := [(3, .int 0), (0, .ref mm), (1, .int (nI j)), (2, .int t)]) hx hb d_M_many_1 rfl hl (by decide) rfl (fun ls hl => ?_)
  refine lv_iconst (v := 0) hx hb d_M_many_2 (by decide) ?_
  refine lv_istore (lv' := [(4, .int 0), (3, .int 0), (0, .ref mm), (1, .int (nI j)), (2, .int t)]) hx hb d_M_many_3 hl (by decide) rfl (fun ls hl => ?_)
  exact loop ka 0 _ 0 ls (by omega) rfl rfl (lv_sub hl [2, 3, 4, 1, 0] rfl)
set_option maxHeartbeats 4000000 in
set_option maxRecDepth 100000 in
theorem k_M_isBefore (l : Launch) (G : va_G) (q0 q1 : ClassId × FieldType) (cI : ClassId) (ty2 : List (ClassId × FieldType)) (w : Nat → Option va_E) {mm : Nat} {ad : Nat → Nat} {f : Nat → Nat → Int32} {th no wr n k z r so pr : Int32} (hm : w mm = some (eM ad th no wr n k z r so pr)) (hma : ∀ i, i < 12 → w (ad i) = some (aI cI (msz i) (f i))) (a b : Nat) (ha : a < 100) (hb2 : b < 100) : Met l y_M_isBefore (wm y_M_isBefore c_M_isBefore 3 (some .boolean)) ({ frames := 0, cells := 0, slots := 0, locals := 0 }) (pW G (q0 :: q1 :: (cI, .int) :: ty2) w [.ref mm, .int (nI a), .int (nI b)]) (vp_Si (fun r => r = if befN f a b = true then 1 else 0)) 0 0 (fun _ => False) := by
  refine Met.ofW (cc := c_M_isBefore) (maxL := 3) (ret := (some .boolean)) (by decide) rfl ?_
  intro p e s m args below meth c s₁ B hml hv
  obtain ⟨rfl, hM, hK⟩ := hv
  have hx := B.exec
  have hb := B.bytes
  have hr := B.returns
  have hts := atoms_spec (ws := (wm y_M_isBefore c_M_isBefore 3 (some .boolean))) B.pre
  have hta : ∀ w ∈ AL, w.before _ s = true := fun w h => hts w (List.mem_cons_of_mem _ h)
  have hown : s.vm.findClass nR_M = some m.cls := findClass_of_methodNamed B.named
  have hlocks := B.notSynchronized
  have hl := lv_entry ([.ref mm, .int (nI a), .int (nI b)]) (n := 3) (Nat.le_of_ble_eq_true rfl)
  rw [lg_entry_eq]
  generalize (lg_sl ([.ref mm, .int (nI a), .int (nI b)]) ++ List.replicate (3 - (lg_sl ([.ref mm, .int (nI a), .int (nI b)])).length) Slot.unset).toArray = ls at hl ⊢
  have hl : lv_has ls 3 [(0, .ref mm), (1, .int (nI a)), (2, .int (nI b))] := hl
  have ha0 : w (ad 0) = some (aI cI 100 (f 0)) := hma 0 (by decide)
  have ha3 : w (ad 3) = some (aI cI 100 (f 3)) := hma 3 (by decide)
  refine lv_aload_n hx hb d_M_isBefore_0 rfl (lv_at hl 0 rfl) ?_
  refine m_get (D := G) (ci := 6) (v := .ref (ad 3)) (C := nR_M) (T := nT_M) (N := 21) hx hb hta in_M hown hK hM hm rfl 7 (by decide) (hta _ aw_550) (fun _ h9 => h9) rfl d_M_isBefore_1 ?_
  refine lv_iload_n hx hb d_M_isBefore_4 rfl (lv_at hl 1 rfl) ?_
  refine m_ialv hx hb hK hM 2 ha3 rfl (vp_in_nI ha (by omega)) (v := f 3 a) (by rw [nI_clamp (by omega)]) d_M_isBefore_5 ?_
  refine lv_aload_n hx hb d_M_isBefore_6 rfl (lv_at hl 0 rfl) ?_
  refine m_get (D := G) (ci := 6) (v := .ref (ad 3)) (C := nR_M) (T := nT_M) (N := 21) hx hb hta in_M hown hK hM hm rfl 7 (by decide) (hta _ aw_550) (fun _ h9 => h9) rfl d_M_isBefore_7 ?_
  refine lv_iload_n hx hb d_M_isBefore_10 rfl (lv_at hl 2 rfl) ?_
  refine m_ialv hx hb hK hM 2 ha3 rfl (vp_in_nI hb2 (by omega)) (v := f 3 b) (by rw [nI_clamp (by omega)]) d_M_isBefore_11 ?_
  refine lv_icmp_eq (tgt := 36) hx hb d_M_isBefore_12 (by decide) (fun c_1 => ?_) (fun c_1 => ?_)
  · refine lv_aload_n hx hb d_M_isBefore_36 rfl (lv_at hl 0 rfl) ?_
    refine m_get (D := G) (ci := 6) (v := .ref (ad 0)) (C := nR_M) (T := nT_M) (N := 21) hx hb hta in_M hown hK hM hm rfl 4 (by decide) (hta _ aw_547) (fun _ h9 => h9) rfl d_M_isBefore_37 ?_
    refine lv_iload_n hx hb d_M_isBefore_40 rfl (lv_at hl 1 rfl) ?_
    refine m_ialv hx hb hK hM 2 ha0 rfl (vp_in_nI ha (by omega)) (v := f 0 a) (by rw [nI_clamp (by omega)]) d_M_isBefore_41 ?_
    refine lv_aload_n hx hb d_M_isBefore_42 rfl (lv_at hl 0 rfl) ?_
    refine m_get (D := G) (ci := 6) (v := .ref (ad 0)) (C := nR_M) (T := nT_M) (N := 21) hx hb hta in_M hown hK hM hm rfl 4 (by decide) (hta _ aw_547) (fun _ h9 => h9) rfl d_M_isBefore_43 ?_
    refine lv_iload_n hx hb d_M_isBefore_46 rfl (lv_at hl 2 rfl) ?_
    refine m_ialv hx hb hK hM 2 ha0 rfl (vp_in_nI hb2 (by omega)) (v := f 0 b) (by rw [nI_clamp (by omega)]) d_M_isBefore_47 ?_
    refine lv_icmp_eq (tgt := 74) hx hb d_M_isBefore_48 (by decide) (fun c_2 => ?_) (fun c_2 => ?_)
    · refine lv_iload_n hx hb d_M_isBefore_74 rfl (lv_at hl 1 rfl) ?_
      refine lv_iload_n hx hb d_M_isBefore_75 rfl (lv_at hl 2 rfl) ?_
      refine lv_icmp_ge (tgt := 83) hx hb d_M_isBefore_76 (by decide) (fun c_3 => ?_) (fun c_3 => ?_)
      · refine lv_iconst (v := 0) hx hb d_M_isBefore_83 (by decide) ?_
        exact W.zret (v := 0) hx hb hr rfl (fun t ht hW => ⟨0, rfl, by simp [befN, ← nI_leI (a := b) (b := a) (by omega) (by omega), c_1, c_2, c_3], ht⟩) (fun q h => nomatch h) d_M_isBefore_84
      · refine lv_iconst (v := 1) hx hb d_M_isBefore_79 (by decide) ?_
        refine lv_goto (tgt := 84) hx hb d_M_isBefore_80 (by decide) ?_
        exact W.zret (v := 1) hx hb hr rfl (fun t ht hW => ⟨1, rfl, by simp [befN, ← nI_leI (a := b) (b := a) (by omega) (by omega), c_1, c_2, c_3], ht⟩) (fun q h => nomatch h) d_M_isBefore_84
    · refine lv_aload_n hx hb d_M_isBefore_51 rfl (lv_at hl 0 rfl) ?_
      refine m_get (D := G) (ci := 6) (v := .ref (ad 0)) (C := nR_M) (T := nT_M) (N := 21) hx hb hta in_M hown hK hM hm rfl 4 (by decide) (hta _ aw_547) (fun _ h9 => h9) rfl d_M_isBefore_52 ?_
      refine lv_iload_n hx hb d_M_isBefore_55 rfl (lv_at hl 1 rfl) ?_
      refine m_ialv hx hb hK hM 2 ha0 rfl (vp_in_nI ha (by omega)) (v := f 0 a) (by rw [nI_clamp (by omega)]) d_M_isBefore_56 ?_
      refine lv_aload_n hx hb d_M_isBefore_57 rfl (lv_at hl 0 rfl) ?_
      refine m_get (D := G) (ci := 6) (v := .ref (ad 0)) (C := nR_M) (T := nT_M) (N := 21) hx hb hta in_M hown hK hM hm rfl 4 (by decide) (hta _ aw_547) (fun _ h9 => h9) rfl d_M_isBefore_58 ?_
      refine lv_iload_n hx hb d_M_isBefore_61 rfl (lv_at hl 2 rfl) ?_
      refine m_ialv hx hb hK hM 2 ha0 rfl (vp_in_nI hb2 (by omega)) (v := f 0 b) (by rw [nI_clamp (by omega)]) d_M_isBefore_62 ?_
      refine lv_icmp_ge (tgt := 70) hx hb d_M_isBefore_63 (by decide) (fun c_4 => ?_) (fun c_4 => ?_)
      · refine lv_iconst (v := 0) hx hb d_M_isBefore_70 (by decide) ?_
        refine lv_goto (tgt := 84) hx hb d_M_isBefore_71 (by decide) ?_
        exact W.zret (v := 0) hx hb hr rfl (fun t ht hW => ⟨0, rfl, by simp [befN, ← nI_leI (a := b) (b := a) (by omega) (by omega), c_1, c_2, c_4], ht⟩) (fun q h => nomatch h) d_M_isBefore_84
      · refine lv_iconst (v := 1) hx hb d_M_isBefore_66 (by decide) ?_
        refine lv_goto (tgt := 84) hx hb d_M_isBefore_67 (by decide) ?_
        exact W.zret (v := 1) hx hb hr rfl (fun t ht hW => ⟨1, rfl, by simp [befN, ← nI_leI (a := b) (b := a) (by omega) (by omega), c_1, c_2, c_4], ht⟩) (fun q h => nomatch h) d_M_isBefore_84
  · refine lv_aload_n hx hb d_M_isBefore_15 rfl (lv_at hl 0 rfl) ?_
    refine m_get (D := G) (ci := 6) (v := .ref (ad 3)) (C := nR_M) (T := nT_M) (N := 21) hx hb hta in_M hown hK hM hm rfl 7 (by decide) (hta _ aw_550) (fun _ h9 => h9) rfl d_M_isBefore_16 ?_
    refine lv_iload_n hx hb d_M_isBefore_19 rfl (lv_at hl 1 rfl) ?_
    refine m_ialv hx hb hK hM 2 ha3 rfl (vp_in_nI ha (by omega)) (v := f 3 a) (by rw [nI_clamp (by omega)]) d_M_isBefore_20 ?_
    refine lv_aload_n hx hb d_M_isBefore_21 rfl (lv_at hl 0 rfl) ?_
    refine m_get (D := G) (ci := 6) (v := .ref (ad 3)) (C := nR_M) (T := nT_M) (N := 21) hx hb hta in_M hown hK hM hm rfl 7 (by decide) (hta _ aw_550) (fun _ h9 => h9) rfl d_M_isBefore_22 ?_
    refine lv_iload_n hx hb d_M_isBefore_25 rfl (lv_at hl 2 rfl) ?_
    refine m_ialv hx hb hK hM 2 ha3 rfl (vp_in_nI hb2 (by omega)) (v := f 3 b) (by rw [nI_clamp (by omega)]) d_M_isBefore_26 ?_
    refine lv_icmp_ge (tgt := 34) hx hb d_M_isBefore_27 (by decide) (fun c_5 => ?_) (fun c_5 => ?_)
    · refine lv_iconst (v := 0) hx hb d_M_isBefore_34 (by decide) ?_
      exact W.zret (v := 0) hx hb hr rfl (fun t ht hW => ⟨0, rfl, by simp [befN, ← nI_leI (a := b) (b := a) (by omega) (by omega), c_1, c_5], ht⟩) (fun q h => nomatch h) d_M_isBefore_35
    · refine lv_iconst (v := 1) hx hb d_M_isBefore_30 (by decide) ?_
      refine lv_goto (tgt := 35) hx hb d_M_isBefore_31 (by decide) ?_
      exact W.zret (v := 1) hx hb hr rfl (fun t ht hW => ⟨1, rfl, by simp [befN, ← nI_leI (a := b) (b := a) (by omega) (by omega), c_1, c_5], ht⟩) (fun q h => nomatch h) d_M_isBefore_35
set_option maxHeartbeats 4000000 in
set_option maxRecDepth 100000 in
theorem k_M_isNote (l : Launch) (G : va_G) (q0 q1 : ClassId × FieldType) (cI : ClassId) (ty2 : List (ClassId × FieldType)) (w : Nat → Option va_E) {mm : Nat} {ad : Nat → Nat} {f : Nat → Nat → Int32} {th no wr n k z r so pr : Int32} (hm : w mm = some (eM ad th no wr n k z r so pr)) (hma : ∀ i, i < 12 → w (ad i) = some (aI cI (msz i) (f i))) (x : Int32) : Met l y_M_isNote (wm y_M_isNote c_M_isNote 2 (some .boolean)) ({ frames := 1, cells := 0, slots := 0, locals := 22 }) (pW G (q0 :: q1 :: (cI, .int) :: ty2) w [.ref mm, .int x]) (vp_Si (fun r => r = if ¬ x < 0 ∧ ¬ n - 1 < x then 1 else 0)) 0 0 (fun _ => False) := by
  refine Met.ofW (cc := c_M_isNote) (maxL := 2) (ret := (some .boolean)) (by decide) rfl ?_
  intro p e s m args below meth c s₁ B hml hv
  obtain ⟨rfl, hM, hK⟩ := hv
  have hx := B.exec
  have hb := B.bytes
  have hr := B.returns
  have hts := atoms_spec (ws := (wm y_M_isNote c_M_isNote 2 (some .boolean))) B.pre
  have hta : ∀ w ∈ AL, w.before _ s = true := fun w h => hts w (List.mem_cons_of_mem _ h)
  have hown : s.vm.findClass nR_M = some m.cls := findClass_of_methodNamed B.named
  have hlocks := B.notSynchronized
  have hl := lv_entry ([.ref mm, .int x]) (n := 2) (Nat.le_of_ble_eq_true rfl)
  rw [lg_entry_eq]
  generalize (lg_sl ([.ref mm, .int x]) ++ List.replicate (2 - (lg_sl ([.ref mm, .int x])).length) Slot.unset).toArray = ls at hl ⊢
  have hl : lv_has ls 2 [(0, .ref mm), (1, .int x)] := hl
  refine lv_iload_n hx hb d_M_isNote_0 rfl (lv_at hl 1 rfl) ?_
  refine lv_iconst (v := 0) hx hb d_M_isNote_1 (by decide) ?_
  refine lv_aload_n hx hb d_M_isNote_2 rfl (lv_at hl 0 rfl) ?_
  refine m_get (D := G) (ci := 6) (v := .int n) (C := nR_M) (T := nT_M) (N := 21) hx hb hta in_M hown hK hM hm rfl 3 (by decide) (hta _ aw_546) (fun _ h9 => h9) rfl d_M_isNote_3 ?_
  refine lv_iconst (v := 1) hx hb d_M_isNote_6 (by decide) ?_
  refine lv_isub hx hb d_M_isNote_7 ?_
  refine vp_callSi (W.runS (As := [.int x, .int 0, .int (n - 1)]) (rest := []) ⟨hx, hb, hml, hown, hta⟩ (k_M_in l x 0 (n - 1)) (cS 3 hta aw_626 aw_5 aw_624 aw_625 rfl rfl (by decide +kernel) ⟨Nat.le_of_ble_eq_true rfl, Nat.le_of_ble_eq_true rfl⟩) ⟨fun a U g mk q => q, fun U hU hW => ⟨rfl, trivial⟩⟩ rfl rfl hl.1 rfl (lv_room (Nat.le_of_ble_eq_true rfl)) d_M_isNote_8 ⟨Nat.le_of_ble_eq_true rfl, Nat.le_of_ble_eq_true rfl⟩) (fun r_1 hr_1 => ?_)
  exact W.zret (v := r_1) hx hb hr (z_01 (by rw [hr_1]; split <;> simp)) (fun t ht hW => ⟨r_1, rfl, hr_1, ht⟩) (fun q h => nomatch h) d_M_isNote_11
set_option maxHeartbeats 4000000 in
set_option maxRecDepth 100000 in
theorem k_M_isGone (l : Launch) (G : va_G) (q0 q1 : ClassId × FieldType) (cI : ClassId) (ty2 : List (ClassId × FieldType)) (w : Nat → Option va_E) {mm : Nat} {ad : Nat → Nat} {f : Nat → Nat → Int32} {th no wr n k z r so pr : Int32} (hm : w mm = some (eM ad th no wr n k z r so pr)) (hma : ∀ i, i < 12 → w (ad i) = some (aI cI (msz i) (f i))) (x : Int32) : Met l y_M_isGone (wm y_M_isGone c_M_isGone 2 (some .boolean)) ({ frames := 1, cells := 0, slots := 0, locals := 22 }) (pW G (q0 :: q1 :: (cI, .int) :: ty2) w [.ref mm, .int x]) (vp_Si (fun r => r = if ¬ x < 0 ∧ ¬ no < x then 1 else 0)) 0 0 (fun _ => False) := by
  refine Met.ofW (cc := c_M_isGone) (maxL := 2) (ret := (some .boolean)) (by decide) rfl ?_
  intro p e s m args below meth c s₁ B hml hv
  obtain ⟨rfl, hM, hK⟩ := hv
  have hx := B.exec
  have hb := B.bytes
  have hr := B.returns
  have hts := atoms_spec (ws := (wm y_M_isGone c_M_isGone 2 (some .boolean))) B.pre
  have hta : ∀ w ∈ AL, w.before _ s = true := fun w h => hts w (List.mem_cons_of_mem _ h)
  have hown : s.vm.findClass nR_M = some m.cls := findClass_of_methodNamed B.named
  have hlocks := B.notSynchronized
  have hl := lv_entry ([.ref mm, .int x]) (n := 2) (Nat.le_of_ble_eq_true rfl)
  rw [lg_entry_eq]
  generalize (lg_sl ([.ref mm, .int x]) ++ List.replicate (2 - (lg_sl ([.ref mm, .int x])).length) Slot.unset).toArray = ls at hl ⊢
  have hl : lv_has ls 2 [(0, .ref mm), (1, .int x)] := hl
  refine lv_iload_n hx hb d_M_isGone_0 rfl (lv_at hl 1 rfl) ?_
  refine lv_iconst (v := 0) hx hb d_M_isGone_1 (by decide) ?_
  refine lv_aload_n hx hb d_M_isGone_2 rfl (lv_at hl 0 rfl) ?_
  refine m_get (D := G) (ci := 6) (v := .int no) (C := nR_M) (T := nT_M) (N := 21) hx hb hta in_M hown hK hM hm rfl 1 (by decide) (hta _ aw_544) (fun _ h9 => h9) rfl d_M_isGone_3 ?_
  refine vp_callSi (W.runS (As := [.int x, .int 0, .int no]) (rest := []) ⟨hx, hb, hml, hown, hta⟩ (k_M_in l x 0 no) (cS 3 hta aw_626 aw_5 aw_624 aw_625 rfl rfl (by decide +kernel) ⟨Nat.le_of_ble_eq_true rfl, Nat.le_of_ble_eq_true rfl⟩) ⟨fun a U g mk q => q, fun U hU hW => ⟨rfl, trivial⟩⟩ rfl rfl hl.1 rfl (lv_room (Nat.le_of_ble_eq_true rfl)) d_M_isGone_6 ⟨Nat.le_of_ble_eq_true rfl, Nat.le_of_ble_eq_true rfl⟩) (fun r_1 hr_1 => ?_)
  exact W.zret (v := r_1) hx hb hr (z_01 (by rw [hr_1]; split <;> simp)) (fun t ht hW => ⟨r_1, rfl, hr_1, ht⟩) (fun q h => nomatch h) d_M_isGone_9
end
section
/-! the reference: the note that follows another one in the line -/
set_option maxHeartbeats 4000000 in
set_option maxRecDepth 100000 in
theorem k_M_following (l : Launch) (G : va_G) (q0 q1 : ClassId × FieldType) (cI : ClassId) (ty2 : List (ClassId × FieldType)) (w : Nat → Option va_E) {mm : Nat} {ad : Nat → Nat} {f : Nat → Nat → Int32} {th no wr n k z r so pr : Int32} (hm : w mm = some (eM ad th no wr n k z r so pr)) (hma : ∀ i, i < 12 → w (ad i) = some (aI cI (msz i) (f i))) {ka nn : Nat} (hk : ka ≤ 200) (ek : k = nI ka) (hn : nn ≤ 100) (en : n = nI nn) (lo : Option Nat) (hlo : ∀ j, lo = some j → j < 100) (sk kk zz t : Int32) : Met l y_M_following (wm y_M_following c_M_following 8 (some .int)) ({ frames := 1, cells := 0, slots := 0, locals := 24 }) (pW G (q0 :: q1 :: (cI, .int) :: ty2) w [.ref mm, .int (oI lo), .int sk, .int kk, .int zz, .int t]) (vp_Si (fun r => r = oI (folM (filM f lo sk kk zz t no ka) (befN f) nn))) 0 0 (fun _ => False) := by
  refine Met.ofW (cc := c_M_following) (maxL := 8) (ret := (some .int)) (by decide) rfl ?_
  intro p e s m args below meth c s₁ B hml hv
  obtain ⟨rfl, hM, hK⟩ := hv
  have hx := B.exec
  have hb := B.bytes
  have hr := B.returns
  have hts := atoms_spec (ws := (wm y_M_following c_M_following 8 (some .int))) B.pre
  have hta : ∀ w ∈ AL, w.before _ s = true := fun w h => hts w (List.mem_cons_of_mem _ h)
  have hown : s.vm.findClass nR_M = some m.cls := findClass_of_methodNamed B.named
  have hlocks := B.notSynchronized
  have hl := lv_entry ([.ref mm, .int (oI lo), .int sk, .int kk, .int zz, .int t]) (n := 8) (Nat.le_of_ble_eq_true rfl)
  rw [lg_entry_eq]
  generalize (lg_sl ([.ref mm, .int (oI lo), .int sk, .int kk, .int zz, .int t]) ++ List.replicate (8 - (lg_sl ([.ref mm, .int (oI lo), .int sk, .int kk, .int zz, .int t])).length) Slot.unset).toArray = ls at hl ⊢
  have hl : lv_has ls 8 [(0, .ref mm), (1, .int (oI lo)), (2, .int sk), (3, .int kk), (4, .int zz), (5, .int t)] := hl
  have ha1 : w (ad 1) = some (aI cI 100 (f 1)) := hma 1 (by decide)
  have ha2 : w (ad 2) = some (aI cI 100 (f 2)) := hma 2 (by decide)
  have ha5 : w (ad 5) = some (aI cI 100 (f 5)) := hma 5 (by decide)
  have loop : ∀ (m9 i : Nat) (x6 x7 : Int32) (ls : Array Slot), i + m9 = nn → x6 = oI (folM (filM f lo sk kk zz t no ka) (befN f) i) → x7 = nI i → lv_has ls 8 [(0, .ref mm), (1, .int (oI lo)), (2, .int sk), (3, .int kk), (4, .int zz), (5, .int t), (6, .int x6), (7, .int x7)] → W p l e (headSpec (wm y_M_following c_M_following 8 (some .int)) ({ frames := 1, cells := 0, slots := 0, locals := 24 })).room s m ([.ref mm, .int (oI lo), .int sk, .int kk, .int zz, .int t] : List Value).toArray below meth c s.heap [] 0 0 (MQ below (vp_Si (fun r => r = oI (folM (filM f lo sk kk zz t no ka) (befN f) nn))) ([.ref mm, .int (oI lo), .int sk, .int kk, .int zz, .int t] : List Value).toArray s 0 0 (fun _ => False)) (F0 m 6 ls []) := by
    intro m9
    induction m9 with
    | zero =>
      intro i x6 x7 ls hi e6 e7 hl
      refine lv_iload hx hb d_M_following_6 (lv_at hl 7 rfl) ?_
      refine lv_aload_n hx hb d_M_following_8 rfl (lv_at hl 0 rfl) ?_
      refine m_get (D := G) (ci := 6) (v := .int n) (C := nR_M) (T := nT_M) (N := 21) hx hb hta in_M hown hK hM hm rfl 3 (by decide) (hta _ aw_546) (fun _ h9 => h9) rfl d_M_following_9 ?_
      refine lv_icmp_ge (tgt := 122) hx hb d_M_following_12 (by decide) (fun c_1 => ?_) (fun c_1 => absurd (by rw [e7, en]; exact nI_le (by omega) (by omega)) c_1)
      refine lv_iload hx hb d_M_following_122 (lv_at hl 6 rfl) ?_
      exact W.iret (v := x6) hx hb hr (fun t ht hW => ⟨x6, rfl, by rw [e6, show i = nn by omega], ht⟩) (fun q h => nomatch h) d_M_following_124
    | succ m9 ih =>
      intro i x6 x7 ls hi e6 e7 hl
      have j116 : ∀ (x6 : Int32) (ls : Array Slot), x6 = oI (folM (filM f lo sk kk zz t no ka) (befN f) (i + 1)) → lv_has ls 8 [(0, .ref mm), (1, .int (oI lo)), (2, .int sk), (3, .int kk), (4, .int zz), (5, .int t), (6, .int x6), (7, .int x7)] → W p l e (headSpec (wm y_M_following c_M_following 8 (some .int)) ({ frames := 1, cells := 0, slots := 0, locals := 24 })).room s m ([.ref mm, .int (oI lo), .int sk, .int kk, .int zz, .int t] : List Value).toArray below meth c s.heap [] 0 0 (MQ below (vp_Si (fun r => r = oI (folM (filM f lo sk kk zz t no ka) (befN f) nn))) ([.ref mm, .int (oI lo), .int sk, .int kk, .int zz, .int t] : List Value).toArray s 0 0 (fun _ => False)) (F0 m 116 ls []) := by
        intro x6 ls e6 hl
        obtain ⟨x_2, ex_2⟩ : ∃ y : Int32, y = x7 + 1 := ⟨_, rfl⟩
        refine lv_iinc (v := x_2) (lv' := [(7, .int x_2), (0, .ref mm), (1, .int (oI lo)), (2, .int sk), (3, .int kk), (4, .int zz), (5, .int t), (6, .int x6)]) hx hb d_M_following_116 hl (k := 7) rfl (by rw [ex_2]; rfl) (by decide) rfl (fun ls hl => ?_)
        refine lv_goto (tgt := 6) hx hb d_M_following_119 (by decide) ?_
        exact ih (i + 1) x6 x_2 ls (by omega) e6 (by rw [ex_2, e7, nI_1]) (lv_sub hl [1, 2, 3, 4, 5, 6, 7, 0] rfl)
      have j116n : ∀ (ls : Array Slot), ¬ (filM f lo sk kk zz t no ka) i = true → lv_has ls 8 [(0, .ref mm), (1, .int (oI lo)), (2, .int sk), (3, .int kk), (4, .int zz), (5, .int t), (6, .int x6), (7, .int x7)] → W p l e (headSpec (wm y_M_following c_M_following 8 (some .int)) ({ frames := 1, cells := 0, slots := 0, locals := 24 })).room s m ([.ref mm, .int (oI lo), .int sk, .int kk, .int zz, .int t] : List Value).toArray below meth c s.heap [] 0 0 (MQ below (vp_Si (fun r => r = oI (folM (filM f lo sk kk zz t no ka) (befN f) nn))) ([.ref mm, .int (oI lo), .int sk, .int kk, .int zz, .int t] : List Value).toArray s 0 0 (fun _ => False)) (F0 m 116 ls []) := fun ls hF hl => j116 x6 ls (by rw [e6, folM, if_neg hF]) hl
      have j96 : ∀ (ls : Array Slot), (filM f lo sk kk zz t no ka) i = true → lv_has ls 8 [(0, .ref mm), (1, .int (oI lo)), (2, .int sk), (3, .int kk), (4, .int zz), (5, .int t), (6, .int x6), (7, .int x7)] → W p l e (headSpec (wm y_M_following c_M_following 8 (some .int)) ({ frames := 1, cells := 0, slots := 0, locals := 24 })).room s m ([.ref mm, .int (oI lo), .int sk, .int kk, .int zz, .int t] : List Value).toArray below meth c s.heap [] 0 0 (MQ below (vp_Si (fun r => r = oI (folM (filM f lo sk kk zz t no ka) (befN f) nn))) ([.ref mm, .int (oI lo), .int sk, .int kk, .int zz, .int t] : List Value).toArray s 0 0 (fun _ => False)) (F0 m 96 ls []) := by
        intro ls hF hl
        cases hb9 : folM (filM f lo sk kk zz t no ka) (befN f) i with
        | none =>
          rw [hb9] at e6
          refine lv_iload hx hb d_M_following_96 (lv_at hl 6 rfl) ?_
          refine lv_if_lt (tgt := 112) hx hb d_M_following_98 (by decide) (fun c_3 => ?_) (fun c_3 => absurd (by rw [e6]; decide) c_3)
          refine lv_iload hx hb d_M_following_112 (lv_at hl 7 rfl) ?_
          refine lv_istore (lv' := [(6, .int x7), (0, .ref mm), (1, .int (oI lo)), (2, .int sk), (3, .int kk), (4, .int zz), (5, .int t), (7, .int x7)]) hx hb d_M_following_114 hl (by decide) rfl (fun ls hl => ?_)
          exact j116 x7 ls (by rw [folM, if_pos hF, hb9, e7]; rfl) (lv_sub hl [1, 2, 3, 4, 5, 6, 0, 7] rfl)
        | some b =>
          rw [hb9] at e6
          have hb8 : b < 100 := by have := (folM_lt hb9).1; omega
          have e6 : x6 = nI b := e6
          subst e6
          subst e7
          refine lv_iload hx hb d_M_following_96 (lv_at hl 6 rfl) ?_
          refine lv_if_lt (tgt := 112) hx hb d_M_following_98 (by decide) (fun c_4 => absurd c_4 (nI_pos (by omega))) (fun c_4 => ?_)
          refine lv_aload_n hx hb d_M_following_101 rfl (lv_at hl 0 rfl) ?_
          refine lv_iload hx hb d_M_following_102 (lv_at hl 7 rfl) ?_
          refine lv_iload hx hb d_M_following_104 (lv_at hl 6 rfl) ?_
          refine vp_callSi (W.runV (As := [.int (nI i), .int (nI b)]) (rest := []) ⟨hx, hb, hml, hown, hta⟩ (k_M_isBefore l G q0 q1 cI ty2 w hm hma i b (by omega) hb8) (cV 2 hta aw_666 aw_5 aw_663 aw_665 as_SceneTimesModel_isBefore rfl rfl (by decide +kernel) ⟨Nat.le_of_ble_eq_true rfl, Nat.le_of_ble_eq_true rfl⟩) (pW_V hK hM rfl hm) rfl rfl hl.1 rfl (lv_room (Nat.le_of_ble_eq_true rfl)) d_M_following_106 ⟨Nat.le_of_ble_eq_true rfl, Nat.le_of_ble_eq_true rfl⟩) (fun r_5 hr_5 => ?_)
          refine lv_if_eq (tgt := 116) hx hb d_M_following_109 (by decide) (fun c_6 => ?_) (fun c_6 => ?_)
          · exact j116 (nI b) ls (by rw [folM, if_pos hF, hb9]; show nI b = oI (if befN f i b = true then some i else some b); rw [if_neg (by intro q; rw [if_pos q] at hr_5; rw [hr_5] at c_6; exact absurd c_6 (by decide))]; rfl) (lv_sub hl [0, 1, 2, 3, 4, 5, 6, 7] rfl)
          · refine lv_iload hx hb d_M_following_112 (lv_at hl 7 rfl) ?_
            refine lv_istore (lv' := [(6, .int (nI i)), (0, .ref mm), (1, .int (oI lo)), (2, .int sk), (3, .int kk), (4, .int zz), (5, .int t), (7, .int (nI i))]) hx hb d_M_following_114 hl (by decide) rfl (fun ls hl => ?_)
            exact j116 (nI i) ls (by rw [folM, if_pos hF, hb9]; show nI i = oI (if befN f i b = true then some i else some b); rw [if_pos (Classical.byContradiction (fun q => by rw [if_neg q] at hr_5; exact absurd hr_5 c_6))]; rfl) (lv_sub hl [1, 2, 3, 4, 5, 6, 0, 7] rfl)
      have j76 : ∀ (ls : Array Slot), ¬ t < f 5 i → lsB f lo i = true → (kk < 0 ∨ f 1 i = kk) → (zz < 0 ∨ f 2 i = zz) → lv_has ls 8 [(0, .ref mm), (1, .int (oI lo)), (2, .int sk), (3, .int kk), (4, .int zz), (5, .int t), (6, .int x6), (7, .int x7)] → W p l e (headSpec (wm y_M_following c_M_following 8 (some .int)) ({ frames := 1, cells := 0, slots := 0, locals := 24 })).room s m ([.ref mm, .int (oI lo), .int sk, .int kk, .int zz, .int t] : List Value).toArray below meth c s.heap [] 0 0 (MQ below (vp_Si (fun r => r = oI (folM (filM f lo sk kk zz t no ka) (befN f) nn))) ([.ref mm, .int (oI lo), .int sk, .int kk, .int zz, .int t] : List Value).toArray s 0 0 (fun _ => False)) (F0 m 76 ls []) := by
        intro ls p1 p2 p3 p4 hl
        subst e7
        refine lv_iload_n hx hb d_M_following_76 rfl (lv_at hl 2 rfl) ?_
        refine lv_if_ne (tgt := 96) hx hb d_M_following_77 (by decide) (fun c_7 => ?_) (fun c_7 => ?_)
        · exact j96 ls (by simp only [filM]; rw [p2]; simp [p1, p3, p4, c_7]) (lv_sub hl [0, 1, 2, 3, 4, 5, 6, 7] rfl)
        · refine lv_aload_n hx hb d_M_following_80 rfl (lv_at hl 0 rfl) ?_
          refine lv_iload hx hb d_M_following_81 (lv_at hl 7 rfl) ?_
          refine lv_aload_n hx hb d_M_following_83 rfl (lv_at hl 0 rfl) ?_
          refine m_get (D := G) (ci := 6) (v := .int no) (C := nR_M) (T := nT_M) (N := 21) hx hb hta in_M hown hK hM hm rfl 1 (by decide) (hta _ aw_544) (fun _ h9 => h9) rfl d_M_following_84 ?_
          refine vp_callSi (W.runV (As := [.int (nI i), .int no]) (rest := []) ⟨hx, hb, hml, hown, hta⟩ (k_M_isStruck l G q0 q1 cI ty2 w hm hma hk ek i no) (cV 2 hta aw_642 aw_5 aw_639 aw_641 as_SceneTimesModel_isStruck rfl rfl (by decide +kernel) ⟨Nat.le_of_ble_eq_true rfl, Nat.le_of_ble_eq_true rfl⟩) (pW_V hK hM rfl hm) rfl rfl hl.1 rfl (lv_room (Nat.le_of_ble_eq_true rfl)) d_M_following_87 ⟨Nat.le_of_ble_eq_true rfl, Nat.le_of_ble_eq_true rfl⟩) (fun r_8 hr_8 => ?_)
          refine lv_if_eq (tgt := 96) hx hb d_M_following_90 (by decide) (fun c_9 => ?_) (fun c_9 => ?_)
          · exact j96 ls (by simp only [filM]; rw [p2]; simp [p1, p3, p4, show strM f no i ka = 0 by rw [← hr_8]; exact c_9]) (lv_sub hl [0, 1, 2, 3, 4, 5, 6, 7] rfl)
          · refine lv_goto (tgt := 116) hx hb d_M_following_93 (by decide) ?_
            exact j116n ls (by simp only [filM]; rw [← hr_8]; simp [c_7, c_9]) (lv_sub hl [0, 1, 2, 3, 4, 5, 6, 7] rfl)
      have j56 : ∀ (ls : Array Slot), ¬ t < f 5 i → lsB f lo i = true → (kk < 0 ∨ f 1 i = kk) → lv_has ls 8 [(0, .ref mm), (1, .int (oI lo)), (2, .int sk), (3, .int kk), (4, .int zz), (5, .int t), (6, .int x6), (7, .int x7)] → W p l e (headSpec (wm y_M_following c_M_following 8 (some .int)) ({ frames := 1, cells := 0, slots := 0, locals := 24 })).room s m ([.ref mm, .int (oI lo), .int sk, .int kk, .int zz, .int t] : List Value).toArray below meth c s.heap [] 0 0 (MQ below (vp_Si (fun r => r = oI (folM (filM f lo sk kk zz t no ka) (befN f) nn))) ([.ref mm, .int (oI lo), .int sk, .int kk, .int zz, .int t] : List Value).toArray s 0 0 (fun _ => False)) (F0 m 56 ls []) := by
        intro ls p1 p2 p3 hl
        refine lv_iload hx hb d_M_following_56 (lv_at hl 4 rfl) ?_
        refine lv_if_lt (tgt := 76) hx hb d_M_following_58 (by decide) (fun c_10 => ?_) (fun c_10 => ?_)
        · exact j76 ls p1 p2 p3 (Or.inl c_10) (lv_sub hl [0, 1, 2, 3, 4, 5, 6, 7] rfl)
        · refine lv_aload_n hx hb d_M_following_61 rfl (lv_at hl 0 rfl) ?_
          refine m_get (D := G) (ci := 6) (v := .ref (ad 2)) (C := nR_M) (T := nT_M) (N := 21) hx hb hta in_M hown hK hM hm rfl 6 (by decide) (hta _ aw_549) (fun _ h9 => h9) rfl d_M_following_62 ?_
          refine lv_iload hx hb d_M_following_65 (lv_at hl 7 rfl) ?_
          refine m_ialv hx hb hK hM 2 ha2 rfl (by rw [e7]; exact vp_in_nI (by omega) (by omega)) (v := f 2 i) (by rw [e7, nI_clamp (by omega)]) d_M_following_67 ?_
          refine lv_iload hx hb d_M_following_68 (lv_at hl 4 rfl) ?_
          refine lv_icmp_eq (tgt := 76) hx hb d_M_following_70 (by decide) (fun c_11 => ?_) (fun c_11 => ?_)
          · exact j76 ls p1 p2 p3 (Or.inr c_11) (lv_sub hl [0, 1, 2, 3, 4, 5, 6, 7] rfl)
          · refine lv_goto (tgt := 116) hx hb d_M_following_73 (by decide) ?_
            exact j116n ls (by simp [filM, c_10, c_11]) (lv_sub hl [0, 1, 2, 3, 4, 5, 6, 7] rfl)
      have j41 : ∀ (ls : Array Slot), ¬ t < f 5 i → lsB f lo i = true → lv_has ls 8 [(0, .ref mm), (1, .int (oI lo)), (2, .int sk), (3, .int kk), (4, .int zz), (5, .int t), (6, .int x6), (7, .int x7)] → W p l e (headSpec (wm y_M_following c_M_following 8 (some .int)) ({ frames := 1, cells := 0, slots := 0, locals := 24 })).room s m ([.ref mm, .int (oI lo), .int sk, .int kk, .int zz, .int t] : List Value).toArray below meth c s.heap [] 0 0 (MQ below (vp_Si (fun r => r = oI (folM (filM f lo sk kk zz t no ka) (befN f) nn))) ([.ref mm, .int (oI lo), .int sk, .int kk, .int zz, .int t] : List Value).toArray s 0 0 (fun _ => False)) (F0 m 41 ls []) := by
        intro ls p1 p2 hl
        refine lv_iload_n hx hb d_M_following_41 rfl (lv_at hl 3 rfl) ?_
        refine lv_if_lt (tgt := 56) hx hb d_M_following_42 (by decide) (fun c_12 => ?_) (fun c_12 => ?_)
        · exact j56 ls p1 p2 (Or.inl c_12) (lv_sub hl [0, 1, 2, 3, 4, 5, 6, 7] rfl)
        · refine lv_aload_n hx hb d_M_following_45 rfl (lv_at hl 0 rfl) ?_
          refine m_get (D := G) (ci := 6) (v := .ref (ad 1)) (C := nR_M) (T := nT_M) (N := 21) hx hb hta in_M hown hK hM hm rfl 5 (by decide) (hta _ aw_548) (fun _ h9 => h9) rfl d_M_following_46 ?_
          refine lv_iload hx hb d_M_following_49 (lv_at hl 7 rfl) ?_
          refine m_ialv hx hb hK hM 2 ha1 rfl (by rw [e7]; exact vp_in_nI (by omega) (by omega)) (v := f 1 i) (by rw [e7, nI_clamp (by omega)]) d_M_following_51 ?_
          refine lv_iload_n hx hb d_M_following_52 rfl (lv_at hl 3 rfl) ?_
          refine lv_icmp_ne (tgt := 116) hx hb d_M_following_53 (by decide) (fun c_13 => ?_) (fun c_13 => ?_)
          · exact j116n ls (by simp [filM, c_12, c_13]) (lv_sub hl [0, 1, 2, 3, 4, 5, 6, 7] rfl)
          · exact j56 ls p1 p2 (Or.inr c_13) (lv_sub hl [0, 1, 2, 3, 4, 5, 6, 7] rfl)
      cases lo with
      | none =>
        refine lv_iload hx hb d_M_following_6 (lv_at hl 7 rfl) ?_
        refine lv_aload_n hx hb d_M_following_8 rfl (lv_at hl 0 rfl) ?_
        refine m_get (D := G) (ci := 6) (v := .int n) (C := nR_M) (T := nT_M) (N := 21) hx hb hta in_M hown hK hM hm rfl 3 (by decide) (hta _ aw_546) (fun _ h9 => h9) rfl d_M_following_9 ?_
        refine lv_icmp_ge (tgt := 122) hx hb d_M_following_12 (by decide) (fun c_14 => absurd c_14 (by rw [e7, en]; exact nI_ge (by omega) (by omega))) (fun c_14 => ?_)
        refine lv_aload_n hx hb d_M_following_15 rfl (lv_at hl 0 rfl) ?_
        refine m_get (D := G) (ci := 6) (v := .ref (ad 5)) (C := nR_M) (T := nT_M) (N := 21) hx hb hta in_M hown hK hM hm rfl 9 (by decide) (hta _ aw_552) (fun _ h9 => h9) rfl d_M_following_16 ?_
        refine lv_iload hx hb d_M_following_19 (lv_at hl 7 rfl) ?_
        refine m_ialv hx hb hK hM 2 ha5 rfl (by rw [e7]; exact vp_in_nI (by omega) (by omega)) (v := f 5 i) (by rw [e7, nI_clamp (by omega)]) d_M_following_21 ?_
        refine lv_iload hx hb d_M_following_22 (lv_at hl 5 rfl) ?_
        refine lv_icmp_gt (tgt := 116) hx hb d_M_following_24 (by decide) (fun c_15 => ?_) (fun c_15 => ?_)
        · exact j116n ls (by simp [filM, c_15]) (lv_sub hl [0, 1, 2, 3, 4, 5, 6, 7] rfl)
        · refine lv_iload_n hx hb d_M_following_27 rfl (lv_at hl 1 rfl) ?_
          refine lv_if_lt (tgt := 41) hx hb d_M_following_28 (by decide) (fun c_16 => ?_) (fun c_16 => absurd (by decide : oI none < 0) c_16)
          exact j41 ls c_15 rfl (lv_sub hl [0, 1, 2, 3, 4, 5, 6, 7] rfl)
      | some j =>
        subst e7
        have hj := hlo j rfl
        refine lv_iload hx hb d_M_following_6 (lv_at hl 7 rfl) ?_
        refine lv_aload_n hx hb d_M_following_8 rfl (lv_at hl 0 rfl) ?_
        refine m_get (D := G) (ci := 6) (v := .int n) (C := nR_M) (T := nT_M) (N := 21) hx hb hta in_M hown hK hM hm rfl 3 (by decide) (hta _ aw_546) (fun _ h9 => h9) rfl d_M_following_9 ?_
        refine lv_icmp_ge (tgt := 122) hx hb d_M_following_12 (by decide) (fun c_17 => absurd c_17 (by rw [en]; exact nI_ge (by omega) (by omega))) (fun c_17 => ?_)
        refine lv_aload_n hx hb d_M_following_15 rfl (lv_at hl 0 rfl) ?_
        refine m_get (D := G) (ci := 6) (v := .ref (ad 5)) (C := nR_M) (T := nT_M) (N := 21) hx hb hta in_M hown hK hM hm rfl 9 (by decide) (hta _ aw_552) (fun _ h9 => h9) rfl d_M_following_16 ?_
        refine lv_iload hx hb d_M_following_19 (lv_at hl 7 rfl) ?_
        refine m_ialv hx hb hK hM 2 ha5 rfl (vp_in_nI (by omega) (by omega)) (v := f 5 i) (by rw [nI_clamp (by omega)]) d_M_following_21 ?_
        refine lv_iload hx hb d_M_following_22 (lv_at hl 5 rfl) ?_
        refine lv_icmp_gt (tgt := 116) hx hb d_M_following_24 (by decide) (fun c_18 => ?_) (fun c_18 => ?_)
        · exact j116n ls (by simp [filM, c_18]) (lv_sub hl [0, 1, 2, 3, 4, 5, 6, 7] rfl)
        · refine lv_iload_n hx hb d_M_following_27 rfl (lv_at hl 1 rfl) ?_
          refine lv_if_lt (tgt := 41) hx hb d_M_following_28 (by decide) (fun c_19 => absurd c_19 (nI_pos (by omega))) (fun c_19 => ?_)
          refine lv_aload_n hx hb d_M_following_31 rfl (lv_at hl 0 rfl) ?_
          refine lv_iload_n hx hb d_M_following_32 rfl (lv_at hl 1 rfl) ?_
          refine lv_iload hx hb d_M_following_33 (lv_at hl 7 rfl) ?_
          refine vp_callSi (W.runV (As := [.int (nI j), .int (nI i)]) (rest := []) ⟨hx, hb, hml, hown, hta⟩ (k_M_isBefore l G q0 q1 cI ty2 w hm hma j i hj (by omega)) (cV 2 hta aw_666 aw_5 aw_663 aw_665 as_SceneTimesModel_isBefore rfl rfl (by decide +kernel) ⟨Nat.le_of_ble_eq_true rfl, Nat.le_of_ble_eq_true rfl⟩) (pW_V hK hM rfl hm) rfl rfl hl.1 rfl (lv_room (Nat.le_of_ble_eq_true rfl)) d_M_following_35 ⟨Nat.le_of_ble_eq_true rfl, Nat.le_of_ble_eq_true rfl⟩) (fun r_20 hr_20 => ?_)
          refine lv_if_eq (tgt := 116) hx hb d_M_following_38 (by decide) (fun c_21 => ?_) (fun c_21 => ?_)
          · exact j116n ls (by have q : ¬ befN f j i = true := (by intro q; rw [if_pos q] at hr_20; rw [hr_20] at c_21; exact absurd c_21 (by decide)); simp [filM, lsB, q]) (lv_sub hl [0, 1, 2, 3, 4, 5, 6, 7] rfl)
          · exact j41 ls c_18 (show befN f j i = true from Classical.byContradiction (fun q => by rw [if_neg q] at hr_20; exact absurd hr_20 c_21)) (lv_sub hl [0, 1, 2, 3, 4, 5, 6, 7] rfl)
  refine lv_iconst (v := (-1)) hx hb d_M_following_0 (by decide) ?_
  refine lv_istore (lv' := [(6, .int (-1)), (0, .ref mm), (1, .int (oI lo)), (2, .int sk), (3, .int kk), (4, .int zz), (5, .int t)]) hx hb d_M_following_1 hl (by decide) rfl (fun ls hl => ?_)
  refine lv_iconst (v := 0) hx hb d_M_following_3 (by decide) ?_
  refine lv_istore (lv' := [(7, .int 0), (6, .int (-1)), (0, .ref mm), (1, .int (oI lo)), (2, .int sk), (3, .int kk), (4, .int zz), (5, .int t)]) hx hb d_M_following_4 hl (by decide) rfl (fun ls hl => ?_)
  exact loop nn 0 _ 0 ls (by omega) rfl rfl (lv_sub hl [2, 3, 4, 5, 6, 7, 1, 0] rfl)
end
section
/-! nothing yet -/
end
