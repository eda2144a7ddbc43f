section
-- ===== PART A: goes FIRST, ahead of the names: the tables' words, and 'selects' of the private methods out of them =====
/-- a private method of a class that the tables say can be made, by its rows of tables_1 -/
def lw_okq (q : MethodName × Nat) : Prop := (q.1.cls ≠ "java/lang/invoke/MethodHandle" ∧ q.1.cls ≠ "java/lang/invoke/VarHandle") ∧ Cond.instantiable q.1.cls q.2 ∈ tables_1 ∧ Cond.privateMethod q.1 ∈ tables_1 ∧ Cond.instanceMethod q.1 ∈ tables_1
theorem lw_p0 : lw_okq (⟨"java/lang/Throwable", "fillInStackTrace", "(I)Ljava/lang/Throwable;"⟩, 6) := ⟨⟨by decide +kernel, by decide +kernel⟩, List.mem_of_getElem? (i := 152) (by decide +kernel), List.mem_of_getElem? (i := 150) (by decide +kernel), List.mem_of_getElem? (i := 151) (by decide +kernel)⟩
theorem lw_p1 : lw_okq (⟨"SceneTimes", "isWriter", "(I)Z"⟩, 6) := ⟨⟨by decide +kernel, by decide +kernel⟩, List.mem_of_getElem? (i := 17) (by decide +kernel), List.mem_of_getElem? (i := 190) (by decide +kernel), List.mem_of_getElem? (i := 191) (by decide +kernel)⟩
theorem lw_p2 : lw_okq (⟨"SceneTimes", "hasCome", "(I)Z"⟩, 6) := ⟨⟨by decide +kernel, by decide +kernel⟩, List.mem_of_getElem? (i := 17) (by decide +kernel), List.mem_of_getElem? (i := 216) (by decide +kernel), List.mem_of_getElem? (i := 217) (by decide +kernel)⟩
theorem lw_p3 : lw_okq (⟨"SceneTimes", "noteOf", "(I)LSceneTimes$Note;"⟩, 6) := ⟨⟨by decide +kernel, by decide +kernel⟩, List.mem_of_getElem? (i := 17) (by decide +kernel), List.mem_of_getElem? (i := 341) (by decide +kernel), List.mem_of_getElem? (i := 342) (by decide +kernel)⟩
theorem lw_p4 : lw_okq (⟨"SceneTimes", "refuseActWithoutRoom", "()V"⟩, 6) := ⟨⟨by decide +kernel, by decide +kernel⟩, List.mem_of_getElem? (i := 17) (by decide +kernel), List.mem_of_getElem? (i := 363) (by decide +kernel), List.mem_of_getElem? (i := 364) (by decide +kernel)⟩
theorem lw_p5 : lw_okq (⟨"SceneTimes$Sheet", "putNumber", "(CI)V"⟩, 2) := ⟨⟨by decide +kernel, by decide +kernel⟩, List.mem_of_getElem? (i := 70) (by decide +kernel), List.mem_of_getElem? (i := 488) (by decide +kernel), List.mem_of_getElem? (i := 489) (by decide +kernel)⟩
theorem lw_p6 : lw_okq (⟨"SceneTimes$Sheet", "put", "(C)V"⟩, 2) := ⟨⟨by decide +kernel, by decide +kernel⟩, List.mem_of_getElem? (i := 70) (by decide +kernel), List.mem_of_getElem? (i := 492) (by decide +kernel), List.mem_of_getElem? (i := 493) (by decide +kernel)⟩
theorem lw_p7 : lw_okq (⟨"SceneTimes$Sheet", "putDigits", "(I)V"⟩, 2) := ⟨⟨by decide +kernel, by decide +kernel⟩, List.mem_of_getElem? (i := 70) (by decide +kernel), List.mem_of_getElem? (i := 496) (by decide +kernel), List.mem_of_getElem? (i := 497) (by decide +kernel)⟩
theorem lw_p8 : lw_okq (⟨"SceneTimesModel", "goes", "(IZZZZ)Z"⟩, 21) := ⟨⟨by decide +kernel, by decide +kernel⟩, List.mem_of_getElem? (i := 538) (by decide +kernel), List.mem_of_getElem? (i := 617) (by decide +kernel), List.mem_of_getElem? (i := 618) (by decide +kernel)⟩
theorem lw_p9 : lw_okq (⟨"SceneTimesModel", "isGone", "(I)Z"⟩, 21) := ⟨⟨by decide +kernel, by decide +kernel⟩, List.mem_of_getElem? (i := 538) (by decide +kernel), List.mem_of_getElem? (i := 628) (by decide +kernel), List.mem_of_getElem? (i := 629) (by decide +kernel)⟩
theorem lw_p10 : lw_okq (⟨"SceneTimesModel", "isNote", "(I)Z"⟩, 21) := ⟨⟨by decide +kernel, by decide +kernel⟩, List.mem_of_getElem? (i := 538) (by decide +kernel), List.mem_of_getElem? (i := 636) (by decide +kernel), List.mem_of_getElem? (i := 637) (by decide +kernel)⟩
theorem lw_p11 : lw_okq (⟨"SceneTimesModel", "isStruck", "(II)Z"⟩, 21) := ⟨⟨by decide +kernel, by decide +kernel⟩, List.mem_of_getElem? (i := 538) (by decide +kernel), List.mem_of_getElem? (i := 640) (by decide +kernel), List.mem_of_getElem? (i := 641) (by decide +kernel)⟩
theorem lw_p12 : lw_okq (⟨"SceneTimesModel", "does", "(III)V"⟩, 21) := ⟨⟨by decide +kernel, by decide +kernel⟩, List.mem_of_getElem? (i := 538) (by decide +kernel), List.mem_of_getElem? (i := 644) (by decide +kernel), List.mem_of_getElem? (i := 645) (by decide +kernel)⟩
theorem lw_p13 : lw_okq (⟨"SceneTimesModel", "many", "(IZ)I"⟩, 21) := ⟨⟨by decide +kernel, by decide +kernel⟩, List.mem_of_getElem? (i := 538) (by decide +kernel), List.mem_of_getElem? (i := 648) (by decide +kernel), List.mem_of_getElem? (i := 649) (by decide +kernel)⟩
theorem lw_p14 : lw_okq (⟨"SceneTimesModel", "following", "(IZIII)I"⟩, 21) := ⟨⟨by decide +kernel, by decide +kernel⟩, List.mem_of_getElem? (i := 538) (by decide +kernel), List.mem_of_getElem? (i := 660) (by decide +kernel), List.mem_of_getElem? (i := 661) (by decide +kernel)⟩
theorem lw_p15 : lw_okq (⟨"SceneTimesModel", "isBefore", "(II)Z"⟩, 21) := ⟨⟨by decide +kernel, by decide +kernel⟩, List.mem_of_getElem? (i := 538) (by decide +kernel), List.mem_of_getElem? (i := 664) (by decide +kernel), List.mem_of_getElem? (i := 665) (by decide +kernel)⟩
def lw_privs_1 : List (MethodName × Nat) := [(⟨"java/lang/Throwable", "fillInStackTrace", "(I)Ljava/lang/Throwable;"⟩, 6), (⟨"SceneTimes", "isWriter", "(I)Z"⟩, 6), (⟨"SceneTimes", "hasCome", "(I)Z"⟩, 6), (⟨"SceneTimes", "noteOf", "(I)LSceneTimes$Note;"⟩, 6), (⟨"SceneTimes", "refuseActWithoutRoom", "()V"⟩, 6), (⟨"SceneTimes$Sheet", "putNumber", "(CI)V"⟩, 2), (⟨"SceneTimes$Sheet", "put", "(C)V"⟩, 2), (⟨"SceneTimes$Sheet", "putDigits", "(I)V"⟩, 2), (⟨"SceneTimesModel", "goes", "(IZZZZ)Z"⟩, 21), (⟨"SceneTimesModel", "isGone", "(I)Z"⟩, 21), (⟨"SceneTimesModel", "isNote", "(I)Z"⟩, 21), (⟨"SceneTimesModel", "isStruck", "(II)Z"⟩, 21), (⟨"SceneTimesModel", "does", "(III)V"⟩, 21), (⟨"SceneTimesModel", "many", "(IZ)I"⟩, 21), (⟨"SceneTimesModel", "following", "(IZIII)I"⟩, 21), (⟨"SceneTimesModel", "isBefore", "(II)Z"⟩, 21)]
theorem lw_r1 : ∀ q ∈ lw_privs_1, lw_okq q := List.forall_mem_cons.mpr ⟨lw_p0, List.forall_mem_cons.mpr ⟨lw_p1, List.forall_mem_cons.mpr ⟨lw_p2, List.forall_mem_cons.mpr ⟨lw_p3, List.forall_mem_cons.mpr ⟨lw_p4, List.forall_mem_cons.mpr ⟨lw_p5, List.forall_mem_cons.mpr ⟨lw_p6, List.forall_mem_cons.mpr ⟨lw_p7, List.forall_mem_cons.mpr ⟨lw_p8, List.forall_mem_cons.mpr ⟨lw_p9, List.forall_mem_cons.mpr ⟨lw_p10, List.forall_mem_cons.mpr ⟨lw_p11, List.forall_mem_cons.mpr ⟨lw_p12, List.forall_mem_cons.mpr ⟨lw_p13, List.forall_mem_cons.mpr ⟨lw_p14, List.forall_mem_cons.mpr ⟨lw_p15, fun _ h => absurd h List.not_mem_nil⟩⟩⟩⟩⟩⟩⟩⟩⟩⟩⟩⟩⟩⟩⟩⟩
theorem lw_p16 : lw_okq (⟨"SceneTimesModel", "value", "(II)I"⟩, 21) := ⟨⟨by decide +kernel, by decide +kernel⟩, List.mem_of_getElem? (i := 538) (by decide +kernel), List.mem_of_getElem? (i := 672) (by decide +kernel), List.mem_of_getElem? (i := 673) (by decide +kernel)⟩
theorem lw_p17 : lw_okq (⟨"SceneTimesModel", "number", "(II)V"⟩, 21) := ⟨⟨by decide +kernel, by decide +kernel⟩, List.mem_of_getElem? (i := 538) (by decide +kernel), List.mem_of_getElem? (i := 703) (by decide +kernel), List.mem_of_getElem? (i := 704) (by decide +kernel)⟩
theorem lw_p18 : lw_okq (⟨"SceneTimesModel", "put", "(I)V"⟩, 21) := ⟨⟨by decide +kernel, by decide +kernel⟩, List.mem_of_getElem? (i := 538) (by decide +kernel), List.mem_of_getElem? (i := 707) (by decide +kernel), List.mem_of_getElem? (i := 708) (by decide +kernel)⟩
def lw_privs_2 : List (MethodName × Nat) := [(⟨"SceneTimesModel", "value", "(II)I"⟩, 21), (⟨"SceneTimesModel", "number", "(II)V"⟩, 21), (⟨"SceneTimesModel", "put", "(I)V"⟩, 21)]
theorem lw_r2 : ∀ q ∈ lw_privs_2, lw_okq q := List.forall_mem_cons.mpr ⟨lw_p16, List.forall_mem_cons.mpr ⟨lw_p17, List.forall_mem_cons.mpr ⟨lw_p18, fun _ h => absurd h List.not_mem_nil⟩⟩⟩
def lw_privs : List (MethodName × Nat) := lw_privs_1 ++ (lw_privs_2)
def lw_tbl : List Cond := k2_sels lw_privs ++ tables_1
theorem lw_privs_ok : ∀ q ∈ lw_privs, lw_okq q := by
  show ∀ q ∈ lw_privs_1 ++ (lw_privs_2), lw_okq q
  exact List.forall_mem_append.mpr ⟨lw_r1, lw_r2⟩
end
section
/-! ===== BEGIN words of one list among another's, by their places ===== -/
theorem goodIn_r {big : List Cond} (ws : List Cond) (ps : List Nat) (hp : ws = ps.filterMap (fun i => big[i]?)) (h : ws.all goodWord = true) : GoodIn big ws := by
  intro w hw
  have h1 := List.all_eq_true.mp h w hw
  rw [hp] at hw
  obtain ⟨i, -, hi⟩ := List.mem_filterMap.mp hw
  have hm : w ∈ big := by first | exact List.mem_of_getElem? hi | exact List.getElem?_mem hi
  exact ⟨hm, good_of_word h1⟩
theorem goodIn_app {big a b : List Cond} (ha : GoodIn big a) (hb : GoodIn big b) : GoodIn big (a ++ b) := fun w h => (List.mem_append.mp h).elim (ha w) (hb w)
theorem goodIn_ca {big a b : List Cond} {c : Cond} (ha : GoodIn big (c :: a)) (hb : GoodIn big b) : GoodIn big (c :: (a ++ b)) := fun w h => (List.mem_cons.mp h).elim (fun e => ha w (List.mem_cons.mpr (Or.inl e))) (fun h => (List.mem_append.mp h).elim (fun h => ha w (List.mem_cons.mpr (Or.inr h))) (hb w))
theorem goodIn_sub {big ws : List Cond} (hm : ∀ w ∈ ws, w ∈ big) (h : ws.all goodWord = true) : GoodIn big ws := fun w hw => ⟨hm w hw, good_of_word (List.all_eq_true.mp h w hw)⟩
/-! ===== END ===== -/

/-! ===== BEGIN exceptions that leave a method, and their catching by the caller (launches without stack traces) ===== -/
section VXA
/-! The laws vx_back, vx_callV, vx_callS, vx_callSW, vx_throw0, vx_throwS follow proofs of the library, with one case more: JvmDerived/Free/Laws.lean (Back.of_free), Shelf42/LK1.lean (callV, callS), Shelf/KitTraced.lean (throwNew0V, throwNewS). -/
/-- where a method has thrown q: the class by its name, the cell, what was written, the world -/
def vx_T (XC : String → State → State → Prop) (st : State) (q : Addr) (t : State) (mc ms : Nat) (free : Addr → Prop) : Prop :=
  ∃ (E : String) (ce : Cell) (L : List Loc), XC E st t ∧ t.heap[q]? = some ce ∧ ce.vm = .none ∧ st.vm.findClass E = some ce.cls ∧ st.WarmedH t.vm ∧ st.sameButNew ({ t with vm := st.vm } : State) L mc ms ∧ ∀ z ∈ L, free z.base
def vx_Q (Qc : Array Value → State → Outcome → State → Prop) (XC : String → State → State → Prop) (mc ms : Nat) (free : Addr → Prop) : Array Value → State → Outcome → State → Prop := fun a st o t =>
  (Qc a st o t ∧ ∃ L, FrameEnd st o t L mc ms ∧ ∀ q ∈ L, free q.base) ∨ ∃ q, o = .threw q ∧ vx_T XC st q t mc ms free
/-- a callee that returns or throws -/
def vx_Met (l : Launch) (y : MethodName) (ws : List Cond) (rm : Room) (Pc : Array Value → State → Prop) (Qc : Array Value → State → Outcome → State → Prop) (XC : String → State → State → Prop) (mc ms : Nat) (free : Addr → Prop) : Prop :=
  MetFree l y (headSpec ws rm) Pc (fun _ _ _ _ _ => True) (vx_Q Qc XC mc ms free)
def vx_Post (XC : String → State → State → Prop) (mc ms : Nat) (free : Addr → Prop) : Pt → Array Value → Addr → Pt → Prop := fun A a q B =>
  ∃ (g : JFrame) (mk : MethodId) (t : State) (L : List Loc) (E : String) (ce : Cell), B.U.heap = t.heap ∧ B.U.vm = t.vm ∧ XC E (A.U.calling g mk a) t ∧ t.heap[q]? = some ce ∧ ce.vm = .none ∧ A.U.vm.findClass E = some ce.cls ∧ B.locs = A.locs ++ L ∧ (∀ z ∈ L, free z.base) ∧ B.cells = A.cells + mc ∧ B.slots = A.slots + ms
def vx_Back (l : Launch) (R : Room) (p : Program) (e : Env) (below : List Frame) (s : State) (sargs : Array Value) (y : MethodName) (len W9 : Nat)
    (Pre : Pt → Array Value → Prop) (Post : Pt → Array Value → Option Value → Pt → Prop) (PostX : Pt → Array Value → Addr → Pt → Prop) : Prop :=
  ∀ (m : MethodId) (meth : Method) (c : Code) (A : Pt) (g : JFrame) (ig : Instr) (mk : MethodId) (a : Array Value),
    Stand p l e R s m sargs below meth c A.U A.locs A.cells A.slots → g.method = m → g.locals.size = c.maxLocals → decode c.code g.pc = .ok (ig, len) →
    2 * g.monitorRoom + (g.stack.map fun v => v.category).sum ≤ W9 → A.U.methodNamed? y = some mk → Pre A a →
    (∃ (v : Option Value) (B : Pt), Stand p l e R s m sargs below meth c B.U B.locs B.cells B.slots ∧ Post A a v B ∧
      Steps p.tables e below (doInvoke e (A.U.setTop g) [] mk a).1 (B.U.setTop { g with pc := g.pc + len, stack := v.toList ++ g.stack })) ∨
    (∃ (q : Addr) (B : Pt), Stand p l e R s m sargs below meth c B.U B.locs B.cells B.slots ∧ PostX A a q B ∧
      Steps p.tables e below (doInvoke e (A.U.setTop g) [] mk a).1 ((B.U.setTop g).pushFrame (.throwing q)))
section Payer
variable {l : Launch} {R : Room} {p : Program} {e : Env} {below : List Frame} {s : State} {sargs : Array Value} {y : MethodName} {len W9 : Nat}
theorem vx_back {ws : List Cond} {rm : Room} {Pc : Array Value → State → Prop} {Qc : Array Value → State → Outcome → State → Prop} {XC : String → State → State → Prop} {mc ms : Nat} {free : Addr → Prop} {bytes : ByteArray} {maxL : Nat} {ret : Option FieldType}
    (hM : vx_Met l y ws rm Pc Qc XC mc ms free) (hblind : FrameBlind Pc) (hrc : rm.cells = mc) (hrs : rm.slots = ms)
    (hframes : rm.frames + 1 ≤ R.frames) (hlocals : W9 + (maxL + 11) + rm.locals ≤ R.locals)
    (hws : ∀ w ∈ ws, ∀ a' U, s.WarmedH U.vm → w.before a' U = true) (hcode : Cond.code y bytes maxL ret ∈ ws) (hinit : ∀ a' U, s.WarmedH U.vm → (Cond.initialized y.cls).before a' U = true) :
    vx_Back l R p e below s sargs y len W9 (PreOf R mc ms Pc) (PostOf Qc mc ms free) (vx_Post XC mc ms free) := by
  intro m meth c A g ig mk a X hg hsize hdg hW hn hp
  have h1 : (headSpec ws rm).pre.before a A.U = true := atoms_intro fun w hw => hws w hw _ _ X.warmed
  have h2 : (Cond.code y bytes maxL ret).before a A.U = true := hws _ hcode _ _ X.warmed
  have h3 : (Cond.initialized y.cls).before a A.U = true := hinit _ _ X.warmed
  have h4 : A.cells + (headSpec ws rm).room.cells ≤ R.cells := by rw [show (headSpec ws rm).room.cells = mc from hrc]; exact hp.1
  have h5 : A.slots + (headSpec ws rm).room.slots ≤ R.slots := by rw [show (headSpec ws rm).room.slots = ms from hrs]; exact hp.2.1
  have hPc : Pc a (A.U.calling g mk a) := hblind _ _ _ _ hp.2.2
  obtain ⟨U, Ls, c0, s0⟩ := A
  dsimp only [Pt.U, Pt.locs, Pt.cells, Pt.slots] at h1 h2 h3 h4 h5 X hn hPc ⊢
  obtain ⟨methY, cY, hmY, hcY, -, hlY, -, -, -, -⟩ := Cond.code_spec hn h2
  obtain ⟨kY, hkY, -⟩ := className_of_methodNamed hn
  have hinitY : kY.init = .initialized := Cond.initialized_spec (findClass_of_methodNamed hn) hkY h3
  have h : At U g.method c below := by rw [hg]; exact X.here
  have hlocals9 : W9 + (maxL + 11) + (headSpec ws rm).room.locals ≤ R.locals := hlocals
  have happ : (headSpec ws rm).appliesLoose y e.platform (U.calling g mk a) = true :=
    Spec.appliesLoose_calling (g := g) h hdg hn hkY hinitY
      (X.room_calling (g := g) (R' := (headSpec ws rm).room) hsize hmY hcY hframes (by rw [hlY]; omega) h4 h5) h1
  obtain ⟨mid, hmid⟩ := h.above
  have hfr : (U.setTop g).frames = (.java g :: mid) ++ below := by rw [State.frames_setTop' g h.top, hmid]; rfl
  obtain ⟨o, s₂, hsteps, -, hend, hq⟩ := Steps.callFree hM p X.admits X.cas X.clock (acts := []) hfr happ hPc trivial
  have hq' : vx_Q Qc XC mc ms free a (U.calling g mk a) o s₂ := hq
  rw [State.frames_setTop' g h.top] at hend
  obtain ⟨g₀, hg0⟩ := Option.isSome_iff_exists.mp h.top
  obtain ⟨r, hr⟩ := State.topJava?_eq_some.mp hg0
  have hr' : (({ U with heap := s₂.heap, slotsUsed := s₂.slotsUsed } : State).setVm s₂.vm).frames = .java g₀ :: r := hr
  rcases hq' with ⟨hqc, L, hfe, hL⟩ | ⟨q, rfl, E, ce, L, hx, hce, hcv, hcl, hW₂, hsm, hL⟩
  · obtain ⟨⟨v, rfl⟩, hW₂, e2, q2, q3, q4, q5, q6⟩ := id hfe
    have e3 : s₂ = ({ (U.calling g mk a).setFrames s₂.frames with heap := s₂.heap, slotsUsed := s₂.slotsUsed } : State).setVm s₂.vm := by
      have : s₂ = ({ s₂ with vm := (U.calling g mk a).vm } : State).setVm s₂.vm := rfl
      rw [e2] at this
      exact this
    obtain ⟨c₂, i₂, len₂, hc₂, hd₂, hf₂⟩ := hend
    have hW' : U.WarmedH s₂.vm := hW₂
    have hcc : c₂ = c := by
      have h1 : s₂.code? g.method = U.code? g.method := by
        rw [State.code?_eq, State.code?_eq, hW'.alike.method?]
      exact Option.some.inj (hc₂.symm.trans (h1.trans h.code))
    subst hcc
    have hlen : len₂ = len := by rw [hdg] at hd₂; cases hd₂; rfl
    subst hlen
    have hs₂ : s₂ = (({ U with heap := s₂.heap, slotsUsed := s₂.slotsUsed } : State).setVm s₂.vm).setTop { g with pc := g.pc + len₂, stack := v.toList ++ g.stack } := by
      refine e3.trans ?_
      rw [hf₂, State.calling_eq h.top, State.setFrames_setFrames, State.setTop_of_frames _ hr', hr]
      rfl
    have hsame : U.sameButNew ({ U with heap := s₂.heap, slotsUsed := s₂.slotsUsed } : State) L mc ms := by
      refine ⟨?_, q2, q3, q4, q5, q6⟩
      obtain ⟨t, ht, -⟩ := State.frames_cons hr
      show ({ U with heap := s₂.heap, slotsUsed := s₂.slotsUsed } : State) = { U.setFrames U.frames with heap := s₂.heap, slotsUsed := s₂.slotsUsed }
      rw [State.setFrames_self ht]
    subst hg
    refine Or.inl ⟨v, ⟨(({ U with heap := s₂.heap, slotsUsed := s₂.slotsUsed } : State).setVm s₂.vm), Ls ++ L, c0 + mc, s0 + ms⟩,
      ⟨X.admits, X.cas, X.clock, X.frames, X.room, X.hears, X.method, X.code, (X.here.setHeapUsed s₂.heap s₂.slotsUsed).setVm hW'.alike, X.tail, State.WarmedH.trans X.warmed hW', X.limits, X.bytes, X.same.trans (hsame.setVm s.vm)⟩,
      ⟨g, mk, s₂, L, rfl, rfl, hqc, rfl, hL, rfl, rfl⟩, ?_⟩
    show Steps p.tables e below _ ((({ U with heap := s₂.heap, slotsUsed := s₂.slotsUsed } : State).setVm s₂.vm).setTop { g with pc := g.pc + len₂, stack := v.toList ++ g.stack })
    rw [← hs₂]
    exact hsteps
  · obtain ⟨e2, q2, q3, q4, q5, q6⟩ := id hsm
    have e3 : s₂ = ({ (U.calling g mk a).setFrames s₂.frames with heap := s₂.heap, slotsUsed := s₂.slotsUsed } : State).setVm s₂.vm := by
      have : s₂ = ({ s₂ with vm := (U.calling g mk a).vm } : State).setVm s₂.vm := rfl
      rw [e2] at this
      exact this
    have hf₂ : s₂.frames = .throwing q :: .java g :: U.frames.tail := hend
    have hW' : U.WarmedH s₂.vm := hW₂
    have hs₂ : s₂ = ((({ U with heap := s₂.heap, slotsUsed := s₂.slotsUsed } : State).setVm s₂.vm).setTop g).pushFrame (.throwing q) := by
      refine e3.trans ?_
      rw [hf₂, State.calling_eq h.top, State.setFrames_setFrames, State.pushFrame, State.frames_setTop _ hr', State.setTop_of_frames _ hr', State.setFrames_setFrames, hr]
      rfl
    have hsame : U.sameButNew ({ U with heap := s₂.heap, slotsUsed := s₂.slotsUsed } : State) L mc ms := by
      refine ⟨?_, q2, q3, q4, q5, q6⟩
      obtain ⟨t, ht, -⟩ := State.frames_cons hr
      show ({ U with heap := s₂.heap, slotsUsed := s₂.slotsUsed } : State) = { U.setFrames U.frames with heap := s₂.heap, slotsUsed := s₂.slotsUsed }
      rw [State.setFrames_self ht]
    subst hg
    refine Or.inr ⟨q, ⟨(({ U with heap := s₂.heap, slotsUsed := s₂.slotsUsed } : State).setVm s₂.vm), Ls ++ L, c0 + mc, s0 + ms⟩,
      ⟨X.admits, X.cas, X.clock, X.frames, X.room, X.hears, X.method, X.code, (X.here.setHeapUsed s₂.heap s₂.slotsUsed).setVm hW'.alike, X.tail, State.WarmedH.trans X.warmed hW', X.limits, X.bytes, X.same.trans (hsame.setVm s.vm)⟩,
      ⟨g, mk, s₂, L, E, ce, rfl, rfl, hx, hce, hcv, hcl, rfl, hL, rfl, rfl⟩, ?_⟩
    show Steps p.tables e below _ (((({ U with heap := s₂.heap, slotsUsed := s₂.slotsUsed } : State).setVm s₂.vm).setTop g).pushFrame (.throwing q))
    rw [← hs₂]
    exact hsteps
end Payer
section Calls
variable {p : Program} {l : Launch} {e : Env} {R : Room} {s : State} {m : MethodId} {args : Array Value} {below : List Frame} {meth : Method} {c : Code} {T : State} {locs : List Loc} {cells slots : Nat}
theorem vx_callV (X : Stand p l e R s m args below meth c T locs cells slots) (hexec : p.tables.exec = Jvm.exec) {own C : String} {index : Nat} {y : MethodName} {bytes : ByteArray} {maxL : Nat} {ret : Option FieldType}
    (hown : s.vm.findClass own = some m.cls) (hlink : (Cond.methodLink own index y).before args s = true) (hinst : (Cond.instanceMethod y).before args s = true) (hsel : (Cond.selects C y y).before args s = true)
    (hcode : (Cond.code y bytes maxL ret).before args s = true) (hy : y.cls ≠ "java/lang/invoke/MethodHandle" ∧ y.cls ≠ "java/lang/invoke/VarHandle")
    {W9 : Nat} {Pre : Pt → Array Value → Prop} {Post : Pt → Array Value → Option Value → Pt → Prop} {PostX : Pt → Array Value → Addr → Pt → Prop} (hK : vx_Back l R p e below s args y 3 W9 Pre Post PostX)
    {b : Addr} {cellB : Cell} (hcell : T.heap[b]? = some cellB) (hobj : cellB.vm.isStatics = false) (hcls : s.vm.findClass C = some cellB.cls)
    {g : JFrame} (hg : g.method = m) (hsize : g.locals.size = c.maxLocals) {argsL rest : List Value} (hlen : ∀ sig, parseMethodDescriptor y.desc = some sig → argsL.length = sig.parameters.length)
    (hstack : g.stack = argsL.reverse ++ .ref b :: rest) (hW : 2 * g.monitorRoom + (rest.map fun v => v.category).sum ≤ W9) (hdg : decode c.code g.pc = .ok (.invokevirtual index, 3))
    (hpre : ∀ vm₁, s.WarmedH vm₁ → Pre ⟨T.setVm vm₁, locs, cells, slots⟩ (Value.ref b :: argsL).toArray) :
    (∃ (v : Option Value) (vm₁ : Vm) (B : Pt), s.WarmedH vm₁ ∧ Stand p l e R s m args below meth c B.U B.locs B.cells B.slots ∧ Post ⟨T.setVm vm₁, locs, cells, slots⟩ (Value.ref b :: argsL).toArray v B ∧
      ∀ target, Steps p.tables e below (B.U.setTop { g with pc := g.pc + 3, stack := v.toList ++ rest }) target → Steps p.tables e below (T.setTop g) target) ∨
    (∃ (q : Addr) (vm₁ : Vm) (B : Pt), s.WarmedH vm₁ ∧ Stand p l e R s m args below meth c B.U B.locs B.cells B.slots ∧ PostX ⟨T.setVm vm₁, locs, cells, slots⟩ (Value.ref b :: argsL).toArray q B ∧
      Steps p.tables e below (T.setTop g) ((B.U.setTop { g with stack := rest }).pushFrame (.throwing q))) := by
  obtain ⟨mk, methM, hnamed, hmethM, hstM, habM⟩ := Cond.instanceMethod_spec hinst
  obtain ⟨methM', cM, hmethM', -, -, -, -, -, -, hsigM⟩ := Cond.code_spec hnamed hcode
  cases hmethM.symm.trans hmethM'
  obtain ⟨c2, r2, m2, q1, q2, q3, q4, kP, hkP, hkPi⟩ := Cond.selects_spec hsel
  cases hcls.symm.trans q1
  cases (State.methodFound?_of_named hnamed hy).symm.trans q2
  cases hnamed.symm.trans q3
  have hselP : selectMethod e.platform s.vm cellB.cls mk = .method mk := by rw [Launch.admits_selectMethod X.admits]; exact q4
  obtain ⟨vm₁, X₁, hstep₁⟩ := X.invokevirtual hexec hown hlink hnamed hmethM hstM hkP hkPi hy (a := b) (cell := cellB) hcell
    (fun z h => by rw [h] at hobj; cases hobj) hselP hmethM habM hkP hkPi (g := g) hg (argsL := argsL) (rest := rest) (hlen _ hsigM) hstack hdg
  rcases hK m meth c ⟨T.setVm vm₁, locs, cells, slots⟩ { g with stack := rest } (.invokevirtual index) mk (Value.ref b :: argsL).toArray X₁ hg hsize hdg hW (X₁.named hnamed) (hpre vm₁ X₁.warmed) with ⟨v, B, X', hpost, hsteps⟩ | ⟨q, B, X', hpost, hsteps⟩
  · exact Or.inl ⟨v, vm₁, B, X₁.warmed, X', hpost, fun target h => hstep₁ _ fun acts => by rw [doInvoke_state]; exact hsteps.trans h⟩
  · exact Or.inr ⟨q, vm₁, B, X₁.warmed, X', hpost, hstep₁ _ fun acts => by rw [doInvoke_state]; exact hsteps⟩
theorem vx_callS (X : Stand p l e R s m args below meth c T locs cells slots) (hexec : p.tables.exec = Jvm.exec) {own : String} {index : Nat} {y : MethodName} {bytes : ByteArray} {maxL : Nat} {ret : Option FieldType}
    (hown : s.vm.findClass own = some m.cls) (hlink : (Cond.methodLink own index y).before args s = true) (hstat : (Cond.static y).before args s = true) (hinit : (Cond.initialized y.cls).before args s = true)
    (hcode : (Cond.code y bytes maxL ret).before args s = true) (hy : y.cls ≠ "java/lang/invoke/MethodHandle" ∧ y.cls ≠ "java/lang/invoke/VarHandle")
    {W9 : Nat} {Pre : Pt → Array Value → Prop} {Post : Pt → Array Value → Option Value → Pt → Prop} {PostX : Pt → Array Value → Addr → Pt → Prop} (hK : vx_Back l R p e below s args y 3 W9 Pre Post PostX)
    {g : JFrame} (hg : g.method = m) (hsize : g.locals.size = c.maxLocals) {argsL rest : List Value} (hlen : ∀ sig, parseMethodDescriptor y.desc = some sig → argsL.length = sig.parameters.length)
    (hstack : g.stack = argsL.reverse ++ rest) (hW : 2 * g.monitorRoom + (rest.map fun v => v.category).sum ≤ W9) (hdg : decode c.code g.pc = .ok (.invokestatic index, 3))
    (hpre : ∀ vm₁, s.WarmedH vm₁ → Pre ⟨T.setVm vm₁, locs, cells, slots⟩ argsL.toArray) :
    (∃ (v : Option Value) (vm₁ : Vm) (B : Pt), s.WarmedH vm₁ ∧ Stand p l e R s m args below meth c B.U B.locs B.cells B.slots ∧ Post ⟨T.setVm vm₁, locs, cells, slots⟩ argsL.toArray v B ∧
      ∀ target, Steps p.tables e below (B.U.setTop { g with pc := g.pc + 3, stack := v.toList ++ rest }) target → Steps p.tables e below (T.setTop g) target) ∨
    (∃ (q : Addr) (vm₁ : Vm) (B : Pt), s.WarmedH vm₁ ∧ Stand p l e R s m args below meth c B.U B.locs B.cells B.slots ∧ PostX ⟨T.setVm vm₁, locs, cells, slots⟩ argsL.toArray q B ∧
      Steps p.tables e below (T.setTop g) ((B.U.setTop { g with stack := rest }).pushFrame (.throwing q))) := by
  obtain ⟨mk, hnamed⟩ := Cond.code_named hcode
  obtain ⟨methM, cM, hmethM, -, -, -, -, -, -, hsigM⟩ := Cond.code_spec hnamed hcode
  have hstatic : methM.isStatic = true := Cond.static_spec hnamed hmethM hstat
  obtain ⟨kP, hkP, -⟩ := className_of_methodNamed hnamed
  have hinitP : kP.init = .initialized := Cond.initialized_spec (findClass_of_methodNamed hnamed) hkP hinit
  obtain ⟨vm₁, X₁, hstep₁⟩ := X.invokestatic hexec hown hlink hnamed hmethM hstatic hkP hinitP hy (g := g) hg (argsL := argsL) (rest := rest) (hlen _ hsigM) hstack hdg
  rcases hK m meth c ⟨T.setVm vm₁, locs, cells, slots⟩ { g with stack := rest } (.invokestatic index) mk argsL.toArray X₁ hg hsize hdg hW (X₁.named hnamed) (hpre vm₁ X₁.warmed) with ⟨v, B, X', hpost, hsteps⟩ | ⟨q, B, X', hpost, hsteps⟩
  · exact Or.inl ⟨v, vm₁, B, X₁.warmed, X', hpost, fun target h => hstep₁ _ fun acts => by rw [doInvoke_state]; exact hsteps.trans h⟩
  · exact Or.inr ⟨q, vm₁, B, X₁.warmed, X', hpost, hstep₁ _ fun acts => by rw [doInvoke_state]; exact hsteps⟩
end Calls
theorem vx_cls {s : State} {T : State} {vm₁ : Vm} {E : String} {k : ClassId} (hW : s.WarmedH vm₁) (h : (T.setVm vm₁).vm.findClass E = some k) : s.vm.findClass E = some k := by
  have h1 : vm₁.findClass E = some k := h
  rw [hW.alike.findClass] at h1
  exact h1
/-- the method's frame g, with q thrown over it -/
def vx_W (p : Program) (l : Launch) (e : Env) (R : Room) (s : State) (m : MethodId) (args : Array Value) (below : List Frame) (meth : Method) (c : Code) (H : Heap) (locs : List Loc) (cells slots : Nat) (Q : State → Prop) (g : JFrame) (q : Addr) : Prop :=
  ∀ T : State, T.heap = H → Stand p l e R s m args below meth c T locs cells slots → ∃ t, Steps p.tables e below ((T.setTop g).pushFrame (.throwing q)) t ∧ Q t
def vx_Run (p : Program) (l : Launch) (e : Env) (R : Room) (s : State) (m : MethodId) (args : Array Value) (below : List Frame) (meth : Method) (c : Code) (H : Heap) (locs : List Loc) (cells slots mc ms : Nat) (g : JFrame) (rest : List Value) (Qa : State → Outcome → State → Prop) (XC : String → State → State → Prop) (free : Addr → Prop) : Prop :=
  ∀ T : State, T.heap = H → Stand p l e R s m args below meth c T locs cells slots →
    (∃ (v : Option Value) (st₀ t T' : State) (L : List Loc), st₀.heap = H ∧ Stand p l e R s m args below meth c T' (locs ++ L) (cells + mc) (slots + ms) ∧ (∀ q ∈ L, free q.base) ∧ T'.heap = t.heap ∧ T'.vm = t.vm ∧ Qa st₀ (.returned v) t ∧
      Goes p e below T g T' { g with pc := g.pc + 3, stack := v.toList ++ rest }) ∨
    (∃ (q : Addr) (st₀ t T' : State) (L : List Loc) (E : String) (ce : Cell), st₀.heap = H ∧ Stand p l e R s m args below meth c T' (locs ++ L) (cells + mc) (slots + ms) ∧ (∀ z ∈ L, free z.base) ∧ T'.heap = t.heap ∧ T'.vm = t.vm ∧ XC E st₀ t ∧ t.heap[q]? = some ce ∧ ce.vm = .none ∧ s.vm.findClass E = some ce.cls ∧
      Steps p.tables e below (T.setTop g) ((T'.setTop { g with stack := rest }).pushFrame (.throwing q)))
def vx_X {S : Type} (px : S → Prop) (B : String → S → State → Prop) (A : Nat → Prop) : String → State → State → Prop := fun E st t => ∃ u : S, px u ∧ B E u t ∧ va_F A st t
section Runs
variable {p : Program} {l : Launch} {e : Env} {R : Room} {s : State} {m : MethodId} {args : Array Value} {below : List Frame} {meth : Method} {c : Code} {H : Heap} {locs : List Loc} {cells slots : Nat}
variable {y : MethodName} {bytes cc : ByteArray} {maxL nL mc ms n index : Nat} {ret : Option FieldType} {ws : List Cond} {rm : Room} {Pc : Array Value → State → Prop} {Qc : Array Value → State → Outcome → State → Prop} {XC : String → State → State → Prop} {free : Addr → Prop} {Ts : List Cond} {own C : String} {b : Addr} {As rest : List Value} {g : JFrame}
theorem vx_callBack (cb : CallB R s args own index y bytes maxL ret ws rm mc ms n) (hM : vx_Met l y ws rm Pc Qc XC mc ms free) (hbl : FrameBlind Pc) : vx_Back l R p e below s args y 3 8 (PreOf R mc ms Pc) (PostOf Qc mc ms free) (vx_Post XC mc ms free) := by
  obtain ⟨hrc, hrs, hfr, hlo, hws, hcw, -, hini, -⟩ := cb
  exact vx_back (bytes := bytes) (maxL := maxL) (ret := ret) hM hbl hrc hrs hfr hlo hws hcw (fun a' U hW => word_at hW (Or.inl (by first | rfl | simp [Cond.onTables, Cond.keeps, Cond.steady])) hini)
theorem vx_runV (S : CallFix p m c cc nL s args Ts own) (hM : vx_Met l y ws rm Pc Qc XC mc ms free) (cw : CallW R s args own C index y bytes maxL ret ws rm mc ms n) (hp : PreV s H C b Pc As)
    (hg : g.method = m) (hn : As.length = n) (hsize : g.locals.size = nL) (hstack : g.stack = As.reverse ++ .ref b :: rest) (hW : 2 * g.monitorRoom + (rest.map fun v => v.category).sum ≤ 8) (hdg : decode cc g.pc = .ok (.invokevirtual index, 3)) (hf : cells + mc ≤ R.cells ∧ slots + ms ≤ R.slots) :
    vx_Run p l e R s m args below meth c H locs cells slots mc ms g rest (Qc (Value.ref b :: As).toArray) XC free := by
  have hK : vx_Back l R p e below s args y 3 8 (PreOf R mc ms Pc) (PostOf Qc mc ms free) (vx_Post XC mc ms free) := vx_callBack cw.1 hM hp.1
  obtain ⟨⟨-, -, -, -, -, -, hcode, -, hy, hlen, hl⟩, hin, hse⟩ := cw
  obtain ⟨hx, hb, hml, ho, -⟩ := S
  obtain ⟨-, ⟨cellB, hcB, hoB, hclB⟩, hPc⟩ := hp
  intro T hT X
  rcases vx_callV X hx (C := C) (bytes := bytes) (maxL := maxL) (ret := ret) ho hl hin hse hcode hy hK (by rw [hT]; exact hcB) hoB hclB hg (hsize.trans hml.symm) (argsL := As) (rest := rest) (fun sig h => hn.trans (hlen sig h)) hstack hW (by rw [hb]; exact hdg)
    (fun vm₁ hW₁ => ⟨hf.1, hf.2, hPc (T.setVm vm₁) hT hW₁⟩) with ⟨v, vm₁, ⟨U', l2, c2, s2⟩, hW₁, X', ⟨g', mk, t, L, e1, e2, hq, h1, hL, h2, h3⟩, st⟩ | ⟨q, vm₁, ⟨U', l2, c2, s2⟩, hW₁, X', ⟨g', mk, t, L, E, ce, e1, e2, hq, hce, hcv, hcl, h1, hL, h2, h3⟩, st⟩
  · dsimp only [Pt.U, Pt.locs, Pt.cells, Pt.slots] at X' e1 e2 h1 h2 h3 st
    subst h1; subst h2; subst h3
    exact Or.inl ⟨v, (T.setVm vm₁).calling g' mk (Value.ref b :: As).toArray, t, U', L, hT, X', hL, e1, e2, hq, st⟩
  · dsimp only [Pt.U, Pt.locs, Pt.cells, Pt.slots] at X' e1 e2 h1 h2 h3 st hcl
    subst h1; subst h2; subst h3
    exact Or.inr ⟨q, (T.setVm vm₁).calling g' mk (Value.ref b :: As).toArray, t, U', L, E, ce, hT, X', hL, e1, e2, hq, hce, hcv, vx_cls hW₁ hcl, st⟩
theorem vx_runS (S : CallFix p m c cc nL s args Ts own) (hM : vx_Met l y ws rm Pc Qc XC mc ms free) (cw : CallB R s args own index y bytes maxL ret ws rm mc ms n ∧ (Cond.static y).before args s = true) (hp : PreS s H Pc As)
    (hg : g.method = m) (hn : As.length = n) (hsize : g.locals.size = nL) (hstack : g.stack = As.reverse ++ rest) (hW : 2 * g.monitorRoom + (rest.map fun v => v.category).sum ≤ 8) (hdg : decode cc g.pc = .ok (.invokestatic index, 3)) (hf : cells + mc ≤ R.cells ∧ slots + ms ≤ R.slots) :
    vx_Run p l e R s m args below meth c H locs cells slots mc ms g rest (Qc As.toArray) XC free := by
  have hK : vx_Back l R p e below s args y 3 8 (PreOf R mc ms Pc) (PostOf Qc mc ms free) (vx_Post XC mc ms free) := vx_callBack cw.1 hM hp.1
  obtain ⟨⟨-, -, -, -, -, -, hcode, hini, hy, hlen, hl⟩, hstt⟩ := cw
  obtain ⟨hx, hb, hml, ho, -⟩ := S
  intro T hT X
  rcases vx_callS X hx (bytes := bytes) (maxL := maxL) (ret := ret) ho hl hstt hini hcode hy hK hg (hsize.trans hml.symm) (argsL := As) (rest := rest) (fun sig h => hn.trans (hlen sig h)) hstack hW (by rw [hb]; exact hdg)
    (fun vm₁ hW₁ => ⟨hf.1, hf.2, hp.2 (T.setVm vm₁) hT hW₁⟩) with ⟨v, vm₁, ⟨U', l2, c2, s2⟩, hW₁, X', ⟨g', mk, t, L, e1, e2, hq, h1, hL, h2, h3⟩, st⟩ | ⟨q, vm₁, ⟨U', l2, c2, s2⟩, hW₁, X', ⟨g', mk, t, L, E, ce, e1, e2, hq, hce, hcv, hcl, h1, hL, h2, h3⟩, st⟩
  · dsimp only [Pt.U, Pt.locs, Pt.cells, Pt.slots] at X' e1 e2 h1 h2 h3 st
    subst h1; subst h2; subst h3
    exact Or.inl ⟨v, (T.setVm vm₁).calling g' mk As.toArray, t, U', L, hT, X', hL, e1, e2, hq, st⟩
  · dsimp only [Pt.U, Pt.locs, Pt.cells, Pt.slots] at X' e1 e2 h1 h2 h3 st hcl
    subst h1; subst h2; subst h3
    exact Or.inr ⟨q, (T.setVm vm₁).calling g' mk As.toArray, t, U', L, E, ce, hT, X', hL, e1, e2, hq, hce, hcv, vx_cls hW₁ hcl, st⟩
end Runs
section Rows
variable {p : Program} {l : Launch} {e : Env} {R : Room} {s : State} {m : MethodId} {args : Array Value} {below : List Frame} {meth : Method} {c : Code} {H : Heap} {locs : List Loc} {cells slots : Nat} {Q : State → Prop}
variable {mc ms : Nat} {free : Addr → Prop} {A0 A1 : Nat → Prop} {H0 : Heap} {a : Array Value} {pc : Nat} {ls : Array Slot} {st0 rest : List Value}
theorem vx_keep {st₀ t T' : State} {L : List Loc} (h0 : st₀.heap = H) (e1 : T'.heap = t.heap) (hS : va_S A0 H0 H locs) (hA : ∀ q, q < H.size → A1 q → A0 q) (hf : ∀ q, free q → A0 q) (hL : ∀ q ∈ L, free q.base) (hF : va_F A1 st₀ t) :
    H.size ≤ T'.heap.size ∧ (∀ q : Nat, q < H.size → ¬ A1 q → T'.heap[q]? = H[q]?) ∧ va_S A0 H0 T'.heap (locs ++ L) := by
  obtain ⟨hz, hk⟩ := hF
  rw [h0] at hz hk
  exact ⟨by rw [e1]; exact hz, fun q h1 h2 => by rw [e1]; exact hk q h1 h2,
    ⟨Nat.le_trans hS.1 (by rw [e1]; exact hz), fun q h1 h2 => by rw [e1, hk q (Nat.lt_of_lt_of_le h1 hS.1) (fun z => h2 (hA q (Nat.lt_of_lt_of_le h1 hS.1) z))]; exact hS.2.1 q h1 h2, fun q hq => by
      rcases List.mem_append.mp hq with h | h
      · exact hS.2.2 q h
      · exact hf _ (hL q h)⟩⟩
theorem vx_calli {S SX : Type} {post : Int32 → S → Prop} {px : SX → Prop} {B : S → State → Prop} {BX : String → SX → State → Prop} {AX : Nat → Prop} (hr : vx_Run p l e R s m args below meth c H locs cells slots mc ms (F0 m pc ls st0) rest (va_Qi post B A1 a) (vx_X px BX AX) free) (hS : va_S A0 H0 H locs) (hA : ∀ q, q < H.size → A1 q → A0 q) (hf : ∀ q, free q → A0 q) (hAX : ∀ q, q < H.size → AX q → A0 q)
    (kx : ∀ (E : String) (ce : Cell) (q9 : Addr) (u : SX) (t : State) (H1 : Heap) (locs1 : List Loc), t.heap = H1 → s.vm.Alike t.vm → px u → BX E u t → H.size ≤ H1.size → (∀ q : Nat, q < H.size → ¬ AX q → H1[q]? = H[q]?) → va_S A0 H0 H1 locs1 → H1[q9]? = some ce → ce.vm = .none → s.vm.findClass E = some ce.cls → vx_W p l e R s m args below meth c H1 locs1 (cells + mc) (slots + ms) Q (F0 m pc ls rest) q9)
    (kk : ∀ (r : Int32) (u : S) (t : State) (H1 : Heap) (locs1 : List Loc), t.heap = H1 → s.vm.Alike t.vm → post r u → B u t → H.size ≤ H1.size → (∀ q : Nat, q < H.size → ¬ A1 q → H1[q]? = H[q]?) → va_S A0 H0 H1 locs1 → W p l e R s m args below meth c H1 locs1 (cells + mc) (slots + ms) Q (F0 m (pc + 3) ls (.int r :: rest))) : W p l e R s m args below meth c H locs cells slots Q (F0 m pc ls st0) := by
  intro T hT X
  rcases hr T hT X with ⟨v, st₀, t, T', L, h0, X', hL, e1, e2, ⟨⟨r, u, hv, hp, hb⟩, hF⟩, st⟩ | ⟨q, st₀, t, T', L, E, ce, h0, X', hL, e1, e2, ⟨u, hp, hb, hF⟩, hce, hcv, hcl, st⟩
  · cases hv
    obtain ⟨k1, k2, k3⟩ := vx_keep h0 e1 hS hA hf hL hF
    obtain ⟨t2, a1, b1⟩ := kk r u t T'.heap (locs ++ L) e1.symm (by rw [← e2]; exact X'.warmed.alike) hp hb k1 k2 k3 T' rfl X'
    exact ⟨t2, st t2 a1, b1⟩
  · obtain ⟨k1, k2, k3⟩ := vx_keep h0 e1 hS hAX hf hL hF
    obtain ⟨t2, a1, b1⟩ := kx E ce q u t T'.heap (locs ++ L) e1.symm (by rw [← e2]; exact X'.warmed.alike) hp hb k1 k2 k3 (by rw [e1]; exact hce) hcv hcl T' rfl X'
    exact ⟨t2, st.trans a1, b1⟩
theorem vx_calll {S SX : Type} {post : Int64 → S → Prop} {px : SX → Prop} {B : S → State → Prop} {BX : String → SX → State → Prop} {AX : Nat → Prop} (hr : vx_Run p l e R s m args below meth c H locs cells slots mc ms (F0 m pc ls st0) rest (va_Ql post B A1 a) (vx_X px BX AX) free) (hS : va_S A0 H0 H locs) (hA : ∀ q, q < H.size → A1 q → A0 q) (hf : ∀ q, free q → A0 q) (hAX : ∀ q, q < H.size → AX q → A0 q)
    (kx : ∀ (E : String) (ce : Cell) (q9 : Addr) (u : SX) (t : State) (H1 : Heap) (locs1 : List Loc), t.heap = H1 → s.vm.Alike t.vm → px u → BX E u t → H.size ≤ H1.size → (∀ q : Nat, q < H.size → ¬ AX q → H1[q]? = H[q]?) → va_S A0 H0 H1 locs1 → H1[q9]? = some ce → ce.vm = .none → s.vm.findClass E = some ce.cls → vx_W p l e R s m args below meth c H1 locs1 (cells + mc) (slots + ms) Q (F0 m pc ls rest) q9)
    (kk : ∀ (r : Int64) (u : S) (t : State) (H1 : Heap) (locs1 : List Loc), t.heap = H1 → s.vm.Alike t.vm → post r u → B u t → H.size ≤ H1.size → (∀ q : Nat, q < H.size → ¬ A1 q → H1[q]? = H[q]?) → va_S A0 H0 H1 locs1 → W p l e R s m args below meth c H1 locs1 (cells + mc) (slots + ms) Q (F0 m (pc + 3) ls (.long r :: rest))) : W p l e R s m args below meth c H locs cells slots Q (F0 m pc ls st0) := by
  intro T hT X
  rcases hr T hT X with ⟨v, st₀, t, T', L, h0, X', hL, e1, e2, ⟨⟨r, u, hv, hp, hb⟩, hF⟩, st⟩ | ⟨q, st₀, t, T', L, E, ce, h0, X', hL, e1, e2, ⟨u, hp, hb, hF⟩, hce, hcv, hcl, st⟩
  · cases hv
    obtain ⟨k1, k2, k3⟩ := vx_keep h0 e1 hS hA hf hL hF
    obtain ⟨t2, a1, b1⟩ := kk r u t T'.heap (locs ++ L) e1.symm (by rw [← e2]; exact X'.warmed.alike) hp hb k1 k2 k3 T' rfl X'
    exact ⟨t2, st t2 a1, b1⟩
  · obtain ⟨k1, k2, k3⟩ := vx_keep h0 e1 hS hAX hf hL hF
    obtain ⟨t2, a1, b1⟩ := kx E ce q u t T'.heap (locs ++ L) e1.symm (by rw [← e2]; exact X'.warmed.alike) hp hb k1 k2 k3 (by rw [e1]; exact hce) hcv hcl T' rfl X'
    exact ⟨t2, st.trans a1, b1⟩
theorem vx_callf {S SX : Type} {post : UInt32 → S → Prop} {px : SX → Prop} {B : S → State → Prop} {BX : String → SX → State → Prop} {AX : Nat → Prop} (hr : vx_Run p l e R s m args below meth c H locs cells slots mc ms (F0 m pc ls st0) rest (va_Qf post B A1 a) (vx_X px BX AX) free) (hS : va_S A0 H0 H locs) (hA : ∀ q, q < H.size → A1 q → A0 q) (hf : ∀ q, free q → A0 q) (hAX : ∀ q, q < H.size → AX q → A0 q)
    (kx : ∀ (E : String) (ce : Cell) (q9 : Addr) (u : SX) (t : State) (H1 : Heap) (locs1 : List Loc), t.heap = H1 → s.vm.Alike t.vm → px u → BX E u t → H.size ≤ H1.size → (∀ q : Nat, q < H.size → ¬ AX q → H1[q]? = H[q]?) → va_S A0 H0 H1 locs1 → H1[q9]? = some ce → ce.vm = .none → s.vm.findClass E = some ce.cls → vx_W p l e R s m args below meth c H1 locs1 (cells + mc) (slots + ms) Q (F0 m pc ls rest) q9)
    (kk : ∀ (r : UInt32) (u : S) (t : State) (H1 : Heap) (locs1 : List Loc), t.heap = H1 → s.vm.Alike t.vm → post r u → B u t → H.size ≤ H1.size → (∀ q : Nat, q < H.size → ¬ A1 q → H1[q]? = H[q]?) → va_S A0 H0 H1 locs1 → W p l e R s m args below meth c H1 locs1 (cells + mc) (slots + ms) Q (F0 m (pc + 3) ls (.float r :: rest))) : W p l e R s m args below meth c H locs cells slots Q (F0 m pc ls st0) := by
  intro T hT X
  rcases hr T hT X with ⟨v, st₀, t, T', L, h0, X', hL, e1, e2, ⟨⟨r, u, hv, hp, hb⟩, hF⟩, st⟩ | ⟨q, st₀, t, T', L, E, ce, h0, X', hL, e1, e2, ⟨u, hp, hb, hF⟩, hce, hcv, hcl, st⟩
  · cases hv
    obtain ⟨k1, k2, k3⟩ := vx_keep h0 e1 hS hA hf hL hF
    obtain ⟨t2, a1, b1⟩ := kk r u t T'.heap (locs ++ L) e1.symm (by rw [← e2]; exact X'.warmed.alike) hp hb k1 k2 k3 T' rfl X'
    exact ⟨t2, st t2 a1, b1⟩
  · obtain ⟨k1, k2, k3⟩ := vx_keep h0 e1 hS hAX hf hL hF
    obtain ⟨t2, a1, b1⟩ := kx E ce q u t T'.heap (locs ++ L) e1.symm (by rw [← e2]; exact X'.warmed.alike) hp hb k1 k2 k3 (by rw [e1]; exact hce) hcv hcl T' rfl X'
    exact ⟨t2, st.trans a1, b1⟩
theorem vx_calld {S SX : Type} {post : UInt64 → S → Prop} {px : SX → Prop} {B : S → State → Prop} {BX : String → SX → State → Prop} {AX : Nat → Prop} (hr : vx_Run p l e R s m args below meth c H locs cells slots mc ms (F0 m pc ls st0) rest (va_Qd post B A1 a) (vx_X px BX AX) free) (hS : va_S A0 H0 H locs) (hA : ∀ q, q < H.size → A1 q → A0 q) (hf : ∀ q, free q → A0 q) (hAX : ∀ q, q < H.size → AX q → A0 q)
    (kx : ∀ (E : String) (ce : Cell) (q9 : Addr) (u : SX) (t : State) (H1 : Heap) (locs1 : List Loc), t.heap = H1 → s.vm.Alike t.vm → px u → BX E u t → H.size ≤ H1.size → (∀ q : Nat, q < H.size → ¬ AX q → H1[q]? = H[q]?) → va_S A0 H0 H1 locs1 → H1[q9]? = some ce → ce.vm = .none → s.vm.findClass E = some ce.cls → vx_W p l e R s m args below meth c H1 locs1 (cells + mc) (slots + ms) Q (F0 m pc ls rest) q9)
    (kk : ∀ (r : UInt64) (u : S) (t : State) (H1 : Heap) (locs1 : List Loc), t.heap = H1 → s.vm.Alike t.vm → post r u → B u t → H.size ≤ H1.size → (∀ q : Nat, q < H.size → ¬ A1 q → H1[q]? = H[q]?) → va_S A0 H0 H1 locs1 → W p l e R s m args below meth c H1 locs1 (cells + mc) (slots + ms) Q (F0 m (pc + 3) ls (.double r :: rest))) : W p l e R s m args below meth c H locs cells slots Q (F0 m pc ls st0) := by
  intro T hT X
  rcases hr T hT X with ⟨v, st₀, t, T', L, h0, X', hL, e1, e2, ⟨⟨r, u, hv, hp, hb⟩, hF⟩, st⟩ | ⟨q, st₀, t, T', L, E, ce, h0, X', hL, e1, e2, ⟨u, hp, hb, hF⟩, hce, hcv, hcl, st⟩
  · cases hv
    obtain ⟨k1, k2, k3⟩ := vx_keep h0 e1 hS hA hf hL hF
    obtain ⟨t2, a1, b1⟩ := kk r u t T'.heap (locs ++ L) e1.symm (by rw [← e2]; exact X'.warmed.alike) hp hb k1 k2 k3 T' rfl X'
    exact ⟨t2, st t2 a1, b1⟩
  · obtain ⟨k1, k2, k3⟩ := vx_keep h0 e1 hS hAX hf hL hF
    obtain ⟨t2, a1, b1⟩ := kx E ce q u t T'.heap (locs ++ L) e1.symm (by rw [← e2]; exact X'.warmed.alike) hp hb k1 k2 k3 (by rw [e1]; exact hce) hcv hcl T' rfl X'
    exact ⟨t2, st.trans a1, b1⟩
theorem vx_callv {S SX : Type} {post : S → Prop} {px : SX → Prop} {B : S → State → Prop} {BX : String → SX → State → Prop} {AX : Nat → Prop} (hr : vx_Run p l e R s m args below meth c H locs cells slots mc ms (F0 m pc ls st0) rest (va_Qv post B A1 a) (vx_X px BX AX) free) (hS : va_S A0 H0 H locs) (hA : ∀ q, q < H.size → A1 q → A0 q) (hf : ∀ q, free q → A0 q) (hAX : ∀ q, q < H.size → AX q → A0 q)
    (kx : ∀ (E : String) (ce : Cell) (q9 : Addr) (u : SX) (t : State) (H1 : Heap) (locs1 : List Loc), t.heap = H1 → s.vm.Alike t.vm → px u → BX E u t → H.size ≤ H1.size → (∀ q : Nat, q < H.size → ¬ AX q → H1[q]? = H[q]?) → va_S A0 H0 H1 locs1 → H1[q9]? = some ce → ce.vm = .none → s.vm.findClass E = some ce.cls → vx_W p l e R s m args below meth c H1 locs1 (cells + mc) (slots + ms) Q (F0 m pc ls rest) q9)
    (kk : ∀ (u : S) (t : State) (H1 : Heap) (locs1 : List Loc), t.heap = H1 → s.vm.Alike t.vm → post u → B u t → H.size ≤ H1.size → (∀ q : Nat, q < H.size → ¬ A1 q → H1[q]? = H[q]?) → va_S A0 H0 H1 locs1 → W p l e R s m args below meth c H1 locs1 (cells + mc) (slots + ms) Q (F0 m (pc + 3) ls (rest))) : W p l e R s m args below meth c H locs cells slots Q (F0 m pc ls st0) := by
  intro T hT X
  rcases hr T hT X with ⟨v, st₀, t, T', L, h0, X', hL, e1, e2, ⟨⟨u, hv, hp, hb⟩, hF⟩, st⟩ | ⟨q, st₀, t, T', L, E, ce, h0, X', hL, e1, e2, ⟨u, hp, hb, hF⟩, hce, hcv, hcl, st⟩
  · cases hv
    obtain ⟨k1, k2, k3⟩ := vx_keep h0 e1 hS hA hf hL hF
    obtain ⟨t2, a1, b1⟩ := kk u t T'.heap (locs ++ L) e1.symm (by rw [← e2]; exact X'.warmed.alike) hp hb k1 k2 k3 T' rfl X'
    exact ⟨t2, st t2 a1, b1⟩
  · obtain ⟨k1, k2, k3⟩ := vx_keep h0 e1 hS hAX hf hL hF
    obtain ⟨t2, a1, b1⟩ := kx E ce q u t T'.heap (locs ++ L) e1.symm (by rw [← e2]; exact X'.warmed.alike) hp hb k1 k2 k3 (by rw [e1]; exact hce) hcv hcl T' rfl X'
    exact ⟨t2, st.trans a1, b1⟩
/-- caught by the row x of this method's table; the rows ahead don't take it -/
theorem vx_catch {own name : String} {E : String} {ce : Cell} {q : Addr} (hown : s.vm.findClass own = some m.cls) (pre : List ExceptionTableEntry) (x : ExceptionTableEntry) (suf : List ExceptionTableEntry) (hsplit : c.exceptionTable.toList = pre ++ x :: suf)
    (hpass : ∀ z ∈ pre, covers z pc = false ∨ (z.catchType ≠ 0 ∧ ∃ nm : String, (Cond.classLink own z.catchType nm).before args s = true ∧ va_Nc E nm s)) (hx : covers x pc = true) (h0 : x.catchType ≠ 0)
    (hlink : (Cond.classLink own x.catchType name).before args s = true) (hcast : (Cond.castable E name).before args s = true) (hcell : H[q]? = some ce) (hv : ce.vm = .none) (hcl : s.vm.findClass E = some ce.cls)
    (kk : W p l e R s m args below meth c H locs cells slots Q (F0 m x.handlerPc ls [.ref q])) : vx_W p l e R s m args below meth c H locs cells slots Q (F0 m pc ls rest) q := by
  intro T hT X
  have hpl : e.platform.magicAccessors = ({} : Platform).magicAccessors := by rw [X.admits.platform]
  obtain ⟨c3, c4, hc3, hc4, hasg⟩ := Cond.castable_spec hcast
  cases Option.some.inj (hc3.symm.trans hcl)
  obtain ⟨c5, hc5, hcl5⟩ := Cond.classLink_spec hown hlink e.platform hpl
  cases Option.some.inj (hc4.symm.trans hc5)
  obtain ⟨vm', X', st⟩ := X.thenCaughtThrough q (g := F0 m pc ls rest) rfl (Steps.refl _) (by rw [hT]; exact hcell) (by rw [hv]; rfl) (by obtain ⟨k9, h9, -⟩ := Vm.findClass_spec hcl; exact ⟨k9, h9⟩) pre x suf hsplit
    (fun z hz => by
      rcases hpass z hz with h | ⟨hz0, nm, hl1, hn1⟩
      · exact Or.inl h
      · obtain ⟨c6, hc6, hcl6⟩ := Cond.classLink_spec hown hl1 e.platform hpl
        obtain ⟨a8, b8, h1, h2, h3⟩ := hn1
        cases Option.some.inj (h1.symm.trans hcl)
        cases Option.some.inj (h2.symm.trans hc6)
        exact Or.inr ⟨hz0, _, hcl6, h3⟩) hx (Or.inr ⟨h0, c4, hcl5, hasg⟩)
  obtain ⟨t, a1, b1⟩ := kk (T.setVm vm') hT X'
  exact ⟨t, st.trans a1, b1⟩
end Rows
section Ends
variable {p : Program} {l : Launch} {e : Env} {R : Room} {s : State} {m : MethodId} {args : Array Value} {below : List Frame} {meth : Method} {c : Code} {H : Heap} {locs : List Loc} {cells slots : Nat} {Q : State → Prop}
variable {mc ms : Nat} {free : Addr → Prop} {A0 A1 : Nat → Prop} {H0 : Heap} {a : Array Value} {ls : Array Slot} {st0 rest : List Value}
variable {Qc : Array Value → State → Outcome → State → Prop} {XC : String → State → State → Prop}
/-- what a body that may throw owes at its end -/
def vx_MQ (below : List Frame) (Qc : Array Value → State → Outcome → State → Prop) (XC : String → State → State → Prop) (a : Array Value) (s : State) (mc ms : Nat) (free : Addr → Prop) : State → Prop := fun t =>
  ∃ o, t.status = .running ∧ Ended t below o ∧ vx_Q Qc XC mc ms free a s o t
theorem vx_ret {g : JFrame} {mc ms : Nat} (k : W p l e R s m args below meth c H locs cells slots (MQ below Qc args s mc ms free) g) : W p l e R s m args below meth c H locs cells slots (vx_MQ below Qc XC args s mc ms free) g := by
  intro T hT X
  obtain ⟨t, a1, o, b1, b2, b3, b4⟩ := k T hT X
  exact ⟨t, a1, o, b1, b2, Or.inl ⟨b3, b4⟩⟩
/-- not caught here: it goes on to the caller -/
theorem vx_widen {g : JFrame} {q : Addr} {k n : Nat} (h1 : cells ≤ k) (h2 : slots ≤ n) (kk : vx_W p l e R s m args below meth c H locs k n Q g q) : vx_W p l e R s m args below meth c H locs cells slots Q g q := fun T hT X => kk T hT (stand_widen X h1 h2)
theorem vx_out {pc : Nat} {E : String} {ce : Cell} {q : Addr} {mc ms : Nat} (hout : ∀ x ∈ c.exceptionTable.toList, covers x pc = false) (hlocks : meth.locks = false) (hcell : H[q]? = some ce) (hv : ce.vm = .none) (hcl : s.vm.findClass E = some ce.cls)
    (hx : ∀ t : State, t.heap = H → s.vm.Alike t.vm → XC E s t) (hf : ∀ z ∈ locs, free z.base) (hc : cells ≤ mc) (hs : slots ≤ ms) :
    vx_W p l e R s m args below meth c H locs cells slots (vx_MQ below Qc XC args s mc ms free) (F0 m pc ls rest) q := by
  intro T hT X
  obtain ⟨st1, hrun, hend, hW, hsm⟩ := X.leaveThrown q (g := F0 m pc ls rest) rfl rfl rfl hout hlocks
  have hcell9 : (T.setFrames (.throwing q :: below)).heap[q]? = some ce := by
    show T.heap[q]? = some ce
    rw [hT]; exact hcell
  exact ⟨_, st1, .threw q, hrun, hend, Or.inr ⟨q, rfl, E, ce, locs, hx _ hT hW.alike, hcell9, hv, hcl, hW, hsm.mono hc hs, hf⟩⟩
theorem vx_frame {U : State} {k n : Nat} (h : s.sameButNew ({ U with vm := s.vm } : State) locs k n) : s.heap.size ≤ U.heap.size ∧ ∀ q : Nat, q < s.heap.size → (∀ z ∈ locs, z.base ≠ q) → U.heap[q]? = s.heap[q]? := by
  obtain ⟨-, h2, -, -, -, h6⟩ := h
  refine ⟨h2, fun q hq hz => ?_⟩
  obtain ⟨c9, e1, e2, e3, e4⟩ := h6 q _ (Array.getElem?_eq_getElem hq)
  have hs : c9.slots = (s.heap[q]).slots := Array.ext_getElem? fun i => e4 i fun hm => hz _ hm rfl
  have h9 : c9 = s.heap[q] := by
    rw [hs] at e2
    exact e2
  have e5 : U.heap[q]? = some c9 := e1
  rw [e5, h9, Array.getElem?_eq_getElem hq]
/-- the words of a throw but the four that speak of the heap -/
def vx_no (w : Cond) : Bool := decide (w ≠ .isRef (.static Bundle.tN "UNASSIGNED_STACK" Bundle.steD)) && decide (w ≠ .isRef (.static Bundle.tN "SUPPRESSED_SENTINEL" Bundle.listD)) && decide (w ≠ .laysStatic Bundle.tN "UNASSIGNED_STACK" Bundle.steD) && decide (w ≠ .laysStatic Bundle.tN "SUPPRESSED_SENTINEL" Bundle.listD)
def vx_at0 (own : String) (ic : Nat) (X : String) (names : List String) : List Cond := (Bundle.ownAtoms0 own ic X names).filter vx_no
def vx_atS (own : String) (ic : Nat) (X : String) (names : List String) : List Cond := (Bundle.ownAtoms own ic X names).filter vx_no
/-- a word that the tables alone decide, or a good one -/
def vx_ot (w : Cond) : Bool := w.onTables || goodWord w
theorem vx_ot_at {args a' : Array Value} {s U : State} {w : Cond} (hW : s.WarmedH U.vm) (hvm : s.vm = U.vm) (hg : vx_ot w = true) (h : w.before args s = true) : w.before a' U = true := by
  simp only [vx_ot, Bool.or_eq_true] at hg
  rcases hg with hg | hg
  · exact va_tabs hg hvm h
  · exact word_at hW (good_of_word hg) h
/-- a list's words: the good ones out of the method's own list, the others by premises of their own -/
theorem vx_hat {args : Array Value} {s : State} {L B : List Cond} (h1 : ∀ w ∈ L.filter goodWord, w.before args s = true) (h2 : ∀ w ∈ L.filter (fun w => !goodWord w), w ∈ B) (h3 : ∀ w ∈ B, w.before args s = true) : ∀ w ∈ L, w.before args s = true := by
  intro w hw
  by_cases g : goodWord w = true
  · exact h1 w (List.mem_filter.mpr ⟨hw, g⟩)
  · refine h3 w (h2 w (List.mem_filter.mpr ⟨hw, ?_⟩))
    show (!goodWord w) = true
    cases hgw : goodWord w
    · rfl
    · exact absurd hgw g
theorem vx_c {args : Array Value} {s : State} {w : Cond} {B : List Cond} (h : w.before args s = true) (t : ∀ w ∈ B, w.before args s = true) : ∀ w' ∈ w :: B, w'.before args s = true := fun w' h' => (List.mem_cons.mp h').elim (fun e => by rw [e]; exact h) (t w')
theorem vx_n {args : Array Value} {s : State} : ∀ w ∈ ([] : List Cond), w.before args s = true := fun _ h => nomatch h
theorem vx_own {args : Array Value} {s : State} {L : List Cond} (h1 : ∀ w ∈ L.filter vx_no, w.before args s = true)
    (hU : (Cond.isRef (.static Bundle.tN "UNASSIGNED_STACK" Bundle.steD)).before args s = true) (hN : (Cond.isRef (.static Bundle.tN "SUPPRESSED_SENTINEL" Bundle.listD)).before args s = true)
    (lU : (Cond.laysStatic Bundle.tN "UNASSIGNED_STACK" Bundle.steD).before args s = true) (lN : (Cond.laysStatic Bundle.tN "SUPPRESSED_SENTINEL" Bundle.listD).before args s = true) : ∀ w ∈ L, w.before args s = true := by
  intro w hw
  by_cases e1 : w = .isRef (.static Bundle.tN "UNASSIGNED_STACK" Bundle.steD)
  · rw [e1]; exact hU
  · by_cases e2 : w = .isRef (.static Bundle.tN "SUPPRESSED_SENTINEL" Bundle.listD)
    · rw [e2]; exact hN
    · by_cases e3 : w = .laysStatic Bundle.tN "UNASSIGNED_STACK" Bundle.steD
      · rw [e3]; exact lU
      · by_cases e4 : w = .laysStatic Bundle.tN "SUPPRESSED_SENTINEL" Bundle.listD
        · rw [e4]; exact lN
        · exact h1 w (List.mem_filter.mpr ⟨hw, by unfold vx_no; rw [decide_eq_true e1, decide_eq_true e2, decide_eq_true e3, decide_eq_true e4]; rfl⟩)
/-- where a static field lies, its class's statics cell in H -/
def vx_L (C n d : String) (A : Nat → Prop) (U : State) (H : Heap) : Prop := ∃ (c : ClassId) (k : Class) (i : Nat) (f : Field) (a : Nat) (cell : Cell), U.vm.findClass C = some c ∧ U.fieldFound? C n d = some (c, k, i, f) ∧ f.isStatic = true ∧ k.statics = some a ∧ H[a]? = some cell ∧ cell.vm.isStatics = true ∧ cell.cls = c ∧ f.slot < cell.slots.size ∧ k.staticTypes[f.slot]? = some f.type ∧ ¬ A a
theorem vx_L.moved {C n d : String} {A : Nat → Prop} {u U : State} {H : Heap} (hvm : u.vm.Alike U.vm) (h : vx_L C n d A u H) : vx_L C n d A U H := by
  obtain ⟨c, k, i, f, a, cell, h1, h2, h3, h4, h5, h6, h7, h8, h9, h10⟩ := h
  obtain ⟨k', hi', he⟩ := State.fieldFound?_setVm hvm h2
  exact ⟨c, k', i, f, a, cell, by rw [hvm.findClass]; exact h1, hi', h3, by rw [he]; exact h4, h5, h6, h7, h8, by rw [he]; exact h9, h10⟩
theorem vx_L.kept {C n d : String} {A : Nat → Prop} {U : State} {H H1 : Heap} (h : vx_L C n d A U H) (hq : ∀ a : Nat, a < H.size → ¬ A a → H1[a]? = H[a]?) : vx_L C n d A U H1 := by
  obtain ⟨c, k, i, f, a, cell, h1, h2, h3, h4, h5, h6, h7, h8, h9, h10⟩ := h
  exact ⟨c, k, i, f, a, cell, h1, h2, h3, h4, by rw [hq a (Array.getElem?_eq_some_iff.mp h5).1 h10]; exact h5, h6, h7, h8, h9, h10⟩
theorem vx_L.narrow {C n d : String} {A B : Nat → Prop} {U : State} {H : Heap} (h : vx_L C n d A U H) (hAB : ∀ q, B q → A q) : vx_L C n d B U H := by
  obtain ⟨c, k, i, f, a, cell, h1, h2, h3, h4, h5, h6, h7, h8, h9, h10⟩ := h
  exact ⟨c, k, i, f, a, cell, h1, h2, h3, h4, h5, h6, h7, h8, h9, fun z => h10 (hAB _ z)⟩
theorem vx_L.word {C n d : String} {A : Nat → Prop} {s : State} {args : Array Value} (h : vx_L C n d A s s.heap) : (Cond.laysStatic C n d).before args s = true := by
  obtain ⟨c, k, i, f, a, cell, h1, h2, h3, h4, h5, h6, h7, h8, h9, -⟩ := h
  show (Cond.laysStatic C n d).holds args s none s [] = true
  exact Cond.laysStatic_of h1 h2 h3 h4 h5 h6 h7 h8 h9
/-- .. and what it holds: null or some reference -/
def vx_Zq (C n d : String) (A : Nat → Prop) (U : State) (H : Heap) : Prop := va_Zq C n d A U H ∧ vx_L C n d A U H
theorem vx_Zq.moved {C n d : String} {A : Nat → Prop} {u U : State} {H : Heap} (hvm : u.vm.Alike U.vm) (h : vx_Zq C n d A u H) : vx_Zq C n d A U H := ⟨va_Zq.moved hvm h.1, vx_L.moved hvm h.2⟩
theorem vx_Zq.kept {C n d : String} {A : Nat → Prop} {U : State} {H H1 : Heap} (h : vx_Zq C n d A U H) (hq : ∀ a : Nat, a < H.size → ¬ A a → H1[a]? = H[a]?) : vx_Zq C n d A U H1 := ⟨va_Zq.kept h.1 hq, vx_L.kept h.2 hq⟩
theorem vx_Zq.narrow {C n d : String} {A B : Nat → Prop} {U : State} {H : Heap} (h : vx_Zq C n d A U H) (hAB : ∀ q, B q → A q) : vx_Zq C n d B U H := ⟨va_Zq.narrow h.1 hAB, vx_L.narrow h.2 hAB⟩
theorem vx_Zqof {args : Array Value} {s : State} {C n d : String} {A : Nat → Prop} (hl : (Cond.laysStatic C n d).before args s = true) (hini : (Cond.initialized C).before args s = true) (h : (Cond.isRef (.static C n d)).before args s = true) (hA : ∀ a : Nat, a < s.heap.size → ¬ A a) : vx_Zq C n d A s s.heap := by
  refine ⟨va_Zqof hl hini h hA, ?_⟩
  obtain ⟨c, k, i, f, a, cell, h1, h2, h3, h4, h5, h6, h7, h8, h9⟩ := Cond.laysStatic_spec hl
  exact ⟨c, k, i, f, a, cell, h1, h2, h3, h4, h5, h6, h7, h8, h9, hA a (Array.getElem?_eq_some_iff.mp h5).1⟩
theorem vx_isRef {C n d : String} {v : Value} {A : Nat → Prop} {s : State} {args : Array Value} (h : va_Z C n d v A s s.heap) (hv : v.isRef = true) : (Cond.isRef (.static C n d)).before args s = true := by
  obtain ⟨cf, kf, fi, f, a, cell, h1, h2, h3, h4, h5, h6, h7, -⟩ := h
  have he : (Term.static C n d).eval args s none [] s = some v := by
    simp [Term.eval, State.fieldNamed?, h1, h2, h4, h5, h6, h7]
  simp only [Cond.before, Cond.holds, Cond.value, he]
  cases v <;> simp_all [Value.isRef]
theorem vx_isRefq {C n d : String} {A : Nat → Prop} {s : State} {args : Array Value} (h : va_Zq C n d A s s.heap) : (Cond.isRef (.static C n d)).before args s = true := by
  rcases h with h | ⟨t, h⟩
  · exact vx_isRef h rfl
  · exact vx_isRef h rfl
/-- the same frame, seen from here: as if the method were called anew in this heap -/
theorem vx_rebase {T : State} (X : Stand p l e R s m args below meth c T locs cells slots) {R' : Room} (hf : R'.frames ≤ R.frames) (hl : R'.locals ≤ R.locals) (hc : cells + R'.cells ≤ R.cells) (hs : slots + R'.slots ≤ R.slots) :
    Stand p l e R' ((T.setVm s.vm).setFrames (.invoking m args :: below)) m args below meth c T [] 0 0 := by
  have htop : (T.setVm s.vm).topJava?.isSome := X.here.top
  have hF : ((T.setVm s.vm).setFrames (.invoking m args :: below)).frames = .invoking m args :: below := State.frames_setFrames _ (State.cur_lt_of_top htop)
  obtain ⟨g₀, hg0⟩ := Option.isSome_iff_exists.mp htop
  obtain ⟨r, hr⟩ := State.topJava?_eq_some.mp hg0
  have hl9 : e.platform.stackLimits (T.setVm s.vm).me = e.platform.stackLimits s.me := X.limits
  have hb9 : (T.setVm s.vm).me.stackBytes = s.me.stackBytes := X.bytes
  refine ⟨X.admits, X.cas, X.clock, hF, ?_, X.hears, X.method, X.code, X.here, X.tail, X.warmed, ?_, ?_, ?_⟩
  · have h := X.room
    have hU : ((T.setVm s.vm).setFrames (.invoking m args :: below)).localsInUse = s.localsInUse := by
      rw [State.localsInUse_invoking hF (meth := meth) (c := c) X.method X.code, State.localsInUse_invoking X.frames X.method X.code]
    simp only [State.hasRoom, Bool.and_eq_true, decide_eq_true_eq] at h ⊢
    obtain ⟨⟨⟨⟨h1, h2, h3, h4, h5, h6⟩, h7⟩, h8⟩, h9⟩ := h
    rw [X.frames, List.length_cons] at h2 h3
    have q1 := X.heapSize
    have q2 := X.used
    simp only [hF, hU, List.length_cons, State.stackLimits_setFrames, State.stackBytes_setFrames, hl9, hb9]
    refine ⟨⟨⟨⟨by omega, by omega, by omega, by omega, by omega, h6⟩, ?_⟩, ?_⟩, X.book⟩
    · show T.heap.size + R'.cells ≤ e.platform.maxCells
      omega
    · show T.slotsUsed + R'.slots ≤ e.platform.maxSlots
      omega
  · rw [State.stackLimits_setFrames]; rfl
  · rw [State.stackBytes_setFrames]; rfl
  · refine ⟨?_, Nat.le_refl _, Nat.le_refl _, ?_, ?_, fun a c9 h9 => ⟨c9, h9, rfl, rfl, fun _ _ => rfl⟩⟩
    · obtain ⟨t, ht, -⟩ := State.frames_cons hr
      show T.setVm s.vm = { ((T.setVm s.vm).setFrames (.invoking m args :: below)).setFrames (T.setVm s.vm).frames with heap := T.heap, slotsUsed := T.slotsUsed }
      rw [State.setFrames_setFrames, State.setFrames_self ht]
      rfl
    · show T.slotsUsed = T.slotsUsed + ((T.heap.toList.drop T.heap.size).map (·.slots.size)).sum
      rw [List.drop_eq_nil_of_le (Nat.le_of_eq Array.length_toList)]
      rfl
    · show ((T.heap.toList.drop T.heap.size).map (·.slots.size)).sum ≤ 0
      rw [List.drop_eq_nil_of_le (Nat.le_of_eq Array.length_toList)]
      exact Nat.le_refl _
/-- 'throw new E()': new; dup; invokespecial; athrow -/
theorem vx_throw0 {cc : ByteArray} {pc : Nat} (hexec : p.tables.exec = Jvm.exec) (hb : c.code = cc) (hl : l.stackTraces = false) {own cls : String} {names : List String} {ik ic mc ms : Nat} {A : Nat → Prop}
    (hown : s.vm.findClass own = some m.cls) (hcls : Bundle.fit cls = true) (hnames : ∀ n ∈ names, Bundle.fit n = true)
    (hk : (Cond.classLink own ik cls).before args s = true) (hini : (Cond.initialized cls).before args s = true) (hat : ∀ w ∈ vx_at0 own ic cls names, w.before args s = true)
    (hgood : ∀ w ∈ Cond.classLink own ik cls :: Cond.initialized cls :: vx_at0 own ic cls names, vx_ot w = true)
    (hU : vx_Zq Bundle.tN "UNASSIGNED_STACK" Bundle.steD A s s.heap) (hN : vx_Zq Bundle.tN "SUPPRESSED_SENTINEL" Bundle.listD A s s.heap) (hS : va_S A s.heap H locs) (hsize : ls.size = c.maxLocals)
    (d0 : decode cc pc = .ok (.new ik, 3)) (d3 : decode cc (pc + 3) = .ok (.dup, 1)) (d4 : decode cc (pc + 4) = .ok (.invokespecial ic, 3)) (d7 : decode cc (pc + 7) = .ok (.athrow, 1))
    (hout : ∀ x ∈ c.exceptionTable.toList, covers x (pc + 7) = false)
    (hRframes : names.length + 3 < R.frames) (hRlocals : (rest.map fun v => v.category).sum + (13 * (names.length + 1) + 42) ≤ R.locals) (hRcells : cells + 1 ≤ R.cells) (hRslots : slots + 6 ≤ R.slots) (hlocks : meth.locks = false)
    (hx : ∀ t : State, s.vm.Alike t.vm → H.size ≤ t.heap.size → (∀ q : Nat, q < H.size → t.heap[q]? = H[q]?) → XC cls s t)
    (hf : ∀ z ∈ locs, free z.base) (hc : cells + 1 ≤ mc) (hs : slots + 6 ≤ ms) :
    W p l e R s m args below meth c H locs cells slots (vx_MQ below Qc XC args s mc ms free) (F0 m pc ls rest) := by
  intro T hT X
  have htr : e.platform.stackTraces = false := (show e.platform.stackTraces = l.stackTraces by rw [X.admits.platform]).trans hl
  have Y := vx_rebase X (R' := { frames := R.frames, locals := R.locals, cells := 1, slots := 6 }) (Nat.le_refl _) (Nat.le_refl _) hRcells hRslots
  obtain ⟨s', hA⟩ : ∃ z, z = (T.setVm s.vm).setFrames (.invoking m args :: below) := ⟨_, rfl⟩
  rw [← hA] at Y
  have hvm : s'.vm = s.vm := by rw [hA]; rfl
  have hhp : s'.heap = H := by rw [hA]; exact hT
  have hW0 : s.WarmedH s'.vm := by rw [hvm]; exact State.WarmedH.refl s
  have hat' : ∀ w ∈ vx_at0 own ic cls names, w.before args s' = true := fun w hw => vx_ot_at hW0 hvm.symm (hgood w (List.mem_cons_of_mem _ (List.mem_cons_of_mem _ hw))) (hat w hw)
  have hk' : (Cond.classLink own ik cls).before args s' = true := vx_ot_at hW0 hvm.symm (hgood _ List.mem_cons_self) hk
  have hini' : (Cond.initialized cls).before args s' = true := vx_ot_at hW0 hvm.symm (hgood _ (List.mem_cons_of_mem _ List.mem_cons_self)) hini
  have hU' : vx_Zq Bundle.tN "UNASSIGNED_STACK" Bundle.steD A s' s'.heap := by rw [hhp]; exact vx_Zq.moved hW0.alike (hU.kept hS.2.1)
  have hN' : vx_Zq Bundle.tN "SUPPRESSED_SENTINEL" Bundle.listD A s' s'.heap := by rw [hhp]; exact vx_Zq.moved hW0.alike (hN.kept hS.2.1)
  have h : ∀ w ∈ Bundle.ownAtoms0 own ic cls names, w.before args s' = true := vx_own hat' (vx_isRefq hU'.1) (vx_isRefq hN'.1) hU'.2.word hN'.2.word
  have hown' : s'.vm.findClass own = some m.cls := by rw [hvm]; exact hown
  have hins : (Cond.instantiable cls 6).before args s' = true := h _ (by simp [Bundle.ownAtoms0])
  obtain ⟨vm₁, cX, kX, hfX, hkX, -, -, X₁, st1⟩ := Y.newCold hexec (own := own) (C := cls) (index := ik) (n := 6) hown' hk' hins hini'
    (g := F0 m pc ls rest) rfl (by rw [hb]; exact d0) (Nat.le_refl _) (Nat.le_refl _)
  generalize hT1 : (T.setVm vm₁).pushCell { cls := cX, slots := kX.instanceTypes.map defaultValue, vm := .none } = T1 at X₁ st1
  have hcat : (Value.ref T.heap.size).category = 1 := rfl
  have hcellA : T1.heap[T.heap.size]? = some (freshCell cX kX) := by rw [← hT1]; exact State.heap_pushCell_size _ _
  have d3' : decode c.code (pc + 3) = .ok (.dup, 1) := by rw [hb]; exact d3
  obtain ⟨U, hsteps, hrun, hend, hW, hsame, ce, hce, hO⟩ := X₁.ctorThrow0 hexec htr (own := own) (cls := cls) (names := names) (ic := ic) hown' hcls hnames h (fun x hx => nomatch hx) hfX hkX hcellA (by rw [hhp, hT]; exact Nat.le_refl _)
    (g := { method := m, pc := pc + 4, locals := ls, stack := .ref T.heap.size :: .ref T.heap.size :: rest, locked := none }) rfl hsize rfl rfl (rest := rest) rfl
    (by rw [hb]; exact d4) (by rw [hb]; exact d7) hout hRframes (by simp only [List.map_cons, List.sum_cons, hcat]; omega) hlocks
  obtain ⟨f1, f2⟩ := vx_frame hsame
  rw [hhp] at f1 f2
  have hWs : s.WarmedH U.vm := State.WarmedH.trans hW0 hW
  have hcl : s.vm.findClass cls = some ce.cls := by
    have h9 := hO.cls
    rw [hvm] at h9
    exact h9
  have hall : s.sameButNew ({ U with vm := s.vm } : State) locs mc ms := by
    subst hA
    obtain ⟨e1, e2⟩ := hsame
    rw [State.setFrames_setFrames] at e1
    have h2 : (T.setVm s.vm).sameButNew ({ U with vm := s.vm } : State) [] (0 + 1) (0 + 6) := ⟨e1, e2⟩
    have h3 := X.same.trans h2
    rw [List.append_nil] at h3
    exact h3.mono hc hs
  refine ⟨U, ?_, .threw T.heap.size, hrun, hend, Or.inr ⟨T.heap.size, rfl, cls, ce, locs, hx U hWs.alike f1 (fun q hq => f2 q hq (fun z hz => nomatch hz)), hce, hO.vm, hcl, hWs, hall, hf⟩⟩
  refine st1 _ ?_
  show Steps p.tables e below (T1.setTop { method := m, pc := pc + 3, locals := ls, stack := .ref T.heap.size :: rest, locked := none }) _
  jvm_step X₁.here [X₁.here.top, hexec, d3', Value.category]
  exact hsteps
/-- 'throw new E("text")': new; dup; ldc; invokespecial; athrow -/
theorem vx_throwS {cc : ByteArray} {pc : Nat} (hexec : p.tables.exec = Jvm.exec) (hb : c.code = cc) (hl : l.stackTraces = false) {own cls text : String} {names : List String} {ik is ic mc ms sa : Nat} {A : Nat → Prop}
    (hown : s.vm.findClass own = some m.cls) (hcls : Bundle.fit cls = true) (hnames : ∀ n ∈ names, Bundle.fit n = true)
    (hk : (Cond.classLink own ik cls).before args s = true) (hini : (Cond.initialized cls).before args s = true) (hstr : vk_R own is text sa s) (hat : ∀ w ∈ vx_atS own ic cls names, w.before args s = true)
    (hgood : ∀ w ∈ Cond.classLink own ik cls :: Cond.initialized cls :: vx_atS own ic cls names, vx_ot w = true)
    (hU : vx_Zq Bundle.tN "UNASSIGNED_STACK" Bundle.steD A s s.heap) (hN : vx_Zq Bundle.tN "SUPPRESSED_SENTINEL" Bundle.listD A s s.heap) (hS : va_S A s.heap H locs) (hsize : ls.size = c.maxLocals)
    (d0 : decode cc pc = .ok (.new ik, 3)) (d3 : decode cc (pc + 3) = .ok (.dup, 1)) (d4 : decode cc (pc + 4) = .ok (.ldc is, 2)) (d6 : decode cc (pc + 6) = .ok (.invokespecial ic, 3)) (d9 : decode cc (pc + 9) = .ok (.athrow, 1))
    (hout : ∀ x ∈ c.exceptionTable.toList, covers x (pc + 9) = false)
    (hRframes : names.length + 3 < R.frames) (hRlocals : (rest.map fun v => v.category).sum + (13 * (names.length + 1) + 43) ≤ R.locals) (hRcells : cells + 1 ≤ R.cells) (hRslots : slots + 6 ≤ R.slots) (hlocks : meth.locks = false)
    (hx : ∀ t : State, s.vm.Alike t.vm → H.size ≤ t.heap.size → (∀ q : Nat, q < H.size → t.heap[q]? = H[q]?) → XC cls s t)
    (hf : ∀ z ∈ locs, free z.base) (hc : cells + 1 ≤ mc) (hs : slots + 6 ≤ ms) :
    W p l e R s m args below meth c H locs cells slots (vx_MQ below Qc XC args s mc ms free) (F0 m pc ls rest) := by
  intro T hT X
  have htr : e.platform.stackTraces = false := (show e.platform.stackTraces = l.stackTraces by rw [X.admits.platform]).trans hl
  have Y := vx_rebase X (R' := { frames := R.frames, locals := R.locals, cells := 1, slots := 6 }) (Nat.le_refl _) (Nat.le_refl _) hRcells hRslots
  obtain ⟨s', hA⟩ : ∃ z, z = (T.setVm s.vm).setFrames (.invoking m args :: below) := ⟨_, rfl⟩
  rw [← hA] at Y
  have hvm : s'.vm = s.vm := by rw [hA]; rfl
  have hhp : s'.heap = H := by rw [hA]; exact hT
  have hW0 : s.WarmedH s'.vm := by rw [hvm]; exact State.WarmedH.refl s
  have hat' : ∀ w ∈ vx_atS own ic cls names, w.before args s' = true := fun w hw => vx_ot_at hW0 hvm.symm (hgood w (List.mem_cons_of_mem _ (List.mem_cons_of_mem _ hw))) (hat w hw)
  have hk' : (Cond.classLink own ik cls).before args s' = true := vx_ot_at hW0 hvm.symm (hgood _ List.mem_cons_self) hk
  have hini' : (Cond.initialized cls).before args s' = true := vx_ot_at hW0 hvm.symm (hgood _ (List.mem_cons_of_mem _ List.mem_cons_self)) hini
  have hU' : vx_Zq Bundle.tN "UNASSIGNED_STACK" Bundle.steD A s' s'.heap := by rw [hhp]; exact vx_Zq.moved hW0.alike (hU.kept hS.2.1)
  have hN' : vx_Zq Bundle.tN "SUPPRESSED_SENTINEL" Bundle.listD A s' s'.heap := by rw [hhp]; exact vx_Zq.moved hW0.alike (hN.kept hS.2.1)
  have h : ∀ w ∈ Bundle.ownAtoms own ic cls names, w.before args s' = true := vx_own hat' (vx_isRefq hU'.1) (vx_isRefq hN'.1) hU'.2.word hN'.2.word
  have hown' : s'.vm.findClass own = some m.cls := by rw [hvm]; exact hown
  have hins : (Cond.instantiable cls 6).before args s' = true := h _ (by simp [Bundle.ownAtoms])
  obtain ⟨vm₁, cX, kX, hfX, hkX, -, -, X₁, st1⟩ := Y.newCold hexec (own := own) (C := cls) (index := ik) (n := 6) hown' hk' hins hini'
    (g := F0 m pc ls rest) rfl (by rw [hb]; exact d0) (Nat.le_refl _) (Nat.le_refl _)
  generalize hT1 : (T.setVm vm₁).pushCell { cls := cX, slots := kX.instanceTypes.map defaultValue, vm := .none } = T1 at X₁ st1
  have hcat : (Value.ref T.heap.size).category = 1 := rfl
  have hcellA : T1.heap[T.heap.size]? = some (freshCell cX kX) := by rw [← hT1]; exact State.heap_pushCell_size _ _
  have d3' : decode c.code (pc + 3) = .ok (.dup, 1) := by rw [hb]; exact d3
  have d4' : decode c.code (pc + 4) = .ok (.ldc is, 2) := by rw [hb]; exact d4
  have hstr' : vk_R own is text sa s' := vk_R.warm hW0 hstr
  obtain ⟨U, hsteps, hrun, hend, hW, hsame, ce, hce, hO⟩ := X₁.ctorThrowS hexec htr (own := own) (cls := cls) (names := names) (ic := ic) hown' hcls hnames h (fun x hx => nomatch hx) hfX hkX hcellA (by rw [hhp, hT]; exact Nat.le_refl _) (msg := .ref sa) rfl
    (g := { method := m, pc := pc + 6, locals := ls, stack := .ref sa :: .ref T.heap.size :: .ref T.heap.size :: rest, locked := none }) rfl hsize rfl rfl (rest := rest) rfl
    (by rw [hb]; exact d6) (by rw [hb]; exact d9) hout hRframes (by simp only [List.map_cons, List.sum_cons, hcat]; omega) hlocks
  obtain ⟨f1, f2⟩ := vx_frame hsame
  rw [hhp] at f1 f2
  have hWs : s.WarmedH U.vm := State.WarmedH.trans hW0 hW
  have hcl : s.vm.findClass cls = some ce.cls := by
    have h9 := hO.cls
    rw [hvm] at h9
    exact h9
  have hall : s.sameButNew ({ U with vm := s.vm } : State) locs mc ms := by
    subst hA
    obtain ⟨e1, e2⟩ := hsame
    rw [State.setFrames_setFrames] at e1
    have h2 : (T.setVm s.vm).sameButNew ({ U with vm := s.vm } : State) [] (0 + 1) (0 + 6) := ⟨e1, e2⟩
    have h3 := X.same.trans h2
    rw [List.append_nil] at h3
    exact h3.mono hc hs
  refine ⟨U, ?_, .threw T.heap.size, hrun, hend, Or.inr ⟨T.heap.size, rfl, cls, ce, locs, hx U hWs.alike f1 (fun q hq => f2 q hq (fun z hz => nomatch hz)), hce, hO.vm, hcl, hWs, hall, hf⟩⟩
  refine st1 _ ?_
  show Steps p.tables e below (T1.setTop { method := m, pc := pc + 3, locals := ls, stack := .ref T.heap.size :: rest, locked := none }) _
  jvm_step X₁.here [X₁.here.top, hexec, d3', Value.category]
  exact X₁.ldcString hexec (own := own) (text := text) (index := is) (a := sa) hown' hstr'.1 hstr'.2
    (g := { method := m, pc := pc + 4, locals := ls, stack := .ref T.heap.size :: .ref T.heap.size :: rest, locked := none }) rfl d4' _ hsteps
/-- 'throw new E("text")', the text by a wide index -/
theorem vx_throwSW {cc : ByteArray} {pc : Nat} (hexec : p.tables.exec = Jvm.exec) (hb : c.code = cc) (hl : l.stackTraces = false) {own cls text : String} {names : List String} {ik is ic mc ms sa : Nat} {A : Nat → Prop}
    (hown : s.vm.findClass own = some m.cls) (hcls : Bundle.fit cls = true) (hnames : ∀ n ∈ names, Bundle.fit n = true)
    (hk : (Cond.classLink own ik cls).before args s = true) (hini : (Cond.initialized cls).before args s = true) (hstr : vk_R own is text sa s) (hat : ∀ w ∈ vx_atS own ic cls names, w.before args s = true)
    (hgood : ∀ w ∈ Cond.classLink own ik cls :: Cond.initialized cls :: vx_atS own ic cls names, vx_ot w = true)
    (hU : vx_Zq Bundle.tN "UNASSIGNED_STACK" Bundle.steD A s s.heap) (hN : vx_Zq Bundle.tN "SUPPRESSED_SENTINEL" Bundle.listD A s s.heap) (hS : va_S A s.heap H locs) (hsize : ls.size = c.maxLocals)
    (d0 : decode cc pc = .ok (.new ik, 3)) (d3 : decode cc (pc + 3) = .ok (.dup, 1)) (d4 : decode cc (pc + 4) = .ok (.ldc_w is, 3)) (d7 : decode cc (pc + 7) = .ok (.invokespecial ic, 3)) (d10 : decode cc (pc + 10) = .ok (.athrow, 1))
    (hout : ∀ x ∈ c.exceptionTable.toList, covers x (pc + 10) = false)
    (hRframes : names.length + 3 < R.frames) (hRlocals : (rest.map fun v => v.category).sum + (13 * (names.length + 1) + 43) ≤ R.locals) (hRcells : cells + 1 ≤ R.cells) (hRslots : slots + 6 ≤ R.slots) (hlocks : meth.locks = false)
    (hx : ∀ t : State, s.vm.Alike t.vm → H.size ≤ t.heap.size → (∀ q : Nat, q < H.size → t.heap[q]? = H[q]?) → XC cls s t)
    (hf : ∀ z ∈ locs, free z.base) (hc : cells + 1 ≤ mc) (hs : slots + 6 ≤ ms) :
    W p l e R s m args below meth c H locs cells slots (vx_MQ below Qc XC args s mc ms free) (F0 m pc ls rest) := by
  intro T hT X
  have htr : e.platform.stackTraces = false := (show e.platform.stackTraces = l.stackTraces by rw [X.admits.platform]).trans hl
  have Y := vx_rebase X (R' := { frames := R.frames, locals := R.locals, cells := 1, slots := 6 }) (Nat.le_refl _) (Nat.le_refl _) hRcells hRslots
  obtain ⟨s', hA⟩ : ∃ z, z = (T.setVm s.vm).setFrames (.invoking m args :: below) := ⟨_, rfl⟩
  rw [← hA] at Y
  have hvm : s'.vm = s.vm := by rw [hA]; rfl
  have hhp : s'.heap = H := by rw [hA]; exact hT
  have hW0 : s.WarmedH s'.vm := by rw [hvm]; exact State.WarmedH.refl s
  have hat' : ∀ w ∈ vx_atS own ic cls names, w.before args s' = true := fun w hw => vx_ot_at hW0 hvm.symm (hgood w (List.mem_cons_of_mem _ (List.mem_cons_of_mem _ hw))) (hat w hw)
  have hk' : (Cond.classLink own ik cls).before args s' = true := vx_ot_at hW0 hvm.symm (hgood _ List.mem_cons_self) hk
  have hini' : (Cond.initialized cls).before args s' = true := vx_ot_at hW0 hvm.symm (hgood _ (List.mem_cons_of_mem _ List.mem_cons_self)) hini
  have hU' : vx_Zq Bundle.tN "UNASSIGNED_STACK" Bundle.steD A s' s'.heap := by rw [hhp]; exact vx_Zq.moved hW0.alike (hU.kept hS.2.1)
  have hN' : vx_Zq Bundle.tN "SUPPRESSED_SENTINEL" Bundle.listD A s' s'.heap := by rw [hhp]; exact vx_Zq.moved hW0.alike (hN.kept hS.2.1)
  have h : ∀ w ∈ Bundle.ownAtoms own ic cls names, w.before args s' = true := vx_own hat' (vx_isRefq hU'.1) (vx_isRefq hN'.1) hU'.2.word hN'.2.word
  have hown' : s'.vm.findClass own = some m.cls := by rw [hvm]; exact hown
  have hins : (Cond.instantiable cls 6).before args s' = true := h _ (by simp [Bundle.ownAtoms])
  obtain ⟨vm₁, cX, kX, hfX, hkX, -, -, X₁, st1⟩ := Y.newCold hexec (own := own) (C := cls) (index := ik) (n := 6) hown' hk' hins hini'
    (g := F0 m pc ls rest) rfl (by rw [hb]; exact d0) (Nat.le_refl _) (Nat.le_refl _)
  generalize hT1 : (T.setVm vm₁).pushCell { cls := cX, slots := kX.instanceTypes.map defaultValue, vm := .none } = T1 at X₁ st1
  have hcat : (Value.ref T.heap.size).category = 1 := rfl
  have hcellA : T1.heap[T.heap.size]? = some (freshCell cX kX) := by rw [← hT1]; exact State.heap_pushCell_size _ _
  have d3' : decode c.code (pc + 3) = .ok (.dup, 1) := by rw [hb]; exact d3
  have d4' : decode c.code (pc + 4) = .ok (.ldc_w is, 3) := by rw [hb]; exact d4
  have hstr' : vk_R own is text sa s' := vk_R.warm hW0 hstr
  obtain ⟨U, hsteps, hrun, hend, hW, hsame, ce, hce, hO⟩ := X₁.ctorThrowS hexec htr (own := own) (cls := cls) (names := names) (ic := ic) hown' hcls hnames h (fun x hx => nomatch hx) hfX hkX hcellA (by rw [hhp, hT]; exact Nat.le_refl _) (msg := .ref sa) rfl
    (g := { method := m, pc := pc + 7, locals := ls, stack := .ref sa :: .ref T.heap.size :: .ref T.heap.size :: rest, locked := none }) rfl hsize rfl rfl (rest := rest) rfl
    (by rw [hb]; exact d7) (by rw [hb]; exact d10) hout hRframes (by simp only [List.map_cons, List.sum_cons, hcat]; omega) hlocks
  obtain ⟨f1, f2⟩ := vx_frame hsame
  rw [hhp] at f1 f2
  have hWs : s.WarmedH U.vm := State.WarmedH.trans hW0 hW
  have hcl : s.vm.findClass cls = some ce.cls := by
    have h9 := hO.cls
    rw [hvm] at h9
    exact h9
  have hall : s.sameButNew ({ U with vm := s.vm } : State) locs mc ms := by
    subst hA
    obtain ⟨e1, e2⟩ := hsame
    rw [State.setFrames_setFrames] at e1
    have h2 : (T.setVm s.vm).sameButNew ({ U with vm := s.vm } : State) [] (0 + 1) (0 + 6) := ⟨e1, e2⟩
    have h3 := X.same.trans h2
    rw [List.append_nil] at h3
    exact h3.mono hc hs
  refine ⟨U, ?_, .threw T.heap.size, hrun, hend, Or.inr ⟨T.heap.size, rfl, cls, ce, locs, hx U hWs.alike f1 (fun q hq => f2 q hq (fun z hz => nomatch hz)), hce, hO.vm, hcl, hWs, hall, hf⟩⟩
  refine st1 _ ?_
  show Steps p.tables e below (T1.setTop { method := m, pc := pc + 3, locals := ls, stack := .ref T.heap.size :: rest, locked := none }) _
  jvm_step X₁.here [X₁.here.top, hexec, d3', Value.category]
  exact X₁.ldcStringW hexec (own := own) (text := text) (index := is) (a := sa) hown' hstr'.1 hstr'.2
    (g := { method := m, pc := pc + 4, locals := ls, stack := .ref T.heap.size :: .ref T.heap.size :: rest, locked := none }) rfl d4' _ hsteps
end Ends
section Bodies
variable {l : Launch}
theorem vx_ofW {y : MethodName} {ws ws' : List Cond} {rm : Room} {Pc : Array Value → State → Prop} {Qc : Array Value → State → Outcome → State → Prop} {XC : String → State → State → Prop} {mc ms : Nat} {free : Addr → Prop} {cc : ByteArray} {maxL : Nat} {ret : Option FieldType}
    (hy : plainName y.cls = true) (hw : ws = Cond.code y cc maxL ret :: ws')
    (body : ∀ p e s m args below meth c s₁, BodyLoose p l y (headSpec ws rm) cc maxL ret e s m args below meth c s₁ → c.maxLocals = maxL → (∀ x ∈ c.exceptionTable.toList, False) → Pc args s →
      W p l e (headSpec ws rm).room s m args below meth c s.heap [] 0 0 (vx_MQ below Qc XC args s mc ms free) (entryFrame m args maxL)) : vx_Met l y ws rm Pc Qc XC mc ms free := by
  refine MetFree.of_bodyS (code := cc) (maxLocals := maxL) (ret := ret) hy ?_ ?_
  · intro args s m h hn
    obtain ⟨meth, c, h1, h2, h3, h4, h5, h6, -, -⟩ := Cond.code_spec hn (atoms_spec (ws := ws) h _ (by rw [hw]; exact List.mem_cons_self))
    exact ⟨meth, c, h1, h2, h3, h4, h5, h6⟩
  · intro p e s m args below meth c s₁ B hml hP _
    have hh0 : s₁.heap = s.heap := by rw [B.state]; rfl
    have ht : ∀ x ∈ c.exceptionTable.toList, False := by
      obtain ⟨meth9, c9, h1, h2, -, -, -, -, h7, -⟩ := Cond.code_spec B.named (atoms_spec (ws := ws) B.pre _ (by rw [hw]; exact List.mem_cons_self))
      cases Option.some.inj (h1.symm.trans B.method)
      cases Option.some.inj (h2.symm.trans (Stand.of_body B).code)
      intro x hx
      rw [Array.isEmpty_iff.mp h7] at hx
      cases hx
    obtain ⟨t, a1, o, b1, b2, b3⟩ := body p e s m args below meth c s₁ B hml ht hP s₁ hh0 (Stand.of_body B)
    exact ⟨t, o, a1, b1, b2, b3⟩
/-- the table of a body with handlers -/
theorem vx_table {p : Program} {x y : MethodName} {S : Spec} {cc bytes : ByteArray} {maxL maxL' : Nat} {ret ret' : Option FieldType} {e : Env} {s s₁ : State} {m : MethodId} {args : Array Value} {below : List Frame} {meth : Method} {c : Code} {hh : List (Nat × Nat × Nat × Nat)}
    (B : BodyLoose p l y S cc maxL ret e s m args below meth c s₁) (h : (Cond.codeWith y bytes maxL' ret' hh).before args s = true) : c.exceptionTable.toList = tableOf hh := by
  obtain ⟨m9, meth9, c9, hn9, h1, h2, -, -, h6, -⟩ := Cond.codeWith_spec h
  cases Option.some.inj (hn9.symm.trans B.named)
  cases Option.some.inj (h1.symm.trans B.method)
  cases Option.some.inj (h2.symm.trans (Stand.of_body B).code)
  rw [← h6, table_eq]
end Bodies
end VXA
/-! ===== END ===== -/
/-! ===== BEGIN a static call of a method with an exception table ===== -/
section VXS
variable {p : Program} {l : Launch} {e : Env} {R : Room} {s : State} {m : MethodId} {args : Array Value} {below : List Frame} {meth : Method} {c : Code} {T : State} {H : Heap} {locs : List Loc} {cells slots : Nat}
abbrev vx_CSW (R : Room) (s : State) (args : Array Value) (own : String) (index : Nat) (y : MethodName) (bytes : ByteArray) (maxL : Nat) (ret : Option FieldType) (hh : List (Nat × Nat × Nat × Nat)) (ws : List Cond) (rm : Room) (mc ms n : Nat) : Prop :=
  (rm.cells = mc ∧ rm.slots = ms ∧ rm.frames + 1 ≤ R.frames ∧ 8 + (maxL + 11) + rm.locals ≤ R.locals ∧ (∀ w ∈ ws, ∀ (a' : Array Value) (U : State), s.WarmedH U.vm → w.before a' U = true) ∧ Cond.codeWith y bytes maxL ret hh ∈ ws) ∧
  (Cond.codeWith y bytes maxL ret hh).before args s = true ∧ (Cond.initialized y.cls).before args s = true ∧ (y.cls ≠ "java/lang/invoke/MethodHandle" ∧ y.cls ≠ "java/lang/invoke/VarHandle") ∧
  (∀ sig, parseMethodDescriptor y.desc = some sig → n = sig.parameters.length) ∧ (Cond.methodLink own index y).before args s = true ∧ (Cond.static y).before args s = true
theorem vx_cwSW {own : String} {index maxL mc ms : Nat} {y : MethodName} {bytes : ByteArray} {ret : Option FieldType} {hh : List (Nat × Nat × Nat × Nat)} {Ts ws ws' : List Cond} {rm : Room} (n : Nat) (ht : ∀ w ∈ Ts, w.before args s = true) (hT : GoodIn Ts (va_wsS own index y ws)) (hw : ws = Cond.codeWith y bytes maxL ret hh :: ws') (hrc : rm.cells = mc) (hrs : rm.slots = ms)
    (hd : y.cls ≠ "java/lang/invoke/MethodHandle" ∧ y.cls ≠ "java/lang/invoke/VarHandle" ∧ (parseMethodDescriptor y.desc).map (fun d => d.parameters.length) = some n) (hR : rm.frames + 1 ≤ R.frames ∧ 8 + (maxL + 11) + rm.locals ≤ R.locals) :
    vx_CSW R s args own index y bytes maxL ret hh ws rm mc ms n := by
  have ok : ∀ w ∈ va_wsS own index y ws, w.before args s = true := fun w h => ht w (hT w h).1
  have hG : GoodIn Ts ws := fun w h => hT w (by unfold va_wsS; exact List.mem_append_right _ h)
  have hc : Cond.codeWith y bytes maxL ret hh ∈ ws := by rw [hw]; exact List.mem_cons_self
  refine ⟨⟨hrc, hrs, hR.1, hR.2, pay_in ht hG, hc⟩, ht _ (hG _ hc).1, ok _ (by simp [va_wsS]), ⟨hd.1, hd.2.1⟩, fun sig h => ?_, ok _ (by simp [va_wsS]), ok _ (by simp [va_wsS])⟩
  have h2 := hd.2.2
  rw [h] at h2
  exact (Option.some.inj h2).symm
theorem vx_callSW (X : Stand p l e R s m args below meth c T locs cells slots) (hexec : p.tables.exec = Jvm.exec) {own : String} {index : Nat} {y : MethodName} {bytes : ByteArray} {maxL : Nat} {ret : Option FieldType} {hh : List (Nat × Nat × Nat × Nat)}
    (hown : s.vm.findClass own = some m.cls) (hlink : (Cond.methodLink own index y).before args s = true) (hstat : (Cond.static y).before args s = true) (hinit : (Cond.initialized y.cls).before args s = true)
    (hcode : (Cond.codeWith y bytes maxL ret hh).before args s = true) (hy : y.cls ≠ "java/lang/invoke/MethodHandle" ∧ y.cls ≠ "java/lang/invoke/VarHandle")
    {W9 : Nat} {Pre : Pt → Array Value → Prop} {Post : Pt → Array Value → Option Value → Pt → Prop} (hK : Back l R p e below s args y 3 W9 Pre Post)
    {g : JFrame} (hg : g.method = m) (hsize : g.locals.size = c.maxLocals) {argsL rest : List Value} (hlen : ∀ sig, parseMethodDescriptor y.desc = some sig → argsL.length = sig.parameters.length)
    (hstack : g.stack = argsL.reverse ++ rest) (hW : 2 * g.monitorRoom + (rest.map fun v => v.category).sum ≤ W9) (hdg : decode c.code g.pc = .ok (.invokestatic index, 3))
    (hpre : ∀ vm₁, s.WarmedH vm₁ → Pre ⟨T.setVm vm₁, locs, cells, slots⟩ argsL.toArray) :
    ∃ (v : Option Value) (vm₁ : Vm) (B : Pt), s.WarmedH vm₁ ∧ Stand p l e R s m args below meth c B.U B.locs B.cells B.slots ∧ Post ⟨T.setVm vm₁, locs, cells, slots⟩ argsL.toArray v B ∧
      ∀ target, Steps p.tables e below (B.U.setTop { g with pc := g.pc + 3, stack := v.toList ++ rest }) target → Steps p.tables e below (T.setTop g) target := by
  obtain ⟨mk, methM, cM, hnamed, hmethM, -, -, -, -, -, -, hsigM⟩ := Cond.codeWith_spec hcode
  have hstatic : methM.isStatic = true := Cond.static_spec hnamed hmethM hstat
  obtain ⟨kP, hkP, -⟩ := className_of_methodNamed hnamed
  have hinitP : kP.init = .initialized := Cond.initialized_spec (findClass_of_methodNamed hnamed) hkP hinit
  obtain ⟨vm₁, X₁, hstep₁⟩ := X.invokestatic hexec hown hlink hnamed hmethM hstatic hkP hinitP hy (g := g) hg (argsL := argsL) (rest := rest) (hlen _ hsigM) hstack hdg
  obtain ⟨v, B, X', hpost, hsteps⟩ := hK m meth c ⟨T.setVm vm₁, locs, cells, slots⟩ { g with stack := rest } (.invokestatic index) mk argsL.toArray X₁ hg hsize hdg hW (X₁.named hnamed) (hpre vm₁ X₁.warmed)
  exact ⟨v, vm₁, B, X₁.warmed, X', hpost, fun target h => hstep₁ _ fun acts => by rw [doInvoke_state]; exact hsteps.trans h⟩
theorem vx_runSW {y : MethodName} {bytes cc : ByteArray} {maxL nL mc ms n index : Nat} {ret : Option FieldType} {hh : List (Nat × Nat × Nat × Nat)} {ws : List Cond} {rm : Room} {Pc : Array Value → State → Prop} {Qc : Array Value → State → Outcome → State → Prop} {free : Addr → Prop} {Ts : List Cond} {own : String} {As rest : List Value} {g : JFrame}
    (S : CallFix p m c cc nL s args Ts own) (hM : Met l y ws rm Pc Qc mc ms free) (cw : vx_CSW R s args own index y bytes maxL ret hh ws rm mc ms n) (hp : PreS s H Pc As)
    (hg : g.method = m) (hn : As.length = n) (hsize : g.locals.size = nL) (hstack : g.stack = As.reverse ++ rest) (hW : 2 * g.monitorRoom + (rest.map fun v => v.category).sum ≤ 8) (hdg : decode cc g.pc = .ok (.invokestatic index, 3)) (hf : cells + mc ≤ R.cells ∧ slots + ms ≤ R.slots) :
    va_Run p l e R s m args below meth c H locs cells slots mc ms g rest (Qc As.toArray) (free) := by
  obtain ⟨⟨hrc, hrs, hfr, hlo, hws, hcw⟩, hcode, hini, hy, hlen, hl, hstt⟩ := cw
  have hK : Back l R p e below s args y 3 8 (PreOf R mc ms Pc) (PostOf Qc mc ms free) := va_backW (hh := hh) (bytes := bytes) (maxL := maxL) (ret := ret) hM hp.1 hrc hrs hfr hlo hws hcw (fun a' U hW => word_at hW (Or.inl (by first | rfl | simp [Cond.onTables, Cond.keeps, Cond.steady])) hini)
  obtain ⟨hx, hb, hml, ho, -⟩ := S
  intro T hT X
  obtain ⟨v, vm₁, ⟨U', l2, c2, s2⟩, hW₁, X', ⟨g', mk, t, L, e1, e2, hq, h1, hL, h2, h3⟩, st⟩ := vx_callSW X hx (hh := hh) (bytes := bytes) (maxL := maxL) (ret := ret) ho hl hstt hini hcode hy hK hg (hsize.trans hml.symm) (argsL := As) (rest := rest) (fun sig h => hn.trans (hlen sig h)) hstack hW (by rw [hb]; exact hdg)
    (fun vm₁ hW₁ => ⟨hf.1, hf.2, hp.2 (T.setVm vm₁) hT hW₁⟩)
  dsimp only [Pt.U, Pt.locs, Pt.cells, Pt.slots] at X' e1 e2 h1 h2 h3 st
  subst h1; subst h2; subst h3
  exact ⟨v, (T.setVm vm₁).calling g' mk As.toArray, t, U', L, hT, X', hL, e1, e2, hq, st⟩
/-- not caught here, past rows that name other classes: it goes on to the caller -/
theorem vx_outP {p : Program} {l : Launch} {e : Env} {R : Room} {s : State} {m : MethodId} {args : Array Value} {below : List Frame} {meth : Method} {c : Code} {H : Heap} {locs : List Loc} {cells slots : Nat} {free : Addr → Prop} {ls : Array Slot} {rest : List Value} {Qc : Array Value → State → Outcome → State → Prop} {XC : String → State → State → Prop}
    {pc : Nat} {own E : String} {ce : Cell} {q : Addr} {mc ms : Nat} (hown : s.vm.findClass own = some m.cls) (hlocks : meth.locks = false)
    (hpass : ∀ z ∈ c.exceptionTable.toList, covers z pc = false ∨ (z.catchType ≠ 0 ∧ ∃ nm : String, (Cond.classLink own z.catchType nm).before args s = true ∧ va_Nc E nm s)) (hcell : H[q]? = some ce) (hv : ce.vm = .none) (hcl : s.vm.findClass E = some ce.cls)
    (hx : ∀ t : State, t.heap = H → s.vm.Alike t.vm → XC E s t) (hf : ∀ z ∈ locs, free z.base) (hc : cells ≤ mc) (hs : slots ≤ ms) :
    vx_W p l e R s m args below meth c H locs cells slots (vx_MQ below Qc XC args s mc ms free) (F0 m pc ls rest) q := by
  intro T hT X
  have hpl : e.platform.magicAccessors = ({} : Platform).magicAccessors := by rw [X.admits.platform]
  obtain ⟨vm', hW', X', st⟩ := X.outThrough hlocks q (g := F0 m pc ls rest) rfl rfl rfl (cell := ce) (by rw [hT]; exact hcell) (by rw [hv]; rfl)
    (by obtain ⟨k9, h9, -⟩ := Vm.findClass_spec hcl; exact ⟨k9, h9⟩) (fun z hz => by
      rcases hpass z hz with h | ⟨hz0, nm, hl1, hn1⟩
      · exact Or.inl h
      · obtain ⟨c6, hc6, hcl6⟩ := Cond.classLink_spec hown hl1 e.platform hpl
        obtain ⟨a8, b8, h1, h2, h3⟩ := hn1
        cases Option.some.inj (h1.symm.trans hcl)
        cases Option.some.inj (h2.symm.trans hc6)
        exact Or.inr ⟨hz0, _, hcl6, h3⟩)
  obtain ⟨g₀, hfr⟩ := X'.frames_eq
  have hcell9 : ((T.setVm vm').setFrames (.throwing q :: below)).heap[q]? = some ce := by
    show T.heap[q]? = some ce
    rw [hT]; exact hcell
  have hend : Ended ((T.setVm vm').setFrames (.throwing q :: below)) below (.threw q) := State.frames_setFrames _ (State.cur_lt_of_frames hfr)
  refine ⟨(T.setVm vm').setFrames (.throwing q :: below), ?_, .threw q, X'.here.running, hend, Or.inr ⟨q, rfl, E, ce, locs, hx _ hT (X'.ends _).1.alike, hcell9, hv, hcl, (X'.ends _).1, (X'.ends _).2.mono hc hs, hf⟩⟩
  rw [X.pushThrowing_eq]
  exact st
/-- a thing of a world lies in the heap -/
theorem vx_lt {D : va_G} {cl : List vw_C} {ws : va_W} {H1 : Heap} (h : va_P D cl ws H1) {k : Nat} {q : Nat × va_E} (hk : ws[k]? = some q) : q.1 < H1.size := (h k q hk).lt
end VXS
/-! ===== END ===== -/
/-! ===== BEGIN methods with a table of their own: called by a name, returning or throwing ===== -/
section VXH
/-! vx_backW, vx_callVX, vx_callSX, vx_callVW, vx_runVW, vx_runVX, vx_runSX, vx_ofWH follow the same proofs as their sisters above (Free/Laws.lean, Shelf42/LK1.lean); vx_outP calls Shelf42/NT130.lean (outThrough). -/
section
variable {l : Launch} {R : Room} {p : Program} {e : Env} {below : List Frame} {s : State} {sargs : Array Value} {y : MethodName} {len W9 : Nat}
theorem vx_backW {ws : List Cond} {rm : Room} {Pc : Array Value → State → Prop} {Qc : Array Value → State → Outcome → State → Prop} {XC : String → State → State → Prop} {mc ms : Nat} {free : Addr → Prop} {bytes : ByteArray} {maxL : Nat} {ret : Option FieldType} {hh : List (Nat × Nat × Nat × Nat)}
    (hM : vx_Met l y ws rm Pc Qc XC mc ms free) (hblind : FrameBlind Pc) (hrc : rm.cells = mc) (hrs : rm.slots = ms)
    (hframes : rm.frames + 1 ≤ R.frames) (hlocals : W9 + (maxL + 11) + rm.locals ≤ R.locals)
    (hws : ∀ w ∈ ws, ∀ a' U, s.WarmedH U.vm → w.before a' U = true) (hcode : Cond.codeWith y bytes maxL ret hh ∈ ws) (hinit : ∀ a' U, s.WarmedH U.vm → (Cond.initialized y.cls).before a' U = true) :
    vx_Back l R p e below s sargs y len W9 (PreOf R mc ms Pc) (PostOf Qc mc ms free) (vx_Post XC mc ms free) := by
  intro m meth c A g ig mk a X hg hsize hdg hW hn hp
  have h1 : (headSpec ws rm).pre.before a A.U = true := atoms_intro fun w hw => hws w hw _ _ X.warmed
  have h2 : (Cond.codeWith y bytes maxL ret hh).before a A.U = true := hws _ hcode _ _ X.warmed
  have h3 : (Cond.initialized y.cls).before a A.U = true := hinit _ _ X.warmed
  have h4 : A.cells + (headSpec ws rm).room.cells ≤ R.cells := by rw [show (headSpec ws rm).room.cells = mc from hrc]; exact hp.1
  have h5 : A.slots + (headSpec ws rm).room.slots ≤ R.slots := by rw [show (headSpec ws rm).room.slots = ms from hrs]; exact hp.2.1
  have hPc : Pc a (A.U.calling g mk a) := hblind _ _ _ _ hp.2.2
  obtain ⟨U, Ls, c0, s0⟩ := A
  dsimp only [Pt.U, Pt.locs, Pt.cells, Pt.slots] at h1 h2 h3 h4 h5 X hn hPc ⊢
  obtain ⟨m9, methY, cY, hn9, hmY, hcY, -, hlY, -⟩ := Cond.codeWith_spec h2
  cases Option.some.inj (hn9.symm.trans hn)
  obtain ⟨kY, hkY, -⟩ := className_of_methodNamed hn
  have hinitY : kY.init = .initialized := Cond.initialized_spec (findClass_of_methodNamed hn) hkY h3
  have h : At U g.method c below := by rw [hg]; exact X.here
  have hlocals9 : W9 + (maxL + 11) + (headSpec ws rm).room.locals ≤ R.locals := hlocals
  have happ : (headSpec ws rm).appliesLoose y e.platform (U.calling g mk a) = true :=
    Spec.appliesLoose_calling (g := g) h hdg hn hkY hinitY
      (X.room_calling (g := g) (R' := (headSpec ws rm).room) hsize hmY hcY hframes (by rw [hlY]; omega) h4 h5) h1
  obtain ⟨mid, hmid⟩ := h.above
  have hfr : (U.setTop g).frames = (.java g :: mid) ++ below := by rw [State.frames_setTop' g h.top, hmid]; rfl
  obtain ⟨o, s₂, hsteps, -, hend, hq⟩ := Steps.callFree hM p X.admits X.cas X.clock (acts := []) hfr happ hPc trivial
  have hq' : vx_Q Qc XC mc ms free a (U.calling g mk a) o s₂ := hq
  rw [State.frames_setTop' g h.top] at hend
  obtain ⟨g₀, hg0⟩ := Option.isSome_iff_exists.mp h.top
  obtain ⟨r, hr⟩ := State.topJava?_eq_some.mp hg0
  have hr' : (({ U with heap := s₂.heap, slotsUsed := s₂.slotsUsed } : State).setVm s₂.vm).frames = .java g₀ :: r := hr
  rcases hq' with ⟨hqc, L, hfe, hL⟩ | ⟨q, rfl, E, ce, L, hx, hce, hcv, hcl, hW₂, hsm, hL⟩
  · obtain ⟨⟨v, rfl⟩, hW₂, e2, q2, q3, q4, q5, q6⟩ := id hfe
    have e3 : s₂ = ({ (U.calling g mk a).setFrames s₂.frames with heap := s₂.heap, slotsUsed := s₂.slotsUsed } : State).setVm s₂.vm := by
      have : s₂ = ({ s₂ with vm := (U.calling g mk a).vm } : State).setVm s₂.vm := rfl
      rw [e2] at this
      exact this
    obtain ⟨c₂, i₂, len₂, hc₂, hd₂, hf₂⟩ := hend
    have hW' : U.WarmedH s₂.vm := hW₂
    have hcc : c₂ = c := by
      have h1 : s₂.code? g.method = U.code? g.method := by
        rw [State.code?_eq, State.code?_eq, hW'.alike.method?]
      exact Option.some.inj (hc₂.symm.trans (h1.trans h.code))
    subst hcc
    have hlen : len₂ = len := by rw [hdg] at hd₂; cases hd₂; rfl
    subst hlen
    have hs₂ : s₂ = (({ U with heap := s₂.heap, slotsUsed := s₂.slotsUsed } : State).setVm s₂.vm).setTop { g with pc := g.pc + len₂, stack := v.toList ++ g.stack } := by
      refine e3.trans ?_
      rw [hf₂, State.calling_eq h.top, State.setFrames_setFrames, State.setTop_of_frames _ hr', hr]
      rfl
    have hsame : U.sameButNew ({ U with heap := s₂.heap, slotsUsed := s₂.slotsUsed } : State) L mc ms := by
      refine ⟨?_, q2, q3, q4, q5, q6⟩
      obtain ⟨t, ht, -⟩ := State.frames_cons hr
      show ({ U with heap := s₂.heap, slotsUsed := s₂.slotsUsed } : State) = { U.setFrames U.frames with heap := s₂.heap, slotsUsed := s₂.slotsUsed }
      rw [State.setFrames_self ht]
    subst hg
    refine Or.inl ⟨v, ⟨(({ U with heap := s₂.heap, slotsUsed := s₂.slotsUsed } : State).setVm s₂.vm), Ls ++ L, c0 + mc, s0 + ms⟩,
      ⟨X.admits, X.cas, X.clock, X.frames, X.room, X.hears, X.method, X.code, (X.here.setHeapUsed s₂.heap s₂.slotsUsed).setVm hW'.alike, X.tail, State.WarmedH.trans X.warmed hW', X.limits, X.bytes, X.same.trans (hsame.setVm s.vm)⟩,
      ⟨g, mk, s₂, L, rfl, rfl, hqc, rfl, hL, rfl, rfl⟩, ?_⟩
    show Steps p.tables e below _ ((({ U with heap := s₂.heap, slotsUsed := s₂.slotsUsed } : State).setVm s₂.vm).setTop { g with pc := g.pc + len₂, stack := v.toList ++ g.stack })
    rw [← hs₂]
    exact hsteps
  · obtain ⟨e2, q2, q3, q4, q5, q6⟩ := id hsm
    have e3 : s₂ = ({ (U.calling g mk a).setFrames s₂.frames with heap := s₂.heap, slotsUsed := s₂.slotsUsed } : State).setVm s₂.vm := by
      have : s₂ = ({ s₂ with vm := (U.calling g mk a).vm } : State).setVm s₂.vm := rfl
      rw [e2] at this
      exact this
    have hf₂ : s₂.frames = .throwing q :: .java g :: U.frames.tail := hend
    have hW' : U.WarmedH s₂.vm := hW₂
    have hs₂ : s₂ = ((({ U with heap := s₂.heap, slotsUsed := s₂.slotsUsed } : State).setVm s₂.vm).setTop g).pushFrame (.throwing q) := by
      refine e3.trans ?_
      rw [hf₂, State.calling_eq h.top, State.setFrames_setFrames, State.pushFrame, State.frames_setTop _ hr', State.setTop_of_frames _ hr', State.setFrames_setFrames, hr]
      rfl
    have hsame : U.sameButNew ({ U with heap := s₂.heap, slotsUsed := s₂.slotsUsed } : State) L mc ms := by
      refine ⟨?_, q2, q3, q4, q5, q6⟩
      obtain ⟨t, ht, -⟩ := State.frames_cons hr
      show ({ U with heap := s₂.heap, slotsUsed := s₂.slotsUsed } : State) = { U.setFrames U.frames with heap := s₂.heap, slotsUsed := s₂.slotsUsed }
      rw [State.setFrames_self ht]
    subst hg
    refine Or.inr ⟨q, ⟨(({ U with heap := s₂.heap, slotsUsed := s₂.slotsUsed } : State).setVm s₂.vm), Ls ++ L, c0 + mc, s0 + ms⟩,
      ⟨X.admits, X.cas, X.clock, X.frames, X.room, X.hears, X.method, X.code, (X.here.setHeapUsed s₂.heap s₂.slotsUsed).setVm hW'.alike, X.tail, State.WarmedH.trans X.warmed hW', X.limits, X.bytes, X.same.trans (hsame.setVm s.vm)⟩,
      ⟨g, mk, s₂, L, E, ce, rfl, rfl, hx, hce, hcv, hcl, rfl, hL, rfl, rfl⟩, ?_⟩
    show Steps p.tables e below _ (((({ U with heap := s₂.heap, slotsUsed := s₂.slotsUsed } : State).setVm s₂.vm).setTop g).pushFrame (.throwing q))
    rw [← hs₂]
    exact hsteps
end
variable {p : Program} {l : Launch} {e : Env} {R : Room} {s : State} {m : MethodId} {args : Array Value} {below : List Frame} {meth : Method} {c : Code} {T : State} {H : Heap} {locs : List Loc} {cells slots : Nat}
theorem vx_callVX (X : Stand p l e R s m args below meth c T locs cells slots) (hexec : p.tables.exec = Jvm.exec) {own C : String} {index : Nat} {y : MethodName} {bytes : ByteArray} {maxL : Nat} {ret : Option FieldType} {hh : List (Nat × Nat × Nat × Nat)}
    (hown : s.vm.findClass own = some m.cls) (hlink : (Cond.methodLink own index y).before args s = true) (hinst : (Cond.instanceMethod y).before args s = true) (hsel : (Cond.selects C y y).before args s = true)
    (hcode : (Cond.codeWith y bytes maxL ret hh).before args s = true) (hy : y.cls ≠ "java/lang/invoke/MethodHandle" ∧ y.cls ≠ "java/lang/invoke/VarHandle")
    {W9 : Nat} {Pre : Pt → Array Value → Prop} {Post : Pt → Array Value → Option Value → Pt → Prop} {PostX : Pt → Array Value → Addr → Pt → Prop} (hK : vx_Back l R p e below s args y 3 W9 Pre Post PostX)
    {b : Addr} {cellB : Cell} (hcell : T.heap[b]? = some cellB) (hobj : cellB.vm.isStatics = false) (hcls : s.vm.findClass C = some cellB.cls)
    {g : JFrame} (hg : g.method = m) (hsize : g.locals.size = c.maxLocals) {argsL rest : List Value} (hlen : ∀ sig, parseMethodDescriptor y.desc = some sig → argsL.length = sig.parameters.length)
    (hstack : g.stack = argsL.reverse ++ .ref b :: rest) (hW : 2 * g.monitorRoom + (rest.map fun v => v.category).sum ≤ W9) (hdg : decode c.code g.pc = .ok (.invokevirtual index, 3))
    (hpre : ∀ vm₁, s.WarmedH vm₁ → Pre ⟨T.setVm vm₁, locs, cells, slots⟩ (Value.ref b :: argsL).toArray) :
    (∃ (v : Option Value) (vm₁ : Vm) (B : Pt), s.WarmedH vm₁ ∧ Stand p l e R s m args below meth c B.U B.locs B.cells B.slots ∧ Post ⟨T.setVm vm₁, locs, cells, slots⟩ (Value.ref b :: argsL).toArray v B ∧
      ∀ target, Steps p.tables e below (B.U.setTop { g with pc := g.pc + 3, stack := v.toList ++ rest }) target → Steps p.tables e below (T.setTop g) target) ∨
    (∃ (q : Addr) (vm₁ : Vm) (B : Pt), s.WarmedH vm₁ ∧ Stand p l e R s m args below meth c B.U B.locs B.cells B.slots ∧ PostX ⟨T.setVm vm₁, locs, cells, slots⟩ (Value.ref b :: argsL).toArray q B ∧
      Steps p.tables e below (T.setTop g) ((B.U.setTop { g with stack := rest }).pushFrame (.throwing q))) := by
  obtain ⟨mk, methM, hnamed, hmethM, hstM, habM⟩ := Cond.instanceMethod_spec hinst
  obtain ⟨m8, methM', cM, hn8, hmethM', -, -, -, -, -, -, hsigM⟩ := Cond.codeWith_spec hcode
  cases Option.some.inj (hn8.symm.trans hnamed)
  cases hmethM.symm.trans hmethM'
  obtain ⟨c2, r2, m2, q1, q2, q3, q4, kP, hkP, hkPi⟩ := Cond.selects_spec hsel
  cases hcls.symm.trans q1
  cases (State.methodFound?_of_named hnamed hy).symm.trans q2
  cases hnamed.symm.trans q3
  have hselP : selectMethod e.platform s.vm cellB.cls mk = .method mk := by rw [Launch.admits_selectMethod X.admits]; exact q4
  obtain ⟨vm₁, X₁, hstep₁⟩ := X.invokevirtual hexec hown hlink hnamed hmethM hstM hkP hkPi hy (a := b) (cell := cellB) hcell
    (fun z h => by rw [h] at hobj; cases hobj) hselP hmethM habM hkP hkPi (g := g) hg (argsL := argsL) (rest := rest) (hlen _ hsigM) hstack hdg
  rcases hK m meth c ⟨T.setVm vm₁, locs, cells, slots⟩ { g with stack := rest } (.invokevirtual index) mk (Value.ref b :: argsL).toArray X₁ hg hsize hdg hW (X₁.named hnamed) (hpre vm₁ X₁.warmed) with ⟨v, B, X', hpost, hsteps⟩ | ⟨q, B, X', hpost, hsteps⟩
  · exact Or.inl ⟨v, vm₁, B, X₁.warmed, X', hpost, fun target h => hstep₁ _ fun acts => by rw [doInvoke_state]; exact hsteps.trans h⟩
  · exact Or.inr ⟨q, vm₁, B, X₁.warmed, X', hpost, hstep₁ _ fun acts => by rw [doInvoke_state]; exact hsteps⟩
theorem vx_callSX (X : Stand p l e R s m args below meth c T locs cells slots) (hexec : p.tables.exec = Jvm.exec) {own : String} {index : Nat} {y : MethodName} {bytes : ByteArray} {maxL : Nat} {ret : Option FieldType} {hh : List (Nat × Nat × Nat × Nat)}
    (hown : s.vm.findClass own = some m.cls) (hlink : (Cond.methodLink own index y).before args s = true) (hstat : (Cond.static y).before args s = true) (hinit : (Cond.initialized y.cls).before args s = true)
    (hcode : (Cond.codeWith y bytes maxL ret hh).before args s = true) (hy : y.cls ≠ "java/lang/invoke/MethodHandle" ∧ y.cls ≠ "java/lang/invoke/VarHandle")
    {W9 : Nat} {Pre : Pt → Array Value → Prop} {Post : Pt → Array Value → Option Value → Pt → Prop} {PostX : Pt → Array Value → Addr → Pt → Prop} (hK : vx_Back l R p e below s args y 3 W9 Pre Post PostX)
    {g : JFrame} (hg : g.method = m) (hsize : g.locals.size = c.maxLocals) {argsL rest : List Value} (hlen : ∀ sig, parseMethodDescriptor y.desc = some sig → argsL.length = sig.parameters.length)
    (hstack : g.stack = argsL.reverse ++ rest) (hW : 2 * g.monitorRoom + (rest.map fun v => v.category).sum ≤ W9) (hdg : decode c.code g.pc = .ok (.invokestatic index, 3))
    (hpre : ∀ vm₁, s.WarmedH vm₁ → Pre ⟨T.setVm vm₁, locs, cells, slots⟩ argsL.toArray) :
    (∃ (v : Option Value) (vm₁ : Vm) (B : Pt), s.WarmedH vm₁ ∧ Stand p l e R s m args below meth c B.U B.locs B.cells B.slots ∧ Post ⟨T.setVm vm₁, locs, cells, slots⟩ argsL.toArray v B ∧
      ∀ target, Steps p.tables e below (B.U.setTop { g with pc := g.pc + 3, stack := v.toList ++ rest }) target → Steps p.tables e below (T.setTop g) target) ∨
    (∃ (q : Addr) (vm₁ : Vm) (B : Pt), s.WarmedH vm₁ ∧ Stand p l e R s m args below meth c B.U B.locs B.cells B.slots ∧ PostX ⟨T.setVm vm₁, locs, cells, slots⟩ argsL.toArray q B ∧
      Steps p.tables e below (T.setTop g) ((B.U.setTop { g with stack := rest }).pushFrame (.throwing q))) := by
  obtain ⟨mk, methM, cM, hnamed, hmethM, -, -, -, -, -, -, hsigM⟩ := Cond.codeWith_spec hcode
  have hstatic : methM.isStatic = true := Cond.static_spec hnamed hmethM hstat
  obtain ⟨kP, hkP, -⟩ := className_of_methodNamed hnamed
  have hinitP : kP.init = .initialized := Cond.initialized_spec (findClass_of_methodNamed hnamed) hkP hinit
  obtain ⟨vm₁, X₁, hstep₁⟩ := X.invokestatic hexec hown hlink hnamed hmethM hstatic hkP hinitP hy (g := g) hg (argsL := argsL) (rest := rest) (hlen _ hsigM) hstack hdg
  rcases hK m meth c ⟨T.setVm vm₁, locs, cells, slots⟩ { g with stack := rest } (.invokestatic index) mk argsL.toArray X₁ hg hsize hdg hW (X₁.named hnamed) (hpre vm₁ X₁.warmed) with ⟨v, B, X', hpost, hsteps⟩ | ⟨q, B, X', hpost, hsteps⟩
  · exact Or.inl ⟨v, vm₁, B, X₁.warmed, X', hpost, fun target h => hstep₁ _ fun acts => by rw [doInvoke_state]; exact hsteps.trans h⟩
  · exact Or.inr ⟨q, vm₁, B, X₁.warmed, X', hpost, hstep₁ _ fun acts => by rw [doInvoke_state]; exact hsteps⟩
theorem vx_callVW (X : Stand p l e R s m args below meth c T locs cells slots) (hexec : p.tables.exec = Jvm.exec) {own C : String} {index : Nat} {y : MethodName} {bytes : ByteArray} {maxL : Nat} {ret : Option FieldType} {hh : List (Nat × Nat × Nat × Nat)}
    (hown : s.vm.findClass own = some m.cls) (hlink : (Cond.methodLink own index y).before args s = true) (hinst : (Cond.instanceMethod y).before args s = true) (hsel : (Cond.selects C y y).before args s = true)
    (hcode : (Cond.codeWith y bytes maxL ret hh).before args s = true) (hy : y.cls ≠ "java/lang/invoke/MethodHandle" ∧ y.cls ≠ "java/lang/invoke/VarHandle")
    {W9 : Nat} {Pre : Pt → Array Value → Prop} {Post : Pt → Array Value → Option Value → Pt → Prop} (hK : Back l R p e below s args y 3 W9 Pre Post)
    {b : Addr} {cellB : Cell} (hcell : T.heap[b]? = some cellB) (hobj : cellB.vm.isStatics = false) (hcls : s.vm.findClass C = some cellB.cls)
    {g : JFrame} (hg : g.method = m) (hsize : g.locals.size = c.maxLocals) {argsL rest : List Value} (hlen : ∀ sig, parseMethodDescriptor y.desc = some sig → argsL.length = sig.parameters.length)
    (hstack : g.stack = argsL.reverse ++ .ref b :: rest) (hW : 2 * g.monitorRoom + (rest.map fun v => v.category).sum ≤ W9) (hdg : decode c.code g.pc = .ok (.invokevirtual index, 3))
    (hpre : ∀ vm₁, s.WarmedH vm₁ → Pre ⟨T.setVm vm₁, locs, cells, slots⟩ (Value.ref b :: argsL).toArray) :
    ∃ (v : Option Value) (vm₁ : Vm) (B : Pt), s.WarmedH vm₁ ∧ Stand p l e R s m args below meth c B.U B.locs B.cells B.slots ∧ Post ⟨T.setVm vm₁, locs, cells, slots⟩ (Value.ref b :: argsL).toArray v B ∧
      ∀ target, Steps p.tables e below (B.U.setTop { g with pc := g.pc + 3, stack := v.toList ++ rest }) target → Steps p.tables e below (T.setTop g) target := by
  obtain ⟨mk, methM, hnamed, hmethM, hstM, habM⟩ := Cond.instanceMethod_spec hinst
  obtain ⟨m8, methM', cM, hn8, hmethM', -, -, -, -, -, -, hsigM⟩ := Cond.codeWith_spec hcode
  cases Option.some.inj (hn8.symm.trans hnamed)
  cases hmethM.symm.trans hmethM'
  obtain ⟨c2, r2, m2, q1, q2, q3, q4, kP, hkP, hkPi⟩ := Cond.selects_spec hsel
  cases hcls.symm.trans q1
  cases (State.methodFound?_of_named hnamed hy).symm.trans q2
  cases hnamed.symm.trans q3
  have hselP : selectMethod e.platform s.vm cellB.cls mk = .method mk := by rw [Launch.admits_selectMethod X.admits]; exact q4
  obtain ⟨vm₁, X₁, hstep₁⟩ := X.invokevirtual hexec hown hlink hnamed hmethM hstM hkP hkPi hy (a := b) (cell := cellB) hcell
    (fun z h => by rw [h] at hobj; cases hobj) hselP hmethM habM hkP hkPi (g := g) hg (argsL := argsL) (rest := rest) (hlen _ hsigM) hstack hdg
  obtain ⟨v, B, X', hpost, hsteps⟩ := hK m meth c ⟨T.setVm vm₁, locs, cells, slots⟩ { g with stack := rest } (.invokevirtual index) mk (Value.ref b :: argsL).toArray X₁ hg hsize hdg hW (X₁.named hnamed) (hpre vm₁ X₁.warmed)
  exact ⟨v, vm₁, B, X₁.warmed, X', hpost, fun target h => hstep₁ _ fun acts => by rw [doInvoke_state]; exact hsteps.trans h⟩
abbrev vx_CVW (R : Room) (s : State) (args : Array Value) (own C : String) (index : Nat) (y : MethodName) (bytes : ByteArray) (maxL : Nat) (ret : Option FieldType) (hh : List (Nat × Nat × Nat × Nat)) (ws : List Cond) (rm : Room) (mc ms n : Nat) : Prop :=
  (rm.cells = mc ∧ rm.slots = ms ∧ rm.frames + 1 ≤ R.frames ∧ 8 + (maxL + 11) + rm.locals ≤ R.locals ∧ (∀ w ∈ ws, ∀ (a' : Array Value) (U : State), s.WarmedH U.vm → w.before a' U = true) ∧ Cond.codeWith y bytes maxL ret hh ∈ ws) ∧
  (Cond.codeWith y bytes maxL ret hh).before args s = true ∧ (Cond.initialized y.cls).before args s = true ∧ (y.cls ≠ "java/lang/invoke/MethodHandle" ∧ y.cls ≠ "java/lang/invoke/VarHandle") ∧
  (∀ sig, parseMethodDescriptor y.desc = some sig → n = sig.parameters.length) ∧ (Cond.methodLink own index y).before args s = true ∧ (Cond.instanceMethod y).before args s = true ∧ (Cond.selects C y y).before args s = true
theorem vx_cwVW {own C : String} {index maxL mc ms : Nat} {y : MethodName} {bytes : ByteArray} {ret : Option FieldType} {hh : List (Nat × Nat × Nat × Nat)} {Ts ws ws' : List Cond} {rm : Room} (n : Nat) (ht : ∀ w ∈ Ts, w.before args s = true) (hT : GoodIn Ts (wsV own index C y ws)) (hw : ws = Cond.codeWith y bytes maxL ret hh :: ws') (hrc : rm.cells = mc) (hrs : rm.slots = ms)
    (hd : y.cls = C ∧ y.cls ≠ "java/lang/invoke/MethodHandle" ∧ y.cls ≠ "java/lang/invoke/VarHandle" ∧ (parseMethodDescriptor y.desc).map (fun d => d.parameters.length) = some n) (hR : rm.frames + 1 ≤ R.frames ∧ 8 + (maxL + 11) + rm.locals ≤ R.locals) :
    vx_CVW R s args own C index y bytes maxL ret hh ws rm mc ms n := by
  obtain ⟨hC, hd⟩ := hd
  subst hC
  have ok : ∀ w ∈ wsV own index y.cls y ws, w.before args s = true := fun w h => ht w (hT w h).1
  have hG : GoodIn Ts ws := fun w h => hT w (by unfold wsV; exact List.mem_append_right _ h)
  have hc : Cond.codeWith y bytes maxL ret hh ∈ ws := by rw [hw]; exact List.mem_cons_self
  refine ⟨⟨hrc, hrs, hR.1, hR.2, pay_in ht hG, hc⟩, ht _ (hG _ hc).1, ok _ (by simp [wsV]), ⟨hd.1, hd.2.1⟩, fun sig h => ?_, ok _ (by simp [wsV]), ok _ (by simp [wsV]), ok _ (by simp [wsV])⟩
  have h2 := hd.2.2
  rw [h] at h2
  exact (Option.some.inj h2).symm
theorem vx_runVW {y : MethodName} {bytes cc : ByteArray} {maxL nL mc ms n index : Nat} {ret : Option FieldType} {hh : List (Nat × Nat × Nat × Nat)} {ws : List Cond} {rm : Room} {Pc : Array Value → State → Prop} {Qc : Array Value → State → Outcome → State → Prop} {free : Addr → Prop} {Ts : List Cond} {own C : String} {b : Addr} {As rest : List Value} {g : JFrame}
    (S : CallFix p m c cc nL s args Ts own) (hM : Met l y ws rm Pc Qc mc ms free) (cw : vx_CVW R s args own C index y bytes maxL ret hh ws rm mc ms n) (hp : PreV s H C b Pc As)
    (hg : g.method = m) (hn : As.length = n) (hsize : g.locals.size = nL) (hstack : g.stack = As.reverse ++ .ref b :: rest) (hW : 2 * g.monitorRoom + (rest.map fun v => v.category).sum ≤ 8) (hdg : decode cc g.pc = .ok (.invokevirtual index, 3)) (hf : cells + mc ≤ R.cells ∧ slots + ms ≤ R.slots) :
    va_Run p l e R s m args below meth c H locs cells slots mc ms g rest (Qc (Value.ref b :: As).toArray) free := by
  obtain ⟨⟨hrc, hrs, hfr, hlo, hws, hcw⟩, hcode, hini, hy, hlen, hl, hin, hse⟩ := cw
  have hK : Back l R p e below s args y 3 8 (PreOf R mc ms Pc) (PostOf Qc mc ms free) := va_backW (hh := hh) (bytes := bytes) (maxL := maxL) (ret := ret) hM hp.1 hrc hrs hfr hlo hws hcw (fun a' U hW => word_at hW (Or.inl (by first | rfl | simp [Cond.onTables, Cond.keeps, Cond.steady])) hini)
  obtain ⟨hx, hb, hml, ho, -⟩ := S
  obtain ⟨-, ⟨cellB, hcB, hoB, hclB⟩, hPc⟩ := hp
  intro T hT X
  obtain ⟨v, vm₁, ⟨U', l2, c2, s2⟩, hW₁, X', ⟨g', mk, t, L, e1, e2, hq, h1, hL, h2, h3⟩, st⟩ := vx_callVW X hx (C := C) (hh := hh) (bytes := bytes) (maxL := maxL) (ret := ret) ho hl hin hse hcode hy hK (by rw [hT]; exact hcB) hoB hclB hg (hsize.trans hml.symm) (argsL := As) (rest := rest) (fun sig h => hn.trans (hlen sig h)) hstack hW (by rw [hb]; exact hdg)
    (fun vm₁ hW₁ => ⟨hf.1, hf.2, hPc (T.setVm vm₁) hT hW₁⟩)
  dsimp only [Pt.U, Pt.locs, Pt.cells, Pt.slots] at X' e1 e2 h1 h2 h3 st
  subst h1; subst h2; subst h3
  exact ⟨v, (T.setVm vm₁).calling g' mk (Value.ref b :: As).toArray, t, U', L, hT, X', hL, e1, e2, hq, st⟩
section
variable {y : MethodName} {bytes cc : ByteArray} {maxL nL mc ms n index : Nat} {ret : Option FieldType} {ws : List Cond} {rm : Room} {Pc : Array Value → State → Prop} {Qc : Array Value → State → Outcome → State → Prop} {XC : String → State → State → Prop} {free : Addr → Prop} {Ts : List Cond} {own C : String} {b : Addr} {As rest : List Value} {g : JFrame}
theorem vx_runVX {hh : List (Nat × Nat × Nat × Nat)} (S : CallFix p m c cc nL s args Ts own) (hM : vx_Met l y ws rm Pc Qc XC mc ms free) (cw : vx_CVW R s args own C index y bytes maxL ret hh ws rm mc ms n) (hp : PreV s H C b Pc As)
    (hg : g.method = m) (hn : As.length = n) (hsize : g.locals.size = nL) (hstack : g.stack = As.reverse ++ .ref b :: rest) (hW : 2 * g.monitorRoom + (rest.map fun v => v.category).sum ≤ 8) (hdg : decode cc g.pc = .ok (.invokevirtual index, 3)) (hf : cells + mc ≤ R.cells ∧ slots + ms ≤ R.slots) :
    vx_Run p l e R s m args below meth c H locs cells slots mc ms g rest (Qc (Value.ref b :: As).toArray) XC free := by
  obtain ⟨⟨hrc, hrs, hfr, hlo, hws, hcw⟩, hcode, hini, hy, hlen, hl, hin, hse⟩ := cw
  have hK : vx_Back l R p e below s args y 3 8 (PreOf R mc ms Pc) (PostOf Qc mc ms free) (vx_Post XC mc ms free) := vx_backW (hh := hh) (bytes := bytes) (maxL := maxL) (ret := ret) hM hp.1 hrc hrs hfr hlo hws hcw (fun a' U hW => word_at hW (Or.inl (by first | rfl | simp [Cond.onTables, Cond.keeps, Cond.steady])) hini)
  obtain ⟨hx, hb, hml, ho, -⟩ := S
  obtain ⟨-, ⟨cellB, hcB, hoB, hclB⟩, hPc⟩ := hp
  intro T hT X
  rcases vx_callVX X hx (C := C) (hh := hh) (bytes := bytes) (maxL := maxL) (ret := ret) ho hl hin hse hcode hy hK (by rw [hT]; exact hcB) hoB hclB hg (hsize.trans hml.symm) (argsL := As) (rest := rest) (fun sig h => hn.trans (hlen sig h)) hstack hW (by rw [hb]; exact hdg)
    (fun vm₁ hW₁ => ⟨hf.1, hf.2, hPc (T.setVm vm₁) hT hW₁⟩) with ⟨v, vm₁, ⟨U', l2, c2, s2⟩, hW₁, X', ⟨g', mk, t, L, e1, e2, hq, h1, hL, h2, h3⟩, st⟩ | ⟨q, vm₁, ⟨U', l2, c2, s2⟩, hW₁, X', ⟨g', mk, t, L, E, ce, e1, e2, hq, hce, hcv, hcl, h1, hL, h2, h3⟩, st⟩
  · dsimp only [Pt.U, Pt.locs, Pt.cells, Pt.slots] at X' e1 e2 h1 h2 h3 st
    subst h1; subst h2; subst h3
    exact Or.inl ⟨v, (T.setVm vm₁).calling g' mk (Value.ref b :: As).toArray, t, U', L, hT, X', hL, e1, e2, hq, st⟩
  · dsimp only [Pt.U, Pt.locs, Pt.cells, Pt.slots] at X' e1 e2 h1 h2 h3 st hcl
    subst h1; subst h2; subst h3
    exact Or.inr ⟨q, (T.setVm vm₁).calling g' mk (Value.ref b :: As).toArray, t, U', L, E, ce, hT, X', hL, e1, e2, hq, hce, hcv, vx_cls hW₁ hcl, st⟩
theorem vx_runSX {hh : List (Nat × Nat × Nat × Nat)} (S : CallFix p m c cc nL s args Ts own) (hM : vx_Met l y ws rm Pc Qc XC mc ms free) (cw : vx_CSW R s args own index y bytes maxL ret hh ws rm mc ms n) (hp : PreS s H Pc As)
    (hg : g.method = m) (hn : As.length = n) (hsize : g.locals.size = nL) (hstack : g.stack = As.reverse ++ rest) (hW : 2 * g.monitorRoom + (rest.map fun v => v.category).sum ≤ 8) (hdg : decode cc g.pc = .ok (.invokestatic index, 3)) (hf : cells + mc ≤ R.cells ∧ slots + ms ≤ R.slots) :
    vx_Run p l e R s m args below meth c H locs cells slots mc ms g rest (Qc As.toArray) XC free := by
  obtain ⟨⟨hrc, hrs, hfr, hlo, hws, hcw⟩, hcode, hini, hy, hlen, hl, hstt⟩ := cw
  have hK : vx_Back l R p e below s args y 3 8 (PreOf R mc ms Pc) (PostOf Qc mc ms free) (vx_Post XC mc ms free) := vx_backW (hh := hh) (bytes := bytes) (maxL := maxL) (ret := ret) hM hp.1 hrc hrs hfr hlo hws hcw (fun a' U hW => word_at hW (Or.inl (by first | rfl | simp [Cond.onTables, Cond.keeps, Cond.steady])) hini)
  obtain ⟨hx, hb, hml, ho, -⟩ := S
  intro T hT X
  rcases vx_callSX X hx (hh := hh) (bytes := bytes) (maxL := maxL) (ret := ret) ho hl hstt hini hcode hy hK hg (hsize.trans hml.symm) (argsL := As) (rest := rest) (fun sig h => hn.trans (hlen sig h)) hstack hW (by rw [hb]; exact hdg)
    (fun vm₁ hW₁ => ⟨hf.1, hf.2, hp.2 (T.setVm vm₁) hT hW₁⟩) with ⟨v, vm₁, ⟨U', l2, c2, s2⟩, hW₁, X', ⟨g', mk, t, L, e1, e2, hq, h1, hL, h2, h3⟩, st⟩ | ⟨q, vm₁, ⟨U', l2, c2, s2⟩, hW₁, X', ⟨g', mk, t, L, E, ce, e1, e2, hq, hce, hcv, hcl, h1, hL, h2, h3⟩, st⟩
  · dsimp only [Pt.U, Pt.locs, Pt.cells, Pt.slots] at X' e1 e2 h1 h2 h3 st
    subst h1; subst h2; subst h3
    exact Or.inl ⟨v, (T.setVm vm₁).calling g' mk As.toArray, t, U', L, hT, X', hL, e1, e2, hq, st⟩
  · dsimp only [Pt.U, Pt.locs, Pt.cells, Pt.slots] at X' e1 e2 h1 h2 h3 st hcl
    subst h1; subst h2; subst h3
    exact Or.inr ⟨q, (T.setVm vm₁).calling g' mk As.toArray, t, U', L, E, ce, hT, X', hL, e1, e2, hq, hce, hcv, vx_cls hW₁ hcl, st⟩
end
end VXH
theorem vx_ofWH {l : Launch} {y : MethodName} {ws ws' : List Cond} {rm : Room} {Pc : Array Value → State → Prop} {Qc : Array Value → State → Outcome → State → Prop} {XC : String → State → State → Prop} {mc ms : Nat} {free : Addr → Prop} {cc : ByteArray} {maxL : Nat} {ret : Option FieldType} {hh : List (Nat × Nat × Nat × Nat)}
    (hy : plainName y.cls = true) (hw : ws = Cond.codeWith y cc maxL ret hh :: ws')
    (body : ∀ p e s m args below meth c s₁, BodyLoose p l y (headSpec ws rm) cc maxL ret e s m args below meth c s₁ → c.maxLocals = maxL → Pc args s →
      W p l e (headSpec ws rm).room s m args below meth c s.heap [] 0 0 (vx_MQ below Qc XC args s mc ms free) (entryFrame m args maxL)) : vx_Met l y ws rm Pc Qc XC mc ms free := by
  refine MetFree.of_bodyS (code := cc) (maxLocals := maxL) (ret := ret) hy ?_ ?_
  · intro args s m h hn
    obtain ⟨m9, meth, c, hn9, h1, h2, h3, h4, -, h5, h6, -⟩ := Cond.codeWith_spec (atoms_spec (ws := ws) h _ (by rw [hw]; exact List.mem_cons_self))
    cases hn.symm.trans hn9
    exact ⟨meth, c, h1, h2, h3, h4, h5, h6⟩
  · intro p e s m args below meth c s₁ B hml hP _
    have hh0 : s₁.heap = s.heap := by rw [B.state]; rfl
    obtain ⟨t, a1, o, b1, b2, b3⟩ := body p e s m args below meth c s₁ B hml hP s₁ hh0 (Stand.of_body B)
    exact ⟨t, o, a1, b1, b2, b3⟩
/-! ===== END ===== -/
end
section
/-! my names: classes, fields, methods; printed by wip/gen/names.py -/
def nR_X : String := "SceneTimes"
def nT_X : u_T := fun k => match k with
  | 0 => ("SceneTimes", "line", "LSceneTimes$Line;", true)
  | 1 => ("SceneTimes", "question", "LSceneTimes$Question;", true)
  | 2 => ("SceneTimes", "sheet", "LSceneTimes$Sheet;", true)
  | 3 => ("SceneTimes", "second", "I", false)
  | 4 => ("SceneTimes", "writers", "I", false)
  | _ => ("SceneTimes", "acts", "I", false)
def nt_X : Nat → FieldType := fun k => match k with
  | 0 => .object "SceneTimes$Line"
  | 1 => .object "SceneTimes$Question"
  | 2 => .object "SceneTimes$Sheet"
  | 3 => .int
  | 4 => .int
  | _ => .int
theorem nn_X : ∀ a, a < 6 → ∀ b, b < 6 → a ≠ b → (nT_X a).2.1 ≠ (nT_X b).2.1 := by decide +kernel
theorem nt_X_ok : ∀ k, k < 6 → parseFieldDescriptor (nT_X k).2.2.1 = some (nt_X k) := by decide +kernel
def nR_L : String := "SceneTimes$Line"
def nT_L : u_T := fun k => match k with
  | 0 => ("SceneTimes$Line", "byNumber", "[LSceneTimes$Note;", true)
  | 1 => ("SceneTimes$Line", "inOrder", "[LSceneTimes$Note;", true)
  | _ => ("SceneTimes$Line", "size", "I", false)
def nt_L : Nat → FieldType := fun k => match k with
  | 0 => .array (.object "SceneTimes$Note")
  | 1 => .array (.object "SceneTimes$Note")
  | _ => .int
theorem nn_L : ∀ a, a < 3 → ∀ b, b < 3 → a ≠ b → (nT_L a).2.1 ≠ (nT_L b).2.1 := by decide +kernel
theorem nt_L_ok : ∀ k, k < 3 → parseFieldDescriptor (nT_L k).2.2.1 = some (nt_L k) := by decide +kernel
def nR_Q : String := "SceneTimes$Question"
def nT_Q : u_T := fun k => match k with
  | 0 => ("SceneTimes$Question", "rows", "[LSceneTimes$Note;", true)
  | 1 => ("SceneTimes$Question", "size", "I", false)
  | 2 => ("SceneTimes$Question", "known", "I", false)
  | _ => ("SceneTimes$Question", "asked", "Z", false)
def nt_Q : Nat → FieldType := fun k => match k with
  | 0 => .array (.object "SceneTimes$Note")
  | 1 => .int
  | 2 => .int
  | _ => .boolean
theorem nn_Q : ∀ a, a < 4 → ∀ b, b < 4 → a ≠ b → (nT_Q a).2.1 ≠ (nT_Q b).2.1 := by decide +kernel
theorem nt_Q_ok : ∀ k, k < 4 → parseFieldDescriptor (nT_Q k).2.2.1 = some (nt_Q k) := by decide +kernel
def nR_S : String := "SceneTimes$Sheet"
def nT_S : u_T := fun k => match k with
  | 0 => ("SceneTimes$Sheet", "bytes", "[B", true)
  | _ => ("SceneTimes$Sheet", "size", "I", false)
def nt_S : Nat → FieldType := fun k => match k with
  | 0 => .array .byte
  | _ => .int
theorem nn_S : ∀ a, a < 2 → ∀ b, b < 2 → a ≠ b → (nT_S a).2.1 ≠ (nT_S b).2.1 := by decide +kernel
theorem nt_S_ok : ∀ k, k < 2 → parseFieldDescriptor (nT_S k).2.2.1 = some (nt_S k) := by decide +kernel
def nR_N : String := "SceneTimes$Note"
def nT_N : u_T := fun k => match k with
  | 0 => ("SceneTimes$Note", "number", "I", true)
  | 1 => ("SceneTimes$Note", "writer", "I", true)
  | 2 => ("SceneTimes$Note", "kind", "I", true)
  | 3 => ("SceneTimes$Note", "sector", "I", true)
  | 4 => ("SceneTimes$Note", "second", "I", true)
  | 5 => ("SceneTimes$Note", "first", "LSceneTimes$State;", true)
  | 6 => ("SceneTimes$Note", "latest", "LSceneTimes$State;", false)
  | 7 => ("SceneTimes$Note", "acts", "I", false)
  | 8 => ("SceneTimes$Note", "corrections", "I", false)
  | _ => ("SceneTimes$Note", "mixed", "I", false)
def nt_N : Nat → FieldType := fun k => match k with
  | 0 => .int
  | 1 => .int
  | 2 => .int
  | 3 => .int
  | 4 => .int
  | 5 => .object "SceneTimes$State"
  | 6 => .object "SceneTimes$State"
  | 7 => .int
  | 8 => .int
  | _ => .int
theorem nn_N : ∀ a, a < 10 → ∀ b, b < 10 → a ≠ b → (nT_N a).2.1 ≠ (nT_N b).2.1 := by decide +kernel
theorem nt_N_ok : ∀ k, k < 10 → parseFieldDescriptor (nT_N k).2.2.1 = some (nt_N k) := by decide +kernel
def nR_T : String := "SceneTimes$State"
def nT_T : u_T := fun k => match k with
  | 0 => ("SceneTimes$State", "from", "I", true)
  | 1 => ("SceneTimes$State", "value", "I", true)
  | 2 => ("SceneTimes$State", "struck", "Z", true)
  | _ => ("SceneTimes$State", "earlier", "LSceneTimes$State;", true)
def nt_T : Nat → FieldType := fun k => match k with
  | 0 => .int
  | 1 => .int
  | 2 => .boolean
  | _ => .object "SceneTimes$State"
theorem nn_T : ∀ a, a < 4 → ∀ b, b < 4 → a ≠ b → (nT_T a).2.1 ≠ (nT_T b).2.1 := by decide +kernel
theorem nt_T_ok : ∀ k, k < 4 → parseFieldDescriptor (nT_T k).2.2.1 = some (nt_T k) := by decide +kernel
def nR_M : String := "SceneTimesModel"
def nT_M : u_T := fun k => match k with
  | 0 => ("SceneTimesModel", "thrown", "I", false)
  | 1 => ("SceneTimesModel", "now", "I", false)
  | 2 => ("SceneTimesModel", "writers", "I", false)
  | 3 => ("SceneTimesModel", "notes", "I", false)
  | 4 => ("SceneTimesModel", "writer", "[I", true)
  | 5 => ("SceneTimesModel", "kind", "[I", true)
  | 6 => ("SceneTimesModel", "sector", "[I", true)
  | 7 => ("SceneTimesModel", "was", "[I", true)
  | 8 => ("SceneTimesModel", "first", "[I", true)
  | 9 => ("SceneTimesModel", "known", "[I", true)
  | 10 => ("SceneTimesModel", "acts", "I", false)
  | 11 => ("SceneTimesModel", "actOn", "[I", true)
  | 12 => ("SceneTimesModel", "act", "[I", true)
  | 13 => ("SceneTimesModel", "actValue", "[I", true)
  | 14 => ("SceneTimesModel", "actAt", "[I", true)
  | 15 => ("SceneTimesModel", "asked", "Z", false)
  | 16 => ("SceneTimesModel", "rows", "I", false)
  | 17 => ("SceneTimesModel", "asOf", "I", false)
  | 18 => ("SceneTimesModel", "rowNote", "[I", true)
  | 19 => ("SceneTimesModel", "printed", "I", false)
  | _ => ("SceneTimesModel", "out", "[I", true)
def nt_M : Nat → FieldType := fun k => match k with
  | 0 => .int
  | 1 => .int
  | 2 => .int
  | 3 => .int
  | 4 => .array .int
  | 5 => .array .int
  | 6 => .array .int
  | 7 => .array .int
  | 8 => .array .int
  | 9 => .array .int
  | 10 => .int
  | 11 => .array .int
  | 12 => .array .int
  | 13 => .array .int
  | 14 => .array .int
  | 15 => .boolean
  | 16 => .int
  | 17 => .int
  | 18 => .array .int
  | 19 => .int
  | _ => .array .int
theorem nn_M : ∀ a, a < 21 → ∀ b, b < 21 → a ≠ b → (nT_M a).2.1 ≠ (nT_M b).2.1 := by decide +kernel
theorem nt_M_ok : ∀ k, k < 21 → parseFieldDescriptor (nT_M k).2.2.1 = some (nt_M k) := by decide +kernel
def nR_W : String := "SceneTimesLaw"
def nR_J : String := "java/lang/Math"
abbrev ncl : List vw_C := [(nR_X, nT_X, 6), (nR_L, nT_L, 3), (nR_Q, nT_Q, 4), (nR_S, nT_S, 2), (nR_N, nT_N, 10), (nR_T, nT_T, 4), (nR_M, nT_M, 21)]
abbrev c_X_init : ByteArray := prog_1_method_1_code
def y_X_init : MethodName := ⟨nR_X, "<init>", "()V"⟩
abbrev c_L_init : ByteArray := prog_2_method_1_code
def y_L_init : MethodName := ⟨nR_L, "<init>", "()V"⟩
abbrev c_Q_init : ByteArray := prog_4_method_1_code
def y_Q_init : MethodName := ⟨nR_Q, "<init>", "()V"⟩
abbrev c_S_init : ByteArray := prog_5_method_1_code
def y_S_init : MethodName := ⟨nR_S, "<init>", "()V"⟩
abbrev c_W_writer : ByteArray := method_3_code
def y_W_writer : MethodName := ⟨nR_W, "writer", "(LSceneTimes;[J)I"⟩
abbrev c_X_writer : ByteArray := prog_1_method_2_code
def y_X_writer : MethodName := ⟨nR_X, "writer", "()I"⟩
abbrev c_W_note : ByteArray := method_4_code
def y_W_note : MethodName := ⟨nR_W, "note", "(LSceneTimes;IIIII[J)I"⟩
abbrev c_X_note : ByteArray := prog_1_method_3_code
def y_X_note : MethodName := ⟨nR_X, "note", "(IIIII)I"⟩
abbrev c_X_isWriter : ByteArray := prog_1_method_16_code
def y_X_isWriter : MethodName := ⟨nR_X, "isWriter", "(I)Z"⟩
abbrev c_X_isKind : ByteArray := prog_1_method_17_code
def y_X_isKind : MethodName := ⟨nR_X, "isKind", "(I)Z"⟩
abbrev c_X_isSector : ByteArray := prog_1_method_18_code
def y_X_isSector : MethodName := ⟨nR_X, "isSector", "(I)Z"⟩
abbrev c_X_hasCome : ByteArray := prog_1_method_20_code
def y_X_hasCome : MethodName := ⟨nR_X, "hasCome", "(I)Z"⟩
abbrev c_X_isValue : ByteArray := prog_1_method_19_code
def y_X_isValue : MethodName := ⟨nR_X, "isValue", "(I)Z"⟩
abbrev c_N_init : ByteArray := prog_3_method_1_code
def y_N_init : MethodName := ⟨nR_N, "<init>", "(IIIIIII)V"⟩
abbrev c_T_init : ByteArray := prog_6_method_1_code
def y_T_init : MethodName := ⟨nR_T, "<init>", "(IIZLSceneTimes$State;)V"⟩
abbrev c_N_mix : ByteArray := prog_3_method_2_code
def y_N_mix : MethodName := ⟨nR_N, "mix", "(II)I"⟩
abbrev c_L_take : ByteArray := prog_2_method_2_code
def y_L_take : MethodName := ⟨nR_L, "take", "(LSceneTimes$Note;)V"⟩
abbrev c_N_standsBehind : ByteArray := prog_3_method_9_code
def y_N_standsBehind : MethodName := ⟨nR_N, "standsBehind", "(LSceneTimes$Note;)Z"⟩
abbrev c_W_correct : ByteArray := method_5_code
def y_W_correct : MethodName := ⟨nR_W, "correct", "(LSceneTimes;II[J)I"⟩
abbrev c_X_correct : ByteArray := prog_1_method_4_code
def y_X_correct : MethodName := ⟨nR_X, "correct", "(II)I"⟩
abbrev c_X_noteOf : ByteArray := prog_1_method_21_code
def y_X_noteOf : MethodName := ⟨nR_X, "noteOf", "(I)LSceneTimes$Note;"⟩
abbrev c_X_refuseActWithoutRoom : ByteArray := prog_1_method_22_code
def y_X_refuseActWithoutRoom : MethodName := ⟨nR_X, "refuseActWithoutRoom", "()V"⟩
abbrev c_N_takeValue : ByteArray := prog_3_method_3_code
def y_N_takeValue : MethodName := ⟨nR_N, "takeValue", "(II)V"⟩
abbrev c_W_strike : ByteArray := method_6_code
def y_W_strike : MethodName := ⟨nR_W, "strike", "(LSceneTimes;IZ)I"⟩
abbrev c_X_strike : ByteArray := prog_1_method_5_code
def y_X_strike : MethodName := ⟨nR_X, "strike", "(IZ)V"⟩
abbrev c_N_takeStrike : ByteArray := prog_3_method_4_code
def y_N_takeStrike : MethodName := ⟨nR_N, "takeStrike", "(IZ)V"⟩
abbrev c_W_ask : ByteArray := method_7_code
def y_W_ask : MethodName := ⟨nR_W, "ask", "(LSceneTimes;IIIII[J)I"⟩
abbrev c_X_ask : ByteArray := prog_1_method_6_code
def y_X_ask : MethodName := ⟨nR_X, "ask", "(IIIII)I"⟩
abbrev c_Q_begin : ByteArray := prog_4_method_2_code
def y_Q_begin : MethodName := ⟨nR_Q, "begin", "(I)V"⟩
abbrev c_N_isWithin : ByteArray := prog_3_method_6_code
def y_N_isWithin : MethodName := ⟨nR_N, "isWithin", "(II)Z"⟩
abbrev c_N_isOf : ByteArray := prog_3_method_7_code
def y_N_isOf : MethodName := ⟨nR_N, "isOf", "(II)Z"⟩
abbrev c_Q_take : ByteArray := prog_4_method_3_code
def y_Q_take : MethodName := ⟨nR_Q, "take", "(LSceneTimes$Note;)V"⟩
abbrev c_W_row : ByteArray := method_8_code
def y_W_row : MethodName := ⟨nR_W, "row", "(LSceneTimes;II[J)I"⟩
abbrev c_X_row : ByteArray := prog_1_method_7_code
def y_X_row : MethodName := ⟨nR_X, "row", "(II)I"⟩
abbrev c_N_stateAt : ByteArray := prog_3_method_5_code
def y_N_stateAt : MethodName := ⟨nR_N, "stateAt", "(I)LSceneTimes$State;"⟩
abbrev c_X_oneIf : ByteArray := prog_1_method_23_code
def y_X_oneIf : MethodName := ⟨nR_X, "oneIf", "(Z)I"⟩
abbrev c_W_reading : ByteArray := method_9_code
def y_W_reading : MethodName := ⟨nR_W, "reading", "(LSceneTimes;II[J)I"⟩
abbrev c_X_reading : ByteArray := prog_1_method_8_code
def y_X_reading : MethodName := ⟨nR_X, "reading", "(II)I"⟩
abbrev c_L_lastReadingUpTo : ByteArray := prog_2_method_3_code
def y_L_lastReadingUpTo : MethodName := ⟨nR_L, "lastReadingUpTo", "(II)LSceneTimes$Note;"⟩
abbrev c_N_isReadingOf : ByteArray := prog_3_method_8_code
def y_N_isReadingOf : MethodName := ⟨nR_N, "isReadingOf", "(I)Z"⟩
abbrev c_L_firstReadingFrom : ByteArray := prog_2_method_4_code
def y_L_firstReadingFrom : MethodName := ⟨nR_L, "firstReadingFrom", "(II)LSceneTimes$Note;"⟩
abbrev c_X_valueBetween : ByteArray := prog_1_method_24_code
def y_X_valueBetween : MethodName := ⟨nR_X, "valueBetween", "(LSceneTimes$Note;LSceneTimes$Note;I)I"⟩
abbrev c_J_floorDiv : ByteArray := prog_13_method_47_code
def y_J_floorDiv : MethodName := ⟨nR_J, "floorDiv", "(II)I"⟩
abbrev c_W_gap : ByteArray := method_10_code
def y_W_gap : MethodName := ⟨nR_W, "gap", "(LSceneTimes;II[J)I"⟩
abbrev c_X_gap : ByteArray := prog_1_method_9_code
def y_X_gap : MethodName := ⟨nR_X, "gap", "(II)I"⟩
abbrev c_W_digest : ByteArray := method_11_code
def y_W_digest : MethodName := ⟨nR_W, "digest", "(LSceneTimes;I[J)I"⟩
abbrev c_X_digest : ByteArray := prog_1_method_10_code
def y_X_digest : MethodName := ⟨nR_X, "digest", "(I)I"⟩
abbrev c_W_noteAt : ByteArray := method_12_code
def y_W_noteAt : MethodName := ⟨nR_W, "noteAt", "(LSceneTimes;II[J)I"⟩
abbrev c_X_noteAt : ByteArray := prog_1_method_11_code
def y_X_noteAt : MethodName := ⟨nR_X, "noteAt", "(II)I"⟩
abbrev c_W_print : ByteArray := method_13_code
def y_W_print : MethodName := ⟨nR_W, "print", "(LSceneTimes;[J)I"⟩
abbrev c_X_print : ByteArray := prog_1_method_12_code
def y_X_print : MethodName := ⟨nR_X, "print", "()I"⟩
abbrev c_S_begin : ByteArray := prog_5_method_2_code
def y_S_begin : MethodName := ⟨nR_S, "begin", "(I)V"⟩
abbrev c_S_putNumber : ByteArray := prog_5_method_4_code
def y_S_putNumber : MethodName := ⟨nR_S, "putNumber", "(CI)V"⟩
abbrev c_S_put : ByteArray := prog_5_method_6_code
def y_S_put : MethodName := ⟨nR_S, "put", "(C)V"⟩
abbrev c_S_putDigits : ByteArray := prog_5_method_5_code
def y_S_putDigits : MethodName := ⟨nR_S, "putDigits", "(I)V"⟩
abbrev c_S_putRow : ByteArray := prog_5_method_3_code
def y_S_putRow : MethodName := ⟨nR_S, "putRow", "(LSceneTimes$Note;LSceneTimes$State;)V"⟩
abbrev c_J_abs : ByteArray := prog_13_method_59_code
def y_J_abs : MethodName := ⟨nR_J, "abs", "(I)I"⟩
abbrev c_W_at : ByteArray := method_14_code
def y_W_at : MethodName := ⟨nR_W, "at", "(LSceneTimes;I[J)I"⟩
abbrev c_X_at : ByteArray := prog_1_method_13_code
def y_X_at : MethodName := ⟨nR_X, "at", "(I)I"⟩
abbrev c_W_tick : ByteArray := method_15_code
def y_W_tick : MethodName := ⟨nR_W, "tick", "(LSceneTimes;I[J)I"⟩
abbrev c_X_tick : ByteArray := prog_1_method_14_code
def y_X_tick : MethodName := ⟨nR_X, "tick", "(I)I"⟩
abbrev c_W_count : ByteArray := method_16_code
def y_W_count : MethodName := ⟨nR_W, "count", "(LSceneTimes;I[J)I"⟩
abbrev c_X_count : ByteArray := prog_1_method_15_code
def y_X_count : MethodName := ⟨nR_X, "count", "(I)I"⟩
abbrev c_L_howManyStruck : ByteArray := prog_2_method_5_code
def y_L_howManyStruck : MethodName := ⟨nR_L, "howManyStruck", "()I"⟩
abbrev c_L_howManyWrittenLater : ByteArray := prog_2_method_6_code
def y_L_howManyWrittenLater : MethodName := ⟨nR_L, "howManyWrittenLater", "()I"⟩
abbrev c_M_init : ByteArray := prog_8_method_1_code
def y_M_init : MethodName := ⟨nR_M, "<init>", "()V"⟩
abbrev c_M_thrown : ByteArray := prog_8_method_2_code
def y_M_thrown : MethodName := ⟨nR_M, "thrown", "()I"⟩
abbrev c_M_writer : ByteArray := prog_8_method_7_code
def y_M_writer : MethodName := ⟨nR_M, "writer", "()I"⟩
abbrev c_M_goes : ByteArray := prog_8_method_4_code
def y_M_goes : MethodName := ⟨nR_M, "goes", "(IZZZZ)Z"⟩
abbrev c_M_note : ByteArray := prog_8_method_8_code
def y_M_note : MethodName := ⟨nR_M, "note", "(IIIII)I"⟩
abbrev c_M_in : ByteArray := prog_8_method_3_code
def y_M_in : MethodName := ⟨nR_M, "in", "(III)Z"⟩
abbrev c_M_isGone : ByteArray := prog_8_method_6_code
def y_M_isGone : MethodName := ⟨nR_M, "isGone", "(I)Z"⟩
abbrev c_M_correct : ByteArray := prog_8_method_13_code
def y_M_correct : MethodName := ⟨nR_M, "correct", "(II)I"⟩
abbrev c_M_isNote : ByteArray := prog_8_method_5_code
def y_M_isNote : MethodName := ⟨nR_M, "isNote", "(I)Z"⟩
abbrev c_M_isStruck : ByteArray := prog_8_method_10_code
def y_M_isStruck : MethodName := ⟨nR_M, "isStruck", "(II)Z"⟩
abbrev c_M_does : ByteArray := prog_8_method_11_code
def y_M_does : MethodName := ⟨nR_M, "does", "(III)V"⟩
abbrev c_M_many : ByteArray := prog_8_method_12_code
def y_M_many : MethodName := ⟨nR_M, "many", "(IZ)I"⟩
abbrev c_M_strike : ByteArray := prog_8_method_14_code
def y_M_strike : MethodName := ⟨nR_M, "strike", "(IZ)V"⟩
abbrev c_M_ask : ByteArray := prog_8_method_17_code
def y_M_ask : MethodName := ⟨nR_M, "ask", "(IIIII)I"⟩
abbrev c_M_following : ByteArray := prog_8_method_16_code
def y_M_following : MethodName := ⟨nR_M, "following", "(IZIII)I"⟩
abbrev c_M_isBefore : ByteArray := prog_8_method_15_code
def y_M_isBefore : MethodName := ⟨nR_M, "isBefore", "(II)Z"⟩
abbrev c_M_row : ByteArray := prog_8_method_18_code
def y_M_row : MethodName := ⟨nR_M, "row", "(II)I"⟩
abbrev c_M_value : ByteArray := prog_8_method_9_code
def y_M_value : MethodName := ⟨nR_M, "value", "(II)I"⟩
abbrev c_M_reading : ByteArray := prog_8_method_20_code
def y_M_reading : MethodName := ⟨nR_M, "reading", "(II)I"⟩
abbrev c_M_floor : ByteArray := prog_8_method_19_code
def y_M_floor : MethodName := ⟨nR_M, "floor", "(II)I"⟩
abbrev c_M_gap : ByteArray := prog_8_method_21_code
def y_M_gap : MethodName := ⟨nR_M, "gap", "(II)I"⟩
abbrev c_M_digest : ByteArray := prog_8_method_23_code
def y_M_digest : MethodName := ⟨nR_M, "digest", "(I)I"⟩
abbrev c_M_mix : ByteArray := prog_8_method_22_code
def y_M_mix : MethodName := ⟨nR_M, "mix", "(II)I"⟩
abbrev c_M_noteAt : ByteArray := prog_8_method_24_code
def y_M_noteAt : MethodName := ⟨nR_M, "noteAt", "(II)I"⟩
abbrev c_M_print : ByteArray := prog_8_method_27_code
def y_M_print : MethodName := ⟨nR_M, "print", "()I"⟩
abbrev c_M_number : ByteArray := prog_8_method_26_code
def y_M_number : MethodName := ⟨nR_M, "number", "(II)V"⟩
abbrev c_M_put : ByteArray := prog_8_method_25_code
def y_M_put : MethodName := ⟨nR_M, "put", "(I)V"⟩
abbrev c_M_at : ByteArray := prog_8_method_28_code
def y_M_at : MethodName := ⟨nR_M, "at", "(I)I"⟩
abbrev c_M_tick : ByteArray := prog_8_method_29_code
def y_M_tick : MethodName := ⟨nR_M, "tick", "(I)I"⟩
abbrev c_M_count : ByteArray := prog_8_method_30_code
def y_M_count : MethodName := ⟨nR_M, "count", "(I)I"⟩
abbrev c_W_law : ByteArray := code
def y_W_law : MethodName := ⟨nR_W, "law", "([I)Z"⟩
end
section
/-! the words of every method: the good ones of lw_tbl; each by its place -/
def AL : List Cond := lw_tbl.filter goodWord
theorem AL_good {w : Cond} (h : w ∈ AL) : (w.onTables && w.keeps) = true ∨ ∃ ty, w = .arrayClass ty := good_of_word (List.mem_filter.mp h).2
theorem AL_t {w : Cond} (h : w ∈ tables_1) (g : goodWord w = true) : w ∈ AL := List.mem_filter.mpr ⟨List.mem_append_right _ h, g⟩
theorem AL_s {w : Cond} (h : w ∈ k2_sels lw_privs) (g : goodWord w = true) : w ∈ AL := List.mem_filter.mpr ⟨List.mem_append_left _ h, g⟩
theorem tb_1 {w : Cond} (h : w ∈ tables_1_1) : w ∈ tables_1 := List.mem_append_left _ h
theorem tb_2 {w : Cond} (h : w ∈ tables_1_2) : w ∈ tables_1 := List.mem_append_right _ (List.mem_append_left _ h)
theorem tb_3 {w : Cond} (h : w ∈ tables_1_3) : w ∈ tables_1 := List.mem_append_right _ (List.mem_append_right _ (List.mem_append_left _ h))
theorem tb_4 {w : Cond} (h : w ∈ tables_1_4) : w ∈ tables_1 := List.mem_append_right _ (List.mem_append_right _ (List.mem_append_right _ h))
theorem aw_0 : Cond.initialized "SceneTimesLaw" ∈ AL := AL_t (tb_1 (List.mem_of_getElem? (i := 0) (by decide +kernel))) rfl
theorem aw_1 : Cond.initialized "SceneTimes" ∈ AL := AL_t (tb_1 (List.mem_of_getElem? (i := 1) (by decide +kernel))) rfl
theorem aw_2 : Cond.initialized "SceneTimes$Line" ∈ AL := AL_t (tb_1 (List.mem_of_getElem? (i := 2) (by decide +kernel))) rfl
theorem aw_3 : Cond.initialized "SceneTimes$Question" ∈ AL := AL_t (tb_1 (List.mem_of_getElem? (i := 3) (by decide +kernel))) rfl
theorem aw_4 : Cond.initialized "SceneTimes$Sheet" ∈ AL := AL_t (tb_1 (List.mem_of_getElem? (i := 4) (by decide +kernel))) rfl
theorem aw_5 : Cond.initialized "SceneTimesModel" ∈ AL := AL_t (tb_1 (List.mem_of_getElem? (i := 5) (by decide +kernel))) rfl
theorem aw_6 : Cond.initialized "java/lang/Throwable" ∈ AL := AL_t (tb_1 (List.mem_of_getElem? (i := 6) (by decide +kernel))) rfl
theorem aw_7 : Cond.initialized "java/lang/Exception" ∈ AL := AL_t (tb_1 (List.mem_of_getElem? (i := 7) (by decide +kernel))) rfl
theorem aw_8 : Cond.initialized "java/lang/RuntimeException" ∈ AL := AL_t (tb_1 (List.mem_of_getElem? (i := 8) (by decide +kernel))) rfl
theorem aw_9 : Cond.initialized "java/lang/UnsupportedOperationException" ∈ AL := AL_t (tb_1 (List.mem_of_getElem? (i := 9) (by decide +kernel))) rfl
theorem aw_10 : Cond.initialized "java/lang/IllegalArgumentException" ∈ AL := AL_t (tb_1 (List.mem_of_getElem? (i := 10) (by decide +kernel))) rfl
theorem aw_11 : Cond.initialized "java/lang/IndexOutOfBoundsException" ∈ AL := AL_t (tb_1 (List.mem_of_getElem? (i := 11) (by decide +kernel))) rfl
theorem aw_12 : Cond.initialized "SceneTimes$Note" ∈ AL := AL_t (tb_1 (List.mem_of_getElem? (i := 12) (by decide +kernel))) rfl
theorem aw_13 : Cond.initialized "SceneTimes$State" ∈ AL := AL_t (tb_1 (List.mem_of_getElem? (i := 13) (by decide +kernel))) rfl
theorem aw_14 : Cond.initialized "java/lang/IllegalStateException" ∈ AL := AL_t (tb_1 (List.mem_of_getElem? (i := 14) (by decide +kernel))) rfl
theorem aw_15 : Cond.initialized "java/lang/Math" ∈ AL := AL_t (tb_1 (List.mem_of_getElem? (i := 15) (by decide +kernel))) rfl
theorem aw_16 : Cond.classLink "SceneTimesLaw" 8 "SceneTimes" ∈ AL := AL_t (tb_1 (List.mem_of_getElem? (i := 16) (by decide +kernel))) rfl
theorem aw_17 : Cond.instantiable "SceneTimes" 6 ∈ AL := AL_t (tb_1 (List.mem_of_getElem? (i := 17) (by decide +kernel))) rfl
theorem aw_18 : Cond.methodLink "SceneTimesLaw" 64 ⟨"SceneTimes", "<init>", "()V"⟩ ∈ AL := AL_t (tb_1 (List.mem_of_getElem? (i := 18) (by decide +kernel))) rfl
theorem aw_19 : Cond.instanceMethod ⟨"SceneTimes", "<init>", "()V"⟩ ∈ AL := AL_t (tb_1 (List.mem_of_getElem? (i := 19) (by decide +kernel))) rfl
theorem aw_20 : Cond.code ⟨"SceneTimes", "<init>", "()V"⟩ prog_1_method_1_code 1 none ∈ AL := AL_t (tb_1 (List.mem_of_getElem? (i := 20) (rfl))) rfl
theorem aw_21 : Cond.methodLink "SceneTimes" 1 ⟨"java/lang/Object", "<init>", "()V"⟩ ∈ AL := AL_t (tb_1 (List.mem_of_getElem? (i := 21) (by decide +kernel))) rfl
theorem aw_22 : Cond.instanceMethod ⟨"java/lang/Object", "<init>", "()V"⟩ ∈ AL := AL_t (tb_1 (List.mem_of_getElem? (i := 22) (by decide +kernel))) rfl
theorem aw_23 : Cond.code ⟨"java/lang/Object", "<init>", "()V"⟩ object_method_1_code 1 none ∈ AL := AL_t (tb_1 (List.mem_of_getElem? (i := 23) (rfl))) rfl
theorem aw_24 : Cond.classLink "SceneTimes" 7 "SceneTimes$Line" ∈ AL := AL_t (tb_1 (List.mem_of_getElem? (i := 24) (by decide +kernel))) rfl
theorem aw_25 : Cond.instantiable "SceneTimes$Line" 3 ∈ AL := AL_t (tb_1 (List.mem_of_getElem? (i := 25) (by decide +kernel))) rfl
theorem aw_27 : Cond.instanceMethod ⟨"SceneTimes$Line", "<init>", "()V"⟩ ∈ AL := AL_t (tb_1 (List.mem_of_getElem? (i := 27) (by decide +kernel))) rfl
theorem aw_28 : Cond.code ⟨"SceneTimes$Line", "<init>", "()V"⟩ prog_2_method_1_code 1 none ∈ AL := AL_t (tb_1 (List.mem_of_getElem? (i := 28) (rfl))) rfl
theorem aw_29 : Cond.methodLink "SceneTimes$Line" 3 ⟨"java/lang/Object", "<init>", "()V"⟩ ∈ AL := AL_t (tb_1 (List.mem_of_getElem? (i := 29) (by decide +kernel))) rfl
theorem aw_30 : Cond.classLink "SceneTimes$Line" 9 "SceneTimes$Note" ∈ AL := AL_t (tb_1 (List.mem_of_getElem? (i := 30) (by decide +kernel))) rfl
theorem aw_32 : Cond.fieldLink "SceneTimes$Line" 11 "SceneTimes$Line" "byNumber" "[LSceneTimes$Note;" ∈ AL := AL_t (tb_1 (List.mem_of_getElem? (i := 32) (by decide +kernel))) rfl
theorem aw_33 : Cond.fieldLink "SceneTimes" 231 "SceneTimes$Line" "byNumber" "[LSceneTimes$Note;" ∈ AL := AL_t (tb_1 (List.mem_of_getElem? (i := 33) (by decide +kernel))) rfl
theorem aw_34 : Cond.fieldLink "SceneTimes$Line" 17 "SceneTimes$Line" "inOrder" "[LSceneTimes$Note;" ∈ AL := AL_t (tb_1 (List.mem_of_getElem? (i := 34) (by decide +kernel))) rfl
theorem aw_35 : Cond.fieldLink "SceneTimes" 135 "SceneTimes$Line" "inOrder" "[LSceneTimes$Note;" ∈ AL := AL_t (tb_1 (List.mem_of_getElem? (i := 35) (by decide +kernel))) rfl
theorem aw_36 : Cond.fieldLink "SceneTimes$Line" 20 "SceneTimes$Line" "size" "I" ∈ AL := AL_t (tb_1 (List.mem_of_getElem? (i := 36) (by decide +kernel))) rfl
theorem aw_37 : Cond.fieldLink "SceneTimes" 67 "SceneTimes$Line" "size" "I" ∈ AL := AL_t (tb_1 (List.mem_of_getElem? (i := 37) (by decide +kernel))) rfl
theorem aw_38 : Cond.laysFinal "SceneTimes$Line" "SceneTimes$Line" "byNumber" "[LSceneTimes$Note;" ∈ AL := AL_t (tb_1 (List.mem_of_getElem? (i := 38) (by decide +kernel))) rfl
theorem aw_39 : Cond.soleField "SceneTimes$Line" "byNumber" ∈ AL := AL_t (tb_1 (List.mem_of_getElem? (i := 39) (by decide +kernel))) rfl
theorem aw_40 : Cond.laysFinal "SceneTimes$Line" "SceneTimes$Line" "inOrder" "[LSceneTimes$Note;" ∈ AL := AL_t (tb_1 (List.mem_of_getElem? (i := 40) (by decide +kernel))) rfl
theorem aw_41 : Cond.soleField "SceneTimes$Line" "inOrder" ∈ AL := AL_t (tb_1 (List.mem_of_getElem? (i := 41) (by decide +kernel))) rfl
theorem aw_42 : Cond.lays "SceneTimes$Line" "SceneTimes$Line" "size" "I" ∈ AL := AL_t (tb_1 (List.mem_of_getElem? (i := 42) (by decide +kernel))) rfl
theorem aw_43 : Cond.soleField "SceneTimes$Line" "size" ∈ AL := AL_t (tb_1 (List.mem_of_getElem? (i := 43) (by decide +kernel))) rfl
theorem aw_44 : Cond.superclass "SceneTimes$Line" "java/lang/Object" ∈ AL := AL_t (tb_1 (List.mem_of_getElem? (i := 44) (by decide +kernel))) rfl
theorem aw_45 : Cond.classLink "SceneTimes" 16 "SceneTimes$Question" ∈ AL := AL_t (tb_1 (List.mem_of_getElem? (i := 45) (by decide +kernel))) rfl
theorem aw_46 : Cond.instantiable "SceneTimes$Question" 4 ∈ AL := AL_t (tb_1 (List.mem_of_getElem? (i := 46) (by decide +kernel))) rfl
theorem aw_48 : Cond.instanceMethod ⟨"SceneTimes$Question", "<init>", "()V"⟩ ∈ AL := AL_t (tb_1 (List.mem_of_getElem? (i := 48) (by decide +kernel))) rfl
theorem aw_49 : Cond.code ⟨"SceneTimes$Question", "<init>", "()V"⟩ prog_4_method_1_code 1 none ∈ AL := AL_t (tb_1 (List.mem_of_getElem? (i := 49) (rfl))) rfl
theorem aw_50 : Cond.methodLink "SceneTimes$Question" 3 ⟨"java/lang/Object", "<init>", "()V"⟩ ∈ AL := AL_t (tb_1 (List.mem_of_getElem? (i := 50) (by decide +kernel))) rfl
theorem aw_51 : Cond.classLink "SceneTimes$Question" 9 "SceneTimes$Note" ∈ AL := AL_t (tb_1 (List.mem_of_getElem? (i := 51) (by decide +kernel))) rfl
theorem aw_52 : Cond.fieldLink "SceneTimes$Question" 11 "SceneTimes$Question" "rows" "[LSceneTimes$Note;" ∈ AL := AL_t (tb_1 (List.mem_of_getElem? (i := 52) (by decide +kernel))) rfl
theorem aw_53 : Cond.fieldLink "SceneTimes" 156 "SceneTimes$Question" "rows" "[LSceneTimes$Note;" ∈ AL := AL_t (tb_1 (List.mem_of_getElem? (i := 53) (by decide +kernel))) rfl
theorem aw_54 : Cond.fieldLink "SceneTimes$Question" 25 "SceneTimes$Question" "size" "I" ∈ AL := AL_t (tb_1 (List.mem_of_getElem? (i := 54) (by decide +kernel))) rfl
theorem aw_55 : Cond.fieldLink "SceneTimes" 153 "SceneTimes$Question" "size" "I" ∈ AL := AL_t (tb_1 (List.mem_of_getElem? (i := 55) (by decide +kernel))) rfl
theorem aw_56 : Cond.fieldLink "SceneTimes$Question" 21 "SceneTimes$Question" "known" "I" ∈ AL := AL_t (tb_1 (List.mem_of_getElem? (i := 56) (by decide +kernel))) rfl
theorem aw_57 : Cond.fieldLink "SceneTimes" 160 "SceneTimes$Question" "known" "I" ∈ AL := AL_t (tb_1 (List.mem_of_getElem? (i := 57) (by decide +kernel))) rfl
theorem aw_58 : Cond.fieldLink "SceneTimes$Question" 17 "SceneTimes$Question" "asked" "Z" ∈ AL := AL_t (tb_1 (List.mem_of_getElem? (i := 58) (by decide +kernel))) rfl
theorem aw_59 : Cond.fieldLink "SceneTimes" 203 "SceneTimes$Question" "asked" "Z" ∈ AL := AL_t (tb_1 (List.mem_of_getElem? (i := 59) (by decide +kernel))) rfl
theorem aw_60 : Cond.laysFinal "SceneTimes$Question" "SceneTimes$Question" "rows" "[LSceneTimes$Note;" ∈ AL := AL_t (tb_1 (List.mem_of_getElem? (i := 60) (by decide +kernel))) rfl
theorem aw_61 : Cond.soleField "SceneTimes$Question" "rows" ∈ AL := AL_t (tb_1 (List.mem_of_getElem? (i := 61) (by decide +kernel))) rfl
theorem aw_62 : Cond.lays "SceneTimes$Question" "SceneTimes$Question" "size" "I" ∈ AL := AL_t (tb_1 (List.mem_of_getElem? (i := 62) (by decide +kernel))) rfl
theorem aw_63 : Cond.soleField "SceneTimes$Question" "size" ∈ AL := AL_t (tb_1 (List.mem_of_getElem? (i := 63) (by decide +kernel))) rfl
theorem aw_64 : Cond.lays "SceneTimes$Question" "SceneTimes$Question" "known" "I" ∈ AL := AL_t (tb_1 (List.mem_of_getElem? (i := 64) (by decide +kernel))) rfl
theorem aw_65 : Cond.soleField "SceneTimes$Question" "known" ∈ AL := AL_t (tb_1 (List.mem_of_getElem? (i := 65) (by decide +kernel))) rfl
theorem aw_66 : Cond.lays "SceneTimes$Question" "SceneTimes$Question" "asked" "Z" ∈ AL := AL_t (tb_1 (List.mem_of_getElem? (i := 66) (by decide +kernel))) rfl
theorem aw_67 : Cond.soleField "SceneTimes$Question" "asked" ∈ AL := AL_t (tb_1 (List.mem_of_getElem? (i := 67) (by decide +kernel))) rfl
theorem aw_68 : Cond.superclass "SceneTimes$Question" "java/lang/Object" ∈ AL := AL_t (tb_1 (List.mem_of_getElem? (i := 68) (by decide +kernel))) rfl
theorem aw_69 : Cond.classLink "SceneTimes" 23 "SceneTimes$Sheet" ∈ AL := AL_t (tb_1 (List.mem_of_getElem? (i := 69) (by decide +kernel))) rfl
theorem aw_70 : Cond.instantiable "SceneTimes$Sheet" 2 ∈ AL := AL_t (tb_1 (List.mem_of_getElem? (i := 70) (by decide +kernel))) rfl
theorem aw_72 : Cond.instanceMethod ⟨"SceneTimes$Sheet", "<init>", "()V"⟩ ∈ AL := AL_t (tb_1 (List.mem_of_getElem? (i := 72) (by decide +kernel))) rfl
theorem aw_73 : Cond.code ⟨"SceneTimes$Sheet", "<init>", "()V"⟩ prog_5_method_1_code 1 none ∈ AL := AL_t (tb_1 (List.mem_of_getElem? (i := 73) (rfl))) rfl
theorem aw_74 : Cond.methodLink "SceneTimes$Sheet" 3 ⟨"java/lang/Object", "<init>", "()V"⟩ ∈ AL := AL_t (tb_1 (List.mem_of_getElem? (i := 74) (by decide +kernel))) rfl
theorem aw_75 : Cond.fieldLink "SceneTimes$Sheet" 11 "SceneTimes$Sheet" "bytes" "[B" ∈ AL := AL_t (tb_1 (List.mem_of_getElem? (i := 75) (by decide +kernel))) rfl
theorem aw_76 : Cond.fieldLink "SceneTimes" 216 "SceneTimes$Sheet" "bytes" "[B" ∈ AL := AL_t (tb_1 (List.mem_of_getElem? (i := 76) (by decide +kernel))) rfl
theorem aw_77 : Cond.fieldLink "SceneTimes$Sheet" 15 "SceneTimes$Sheet" "size" "I" ∈ AL := AL_t (tb_1 (List.mem_of_getElem? (i := 77) (by decide +kernel))) rfl
theorem aw_78 : Cond.fieldLink "SceneTimes" 213 "SceneTimes$Sheet" "size" "I" ∈ AL := AL_t (tb_1 (List.mem_of_getElem? (i := 78) (by decide +kernel))) rfl
theorem aw_79 : Cond.laysFinal "SceneTimes$Sheet" "SceneTimes$Sheet" "bytes" "[B" ∈ AL := AL_t (tb_1 (List.mem_of_getElem? (i := 79) (by decide +kernel))) rfl
theorem aw_80 : Cond.soleField "SceneTimes$Sheet" "bytes" ∈ AL := AL_t (tb_1 (List.mem_of_getElem? (i := 80) (by decide +kernel))) rfl
theorem aw_81 : Cond.lays "SceneTimes$Sheet" "SceneTimes$Sheet" "size" "I" ∈ AL := AL_t (tb_1 (List.mem_of_getElem? (i := 81) (by decide +kernel))) rfl
theorem aw_82 : Cond.soleField "SceneTimes$Sheet" "size" ∈ AL := AL_t (tb_1 (List.mem_of_getElem? (i := 82) (by decide +kernel))) rfl
theorem aw_83 : Cond.superclass "SceneTimes$Sheet" "java/lang/Object" ∈ AL := AL_t (tb_1 (List.mem_of_getElem? (i := 83) (by decide +kernel))) rfl
theorem aw_84 : Cond.arrayClass .byte ∈ AL := AL_t (tb_1 (List.mem_of_getElem? (i := 84) (by decide +kernel))) rfl
theorem aw_85 : Cond.fieldLink "SceneTimes" 10 "SceneTimes" "line" "LSceneTimes$Line;" ∈ AL := AL_t (tb_1 (List.mem_of_getElem? (i := 85) (by decide +kernel))) rfl
theorem aw_86 : Cond.fieldLink "SceneTimes" 19 "SceneTimes" "question" "LSceneTimes$Question;" ∈ AL := AL_t (tb_1 (List.mem_of_getElem? (i := 86) (by decide +kernel))) rfl
theorem aw_87 : Cond.fieldLink "SceneTimes" 26 "SceneTimes" "sheet" "LSceneTimes$Sheet;" ∈ AL := AL_t (tb_1 (List.mem_of_getElem? (i := 87) (by decide +kernel))) rfl
theorem aw_88 : Cond.fieldLink "SceneTimes" 74 "SceneTimes" "second" "I" ∈ AL := AL_t (tb_1 (List.mem_of_getElem? (i := 88) (by decide +kernel))) rfl
theorem aw_89 : Cond.fieldLink "SceneTimes" 30 "SceneTimes" "writers" "I" ∈ AL := AL_t (tb_1 (List.mem_of_getElem? (i := 89) (by decide +kernel))) rfl
theorem aw_90 : Cond.fieldLink "SceneTimes" 115 "SceneTimes" "acts" "I" ∈ AL := AL_t (tb_1 (List.mem_of_getElem? (i := 90) (by decide +kernel))) rfl
theorem aw_91 : Cond.laysFinal "SceneTimes" "SceneTimes" "line" "LSceneTimes$Line;" ∈ AL := AL_t (tb_1 (List.mem_of_getElem? (i := 91) (by decide +kernel))) rfl
theorem aw_92 : Cond.soleField "SceneTimes" "line" ∈ AL := AL_t (tb_1 (List.mem_of_getElem? (i := 92) (by decide +kernel))) rfl
theorem aw_93 : Cond.laysFinal "SceneTimes" "SceneTimes" "question" "LSceneTimes$Question;" ∈ AL := AL_t (tb_1 (List.mem_of_getElem? (i := 93) (by decide +kernel))) rfl
theorem aw_94 : Cond.soleField "SceneTimes" "question" ∈ AL := AL_t (tb_1 (List.mem_of_getElem? (i := 94) (by decide +kernel))) rfl
theorem aw_95 : Cond.laysFinal "SceneTimes" "SceneTimes" "sheet" "LSceneTimes$Sheet;" ∈ AL := AL_t (tb_1 (List.mem_of_getElem? (i := 95) (by decide +kernel))) rfl
theorem aw_96 : Cond.soleField "SceneTimes" "sheet" ∈ AL := AL_t (tb_1 (List.mem_of_getElem? (i := 96) (by decide +kernel))) rfl
theorem aw_97 : Cond.lays "SceneTimes" "SceneTimes" "second" "I" ∈ AL := AL_t (tb_1 (List.mem_of_getElem? (i := 97) (by decide +kernel))) rfl
theorem aw_98 : Cond.soleField "SceneTimes" "second" ∈ AL := AL_t (tb_1 (List.mem_of_getElem? (i := 98) (by decide +kernel))) rfl
theorem aw_99 : Cond.lays "SceneTimes" "SceneTimes" "writers" "I" ∈ AL := AL_t (tb_1 (List.mem_of_getElem? (i := 99) (by decide +kernel))) rfl
theorem aw_100 : Cond.soleField "SceneTimes" "writers" ∈ AL := AL_t (tb_1 (List.mem_of_getElem? (i := 100) (by decide +kernel))) rfl
theorem aw_101 : Cond.lays "SceneTimes" "SceneTimes" "acts" "I" ∈ AL := AL_t (tb_1 (List.mem_of_getElem? (i := 101) (by decide +kernel))) rfl
theorem aw_102 : Cond.soleField "SceneTimes" "acts" ∈ AL := AL_t (tb_1 (List.mem_of_getElem? (i := 102) (by decide +kernel))) rfl
theorem aw_103 : Cond.superclass "SceneTimes" "java/lang/Object" ∈ AL := AL_t (tb_1 (List.mem_of_getElem? (i := 103) (by decide +kernel))) rfl
theorem aw_104 : Cond.methodLink "SceneTimesLaw" 68 ⟨"SceneTimesLaw", "writer", "(LSceneTimes;[J)I"⟩ ∈ AL := AL_t (tb_1 (List.mem_of_getElem? (i := 104) (by decide +kernel))) rfl
theorem aw_105 : Cond.static ⟨"SceneTimesLaw", "writer", "(LSceneTimes;[J)I"⟩ ∈ AL := AL_t (tb_1 (List.mem_of_getElem? (i := 105) (by decide +kernel))) rfl
theorem aw_106 : Cond.codeWith ⟨"SceneTimesLaw", "writer", "(LSceneTimes;[J)I"⟩ method_3_code 3 (some .int) [(0, 8, 11, 13)] ∈ AL := AL_t (tb_1 (List.mem_of_getElem? (i := 106) (rfl))) rfl
theorem aw_107 : Cond.classLink "SceneTimesLaw" 13 "java/lang/UnsupportedOperationException" ∈ AL := AL_t (tb_1 (List.mem_of_getElem? (i := 107) (by decide +kernel))) rfl
theorem aw_108 : Cond.methodLink "SceneTimesLaw" 7 ⟨"SceneTimes", "writer", "()I"⟩ ∈ AL := AL_t (tb_1 (List.mem_of_getElem? (i := 108) (by decide +kernel))) rfl
theorem aw_109 : Cond.instanceMethod ⟨"SceneTimes", "writer", "()I"⟩ ∈ AL := AL_t (tb_1 (List.mem_of_getElem? (i := 109) (by decide +kernel))) rfl
theorem aw_110 : Cond.selects "SceneTimes" ⟨"SceneTimes", "writer", "()I"⟩ ⟨"SceneTimes", "writer", "()I"⟩ ∈ AL := AL_t (tb_1 (List.mem_of_getElem? (i := 110) (by decide +kernel))) rfl
theorem aw_111 : Cond.code ⟨"SceneTimes", "writer", "()I"⟩ prog_1_method_2_code 1 (some .int) ∈ AL := AL_t (tb_1 (List.mem_of_getElem? (i := 111) (rfl))) rfl
theorem aw_112 : Cond.classLink "SceneTimes" 34 "java/lang/UnsupportedOperationException" ∈ AL := AL_t (tb_1 (List.mem_of_getElem? (i := 112) (by decide +kernel))) rfl
theorem aw_113 : Cond.instantiable "java/lang/UnsupportedOperationException" 6 ∈ AL := AL_t (tb_1 (List.mem_of_getElem? (i := 113) (by decide +kernel))) rfl
theorem aw_121 : Cond.selects "java/lang/UnsupportedOperationException" ⟨"java/lang/Throwable", "fillInStackTrace", "(I)Ljava/lang/Throwable;"⟩ ⟨"java/lang/Throwable", "fillInStackTrace", "(I)Ljava/lang/Throwable;"⟩ ∈ AL := AL_t (tb_1 (List.mem_of_getElem? (i := 121) (by decide +kernel))) rfl
theorem aw_122 : Cond.selects "java/lang/UnsupportedOperationException" ⟨"java/lang/Throwable", "fillInStackTrace", "()Ljava/lang/Throwable;"⟩ ⟨"java/lang/Throwable", "fillInStackTrace", "()Ljava/lang/Throwable;"⟩ ∈ AL := AL_t (tb_1 (List.mem_of_getElem? (i := 122) (by decide +kernel))) rfl
theorem aw_123 : Cond.lays "java/lang/UnsupportedOperationException" "java/lang/Throwable" "cause" "Ljava/lang/Throwable;" ∈ AL := AL_t (tb_1 (List.mem_of_getElem? (i := 123) (by decide +kernel))) rfl
theorem aw_124 : Cond.lays "java/lang/Throwable" "java/lang/Throwable" "cause" "Ljava/lang/Throwable;" ∈ AL := AL_t (tb_1 (List.mem_of_getElem? (i := 124) (by decide +kernel))) rfl
theorem aw_125 : Cond.lays "java/lang/UnsupportedOperationException" "java/lang/Throwable" "stackTrace" "[Ljava/lang/StackTraceElement;" ∈ AL := AL_t (tb_1 (List.mem_of_getElem? (i := 125) (by decide +kernel))) rfl
theorem aw_126 : Cond.lays "java/lang/Throwable" "java/lang/Throwable" "stackTrace" "[Ljava/lang/StackTraceElement;" ∈ AL := AL_t (tb_1 (List.mem_of_getElem? (i := 126) (by decide +kernel))) rfl
theorem aw_127 : Cond.lays "java/lang/UnsupportedOperationException" "java/lang/Throwable" "suppressedExceptions" "Ljava/util/List;" ∈ AL := AL_t (tb_1 (List.mem_of_getElem? (i := 127) (by decide +kernel))) rfl
theorem aw_128 : Cond.lays "java/lang/Throwable" "java/lang/Throwable" "suppressedExceptions" "Ljava/util/List;" ∈ AL := AL_t (tb_1 (List.mem_of_getElem? (i := 128) (by decide +kernel))) rfl
theorem aw_129 : Cond.lays "java/lang/UnsupportedOperationException" "java/lang/Throwable" "detailMessage" "Ljava/lang/String;" ∈ AL := AL_t (tb_1 (List.mem_of_getElem? (i := 129) (by decide +kernel))) rfl
theorem aw_130 : Cond.lays "java/lang/Throwable" "java/lang/Throwable" "detailMessage" "Ljava/lang/String;" ∈ AL := AL_t (tb_1 (List.mem_of_getElem? (i := 130) (by decide +kernel))) rfl
theorem aw_131 : Cond.lays "java/lang/UnsupportedOperationException" "java/lang/Throwable" "backtrace" "Ljava/lang/Object;" ∈ AL := AL_t (tb_1 (List.mem_of_getElem? (i := 131) (by decide +kernel))) rfl
theorem aw_132 : Cond.lays "java/lang/Throwable" "java/lang/Throwable" "backtrace" "Ljava/lang/Object;" ∈ AL := AL_t (tb_1 (List.mem_of_getElem? (i := 132) (by decide +kernel))) rfl
theorem aw_133 : Cond.fieldLink "java/lang/Throwable" 198 "java/lang/Throwable" "backtrace" "Ljava/lang/Object;" ∈ AL := AL_t (tb_1 (List.mem_of_getElem? (i := 133) (by decide +kernel))) rfl
theorem aw_134 : Cond.superclass "java/lang/Throwable" "java/lang/Object" ∈ AL := AL_t (tb_1 (List.mem_of_getElem? (i := 134) (by decide +kernel))) rfl
theorem aw_135 : Cond.instanceMethod ⟨"java/lang/Throwable", "<init>", "()V"⟩ ∈ AL := AL_t (tb_1 (List.mem_of_getElem? (i := 135) (by decide +kernel))) rfl
theorem aw_136 : Cond.code ⟨"java/lang/Throwable", "<init>", "()V"⟩ prog_16_method_1_code 1 none ∈ AL := AL_t (tb_1 (List.mem_of_getElem? (i := 136) (rfl))) rfl
theorem aw_137 : Cond.methodLink "java/lang/Throwable" 1 ⟨"java/lang/Object", "<init>", "()V"⟩ ∈ AL := AL_t (tb_1 (List.mem_of_getElem? (i := 137) (by decide +kernel))) rfl
theorem aw_138 : Cond.fieldLink "java/lang/Throwable" 13 "java/lang/Throwable" "UNASSIGNED_STACK" "[Ljava/lang/StackTraceElement;" ∈ AL := AL_t (tb_1 (List.mem_of_getElem? (i := 138) (by decide +kernel))) rfl
theorem aw_140 : Cond.fieldLink "java/lang/Throwable" 20 "java/lang/Throwable" "SUPPRESSED_SENTINEL" "Ljava/util/List;" ∈ AL := AL_t (tb_1 (List.mem_of_getElem? (i := 140) (by decide +kernel))) rfl
theorem aw_142 : Cond.methodLink "java/lang/Throwable" 27 ⟨"java/lang/Throwable", "fillInStackTrace", "()Ljava/lang/Throwable;"⟩ ∈ AL := AL_t (tb_1 (List.mem_of_getElem? (i := 142) (by decide +kernel))) rfl
theorem aw_143 : Cond.instanceMethod ⟨"java/lang/Throwable", "fillInStackTrace", "()Ljava/lang/Throwable;"⟩ ∈ AL := AL_t (tb_1 (List.mem_of_getElem? (i := 143) (by decide +kernel))) rfl
theorem aw_144 : Cond.sameMethod "java/lang/Throwable" "java/lang/Throwable" "fillInStackTrace" "()Ljava/lang/Throwable;" ∈ AL := AL_t (tb_1 (List.mem_of_getElem? (i := 144) (by decide +kernel))) rfl
theorem aw_145 : Cond.selects "java/lang/IllegalArgumentException" ⟨"java/lang/Throwable", "fillInStackTrace", "()Ljava/lang/Throwable;"⟩ ⟨"java/lang/Throwable", "fillInStackTrace", "()Ljava/lang/Throwable;"⟩ ∈ AL := AL_t (tb_1 (List.mem_of_getElem? (i := 145) (by decide +kernel))) rfl
theorem aw_146 : Cond.selects "java/lang/IllegalStateException" ⟨"java/lang/Throwable", "fillInStackTrace", "()Ljava/lang/Throwable;"⟩ ⟨"java/lang/Throwable", "fillInStackTrace", "()Ljava/lang/Throwable;"⟩ ∈ AL := AL_t (tb_1 (List.mem_of_getElem? (i := 146) (by decide +kernel))) rfl
theorem aw_147 : Cond.selects "java/lang/IndexOutOfBoundsException" ⟨"java/lang/Throwable", "fillInStackTrace", "()Ljava/lang/Throwable;"⟩ ⟨"java/lang/Throwable", "fillInStackTrace", "()Ljava/lang/Throwable;"⟩ ∈ AL := AL_t (tb_1 (List.mem_of_getElem? (i := 147) (by decide +kernel))) rfl
theorem aw_148 : Cond.codeSync ⟨"java/lang/Throwable", "fillInStackTrace", "()Ljava/lang/Throwable;"⟩ prog_16_method_18_code 1 (some (.object "java/lang/Throwable")) ∈ AL := AL_t (tb_1 (List.mem_of_getElem? (i := 148) (rfl))) rfl
theorem aw_149 : Cond.methodLink "java/lang/Throwable" 202 ⟨"java/lang/Throwable", "fillInStackTrace", "(I)Ljava/lang/Throwable;"⟩ ∈ AL := AL_t (tb_1 (List.mem_of_getElem? (i := 149) (by decide +kernel))) rfl
theorem aw_151 : Cond.instanceMethod ⟨"java/lang/Throwable", "fillInStackTrace", "(I)Ljava/lang/Throwable;"⟩ ∈ AL := AL_t (tb_1 (List.mem_of_getElem? (i := 151) (by decide +kernel))) rfl
theorem aw_152 : Cond.instantiable "java/lang/Throwable" 6 ∈ AL := AL_t (tb_1 (List.mem_of_getElem? (i := 152) (by decide +kernel))) rfl
theorem aw_153 : Cond.native ⟨"java/lang/Throwable", "fillInStackTrace", "(I)Ljava/lang/Throwable;"⟩ ∈ AL := AL_t (tb_1 (List.mem_of_getElem? (i := 153) (by decide +kernel))) rfl
theorem aw_155 : Cond.methodLink "SceneTimes" 38 ⟨"java/lang/UnsupportedOperationException", "<init>", "(Ljava/lang/String;)V"⟩ ∈ AL := AL_t (tb_1 (List.mem_of_getElem? (i := 155) (by decide +kernel))) rfl
theorem aw_156 : Cond.instanceMethod ⟨"java/lang/UnsupportedOperationException", "<init>", "(Ljava/lang/String;)V"⟩ ∈ AL := AL_t (tb_1 (List.mem_of_getElem? (i := 156) (by decide +kernel))) rfl
theorem aw_157 : Cond.code ⟨"java/lang/UnsupportedOperationException", "<init>", "(Ljava/lang/String;)V"⟩ prog_17_method_2_code 2 none ∈ AL := AL_t (tb_1 (List.mem_of_getElem? (i := 157) (rfl))) rfl
theorem aw_158 : Cond.methodLink "java/lang/UnsupportedOperationException" 7 ⟨"java/lang/RuntimeException", "<init>", "(Ljava/lang/String;)V"⟩ ∈ AL := AL_t (tb_1 (List.mem_of_getElem? (i := 158) (by decide +kernel))) rfl
theorem aw_159 : Cond.instanceMethod ⟨"java/lang/RuntimeException", "<init>", "(Ljava/lang/String;)V"⟩ ∈ AL := AL_t (tb_1 (List.mem_of_getElem? (i := 159) (by decide +kernel))) rfl
theorem aw_160 : Cond.code ⟨"java/lang/RuntimeException", "<init>", "(Ljava/lang/String;)V"⟩ prog_14_method_2_code 2 none ∈ AL := AL_t (tb_1 (List.mem_of_getElem? (i := 160) (rfl))) rfl
theorem aw_161 : Cond.methodLink "java/lang/RuntimeException" 7 ⟨"java/lang/Exception", "<init>", "(Ljava/lang/String;)V"⟩ ∈ AL := AL_t (tb_1 (List.mem_of_getElem? (i := 161) (by decide +kernel))) rfl
theorem aw_162 : Cond.instanceMethod ⟨"java/lang/Exception", "<init>", "(Ljava/lang/String;)V"⟩ ∈ AL := AL_t (tb_1 (List.mem_of_getElem? (i := 162) (by decide +kernel))) rfl
theorem aw_163 : Cond.code ⟨"java/lang/Exception", "<init>", "(Ljava/lang/String;)V"⟩ prog_9_method_2_code 2 none ∈ AL := AL_t (tb_1 (List.mem_of_getElem? (i := 163) (rfl))) rfl
theorem aw_164 : Cond.methodLink "java/lang/Exception" 7 ⟨"java/lang/Throwable", "<init>", "(Ljava/lang/String;)V"⟩ ∈ AL := AL_t (tb_1 (List.mem_of_getElem? (i := 164) (by decide +kernel))) rfl
theorem aw_165 : Cond.instanceMethod ⟨"java/lang/Throwable", "<init>", "(Ljava/lang/String;)V"⟩ ∈ AL := AL_t (tb_1 (List.mem_of_getElem? (i := 165) (by decide +kernel))) rfl
theorem aw_166 : Cond.code ⟨"java/lang/Throwable", "<init>", "(Ljava/lang/String;)V"⟩ prog_16_method_2_code 2 none ∈ AL := AL_t (tb_1 (List.mem_of_getElem? (i := 166) (rfl))) rfl
theorem aw_167 : Cond.fieldLink "java/lang/Throwable" 198 "java/lang/Throwable" "backtrace" "Ljava/lang/Object;" ∈ AL := AL_t (tb_1 (List.mem_of_getElem? (i := 167) (by decide +kernel))) rfl
theorem aw_168 : Cond.fieldLink "java/lang/Throwable" 31 "java/lang/Throwable" "detailMessage" "Ljava/lang/String;" ∈ AL := AL_t (tb_1 (List.mem_of_getElem? (i := 168) (by decide +kernel))) rfl
theorem aw_169 : Cond.fieldLink "java/lang/Throwable" 7 "java/lang/Throwable" "cause" "Ljava/lang/Throwable;" ∈ AL := AL_t (tb_1 (List.mem_of_getElem? (i := 169) (by decide +kernel))) rfl
theorem aw_170 : Cond.fieldLink "java/lang/Throwable" 17 "java/lang/Throwable" "stackTrace" "[Ljava/lang/StackTraceElement;" ∈ AL := AL_t (tb_1 (List.mem_of_getElem? (i := 170) (by decide +kernel))) rfl
theorem aw_171 : Cond.fieldLink "java/lang/Throwable" 24 "java/lang/Throwable" "suppressedExceptions" "Ljava/util/List;" ∈ AL := AL_t (tb_1 (List.mem_of_getElem? (i := 171) (by decide +kernel))) rfl
theorem aw_172 : Cond.soleField "java/lang/Throwable" "backtrace" ∈ AL := AL_t (tb_1 (List.mem_of_getElem? (i := 172) (by decide +kernel))) rfl
theorem aw_173 : Cond.soleField "java/lang/Throwable" "detailMessage" ∈ AL := AL_t (tb_1 (List.mem_of_getElem? (i := 173) (by decide +kernel))) rfl
theorem aw_174 : Cond.soleField "java/lang/Throwable" "cause" ∈ AL := AL_t (tb_1 (List.mem_of_getElem? (i := 174) (by decide +kernel))) rfl
theorem aw_175 : Cond.soleField "java/lang/Throwable" "stackTrace" ∈ AL := AL_t (tb_1 (List.mem_of_getElem? (i := 175) (by decide +kernel))) rfl
theorem aw_176 : Cond.lays "java/lang/UnsupportedOperationException" "java/lang/Throwable" "depth" "I" ∈ AL := AL_t (tb_1 (List.mem_of_getElem? (i := 176) (by decide +kernel))) rfl
theorem aw_177 : Cond.soleField "java/lang/Throwable" "depth" ∈ AL := AL_t (tb_1 (List.mem_of_getElem? (i := 177) (by decide +kernel))) rfl
theorem aw_178 : Cond.soleField "java/lang/Throwable" "suppressedExceptions" ∈ AL := AL_t (tb_1 (List.mem_of_getElem? (i := 178) (by decide +kernel))) rfl
theorem aw_179 : Cond.superclass "java/lang/UnsupportedOperationException" "java/lang/RuntimeException" ∈ AL := AL_t (tb_1 (List.mem_of_getElem? (i := 179) (by decide +kernel))) rfl
theorem aw_180 : Cond.methodLink "SceneTimesLaw" 77 ⟨"SceneTimesLaw", "note", "(LSceneTimes;IIIII[J)I"⟩ ∈ AL := AL_t (tb_1 (List.mem_of_getElem? (i := 180) (by decide +kernel))) rfl
theorem aw_181 : Cond.static ⟨"SceneTimesLaw", "note", "(LSceneTimes;IIIII[J)I"⟩ ∈ AL := AL_t (tb_1 (List.mem_of_getElem? (i := 181) (by decide +kernel))) rfl
theorem aw_182 : Cond.codeWith ⟨"SceneTimesLaw", "note", "(LSceneTimes;IIIII[J)I"⟩ method_4_code 8 (some .int) [(0, 16, 19, 19), (0, 16, 23, 21), (0, 16, 27, 13)] ∈ AL := AL_t (tb_1 (List.mem_of_getElem? (i := 182) (rfl))) rfl
theorem aw_183 : Cond.classLink "SceneTimesLaw" 19 "java/lang/IllegalArgumentException" ∈ AL := AL_t (tb_1 (List.mem_of_getElem? (i := 183) (by decide +kernel))) rfl
theorem aw_184 : Cond.classLink "SceneTimesLaw" 21 "java/lang/IndexOutOfBoundsException" ∈ AL := AL_t (tb_1 (List.mem_of_getElem? (i := 184) (by decide +kernel))) rfl
theorem aw_185 : Cond.methodLink "SceneTimesLaw" 15 ⟨"SceneTimes", "note", "(IIIII)I"⟩ ∈ AL := AL_t (tb_1 (List.mem_of_getElem? (i := 185) (by decide +kernel))) rfl
theorem aw_186 : Cond.instanceMethod ⟨"SceneTimes", "note", "(IIIII)I"⟩ ∈ AL := AL_t (tb_1 (List.mem_of_getElem? (i := 186) (by decide +kernel))) rfl
theorem aw_187 : Cond.selects "SceneTimes" ⟨"SceneTimes", "note", "(IIIII)I"⟩ ⟨"SceneTimes", "note", "(IIIII)I"⟩ ∈ AL := AL_t (tb_1 (List.mem_of_getElem? (i := 187) (by decide +kernel))) rfl
theorem aw_188 : Cond.code ⟨"SceneTimes", "note", "(IIIII)I"⟩ prog_1_method_3_code 7 (some .int) ∈ AL := AL_t (tb_1 (List.mem_of_getElem? (i := 188) (rfl))) rfl
theorem aw_189 : Cond.methodLink "SceneTimes" 41 ⟨"SceneTimes", "isWriter", "(I)Z"⟩ ∈ AL := AL_t (tb_1 (List.mem_of_getElem? (i := 189) (by decide +kernel))) rfl
theorem aw_191 : Cond.instanceMethod ⟨"SceneTimes", "isWriter", "(I)Z"⟩ ∈ AL := AL_t (tb_1 (List.mem_of_getElem? (i := 191) (by decide +kernel))) rfl
theorem aw_192 : Cond.code ⟨"SceneTimes", "isWriter", "(I)Z"⟩ prog_1_method_16_code 2 (some .boolean) ∈ AL := AL_t (tb_1 (List.mem_of_getElem? (i := 192) (rfl))) rfl
theorem aw_193 : Cond.methodLink "SceneTimes" 45 ⟨"SceneTimes", "isKind", "(I)Z"⟩ ∈ AL := AL_t (tb_1 (List.mem_of_getElem? (i := 193) (by decide +kernel))) rfl
theorem aw_194 : Cond.static ⟨"SceneTimes", "isKind", "(I)Z"⟩ ∈ AL := AL_t (tb_1 (List.mem_of_getElem? (i := 194) (by decide +kernel))) rfl
theorem aw_195 : Cond.code ⟨"SceneTimes", "isKind", "(I)Z"⟩ prog_1_method_17_code 1 (some .boolean) ∈ AL := AL_t (tb_1 (List.mem_of_getElem? (i := 195) (rfl))) rfl
theorem aw_196 : Cond.methodLink "SceneTimes" 48 ⟨"SceneTimes", "isSector", "(I)Z"⟩ ∈ AL := AL_t (tb_1 (List.mem_of_getElem? (i := 196) (by decide +kernel))) rfl
theorem aw_197 : Cond.static ⟨"SceneTimes", "isSector", "(I)Z"⟩ ∈ AL := AL_t (tb_1 (List.mem_of_getElem? (i := 197) (by decide +kernel))) rfl
theorem aw_198 : Cond.code ⟨"SceneTimes", "isSector", "(I)Z"⟩ prog_1_method_18_code 1 (some .boolean) ∈ AL := AL_t (tb_1 (List.mem_of_getElem? (i := 198) (rfl))) rfl
theorem aw_199 : Cond.classLink "SceneTimes" 51 "java/lang/IllegalArgumentException" ∈ AL := AL_t (tb_1 (List.mem_of_getElem? (i := 199) (by decide +kernel))) rfl
theorem aw_200 : Cond.instantiable "java/lang/IllegalArgumentException" 6 ∈ AL := AL_t (tb_1 (List.mem_of_getElem? (i := 200) (by decide +kernel))) rfl
theorem aw_202 : Cond.selects "java/lang/IllegalArgumentException" ⟨"java/lang/Throwable", "fillInStackTrace", "(I)Ljava/lang/Throwable;"⟩ ⟨"java/lang/Throwable", "fillInStackTrace", "(I)Ljava/lang/Throwable;"⟩ ∈ AL := AL_t (tb_1 (List.mem_of_getElem? (i := 202) (by decide +kernel))) rfl
theorem aw_203 : Cond.lays "java/lang/IllegalArgumentException" "java/lang/Throwable" "cause" "Ljava/lang/Throwable;" ∈ AL := AL_t (tb_1 (List.mem_of_getElem? (i := 203) (by decide +kernel))) rfl
theorem aw_204 : Cond.lays "java/lang/IllegalArgumentException" "java/lang/Throwable" "stackTrace" "[Ljava/lang/StackTraceElement;" ∈ AL := AL_t (tb_1 (List.mem_of_getElem? (i := 204) (by decide +kernel))) rfl
theorem aw_205 : Cond.lays "java/lang/IllegalArgumentException" "java/lang/Throwable" "suppressedExceptions" "Ljava/util/List;" ∈ AL := AL_t (tb_1 (List.mem_of_getElem? (i := 205) (by decide +kernel))) rfl
theorem aw_206 : Cond.lays "java/lang/IllegalArgumentException" "java/lang/Throwable" "detailMessage" "Ljava/lang/String;" ∈ AL := AL_t (tb_1 (List.mem_of_getElem? (i := 206) (by decide +kernel))) rfl
theorem aw_207 : Cond.lays "java/lang/IllegalArgumentException" "java/lang/Throwable" "backtrace" "Ljava/lang/Object;" ∈ AL := AL_t (tb_1 (List.mem_of_getElem? (i := 207) (by decide +kernel))) rfl
theorem aw_209 : Cond.methodLink "SceneTimes" 55 ⟨"java/lang/IllegalArgumentException", "<init>", "(Ljava/lang/String;)V"⟩ ∈ AL := AL_t (tb_1 (List.mem_of_getElem? (i := 209) (by decide +kernel))) rfl
theorem aw_210 : Cond.instanceMethod ⟨"java/lang/IllegalArgumentException", "<init>", "(Ljava/lang/String;)V"⟩ ∈ AL := AL_t (tb_1 (List.mem_of_getElem? (i := 210) (by decide +kernel))) rfl
theorem aw_211 : Cond.code ⟨"java/lang/IllegalArgumentException", "<init>", "(Ljava/lang/String;)V"⟩ prog_10_method_2_code 2 none ∈ AL := AL_t (tb_1 (List.mem_of_getElem? (i := 211) (rfl))) rfl
theorem aw_212 : Cond.methodLink "java/lang/IllegalArgumentException" 7 ⟨"java/lang/RuntimeException", "<init>", "(Ljava/lang/String;)V"⟩ ∈ AL := AL_t (tb_1 (List.mem_of_getElem? (i := 212) (by decide +kernel))) rfl
theorem aw_213 : Cond.lays "java/lang/IllegalArgumentException" "java/lang/Throwable" "depth" "I" ∈ AL := AL_t (tb_1 (List.mem_of_getElem? (i := 213) (by decide +kernel))) rfl
theorem aw_214 : Cond.superclass "java/lang/IllegalArgumentException" "java/lang/RuntimeException" ∈ AL := AL_t (tb_1 (List.mem_of_getElem? (i := 214) (by decide +kernel))) rfl
theorem aw_215 : Cond.methodLink "SceneTimes" 56 ⟨"SceneTimes", "hasCome", "(I)Z"⟩ ∈ AL := AL_t (tb_1 (List.mem_of_getElem? (i := 215) (by decide +kernel))) rfl
theorem aw_217 : Cond.instanceMethod ⟨"SceneTimes", "hasCome", "(I)Z"⟩ ∈ AL := AL_t (tb_1 (List.mem_of_getElem? (i := 217) (by decide +kernel))) rfl
theorem aw_218 : Cond.code ⟨"SceneTimes", "hasCome", "(I)Z"⟩ prog_1_method_20_code 2 (some .boolean) ∈ AL := AL_t (tb_1 (List.mem_of_getElem? (i := 218) (rfl))) rfl
theorem aw_219 : Cond.methodLink "SceneTimes" 59 ⟨"SceneTimes", "isValue", "(I)Z"⟩ ∈ AL := AL_t (tb_1 (List.mem_of_getElem? (i := 219) (by decide +kernel))) rfl
theorem aw_220 : Cond.static ⟨"SceneTimes", "isValue", "(I)Z"⟩ ∈ AL := AL_t (tb_1 (List.mem_of_getElem? (i := 220) (by decide +kernel))) rfl
theorem aw_221 : Cond.code ⟨"SceneTimes", "isValue", "(I)Z"⟩ prog_1_method_19_code 1 (some .boolean) ∈ AL := AL_t (tb_1 (List.mem_of_getElem? (i := 221) (rfl))) rfl
theorem aw_222 : Cond.classLink "SceneTimes" 62 "java/lang/IndexOutOfBoundsException" ∈ AL := AL_t (tb_1 (List.mem_of_getElem? (i := 222) (by decide +kernel))) rfl
theorem aw_223 : Cond.instantiable "java/lang/IndexOutOfBoundsException" 6 ∈ AL := AL_t (tb_1 (List.mem_of_getElem? (i := 223) (by decide +kernel))) rfl
theorem aw_225 : Cond.selects "java/lang/IndexOutOfBoundsException" ⟨"java/lang/Throwable", "fillInStackTrace", "(I)Ljava/lang/Throwable;"⟩ ⟨"java/lang/Throwable", "fillInStackTrace", "(I)Ljava/lang/Throwable;"⟩ ∈ AL := AL_t (tb_1 (List.mem_of_getElem? (i := 225) (by decide +kernel))) rfl
theorem aw_226 : Cond.lays "java/lang/IndexOutOfBoundsException" "java/lang/Throwable" "cause" "Ljava/lang/Throwable;" ∈ AL := AL_t (tb_1 (List.mem_of_getElem? (i := 226) (by decide +kernel))) rfl
theorem aw_227 : Cond.lays "java/lang/IndexOutOfBoundsException" "java/lang/Throwable" "stackTrace" "[Ljava/lang/StackTraceElement;" ∈ AL := AL_t (tb_1 (List.mem_of_getElem? (i := 227) (by decide +kernel))) rfl
theorem aw_228 : Cond.lays "java/lang/IndexOutOfBoundsException" "java/lang/Throwable" "suppressedExceptions" "Ljava/util/List;" ∈ AL := AL_t (tb_1 (List.mem_of_getElem? (i := 228) (by decide +kernel))) rfl
theorem aw_229 : Cond.lays "java/lang/IndexOutOfBoundsException" "java/lang/Throwable" "detailMessage" "Ljava/lang/String;" ∈ AL := AL_t (tb_1 (List.mem_of_getElem? (i := 229) (by decide +kernel))) rfl
theorem aw_230 : Cond.lays "java/lang/IndexOutOfBoundsException" "java/lang/Throwable" "backtrace" "Ljava/lang/Object;" ∈ AL := AL_t (tb_1 (List.mem_of_getElem? (i := 230) (by decide +kernel))) rfl
theorem aw_232 : Cond.methodLink "SceneTimes" 66 ⟨"java/lang/IndexOutOfBoundsException", "<init>", "(Ljava/lang/String;)V"⟩ ∈ AL := AL_t (tb_1 (List.mem_of_getElem? (i := 232) (by decide +kernel))) rfl
theorem aw_233 : Cond.instanceMethod ⟨"java/lang/IndexOutOfBoundsException", "<init>", "(Ljava/lang/String;)V"⟩ ∈ AL := AL_t (tb_1 (List.mem_of_getElem? (i := 233) (by decide +kernel))) rfl
theorem aw_234 : Cond.code ⟨"java/lang/IndexOutOfBoundsException", "<init>", "(Ljava/lang/String;)V"⟩ prog_12_method_2_code 2 none ∈ AL := AL_t (tb_1 (List.mem_of_getElem? (i := 234) (rfl))) rfl
theorem aw_235 : Cond.methodLink "java/lang/IndexOutOfBoundsException" 7 ⟨"java/lang/RuntimeException", "<init>", "(Ljava/lang/String;)V"⟩ ∈ AL := AL_t (tb_1 (List.mem_of_getElem? (i := 235) (by decide +kernel))) rfl
theorem aw_236 : Cond.lays "java/lang/IndexOutOfBoundsException" "java/lang/Throwable" "depth" "I" ∈ AL := AL_t (tb_1 (List.mem_of_getElem? (i := 236) (by decide +kernel))) rfl
theorem aw_237 : Cond.superclass "java/lang/IndexOutOfBoundsException" "java/lang/RuntimeException" ∈ AL := AL_t (tb_1 (List.mem_of_getElem? (i := 237) (by decide +kernel))) rfl
theorem aw_239 : Cond.classLink "SceneTimes" 72 "SceneTimes$Note" ∈ AL := AL_t (tb_1 (List.mem_of_getElem? (i := 239) (by decide +kernel))) rfl
theorem aw_240 : Cond.instantiable "SceneTimes$Note" 10 ∈ AL := AL_t (tb_2 (List.mem_of_getElem? (i := 0) (by decide +kernel))) rfl
theorem aw_241 : Cond.methodLink "SceneTimes" 77 ⟨"SceneTimes$Note", "<init>", "(IIIIIII)V"⟩ ∈ AL := AL_t (tb_2 (List.mem_of_getElem? (i := 1) (by decide +kernel))) rfl
theorem aw_242 : Cond.instanceMethod ⟨"SceneTimes$Note", "<init>", "(IIIIIII)V"⟩ ∈ AL := AL_t (tb_2 (List.mem_of_getElem? (i := 2) (by decide +kernel))) rfl
theorem aw_243 : Cond.code ⟨"SceneTimes$Note", "<init>", "(IIIIIII)V"⟩ prog_3_method_1_code 8 none ∈ AL := AL_t (tb_2 (List.mem_of_getElem? (i := 3) (rfl))) rfl
theorem aw_244 : Cond.methodLink "SceneTimes$Note" 3 ⟨"java/lang/Object", "<init>", "()V"⟩ ∈ AL := AL_t (tb_2 (List.mem_of_getElem? (i := 4) (by decide +kernel))) rfl
theorem aw_245 : Cond.classLink "SceneTimes$Note" 27 "SceneTimes$State" ∈ AL := AL_t (tb_2 (List.mem_of_getElem? (i := 5) (by decide +kernel))) rfl
theorem aw_246 : Cond.instantiable "SceneTimes$State" 4 ∈ AL := AL_t (tb_2 (List.mem_of_getElem? (i := 6) (by decide +kernel))) rfl
theorem aw_247 : Cond.methodLink "SceneTimes$Note" 29 ⟨"SceneTimes$State", "<init>", "(IIZLSceneTimes$State;)V"⟩ ∈ AL := AL_t (tb_2 (List.mem_of_getElem? (i := 7) (by decide +kernel))) rfl
theorem aw_248 : Cond.instanceMethod ⟨"SceneTimes$State", "<init>", "(IIZLSceneTimes$State;)V"⟩ ∈ AL := AL_t (tb_2 (List.mem_of_getElem? (i := 8) (by decide +kernel))) rfl
theorem aw_249 : Cond.code ⟨"SceneTimes$State", "<init>", "(IIZLSceneTimes$State;)V"⟩ prog_6_method_1_code 5 none ∈ AL := AL_t (tb_2 (List.mem_of_getElem? (i := 9) (rfl))) rfl
theorem aw_250 : Cond.methodLink "SceneTimes$State" 1 ⟨"java/lang/Object", "<init>", "()V"⟩ ∈ AL := AL_t (tb_2 (List.mem_of_getElem? (i := 10) (by decide +kernel))) rfl
theorem aw_251 : Cond.fieldLink "SceneTimes$State" 7 "SceneTimes$State" "from" "I" ∈ AL := AL_t (tb_2 (List.mem_of_getElem? (i := 11) (by decide +kernel))) rfl
theorem aw_252 : Cond.fieldLink "SceneTimes$Note" 59 "SceneTimes$State" "from" "I" ∈ AL := AL_t (tb_2 (List.mem_of_getElem? (i := 12) (by decide +kernel))) rfl
theorem aw_253 : Cond.fieldLink "SceneTimes$Line" 48 "SceneTimes$State" "from" "I" ∈ AL := AL_t (tb_2 (List.mem_of_getElem? (i := 13) (by decide +kernel))) rfl
theorem aw_254 : Cond.fieldLink "SceneTimes" 142 "SceneTimes$State" "from" "I" ∈ AL := AL_t (tb_2 (List.mem_of_getElem? (i := 14) (by decide +kernel))) rfl
theorem aw_255 : Cond.fieldLink "SceneTimes$State" 13 "SceneTimes$State" "value" "I" ∈ AL := AL_t (tb_2 (List.mem_of_getElem? (i := 15) (by decide +kernel))) rfl
theorem aw_256 : Cond.fieldLink "SceneTimes$Sheet" 45 "SceneTimes$State" "value" "I" ∈ AL := AL_t (tb_2 (List.mem_of_getElem? (i := 16) (by decide +kernel))) rfl
theorem aw_257 : Cond.fieldLink "SceneTimes$Note" 56 "SceneTimes$State" "value" "I" ∈ AL := AL_t (tb_2 (List.mem_of_getElem? (i := 17) (by decide +kernel))) rfl
theorem aw_258 : Cond.fieldLink "SceneTimes" 167 "SceneTimes$State" "value" "I" ∈ AL := AL_t (tb_2 (List.mem_of_getElem? (i := 18) (by decide +kernel))) rfl
theorem aw_259 : Cond.fieldLink "SceneTimes$State" 16 "SceneTimes$State" "struck" "Z" ∈ AL := AL_t (tb_2 (List.mem_of_getElem? (i := 19) (by decide +kernel))) rfl
theorem aw_260 : Cond.fieldLink "SceneTimes$Note" 46 "SceneTimes$State" "struck" "Z" ∈ AL := AL_t (tb_2 (List.mem_of_getElem? (i := 20) (by decide +kernel))) rfl
theorem aw_261 : Cond.fieldLink "SceneTimes$Sheet" 56 "SceneTimes$State" "struck" "Z" ∈ AL := AL_t (tb_2 (List.mem_of_getElem? (i := 21) (by decide +kernel))) rfl
theorem aw_262 : Cond.fieldLink "SceneTimes" 97 "SceneTimes$State" "struck" "Z" ∈ AL := AL_t (tb_2 (List.mem_of_getElem? (i := 22) (by decide +kernel))) rfl
theorem aw_263 : Cond.fieldLink "SceneTimes$Line" 39 "SceneTimes$State" "struck" "Z" ∈ AL := AL_t (tb_2 (List.mem_of_getElem? (i := 23) (by decide +kernel))) rfl
theorem aw_264 : Cond.fieldLink "SceneTimes$State" 20 "SceneTimes$State" "earlier" "LSceneTimes$State;" ∈ AL := AL_t (tb_2 (List.mem_of_getElem? (i := 24) (by decide +kernel))) rfl
theorem aw_265 : Cond.fieldLink "SceneTimes$Note" 62 "SceneTimes$State" "earlier" "LSceneTimes$State;" ∈ AL := AL_t (tb_2 (List.mem_of_getElem? (i := 25) (by decide +kernel))) rfl
theorem aw_266 : Cond.laysFinal "SceneTimes$State" "SceneTimes$State" "from" "I" ∈ AL := AL_t (tb_2 (List.mem_of_getElem? (i := 26) (by decide +kernel))) rfl
theorem aw_267 : Cond.soleField "SceneTimes$State" "from" ∈ AL := AL_t (tb_2 (List.mem_of_getElem? (i := 27) (by decide +kernel))) rfl
theorem aw_268 : Cond.laysFinal "SceneTimes$State" "SceneTimes$State" "value" "I" ∈ AL := AL_t (tb_2 (List.mem_of_getElem? (i := 28) (by decide +kernel))) rfl
theorem aw_269 : Cond.soleField "SceneTimes$State" "value" ∈ AL := AL_t (tb_2 (List.mem_of_getElem? (i := 29) (by decide +kernel))) rfl
theorem aw_270 : Cond.laysFinal "SceneTimes$State" "SceneTimes$State" "struck" "Z" ∈ AL := AL_t (tb_2 (List.mem_of_getElem? (i := 30) (by decide +kernel))) rfl
theorem aw_271 : Cond.soleField "SceneTimes$State" "struck" ∈ AL := AL_t (tb_2 (List.mem_of_getElem? (i := 31) (by decide +kernel))) rfl
theorem aw_272 : Cond.laysFinal "SceneTimes$State" "SceneTimes$State" "earlier" "LSceneTimes$State;" ∈ AL := AL_t (tb_2 (List.mem_of_getElem? (i := 32) (by decide +kernel))) rfl
theorem aw_273 : Cond.soleField "SceneTimes$State" "earlier" ∈ AL := AL_t (tb_2 (List.mem_of_getElem? (i := 33) (by decide +kernel))) rfl
theorem aw_274 : Cond.superclass "SceneTimes$State" "java/lang/Object" ∈ AL := AL_t (tb_2 (List.mem_of_getElem? (i := 34) (by decide +kernel))) rfl
theorem aw_275 : Cond.methodLink "SceneTimes$Note" 39 ⟨"SceneTimes$Note", "mix", "(II)I"⟩ ∈ AL := AL_t (tb_2 (List.mem_of_getElem? (i := 35) (by decide +kernel))) rfl
theorem aw_276 : Cond.static ⟨"SceneTimes$Note", "mix", "(II)I"⟩ ∈ AL := AL_t (tb_2 (List.mem_of_getElem? (i := 36) (by decide +kernel))) rfl
theorem aw_277 : Cond.code ⟨"SceneTimes$Note", "mix", "(II)I"⟩ prog_3_method_2_code 3 (some .int) ∈ AL := AL_t (tb_2 (List.mem_of_getElem? (i := 37) (rfl))) rfl
theorem aw_278 : Cond.fieldLink "SceneTimes$Note" 9 "SceneTimes$Note" "number" "I" ∈ AL := AL_t (tb_2 (List.mem_of_getElem? (i := 38) (by decide +kernel))) rfl
theorem aw_279 : Cond.fieldLink "SceneTimes" 84 "SceneTimes$Note" "number" "I" ∈ AL := AL_t (tb_2 (List.mem_of_getElem? (i := 39) (by decide +kernel))) rfl
theorem aw_280 : Cond.fieldLink "SceneTimes$Note" 15 "SceneTimes$Note" "writer" "I" ∈ AL := AL_t (tb_2 (List.mem_of_getElem? (i := 40) (by decide +kernel))) rfl
theorem aw_281 : Cond.fieldLink "SceneTimes$Sheet" 36 "SceneTimes$Note" "writer" "I" ∈ AL := AL_t (tb_2 (List.mem_of_getElem? (i := 41) (by decide +kernel))) rfl
theorem aw_282 : Cond.fieldLink "SceneTimes" 174 "SceneTimes$Note" "writer" "I" ∈ AL := AL_t (tb_2 (List.mem_of_getElem? (i := 42) (by decide +kernel))) rfl
theorem aw_283 : Cond.fieldLink "SceneTimes$Note" 18 "SceneTimes$Note" "kind" "I" ∈ AL := AL_t (tb_2 (List.mem_of_getElem? (i := 43) (by decide +kernel))) rfl
theorem aw_284 : Cond.fieldLink "SceneTimes$Sheet" 39 "SceneTimes$Note" "kind" "I" ∈ AL := AL_t (tb_2 (List.mem_of_getElem? (i := 44) (by decide +kernel))) rfl
theorem aw_285 : Cond.fieldLink "SceneTimes$Note" 21 "SceneTimes$Note" "sector" "I" ∈ AL := AL_t (tb_2 (List.mem_of_getElem? (i := 45) (by decide +kernel))) rfl
theorem aw_286 : Cond.fieldLink "SceneTimes$Sheet" 42 "SceneTimes$Note" "sector" "I" ∈ AL := AL_t (tb_2 (List.mem_of_getElem? (i := 46) (by decide +kernel))) rfl
theorem aw_287 : Cond.fieldLink "SceneTimes$Note" 24 "SceneTimes$Note" "second" "I" ∈ AL := AL_t (tb_2 (List.mem_of_getElem? (i := 47) (by decide +kernel))) rfl
theorem aw_288 : Cond.fieldLink "SceneTimes$Sheet" 27 "SceneTimes$Note" "second" "I" ∈ AL := AL_t (tb_2 (List.mem_of_getElem? (i := 48) (by decide +kernel))) rfl
theorem aw_289 : Cond.fieldLink "SceneTimes$Line" 28 "SceneTimes$Note" "second" "I" ∈ AL := AL_t (tb_2 (List.mem_of_getElem? (i := 49) (by decide +kernel))) rfl
theorem aw_290 : Cond.fieldLink "SceneTimes" 159 "SceneTimes$Note" "second" "I" ∈ AL := AL_t (tb_2 (List.mem_of_getElem? (i := 50) (by decide +kernel))) rfl
theorem aw_291 : Cond.fieldLink "SceneTimes$Note" 32 "SceneTimes$Note" "first" "LSceneTimes$State;" ∈ AL := AL_t (tb_2 (List.mem_of_getElem? (i := 51) (by decide +kernel))) rfl
theorem aw_292 : Cond.fieldLink "SceneTimes$Line" 45 "SceneTimes$Note" "first" "LSceneTimes$State;" ∈ AL := AL_t (tb_2 (List.mem_of_getElem? (i := 52) (by decide +kernel))) rfl
theorem aw_293 : Cond.fieldLink "SceneTimes" 139 "SceneTimes$Note" "first" "LSceneTimes$State;" ∈ AL := AL_t (tb_2 (List.mem_of_getElem? (i := 53) (by decide +kernel))) rfl
theorem aw_294 : Cond.fieldLink "SceneTimes$Note" 36 "SceneTimes$Note" "latest" "LSceneTimes$State;" ∈ AL := AL_t (tb_2 (List.mem_of_getElem? (i := 54) (by decide +kernel))) rfl
theorem aw_295 : Cond.fieldLink "SceneTimes" 93 "SceneTimes$Note" "latest" "LSceneTimes$State;" ∈ AL := AL_t (tb_2 (List.mem_of_getElem? (i := 55) (by decide +kernel))) rfl
theorem aw_296 : Cond.fieldLink "SceneTimes$Line" 35 "SceneTimes$Note" "latest" "LSceneTimes$State;" ∈ AL := AL_t (tb_2 (List.mem_of_getElem? (i := 56) (by decide +kernel))) rfl
theorem aw_297 : Cond.fieldLink "SceneTimes$Note" 53 "SceneTimes$Note" "acts" "I" ∈ AL := AL_t (tb_2 (List.mem_of_getElem? (i := 57) (by decide +kernel))) rfl
theorem aw_298 : Cond.fieldLink "SceneTimes" 202 "SceneTimes$Note" "acts" "I" ∈ AL := AL_t (tb_2 (List.mem_of_getElem? (i := 58) (by decide +kernel))) rfl
theorem aw_299 : Cond.fieldLink "SceneTimes$Note" 50 "SceneTimes$Note" "corrections" "I" ∈ AL := AL_t (tb_2 (List.mem_of_getElem? (i := 59) (by decide +kernel))) rfl
theorem aw_300 : Cond.fieldLink "SceneTimes" 118 "SceneTimes$Note" "corrections" "I" ∈ AL := AL_t (tb_2 (List.mem_of_getElem? (i := 60) (by decide +kernel))) rfl
theorem aw_301 : Cond.fieldLink "SceneTimes$Note" 43 "SceneTimes$Note" "mixed" "I" ∈ AL := AL_t (tb_2 (List.mem_of_getElem? (i := 61) (by decide +kernel))) rfl
theorem aw_302 : Cond.fieldLink "SceneTimes" 199 "SceneTimes$Note" "mixed" "I" ∈ AL := AL_t (tb_2 (List.mem_of_getElem? (i := 62) (by decide +kernel))) rfl
theorem aw_303 : Cond.laysFinal "SceneTimes$Note" "SceneTimes$Note" "number" "I" ∈ AL := AL_t (tb_2 (List.mem_of_getElem? (i := 63) (by decide +kernel))) rfl
theorem aw_304 : Cond.soleField "SceneTimes$Note" "number" ∈ AL := AL_t (tb_2 (List.mem_of_getElem? (i := 64) (by decide +kernel))) rfl
theorem aw_305 : Cond.laysFinal "SceneTimes$Note" "SceneTimes$Note" "writer" "I" ∈ AL := AL_t (tb_2 (List.mem_of_getElem? (i := 65) (by decide +kernel))) rfl
theorem aw_306 : Cond.soleField "SceneTimes$Note" "writer" ∈ AL := AL_t (tb_2 (List.mem_of_getElem? (i := 66) (by decide +kernel))) rfl
theorem aw_307 : Cond.laysFinal "SceneTimes$Note" "SceneTimes$Note" "kind" "I" ∈ AL := AL_t (tb_2 (List.mem_of_getElem? (i := 67) (by decide +kernel))) rfl
theorem aw_308 : Cond.soleField "SceneTimes$Note" "kind" ∈ AL := AL_t (tb_2 (List.mem_of_getElem? (i := 68) (by decide +kernel))) rfl
theorem aw_309 : Cond.laysFinal "SceneTimes$Note" "SceneTimes$Note" "sector" "I" ∈ AL := AL_t (tb_2 (List.mem_of_getElem? (i := 69) (by decide +kernel))) rfl
theorem aw_310 : Cond.soleField "SceneTimes$Note" "sector" ∈ AL := AL_t (tb_2 (List.mem_of_getElem? (i := 70) (by decide +kernel))) rfl
theorem aw_311 : Cond.laysFinal "SceneTimes$Note" "SceneTimes$Note" "second" "I" ∈ AL := AL_t (tb_2 (List.mem_of_getElem? (i := 71) (by decide +kernel))) rfl
theorem aw_312 : Cond.soleField "SceneTimes$Note" "second" ∈ AL := AL_t (tb_2 (List.mem_of_getElem? (i := 72) (by decide +kernel))) rfl
theorem aw_313 : Cond.laysFinal "SceneTimes$Note" "SceneTimes$Note" "first" "LSceneTimes$State;" ∈ AL := AL_t (tb_2 (List.mem_of_getElem? (i := 73) (by decide +kernel))) rfl
theorem aw_314 : Cond.soleField "SceneTimes$Note" "first" ∈ AL := AL_t (tb_2 (List.mem_of_getElem? (i := 74) (by decide +kernel))) rfl
theorem aw_315 : Cond.lays "SceneTimes$Note" "SceneTimes$Note" "latest" "LSceneTimes$State;" ∈ AL := AL_t (tb_2 (List.mem_of_getElem? (i := 75) (by decide +kernel))) rfl
theorem aw_316 : Cond.soleField "SceneTimes$Note" "latest" ∈ AL := AL_t (tb_2 (List.mem_of_getElem? (i := 76) (by decide +kernel))) rfl
theorem aw_317 : Cond.lays "SceneTimes$Note" "SceneTimes$Note" "acts" "I" ∈ AL := AL_t (tb_2 (List.mem_of_getElem? (i := 77) (by decide +kernel))) rfl
theorem aw_318 : Cond.soleField "SceneTimes$Note" "acts" ∈ AL := AL_t (tb_2 (List.mem_of_getElem? (i := 78) (by decide +kernel))) rfl
theorem aw_319 : Cond.lays "SceneTimes$Note" "SceneTimes$Note" "corrections" "I" ∈ AL := AL_t (tb_2 (List.mem_of_getElem? (i := 79) (by decide +kernel))) rfl
theorem aw_320 : Cond.soleField "SceneTimes$Note" "corrections" ∈ AL := AL_t (tb_2 (List.mem_of_getElem? (i := 80) (by decide +kernel))) rfl
theorem aw_321 : Cond.lays "SceneTimes$Note" "SceneTimes$Note" "mixed" "I" ∈ AL := AL_t (tb_2 (List.mem_of_getElem? (i := 81) (by decide +kernel))) rfl
theorem aw_322 : Cond.soleField "SceneTimes$Note" "mixed" ∈ AL := AL_t (tb_2 (List.mem_of_getElem? (i := 82) (by decide +kernel))) rfl
theorem aw_323 : Cond.superclass "SceneTimes$Note" "java/lang/Object" ∈ AL := AL_t (tb_2 (List.mem_of_getElem? (i := 83) (by decide +kernel))) rfl
theorem aw_324 : Cond.methodLink "SceneTimes" 80 ⟨"SceneTimes$Line", "take", "(LSceneTimes$Note;)V"⟩ ∈ AL := AL_t (tb_2 (List.mem_of_getElem? (i := 84) (by decide +kernel))) rfl
theorem aw_325 : Cond.instanceMethod ⟨"SceneTimes$Line", "take", "(LSceneTimes$Note;)V"⟩ ∈ AL := AL_t (tb_2 (List.mem_of_getElem? (i := 85) (by decide +kernel))) rfl
theorem aw_326 : Cond.selects "SceneTimes$Line" ⟨"SceneTimes$Line", "take", "(LSceneTimes$Note;)V"⟩ ⟨"SceneTimes$Line", "take", "(LSceneTimes$Note;)V"⟩ ∈ AL := AL_t (tb_2 (List.mem_of_getElem? (i := 86) (by decide +kernel))) rfl
theorem aw_327 : Cond.code ⟨"SceneTimes$Line", "take", "(LSceneTimes$Note;)V"⟩ prog_2_method_2_code 3 none ∈ AL := AL_t (tb_2 (List.mem_of_getElem? (i := 87) (rfl))) rfl
theorem aw_328 : Cond.methodLink "SceneTimes$Line" 24 ⟨"SceneTimes$Note", "standsBehind", "(LSceneTimes$Note;)Z"⟩ ∈ AL := AL_t (tb_2 (List.mem_of_getElem? (i := 88) (by decide +kernel))) rfl
theorem aw_329 : Cond.instanceMethod ⟨"SceneTimes$Note", "standsBehind", "(LSceneTimes$Note;)Z"⟩ ∈ AL := AL_t (tb_2 (List.mem_of_getElem? (i := 89) (by decide +kernel))) rfl
theorem aw_330 : Cond.selects "SceneTimes$Note" ⟨"SceneTimes$Note", "standsBehind", "(LSceneTimes$Note;)Z"⟩ ⟨"SceneTimes$Note", "standsBehind", "(LSceneTimes$Note;)Z"⟩ ∈ AL := AL_t (tb_2 (List.mem_of_getElem? (i := 90) (by decide +kernel))) rfl
theorem aw_331 : Cond.code ⟨"SceneTimes$Note", "standsBehind", "(LSceneTimes$Note;)Z"⟩ prog_3_method_9_code 2 (some .boolean) ∈ AL := AL_t (tb_2 (List.mem_of_getElem? (i := 91) (rfl))) rfl
theorem aw_332 : Cond.methodLink "SceneTimesLaw" 81 ⟨"SceneTimesLaw", "correct", "(LSceneTimes;II[J)I"⟩ ∈ AL := AL_t (tb_2 (List.mem_of_getElem? (i := 92) (by decide +kernel))) rfl
theorem aw_333 : Cond.static ⟨"SceneTimesLaw", "correct", "(LSceneTimes;II[J)I"⟩ ∈ AL := AL_t (tb_2 (List.mem_of_getElem? (i := 93) (by decide +kernel))) rfl
theorem aw_334 : Cond.codeWith ⟨"SceneTimesLaw", "correct", "(LSceneTimes;II[J)I"⟩ method_5_code 5 (some .int) [(0, 10, 13, 19), (0, 10, 17, 21), (0, 10, 21, 27), (0, 10, 25, 13)] ∈ AL := AL_t (tb_2 (List.mem_of_getElem? (i := 94) (rfl))) rfl
theorem aw_335 : Cond.classLink "SceneTimesLaw" 27 "java/lang/IllegalStateException" ∈ AL := AL_t (tb_2 (List.mem_of_getElem? (i := 95) (by decide +kernel))) rfl
theorem aw_336 : Cond.methodLink "SceneTimesLaw" 23 ⟨"SceneTimes", "correct", "(II)I"⟩ ∈ AL := AL_t (tb_2 (List.mem_of_getElem? (i := 96) (by decide +kernel))) rfl
theorem aw_337 : Cond.instanceMethod ⟨"SceneTimes", "correct", "(II)I"⟩ ∈ AL := AL_t (tb_2 (List.mem_of_getElem? (i := 97) (by decide +kernel))) rfl
theorem aw_338 : Cond.selects "SceneTimes" ⟨"SceneTimes", "correct", "(II)I"⟩ ⟨"SceneTimes", "correct", "(II)I"⟩ ∈ AL := AL_t (tb_2 (List.mem_of_getElem? (i := 98) (by decide +kernel))) rfl
theorem aw_339 : Cond.code ⟨"SceneTimes", "correct", "(II)I"⟩ prog_1_method_4_code 4 (some .int) ∈ AL := AL_t (tb_2 (List.mem_of_getElem? (i := 99) (rfl))) rfl
theorem aw_340 : Cond.methodLink "SceneTimes" 87 ⟨"SceneTimes", "noteOf", "(I)LSceneTimes$Note;"⟩ ∈ AL := AL_t (tb_2 (List.mem_of_getElem? (i := 100) (by decide +kernel))) rfl
theorem aw_342 : Cond.instanceMethod ⟨"SceneTimes", "noteOf", "(I)LSceneTimes$Note;"⟩ ∈ AL := AL_t (tb_2 (List.mem_of_getElem? (i := 102) (by decide +kernel))) rfl
theorem aw_343 : Cond.code ⟨"SceneTimes", "noteOf", "(I)LSceneTimes$Note;"⟩ prog_1_method_21_code 2 (some (.object "SceneTimes$Note")) ∈ AL := AL_t (tb_2 (List.mem_of_getElem? (i := 103) (rfl))) rfl
theorem aw_346 : Cond.classLink "SceneTimes" 103 "java/lang/IllegalStateException" ∈ AL := AL_t (tb_2 (List.mem_of_getElem? (i := 106) (by decide +kernel))) rfl
theorem aw_347 : Cond.instantiable "java/lang/IllegalStateException" 6 ∈ AL := AL_t (tb_2 (List.mem_of_getElem? (i := 107) (by decide +kernel))) rfl
theorem aw_349 : Cond.selects "java/lang/IllegalStateException" ⟨"java/lang/Throwable", "fillInStackTrace", "(I)Ljava/lang/Throwable;"⟩ ⟨"java/lang/Throwable", "fillInStackTrace", "(I)Ljava/lang/Throwable;"⟩ ∈ AL := AL_t (tb_2 (List.mem_of_getElem? (i := 109) (by decide +kernel))) rfl
theorem aw_350 : Cond.lays "java/lang/IllegalStateException" "java/lang/Throwable" "cause" "Ljava/lang/Throwable;" ∈ AL := AL_t (tb_2 (List.mem_of_getElem? (i := 110) (by decide +kernel))) rfl
theorem aw_351 : Cond.lays "java/lang/IllegalStateException" "java/lang/Throwable" "stackTrace" "[Ljava/lang/StackTraceElement;" ∈ AL := AL_t (tb_2 (List.mem_of_getElem? (i := 111) (by decide +kernel))) rfl
theorem aw_352 : Cond.lays "java/lang/IllegalStateException" "java/lang/Throwable" "suppressedExceptions" "Ljava/util/List;" ∈ AL := AL_t (tb_2 (List.mem_of_getElem? (i := 112) (by decide +kernel))) rfl
theorem aw_353 : Cond.lays "java/lang/IllegalStateException" "java/lang/Throwable" "detailMessage" "Ljava/lang/String;" ∈ AL := AL_t (tb_2 (List.mem_of_getElem? (i := 113) (by decide +kernel))) rfl
theorem aw_354 : Cond.lays "java/lang/IllegalStateException" "java/lang/Throwable" "backtrace" "Ljava/lang/Object;" ∈ AL := AL_t (tb_2 (List.mem_of_getElem? (i := 114) (by decide +kernel))) rfl
theorem aw_356 : Cond.methodLink "SceneTimes" 107 ⟨"java/lang/IllegalStateException", "<init>", "(Ljava/lang/String;)V"⟩ ∈ AL := AL_t (tb_2 (List.mem_of_getElem? (i := 116) (by decide +kernel))) rfl
theorem aw_357 : Cond.instanceMethod ⟨"java/lang/IllegalStateException", "<init>", "(Ljava/lang/String;)V"⟩ ∈ AL := AL_t (tb_2 (List.mem_of_getElem? (i := 117) (by decide +kernel))) rfl
theorem aw_358 : Cond.code ⟨"java/lang/IllegalStateException", "<init>", "(Ljava/lang/String;)V"⟩ prog_11_method_2_code 2 none ∈ AL := AL_t (tb_2 (List.mem_of_getElem? (i := 118) (rfl))) rfl
theorem aw_359 : Cond.methodLink "java/lang/IllegalStateException" 7 ⟨"java/lang/RuntimeException", "<init>", "(Ljava/lang/String;)V"⟩ ∈ AL := AL_t (tb_2 (List.mem_of_getElem? (i := 119) (by decide +kernel))) rfl
theorem aw_360 : Cond.lays "java/lang/IllegalStateException" "java/lang/Throwable" "depth" "I" ∈ AL := AL_t (tb_2 (List.mem_of_getElem? (i := 120) (by decide +kernel))) rfl
theorem aw_361 : Cond.superclass "java/lang/IllegalStateException" "java/lang/RuntimeException" ∈ AL := AL_t (tb_2 (List.mem_of_getElem? (i := 121) (by decide +kernel))) rfl
theorem aw_362 : Cond.methodLink "SceneTimes" 108 ⟨"SceneTimes", "refuseActWithoutRoom", "()V"⟩ ∈ AL := AL_t (tb_2 (List.mem_of_getElem? (i := 122) (by decide +kernel))) rfl
theorem aw_364 : Cond.instanceMethod ⟨"SceneTimes", "refuseActWithoutRoom", "()V"⟩ ∈ AL := AL_t (tb_2 (List.mem_of_getElem? (i := 124) (by decide +kernel))) rfl
theorem aw_365 : Cond.code ⟨"SceneTimes", "refuseActWithoutRoom", "()V"⟩ prog_1_method_22_code 1 none ∈ AL := AL_t (tb_2 (List.mem_of_getElem? (i := 125) (rfl))) rfl
theorem aw_367 : Cond.methodLink "SceneTimes" 111 ⟨"SceneTimes$Note", "takeValue", "(II)V"⟩ ∈ AL := AL_t (tb_2 (List.mem_of_getElem? (i := 127) (by decide +kernel))) rfl
theorem aw_368 : Cond.instanceMethod ⟨"SceneTimes$Note", "takeValue", "(II)V"⟩ ∈ AL := AL_t (tb_2 (List.mem_of_getElem? (i := 128) (by decide +kernel))) rfl
theorem aw_369 : Cond.selects "SceneTimes$Note" ⟨"SceneTimes$Note", "takeValue", "(II)V"⟩ ⟨"SceneTimes$Note", "takeValue", "(II)V"⟩ ∈ AL := AL_t (tb_2 (List.mem_of_getElem? (i := 129) (by decide +kernel))) rfl
theorem aw_370 : Cond.code ⟨"SceneTimes$Note", "takeValue", "(II)V"⟩ prog_3_method_3_code 3 none ∈ AL := AL_t (tb_2 (List.mem_of_getElem? (i := 130) (rfl))) rfl
theorem aw_371 : Cond.methodLink "SceneTimesLaw" 85 ⟨"SceneTimesLaw", "strike", "(LSceneTimes;IZ)I"⟩ ∈ AL := AL_t (tb_2 (List.mem_of_getElem? (i := 131) (by decide +kernel))) rfl
theorem aw_372 : Cond.static ⟨"SceneTimesLaw", "strike", "(LSceneTimes;IZ)I"⟩ ∈ AL := AL_t (tb_2 (List.mem_of_getElem? (i := 132) (by decide +kernel))) rfl
theorem aw_373 : Cond.codeWith ⟨"SceneTimesLaw", "strike", "(LSceneTimes;IZ)I"⟩ method_6_code 4 (some .int) [(0, 6, 9, 19), (0, 6, 12, 27), (0, 6, 15, 13)] ∈ AL := AL_t (tb_2 (List.mem_of_getElem? (i := 133) (rfl))) rfl
theorem aw_374 : Cond.methodLink "SceneTimesLaw" 29 ⟨"SceneTimes", "strike", "(IZ)V"⟩ ∈ AL := AL_t (tb_2 (List.mem_of_getElem? (i := 134) (by decide +kernel))) rfl
theorem aw_375 : Cond.instanceMethod ⟨"SceneTimes", "strike", "(IZ)V"⟩ ∈ AL := AL_t (tb_2 (List.mem_of_getElem? (i := 135) (by decide +kernel))) rfl
theorem aw_376 : Cond.selects "SceneTimes" ⟨"SceneTimes", "strike", "(IZ)V"⟩ ⟨"SceneTimes", "strike", "(IZ)V"⟩ ∈ AL := AL_t (tb_2 (List.mem_of_getElem? (i := 136) (by decide +kernel))) rfl
theorem aw_377 : Cond.code ⟨"SceneTimes", "strike", "(IZ)V"⟩ prog_1_method_5_code 4 none ∈ AL := AL_t (tb_2 (List.mem_of_getElem? (i := 137) (rfl))) rfl
theorem aw_379 : Cond.methodLink "SceneTimes" 123 ⟨"SceneTimes$Note", "takeStrike", "(IZ)V"⟩ ∈ AL := AL_t (tb_2 (List.mem_of_getElem? (i := 139) (by decide +kernel))) rfl
theorem aw_380 : Cond.instanceMethod ⟨"SceneTimes$Note", "takeStrike", "(IZ)V"⟩ ∈ AL := AL_t (tb_2 (List.mem_of_getElem? (i := 140) (by decide +kernel))) rfl
theorem aw_381 : Cond.selects "SceneTimes$Note" ⟨"SceneTimes$Note", "takeStrike", "(IZ)V"⟩ ⟨"SceneTimes$Note", "takeStrike", "(IZ)V"⟩ ∈ AL := AL_t (tb_2 (List.mem_of_getElem? (i := 141) (by decide +kernel))) rfl
theorem aw_382 : Cond.code ⟨"SceneTimes$Note", "takeStrike", "(IZ)V"⟩ prog_3_method_4_code 3 none ∈ AL := AL_t (tb_2 (List.mem_of_getElem? (i := 142) (rfl))) rfl
theorem aw_383 : Cond.methodLink "SceneTimesLaw" 89 ⟨"SceneTimesLaw", "ask", "(LSceneTimes;IIIII[J)I"⟩ ∈ AL := AL_t (tb_2 (List.mem_of_getElem? (i := 143) (by decide +kernel))) rfl
theorem aw_384 : Cond.static ⟨"SceneTimesLaw", "ask", "(LSceneTimes;IIIII[J)I"⟩ ∈ AL := AL_t (tb_2 (List.mem_of_getElem? (i := 144) (by decide +kernel))) rfl
theorem aw_385 : Cond.codeWith ⟨"SceneTimesLaw", "ask", "(LSceneTimes;IIIII[J)I"⟩ method_7_code 8 (some .int) [(0, 16, 19, 19), (0, 16, 23, 21)] ∈ AL := AL_t (tb_2 (List.mem_of_getElem? (i := 145) (rfl))) rfl
theorem aw_386 : Cond.methodLink "SceneTimesLaw" 33 ⟨"SceneTimes", "ask", "(IIIII)I"⟩ ∈ AL := AL_t (tb_2 (List.mem_of_getElem? (i := 146) (by decide +kernel))) rfl
theorem aw_387 : Cond.instanceMethod ⟨"SceneTimes", "ask", "(IIIII)I"⟩ ∈ AL := AL_t (tb_2 (List.mem_of_getElem? (i := 147) (by decide +kernel))) rfl
theorem aw_388 : Cond.selects "SceneTimes" ⟨"SceneTimes", "ask", "(IIIII)I"⟩ ⟨"SceneTimes", "ask", "(IIIII)I"⟩ ∈ AL := AL_t (tb_2 (List.mem_of_getElem? (i := 148) (by decide +kernel))) rfl
theorem aw_389 : Cond.code ⟨"SceneTimes", "ask", "(IIIII)I"⟩ prog_1_method_6_code 8 (some .int) ∈ AL := AL_t (tb_2 (List.mem_of_getElem? (i := 149) (rfl))) rfl
theorem aw_392 : Cond.methodLink "SceneTimes" 131 ⟨"SceneTimes$Question", "begin", "(I)V"⟩ ∈ AL := AL_t (tb_2 (List.mem_of_getElem? (i := 152) (by decide +kernel))) rfl
theorem aw_393 : Cond.instanceMethod ⟨"SceneTimes$Question", "begin", "(I)V"⟩ ∈ AL := AL_t (tb_2 (List.mem_of_getElem? (i := 153) (by decide +kernel))) rfl
theorem aw_394 : Cond.selects "SceneTimes$Question" ⟨"SceneTimes$Question", "begin", "(I)V"⟩ ⟨"SceneTimes$Question", "begin", "(I)V"⟩ ∈ AL := AL_t (tb_2 (List.mem_of_getElem? (i := 154) (by decide +kernel))) rfl
theorem aw_395 : Cond.code ⟨"SceneTimes$Question", "begin", "(I)V"⟩ prog_4_method_2_code 2 none ∈ AL := AL_t (tb_2 (List.mem_of_getElem? (i := 155) (rfl))) rfl
theorem aw_396 : Cond.methodLink "SceneTimes" 145 ⟨"SceneTimes$Note", "isWithin", "(II)Z"⟩ ∈ AL := AL_t (tb_2 (List.mem_of_getElem? (i := 156) (by decide +kernel))) rfl
theorem aw_397 : Cond.instanceMethod ⟨"SceneTimes$Note", "isWithin", "(II)Z"⟩ ∈ AL := AL_t (tb_2 (List.mem_of_getElem? (i := 157) (by decide +kernel))) rfl
theorem aw_398 : Cond.selects "SceneTimes$Note" ⟨"SceneTimes$Note", "isWithin", "(II)Z"⟩ ⟨"SceneTimes$Note", "isWithin", "(II)Z"⟩ ∈ AL := AL_t (tb_2 (List.mem_of_getElem? (i := 158) (by decide +kernel))) rfl
theorem aw_399 : Cond.code ⟨"SceneTimes$Note", "isWithin", "(II)Z"⟩ prog_3_method_6_code 3 (some .boolean) ∈ AL := AL_t (tb_2 (List.mem_of_getElem? (i := 159) (rfl))) rfl
theorem aw_400 : Cond.methodLink "SceneTimes" 149 ⟨"SceneTimes$Note", "isOf", "(II)Z"⟩ ∈ AL := AL_t (tb_2 (List.mem_of_getElem? (i := 160) (by decide +kernel))) rfl
theorem aw_401 : Cond.instanceMethod ⟨"SceneTimes$Note", "isOf", "(II)Z"⟩ ∈ AL := AL_t (tb_2 (List.mem_of_getElem? (i := 161) (by decide +kernel))) rfl
theorem aw_402 : Cond.selects "SceneTimes$Note" ⟨"SceneTimes$Note", "isOf", "(II)Z"⟩ ⟨"SceneTimes$Note", "isOf", "(II)Z"⟩ ∈ AL := AL_t (tb_2 (List.mem_of_getElem? (i := 162) (by decide +kernel))) rfl
theorem aw_403 : Cond.code ⟨"SceneTimes$Note", "isOf", "(II)Z"⟩ prog_3_method_7_code 3 (some .boolean) ∈ AL := AL_t (tb_2 (List.mem_of_getElem? (i := 163) (rfl))) rfl
theorem aw_404 : Cond.methodLink "SceneTimes" 152 ⟨"SceneTimes$Question", "take", "(LSceneTimes$Note;)V"⟩ ∈ AL := AL_t (tb_2 (List.mem_of_getElem? (i := 164) (by decide +kernel))) rfl
theorem aw_405 : Cond.instanceMethod ⟨"SceneTimes$Question", "take", "(LSceneTimes$Note;)V"⟩ ∈ AL := AL_t (tb_2 (List.mem_of_getElem? (i := 165) (by decide +kernel))) rfl
theorem aw_406 : Cond.selects "SceneTimes$Question" ⟨"SceneTimes$Question", "take", "(LSceneTimes$Note;)V"⟩ ⟨"SceneTimes$Question", "take", "(LSceneTimes$Note;)V"⟩ ∈ AL := AL_t (tb_2 (List.mem_of_getElem? (i := 166) (by decide +kernel))) rfl
theorem aw_407 : Cond.code ⟨"SceneTimes$Question", "take", "(LSceneTimes$Note;)V"⟩ prog_4_method_3_code 2 none ∈ AL := AL_t (tb_2 (List.mem_of_getElem? (i := 167) (rfl))) rfl
theorem aw_408 : Cond.methodLink "SceneTimesLaw" 92 ⟨"SceneTimesLaw", "row", "(LSceneTimes;II[J)I"⟩ ∈ AL := AL_t (tb_2 (List.mem_of_getElem? (i := 168) (by decide +kernel))) rfl
theorem aw_409 : Cond.static ⟨"SceneTimesLaw", "row", "(LSceneTimes;II[J)I"⟩ ∈ AL := AL_t (tb_2 (List.mem_of_getElem? (i := 169) (by decide +kernel))) rfl
theorem aw_410 : Cond.codeWith ⟨"SceneTimesLaw", "row", "(LSceneTimes;II[J)I"⟩ method_8_code 5 (some .int) [(0, 10, 13, 19)] ∈ AL := AL_t (tb_2 (List.mem_of_getElem? (i := 170) (rfl))) rfl
theorem aw_411 : Cond.methodLink "SceneTimesLaw" 36 ⟨"SceneTimes", "row", "(II)I"⟩ ∈ AL := AL_t (tb_2 (List.mem_of_getElem? (i := 171) (by decide +kernel))) rfl
theorem aw_412 : Cond.instanceMethod ⟨"SceneTimes", "row", "(II)I"⟩ ∈ AL := AL_t (tb_2 (List.mem_of_getElem? (i := 172) (by decide +kernel))) rfl
theorem aw_413 : Cond.selects "SceneTimes" ⟨"SceneTimes", "row", "(II)I"⟩ ⟨"SceneTimes", "row", "(II)I"⟩ ∈ AL := AL_t (tb_2 (List.mem_of_getElem? (i := 173) (by decide +kernel))) rfl
theorem aw_414 : Cond.code ⟨"SceneTimes", "row", "(II)I"⟩ prog_1_method_7_code 4 (some .int) ∈ AL := AL_t (tb_2 (List.mem_of_getElem? (i := 174) (rfl))) rfl
theorem aw_416 : Cond.methodLink "SceneTimes" 163 ⟨"SceneTimes$Note", "stateAt", "(I)LSceneTimes$State;"⟩ ∈ AL := AL_t (tb_2 (List.mem_of_getElem? (i := 176) (by decide +kernel))) rfl
theorem aw_417 : Cond.instanceMethod ⟨"SceneTimes$Note", "stateAt", "(I)LSceneTimes$State;"⟩ ∈ AL := AL_t (tb_2 (List.mem_of_getElem? (i := 177) (by decide +kernel))) rfl
theorem aw_418 : Cond.selects "SceneTimes$Note" ⟨"SceneTimes$Note", "stateAt", "(I)LSceneTimes$State;"⟩ ⟨"SceneTimes$Note", "stateAt", "(I)LSceneTimes$State;"⟩ ∈ AL := AL_t (tb_2 (List.mem_of_getElem? (i := 178) (by decide +kernel))) rfl
theorem aw_419 : Cond.code ⟨"SceneTimes$Note", "stateAt", "(I)LSceneTimes$State;"⟩ prog_3_method_5_code 3 (some (.object "SceneTimes$State")) ∈ AL := AL_t (tb_2 (List.mem_of_getElem? (i := 179) (rfl))) rfl
theorem aw_420 : Cond.methodLink "SceneTimes" 170 ⟨"SceneTimes", "oneIf", "(Z)I"⟩ ∈ AL := AL_t (tb_2 (List.mem_of_getElem? (i := 180) (by decide +kernel))) rfl
theorem aw_421 : Cond.static ⟨"SceneTimes", "oneIf", "(Z)I"⟩ ∈ AL := AL_t (tb_2 (List.mem_of_getElem? (i := 181) (by decide +kernel))) rfl
theorem aw_422 : Cond.code ⟨"SceneTimes", "oneIf", "(Z)I"⟩ prog_1_method_23_code 1 (some .int) ∈ AL := AL_t (tb_2 (List.mem_of_getElem? (i := 182) (rfl))) rfl
theorem aw_424 : Cond.methodLink "SceneTimesLaw" 95 ⟨"SceneTimesLaw", "reading", "(LSceneTimes;II[J)I"⟩ ∈ AL := AL_t (tb_2 (List.mem_of_getElem? (i := 184) (by decide +kernel))) rfl
theorem aw_425 : Cond.static ⟨"SceneTimesLaw", "reading", "(LSceneTimes;II[J)I"⟩ ∈ AL := AL_t (tb_2 (List.mem_of_getElem? (i := 185) (by decide +kernel))) rfl
theorem aw_426 : Cond.codeWith ⟨"SceneTimesLaw", "reading", "(LSceneTimes;II[J)I"⟩ method_9_code 5 (some .int) [(0, 10, 13, 19), (0, 10, 17, 21), (0, 10, 21, 27)] ∈ AL := AL_t (tb_2 (List.mem_of_getElem? (i := 186) (rfl))) rfl
theorem aw_427 : Cond.methodLink "SceneTimesLaw" 39 ⟨"SceneTimes", "reading", "(II)I"⟩ ∈ AL := AL_t (tb_2 (List.mem_of_getElem? (i := 187) (by decide +kernel))) rfl
theorem aw_428 : Cond.instanceMethod ⟨"SceneTimes", "reading", "(II)I"⟩ ∈ AL := AL_t (tb_2 (List.mem_of_getElem? (i := 188) (by decide +kernel))) rfl
theorem aw_429 : Cond.selects "SceneTimes" ⟨"SceneTimes", "reading", "(II)I"⟩ ⟨"SceneTimes", "reading", "(II)I"⟩ ∈ AL := AL_t (tb_2 (List.mem_of_getElem? (i := 189) (by decide +kernel))) rfl
theorem aw_430 : Cond.code ⟨"SceneTimes", "reading", "(II)I"⟩ prog_1_method_8_code 5 (some .int) ∈ AL := AL_t (tb_2 (List.mem_of_getElem? (i := 190) (rfl))) rfl
theorem aw_433 : Cond.methodLink "SceneTimes" 183 ⟨"SceneTimes$Line", "lastReadingUpTo", "(II)LSceneTimes$Note;"⟩ ∈ AL := AL_t (tb_2 (List.mem_of_getElem? (i := 193) (by decide +kernel))) rfl
theorem aw_434 : Cond.instanceMethod ⟨"SceneTimes$Line", "lastReadingUpTo", "(II)LSceneTimes$Note;"⟩ ∈ AL := AL_t (tb_2 (List.mem_of_getElem? (i := 194) (by decide +kernel))) rfl
theorem aw_435 : Cond.selects "SceneTimes$Line" ⟨"SceneTimes$Line", "lastReadingUpTo", "(II)LSceneTimes$Note;"⟩ ⟨"SceneTimes$Line", "lastReadingUpTo", "(II)LSceneTimes$Note;"⟩ ∈ AL := AL_t (tb_2 (List.mem_of_getElem? (i := 195) (by decide +kernel))) rfl
theorem aw_436 : Cond.code ⟨"SceneTimes$Line", "lastReadingUpTo", "(II)LSceneTimes$Note;"⟩ prog_2_method_3_code 4 (some (.object "SceneTimes$Note")) ∈ AL := AL_t (tb_2 (List.mem_of_getElem? (i := 196) (rfl))) rfl
theorem aw_437 : Cond.methodLink "SceneTimes$Line" 31 ⟨"SceneTimes$Note", "isReadingOf", "(I)Z"⟩ ∈ AL := AL_t (tb_2 (List.mem_of_getElem? (i := 197) (by decide +kernel))) rfl
theorem aw_438 : Cond.instanceMethod ⟨"SceneTimes$Note", "isReadingOf", "(I)Z"⟩ ∈ AL := AL_t (tb_2 (List.mem_of_getElem? (i := 198) (by decide +kernel))) rfl
theorem aw_439 : Cond.selects "SceneTimes$Note" ⟨"SceneTimes$Note", "isReadingOf", "(I)Z"⟩ ⟨"SceneTimes$Note", "isReadingOf", "(I)Z"⟩ ∈ AL := AL_t (tb_2 (List.mem_of_getElem? (i := 199) (by decide +kernel))) rfl
theorem aw_440 : Cond.code ⟨"SceneTimes$Note", "isReadingOf", "(I)Z"⟩ prog_3_method_8_code 2 (some .boolean) ∈ AL := AL_t (tb_2 (List.mem_of_getElem? (i := 200) (rfl))) rfl
theorem aw_441 : Cond.methodLink "SceneTimes" 187 ⟨"SceneTimes$Line", "firstReadingFrom", "(II)LSceneTimes$Note;"⟩ ∈ AL := AL_t (tb_2 (List.mem_of_getElem? (i := 201) (by decide +kernel))) rfl
theorem aw_442 : Cond.instanceMethod ⟨"SceneTimes$Line", "firstReadingFrom", "(II)LSceneTimes$Note;"⟩ ∈ AL := AL_t (tb_2 (List.mem_of_getElem? (i := 202) (by decide +kernel))) rfl
theorem aw_443 : Cond.selects "SceneTimes$Line" ⟨"SceneTimes$Line", "firstReadingFrom", "(II)LSceneTimes$Note;"⟩ ⟨"SceneTimes$Line", "firstReadingFrom", "(II)LSceneTimes$Note;"⟩ ∈ AL := AL_t (tb_2 (List.mem_of_getElem? (i := 203) (by decide +kernel))) rfl
theorem aw_444 : Cond.code ⟨"SceneTimes$Line", "firstReadingFrom", "(II)LSceneTimes$Note;"⟩ prog_2_method_4_code 4 (some (.object "SceneTimes$Note")) ∈ AL := AL_t (tb_2 (List.mem_of_getElem? (i := 204) (rfl))) rfl
theorem aw_446 : Cond.methodLink "SceneTimes" 192 ⟨"SceneTimes", "valueBetween", "(LSceneTimes$Note;LSceneTimes$Note;I)I"⟩ ∈ AL := AL_t (tb_2 (List.mem_of_getElem? (i := 206) (by decide +kernel))) rfl
theorem aw_447 : Cond.static ⟨"SceneTimes", "valueBetween", "(LSceneTimes$Note;LSceneTimes$Note;I)I"⟩ ∈ AL := AL_t (tb_2 (List.mem_of_getElem? (i := 207) (by decide +kernel))) rfl
theorem aw_448 : Cond.code ⟨"SceneTimes", "valueBetween", "(LSceneTimes$Note;LSceneTimes$Note;I)I"⟩ prog_1_method_24_code 5 (some .int) ∈ AL := AL_t (tb_2 (List.mem_of_getElem? (i := 208) (rfl))) rfl
theorem aw_449 : Cond.methodLink "SceneTimes" 236 ⟨"java/lang/Math", "floorDiv", "(II)I"⟩ ∈ AL := AL_t (tb_2 (List.mem_of_getElem? (i := 209) (by decide +kernel))) rfl
theorem aw_450 : Cond.static ⟨"java/lang/Math", "floorDiv", "(II)I"⟩ ∈ AL := AL_t (tb_2 (List.mem_of_getElem? (i := 210) (by decide +kernel))) rfl
theorem aw_451 : Cond.code ⟨"java/lang/Math", "floorDiv", "(II)I"⟩ prog_13_method_47_code 3 (some .int) ∈ AL := AL_t (tb_2 (List.mem_of_getElem? (i := 211) (rfl))) rfl
theorem aw_452 : Cond.methodLink "SceneTimesLaw" 98 ⟨"SceneTimesLaw", "gap", "(LSceneTimes;II[J)I"⟩ ∈ AL := AL_t (tb_2 (List.mem_of_getElem? (i := 212) (by decide +kernel))) rfl
theorem aw_453 : Cond.static ⟨"SceneTimesLaw", "gap", "(LSceneTimes;II[J)I"⟩ ∈ AL := AL_t (tb_2 (List.mem_of_getElem? (i := 213) (by decide +kernel))) rfl
theorem aw_454 : Cond.codeWith ⟨"SceneTimesLaw", "gap", "(LSceneTimes;II[J)I"⟩ method_10_code 5 (some .int) [(0, 10, 13, 21)] ∈ AL := AL_t (tb_2 (List.mem_of_getElem? (i := 214) (rfl))) rfl
theorem aw_455 : Cond.methodLink "SceneTimesLaw" 42 ⟨"SceneTimes", "gap", "(II)I"⟩ ∈ AL := AL_t (tb_2 (List.mem_of_getElem? (i := 215) (by decide +kernel))) rfl
theorem aw_456 : Cond.instanceMethod ⟨"SceneTimes", "gap", "(II)I"⟩ ∈ AL := AL_t (tb_2 (List.mem_of_getElem? (i := 216) (by decide +kernel))) rfl
theorem aw_457 : Cond.selects "SceneTimes" ⟨"SceneTimes", "gap", "(II)I"⟩ ⟨"SceneTimes", "gap", "(II)I"⟩ ∈ AL := AL_t (tb_2 (List.mem_of_getElem? (i := 217) (by decide +kernel))) rfl
theorem aw_458 : Cond.code ⟨"SceneTimes", "gap", "(II)I"⟩ prog_1_method_9_code 7 (some .int) ∈ AL := AL_t (tb_2 (List.mem_of_getElem? (i := 218) (rfl))) rfl
theorem aw_459 : Cond.constant "SceneTimes" 196 99999 ∈ AL := AL_t (tb_2 (List.mem_of_getElem? (i := 219) (by decide +kernel))) rfl
theorem aw_461 : Cond.methodLink "SceneTimesLaw" 101 ⟨"SceneTimesLaw", "digest", "(LSceneTimes;I[J)I"⟩ ∈ AL := AL_t (tb_2 (List.mem_of_getElem? (i := 221) (by decide +kernel))) rfl
theorem aw_462 : Cond.static ⟨"SceneTimesLaw", "digest", "(LSceneTimes;I[J)I"⟩ ∈ AL := AL_t (tb_2 (List.mem_of_getElem? (i := 222) (by decide +kernel))) rfl
theorem aw_463 : Cond.codeWith ⟨"SceneTimesLaw", "digest", "(LSceneTimes;I[J)I"⟩ method_11_code 4 (some .int) [(0, 9, 12, 19)] ∈ AL := AL_t (tb_2 (List.mem_of_getElem? (i := 223) (rfl))) rfl
theorem aw_464 : Cond.methodLink "SceneTimesLaw" 45 ⟨"SceneTimes", "digest", "(I)I"⟩ ∈ AL := AL_t (tb_2 (List.mem_of_getElem? (i := 224) (by decide +kernel))) rfl
theorem aw_465 : Cond.instanceMethod ⟨"SceneTimes", "digest", "(I)I"⟩ ∈ AL := AL_t (tb_2 (List.mem_of_getElem? (i := 225) (by decide +kernel))) rfl
theorem aw_466 : Cond.selects "SceneTimes" ⟨"SceneTimes", "digest", "(I)I"⟩ ⟨"SceneTimes", "digest", "(I)I"⟩ ∈ AL := AL_t (tb_2 (List.mem_of_getElem? (i := 226) (by decide +kernel))) rfl
theorem aw_467 : Cond.code ⟨"SceneTimes", "digest", "(I)I"⟩ prog_1_method_10_code 2 (some .int) ∈ AL := AL_t (tb_2 (List.mem_of_getElem? (i := 227) (rfl))) rfl
theorem aw_468 : Cond.methodLink "SceneTimesLaw" 105 ⟨"SceneTimesLaw", "noteAt", "(LSceneTimes;II[J)I"⟩ ∈ AL := AL_t (tb_2 (List.mem_of_getElem? (i := 228) (by decide +kernel))) rfl
theorem aw_469 : Cond.static ⟨"SceneTimesLaw", "noteAt", "(LSceneTimes;II[J)I"⟩ ∈ AL := AL_t (tb_2 (List.mem_of_getElem? (i := 229) (by decide +kernel))) rfl
theorem aw_470 : Cond.codeWith ⟨"SceneTimesLaw", "noteAt", "(LSceneTimes;II[J)I"⟩ method_12_code 5 (some .int) [(0, 10, 13, 19)] ∈ AL := AL_t (tb_2 (List.mem_of_getElem? (i := 230) (rfl))) rfl
theorem aw_471 : Cond.methodLink "SceneTimesLaw" 49 ⟨"SceneTimes", "noteAt", "(II)I"⟩ ∈ AL := AL_t (tb_2 (List.mem_of_getElem? (i := 231) (by decide +kernel))) rfl
theorem aw_472 : Cond.instanceMethod ⟨"SceneTimes", "noteAt", "(II)I"⟩ ∈ AL := AL_t (tb_2 (List.mem_of_getElem? (i := 232) (by decide +kernel))) rfl
theorem aw_473 : Cond.selects "SceneTimes" ⟨"SceneTimes", "noteAt", "(II)I"⟩ ⟨"SceneTimes", "noteAt", "(II)I"⟩ ∈ AL := AL_t (tb_2 (List.mem_of_getElem? (i := 233) (by decide +kernel))) rfl
theorem aw_474 : Cond.code ⟨"SceneTimes", "noteAt", "(II)I"⟩ prog_1_method_11_code 4 (some .int) ∈ AL := AL_t (tb_2 (List.mem_of_getElem? (i := 234) (rfl))) rfl
theorem aw_475 : Cond.methodLink "SceneTimesLaw" 108 ⟨"SceneTimesLaw", "print", "(LSceneTimes;[J)I"⟩ ∈ AL := AL_t (tb_2 (List.mem_of_getElem? (i := 235) (by decide +kernel))) rfl
theorem aw_476 : Cond.static ⟨"SceneTimesLaw", "print", "(LSceneTimes;[J)I"⟩ ∈ AL := AL_t (tb_2 (List.mem_of_getElem? (i := 236) (by decide +kernel))) rfl
theorem aw_477 : Cond.codeWith ⟨"SceneTimesLaw", "print", "(LSceneTimes;[J)I"⟩ method_13_code 3 (some .int) [(0, 8, 11, 27)] ∈ AL := AL_t (tb_2 (List.mem_of_getElem? (i := 237) (rfl))) rfl
theorem aw_478 : Cond.methodLink "SceneTimesLaw" 52 ⟨"SceneTimes", "print", "()I"⟩ ∈ AL := AL_t (tb_2 (List.mem_of_getElem? (i := 238) (by decide +kernel))) rfl
theorem aw_479 : Cond.instanceMethod ⟨"SceneTimes", "print", "()I"⟩ ∈ AL := AL_t (tb_2 (List.mem_of_getElem? (i := 239) (by decide +kernel))) rfl
theorem aw_480 : Cond.selects "SceneTimes" ⟨"SceneTimes", "print", "()I"⟩ ⟨"SceneTimes", "print", "()I"⟩ ∈ AL := AL_t (tb_3 (List.mem_of_getElem? (i := 0) (by decide +kernel))) rfl
theorem aw_481 : Cond.code ⟨"SceneTimes", "print", "()I"⟩ prog_1_method_12_code 3 (some .int) ∈ AL := AL_t (tb_3 (List.mem_of_getElem? (i := 1) (rfl))) rfl
theorem aw_483 : Cond.methodLink "SceneTimes" 208 ⟨"SceneTimes$Sheet", "begin", "(I)V"⟩ ∈ AL := AL_t (tb_3 (List.mem_of_getElem? (i := 3) (by decide +kernel))) rfl
theorem aw_484 : Cond.instanceMethod ⟨"SceneTimes$Sheet", "begin", "(I)V"⟩ ∈ AL := AL_t (tb_3 (List.mem_of_getElem? (i := 4) (by decide +kernel))) rfl
theorem aw_485 : Cond.selects "SceneTimes$Sheet" ⟨"SceneTimes$Sheet", "begin", "(I)V"⟩ ⟨"SceneTimes$Sheet", "begin", "(I)V"⟩ ∈ AL := AL_t (tb_3 (List.mem_of_getElem? (i := 5) (by decide +kernel))) rfl
theorem aw_486 : Cond.code ⟨"SceneTimes$Sheet", "begin", "(I)V"⟩ prog_5_method_2_code 2 none ∈ AL := AL_t (tb_3 (List.mem_of_getElem? (i := 6) (rfl))) rfl
theorem aw_487 : Cond.methodLink "SceneTimes$Sheet" 19 ⟨"SceneTimes$Sheet", "putNumber", "(CI)V"⟩ ∈ AL := AL_t (tb_3 (List.mem_of_getElem? (i := 7) (by decide +kernel))) rfl
theorem aw_489 : Cond.instanceMethod ⟨"SceneTimes$Sheet", "putNumber", "(CI)V"⟩ ∈ AL := AL_t (tb_3 (List.mem_of_getElem? (i := 9) (by decide +kernel))) rfl
theorem aw_490 : Cond.code ⟨"SceneTimes$Sheet", "putNumber", "(CI)V"⟩ prog_5_method_4_code 3 none ∈ AL := AL_t (tb_3 (List.mem_of_getElem? (i := 10) (rfl))) rfl
theorem aw_491 : Cond.methodLink "SceneTimes$Sheet" 23 ⟨"SceneTimes$Sheet", "put", "(C)V"⟩ ∈ AL := AL_t (tb_3 (List.mem_of_getElem? (i := 11) (by decide +kernel))) rfl
theorem aw_493 : Cond.instanceMethod ⟨"SceneTimes$Sheet", "put", "(C)V"⟩ ∈ AL := AL_t (tb_3 (List.mem_of_getElem? (i := 13) (by decide +kernel))) rfl
theorem aw_494 : Cond.code ⟨"SceneTimes$Sheet", "put", "(C)V"⟩ prog_5_method_6_code 2 none ∈ AL := AL_t (tb_3 (List.mem_of_getElem? (i := 14) (rfl))) rfl
theorem aw_495 : Cond.methodLink "SceneTimes$Sheet" 32 ⟨"SceneTimes$Sheet", "putDigits", "(I)V"⟩ ∈ AL := AL_t (tb_3 (List.mem_of_getElem? (i := 15) (by decide +kernel))) rfl
theorem aw_497 : Cond.instanceMethod ⟨"SceneTimes$Sheet", "putDigits", "(I)V"⟩ ∈ AL := AL_t (tb_3 (List.mem_of_getElem? (i := 17) (by decide +kernel))) rfl
theorem aw_498 : Cond.code ⟨"SceneTimes$Sheet", "putDigits", "(I)V"⟩ prog_5_method_5_code 3 none ∈ AL := AL_t (tb_3 (List.mem_of_getElem? (i := 18) (rfl))) rfl
theorem aw_499 : Cond.methodLink "SceneTimes" 209 ⟨"SceneTimes$Sheet", "putRow", "(LSceneTimes$Note;LSceneTimes$State;)V"⟩ ∈ AL := AL_t (tb_3 (List.mem_of_getElem? (i := 19) (by decide +kernel))) rfl
theorem aw_500 : Cond.instanceMethod ⟨"SceneTimes$Sheet", "putRow", "(LSceneTimes$Note;LSceneTimes$State;)V"⟩ ∈ AL := AL_t (tb_3 (List.mem_of_getElem? (i := 20) (by decide +kernel))) rfl
theorem aw_501 : Cond.selects "SceneTimes$Sheet" ⟨"SceneTimes$Sheet", "putRow", "(LSceneTimes$Note;LSceneTimes$State;)V"⟩ ⟨"SceneTimes$Sheet", "putRow", "(LSceneTimes$Note;LSceneTimes$State;)V"⟩ ∈ AL := AL_t (tb_3 (List.mem_of_getElem? (i := 21) (by decide +kernel))) rfl
theorem aw_502 : Cond.code ⟨"SceneTimes$Sheet", "putRow", "(LSceneTimes$Note;LSceneTimes$State;)V"⟩ prog_5_method_3_code 3 none ∈ AL := AL_t (tb_3 (List.mem_of_getElem? (i := 22) (rfl))) rfl
theorem aw_503 : Cond.methodLink "SceneTimes$Sheet" 50 ⟨"java/lang/Math", "abs", "(I)I"⟩ ∈ AL := AL_t (tb_3 (List.mem_of_getElem? (i := 23) (by decide +kernel))) rfl
theorem aw_504 : Cond.static ⟨"java/lang/Math", "abs", "(I)I"⟩ ∈ AL := AL_t (tb_3 (List.mem_of_getElem? (i := 24) (by decide +kernel))) rfl
theorem aw_505 : Cond.code ⟨"java/lang/Math", "abs", "(I)I"⟩ prog_13_method_59_code 1 (some .int) ∈ AL := AL_t (tb_3 (List.mem_of_getElem? (i := 25) (rfl))) rfl
theorem aw_506 : Cond.methodLink "SceneTimesLaw" 111 ⟨"SceneTimesLaw", "at", "(LSceneTimes;I[J)I"⟩ ∈ AL := AL_t (tb_3 (List.mem_of_getElem? (i := 26) (by decide +kernel))) rfl
theorem aw_507 : Cond.static ⟨"SceneTimesLaw", "at", "(LSceneTimes;I[J)I"⟩ ∈ AL := AL_t (tb_3 (List.mem_of_getElem? (i := 27) (by decide +kernel))) rfl
theorem aw_508 : Cond.codeWith ⟨"SceneTimesLaw", "at", "(LSceneTimes;I[J)I"⟩ method_14_code 4 (some .int) [(0, 9, 12, 21)] ∈ AL := AL_t (tb_3 (List.mem_of_getElem? (i := 28) (rfl))) rfl
theorem aw_509 : Cond.methodLink "SceneTimesLaw" 55 ⟨"SceneTimes", "at", "(I)I"⟩ ∈ AL := AL_t (tb_3 (List.mem_of_getElem? (i := 29) (by decide +kernel))) rfl
theorem aw_510 : Cond.instanceMethod ⟨"SceneTimes", "at", "(I)I"⟩ ∈ AL := AL_t (tb_3 (List.mem_of_getElem? (i := 30) (by decide +kernel))) rfl
theorem aw_511 : Cond.selects "SceneTimes" ⟨"SceneTimes", "at", "(I)I"⟩ ⟨"SceneTimes", "at", "(I)I"⟩ ∈ AL := AL_t (tb_3 (List.mem_of_getElem? (i := 31) (by decide +kernel))) rfl
theorem aw_512 : Cond.code ⟨"SceneTimes", "at", "(I)I"⟩ prog_1_method_13_code 2 (some .int) ∈ AL := AL_t (tb_3 (List.mem_of_getElem? (i := 32) (rfl))) rfl
theorem aw_514 : Cond.methodLink "SceneTimesLaw" 114 ⟨"SceneTimesLaw", "tick", "(LSceneTimes;I[J)I"⟩ ∈ AL := AL_t (tb_3 (List.mem_of_getElem? (i := 34) (by decide +kernel))) rfl
theorem aw_515 : Cond.static ⟨"SceneTimesLaw", "tick", "(LSceneTimes;I[J)I"⟩ ∈ AL := AL_t (tb_3 (List.mem_of_getElem? (i := 35) (by decide +kernel))) rfl
theorem aw_516 : Cond.codeWith ⟨"SceneTimesLaw", "tick", "(LSceneTimes;I[J)I"⟩ method_15_code 4 (some .int) [(0, 9, 12, 21)] ∈ AL := AL_t (tb_3 (List.mem_of_getElem? (i := 36) (rfl))) rfl
theorem aw_517 : Cond.methodLink "SceneTimesLaw" 58 ⟨"SceneTimes", "tick", "(I)I"⟩ ∈ AL := AL_t (tb_3 (List.mem_of_getElem? (i := 37) (by decide +kernel))) rfl
theorem aw_518 : Cond.instanceMethod ⟨"SceneTimes", "tick", "(I)I"⟩ ∈ AL := AL_t (tb_3 (List.mem_of_getElem? (i := 38) (by decide +kernel))) rfl
theorem aw_519 : Cond.selects "SceneTimes" ⟨"SceneTimes", "tick", "(I)I"⟩ ⟨"SceneTimes", "tick", "(I)I"⟩ ∈ AL := AL_t (tb_3 (List.mem_of_getElem? (i := 39) (by decide +kernel))) rfl
theorem aw_520 : Cond.code ⟨"SceneTimes", "tick", "(I)I"⟩ prog_1_method_14_code 2 (some .int) ∈ AL := AL_t (tb_3 (List.mem_of_getElem? (i := 40) (rfl))) rfl
theorem aw_522 : Cond.methodLink "SceneTimesLaw" 117 ⟨"SceneTimesLaw", "count", "(LSceneTimes;I[J)I"⟩ ∈ AL := AL_t (tb_3 (List.mem_of_getElem? (i := 42) (by decide +kernel))) rfl
theorem aw_523 : Cond.static ⟨"SceneTimesLaw", "count", "(LSceneTimes;I[J)I"⟩ ∈ AL := AL_t (tb_3 (List.mem_of_getElem? (i := 43) (by decide +kernel))) rfl
theorem aw_524 : Cond.codeWith ⟨"SceneTimesLaw", "count", "(LSceneTimes;I[J)I"⟩ method_16_code 4 (some .int) [(0, 9, 12, 19)] ∈ AL := AL_t (tb_3 (List.mem_of_getElem? (i := 44) (rfl))) rfl
theorem aw_525 : Cond.methodLink "SceneTimesLaw" 61 ⟨"SceneTimes", "count", "(I)I"⟩ ∈ AL := AL_t (tb_3 (List.mem_of_getElem? (i := 45) (by decide +kernel))) rfl
theorem aw_526 : Cond.instanceMethod ⟨"SceneTimes", "count", "(I)I"⟩ ∈ AL := AL_t (tb_3 (List.mem_of_getElem? (i := 46) (by decide +kernel))) rfl
theorem aw_527 : Cond.selects "SceneTimes" ⟨"SceneTimes", "count", "(I)I"⟩ ⟨"SceneTimes", "count", "(I)I"⟩ ∈ AL := AL_t (tb_3 (List.mem_of_getElem? (i := 47) (by decide +kernel))) rfl
theorem aw_528 : Cond.code ⟨"SceneTimes", "count", "(I)I"⟩ prog_1_method_15_code 2 (some .int) ∈ AL := AL_t (tb_3 (List.mem_of_getElem? (i := 48) (rfl))) rfl
theorem aw_529 : Cond.methodLink "SceneTimes" 222 ⟨"SceneTimes$Line", "howManyStruck", "()I"⟩ ∈ AL := AL_t (tb_3 (List.mem_of_getElem? (i := 49) (by decide +kernel))) rfl
theorem aw_530 : Cond.instanceMethod ⟨"SceneTimes$Line", "howManyStruck", "()I"⟩ ∈ AL := AL_t (tb_3 (List.mem_of_getElem? (i := 50) (by decide +kernel))) rfl
theorem aw_531 : Cond.selects "SceneTimes$Line" ⟨"SceneTimes$Line", "howManyStruck", "()I"⟩ ⟨"SceneTimes$Line", "howManyStruck", "()I"⟩ ∈ AL := AL_t (tb_3 (List.mem_of_getElem? (i := 51) (by decide +kernel))) rfl
theorem aw_532 : Cond.code ⟨"SceneTimes$Line", "howManyStruck", "()I"⟩ prog_2_method_5_code 3 (some .int) ∈ AL := AL_t (tb_3 (List.mem_of_getElem? (i := 52) (rfl))) rfl
theorem aw_533 : Cond.methodLink "SceneTimes" 226 ⟨"SceneTimes$Line", "howManyWrittenLater", "()I"⟩ ∈ AL := AL_t (tb_3 (List.mem_of_getElem? (i := 53) (by decide +kernel))) rfl
theorem aw_534 : Cond.instanceMethod ⟨"SceneTimes$Line", "howManyWrittenLater", "()I"⟩ ∈ AL := AL_t (tb_3 (List.mem_of_getElem? (i := 54) (by decide +kernel))) rfl
theorem aw_535 : Cond.selects "SceneTimes$Line" ⟨"SceneTimes$Line", "howManyWrittenLater", "()I"⟩ ⟨"SceneTimes$Line", "howManyWrittenLater", "()I"⟩ ∈ AL := AL_t (tb_3 (List.mem_of_getElem? (i := 55) (by decide +kernel))) rfl
theorem aw_536 : Cond.code ⟨"SceneTimes$Line", "howManyWrittenLater", "()I"⟩ prog_2_method_6_code 3 (some .int) ∈ AL := AL_t (tb_3 (List.mem_of_getElem? (i := 56) (rfl))) rfl
theorem aw_537 : Cond.classLink "SceneTimesLaw" 65 "SceneTimesModel" ∈ AL := AL_t (tb_3 (List.mem_of_getElem? (i := 57) (by decide +kernel))) rfl
theorem aw_538 : Cond.instantiable "SceneTimesModel" 21 ∈ AL := AL_t (tb_3 (List.mem_of_getElem? (i := 58) (by decide +kernel))) rfl
theorem aw_539 : Cond.methodLink "SceneTimesLaw" 67 ⟨"SceneTimesModel", "<init>", "()V"⟩ ∈ AL := AL_t (tb_3 (List.mem_of_getElem? (i := 59) (by decide +kernel))) rfl
theorem aw_540 : Cond.instanceMethod ⟨"SceneTimesModel", "<init>", "()V"⟩ ∈ AL := AL_t (tb_3 (List.mem_of_getElem? (i := 60) (by decide +kernel))) rfl
theorem aw_541 : Cond.code ⟨"SceneTimesModel", "<init>", "()V"⟩ prog_8_method_1_code 1 none ∈ AL := AL_t (tb_3 (List.mem_of_getElem? (i := 61) (rfl))) rfl
theorem aw_542 : Cond.methodLink "SceneTimesModel" 1 ⟨"java/lang/Object", "<init>", "()V"⟩ ∈ AL := AL_t (tb_3 (List.mem_of_getElem? (i := 62) (by decide +kernel))) rfl
theorem aw_543 : Cond.fieldLink "SceneTimesModel" 46 "SceneTimesModel" "thrown" "I" ∈ AL := AL_t (tb_3 (List.mem_of_getElem? (i := 63) (by decide +kernel))) rfl
theorem aw_544 : Cond.fieldLink "SceneTimesModel" 57 "SceneTimesModel" "now" "I" ∈ AL := AL_t (tb_3 (List.mem_of_getElem? (i := 64) (by decide +kernel))) rfl
theorem aw_545 : Cond.fieldLink "SceneTimesModel" 60 "SceneTimesModel" "writers" "I" ∈ AL := AL_t (tb_3 (List.mem_of_getElem? (i := 65) (by decide +kernel))) rfl
theorem aw_546 : Cond.fieldLink "SceneTimesModel" 50 "SceneTimesModel" "notes" "I" ∈ AL := AL_t (tb_3 (List.mem_of_getElem? (i := 66) (by decide +kernel))) rfl
theorem aw_547 : Cond.fieldLink "SceneTimesModel" 7 "SceneTimesModel" "writer" "[I" ∈ AL := AL_t (tb_3 (List.mem_of_getElem? (i := 67) (by decide +kernel))) rfl
theorem aw_548 : Cond.fieldLink "SceneTimesModel" 13 "SceneTimesModel" "kind" "[I" ∈ AL := AL_t (tb_3 (List.mem_of_getElem? (i := 68) (by decide +kernel))) rfl
theorem aw_549 : Cond.fieldLink "SceneTimesModel" 16 "SceneTimesModel" "sector" "[I" ∈ AL := AL_t (tb_3 (List.mem_of_getElem? (i := 69) (by decide +kernel))) rfl
theorem aw_550 : Cond.fieldLink "SceneTimesModel" 19 "SceneTimesModel" "was" "[I" ∈ AL := AL_t (tb_3 (List.mem_of_getElem? (i := 70) (by decide +kernel))) rfl
theorem aw_551 : Cond.fieldLink "SceneTimesModel" 22 "SceneTimesModel" "first" "[I" ∈ AL := AL_t (tb_3 (List.mem_of_getElem? (i := 71) (by decide +kernel))) rfl
theorem aw_552 : Cond.fieldLink "SceneTimesModel" 25 "SceneTimesModel" "known" "[I" ∈ AL := AL_t (tb_3 (List.mem_of_getElem? (i := 72) (by decide +kernel))) rfl
theorem aw_553 : Cond.fieldLink "SceneTimesModel" 71 "SceneTimesModel" "acts" "I" ∈ AL := AL_t (tb_3 (List.mem_of_getElem? (i := 73) (by decide +kernel))) rfl
theorem aw_554 : Cond.fieldLink "SceneTimesModel" 28 "SceneTimesModel" "actOn" "[I" ∈ AL := AL_t (tb_3 (List.mem_of_getElem? (i := 74) (by decide +kernel))) rfl
theorem aw_555 : Cond.fieldLink "SceneTimesModel" 31 "SceneTimesModel" "act" "[I" ∈ AL := AL_t (tb_3 (List.mem_of_getElem? (i := 75) (by decide +kernel))) rfl
theorem aw_556 : Cond.fieldLink "SceneTimesModel" 34 "SceneTimesModel" "actValue" "[I" ∈ AL := AL_t (tb_3 (List.mem_of_getElem? (i := 76) (by decide +kernel))) rfl
theorem aw_557 : Cond.fieldLink "SceneTimesModel" 37 "SceneTimesModel" "actAt" "[I" ∈ AL := AL_t (tb_3 (List.mem_of_getElem? (i := 77) (by decide +kernel))) rfl
theorem aw_558 : Cond.fieldLink "SceneTimesModel" 92 "SceneTimesModel" "asked" "Z" ∈ AL := AL_t (tb_3 (List.mem_of_getElem? (i := 78) (by decide +kernel))) rfl
theorem aw_559 : Cond.fieldLink "SceneTimesModel" 99 "SceneTimesModel" "rows" "I" ∈ AL := AL_t (tb_3 (List.mem_of_getElem? (i := 79) (by decide +kernel))) rfl
theorem aw_560 : Cond.fieldLink "SceneTimesModel" 96 "SceneTimesModel" "asOf" "I" ∈ AL := AL_t (tb_3 (List.mem_of_getElem? (i := 80) (by decide +kernel))) rfl
theorem aw_561 : Cond.fieldLink "SceneTimesModel" 40 "SceneTimesModel" "rowNote" "[I" ∈ AL := AL_t (tb_3 (List.mem_of_getElem? (i := 81) (by decide +kernel))) rfl
theorem aw_562 : Cond.fieldLink "SceneTimesModel" 117 "SceneTimesModel" "printed" "I" ∈ AL := AL_t (tb_3 (List.mem_of_getElem? (i := 82) (by decide +kernel))) rfl
theorem aw_563 : Cond.fieldLink "SceneTimesModel" 43 "SceneTimesModel" "out" "[I" ∈ AL := AL_t (tb_3 (List.mem_of_getElem? (i := 83) (by decide +kernel))) rfl
theorem aw_564 : Cond.lays "SceneTimesModel" "SceneTimesModel" "thrown" "I" ∈ AL := AL_t (tb_3 (List.mem_of_getElem? (i := 84) (by decide +kernel))) rfl
theorem aw_565 : Cond.soleField "SceneTimesModel" "thrown" ∈ AL := AL_t (tb_3 (List.mem_of_getElem? (i := 85) (by decide +kernel))) rfl
theorem aw_566 : Cond.lays "SceneTimesModel" "SceneTimesModel" "now" "I" ∈ AL := AL_t (tb_3 (List.mem_of_getElem? (i := 86) (by decide +kernel))) rfl
theorem aw_567 : Cond.soleField "SceneTimesModel" "now" ∈ AL := AL_t (tb_3 (List.mem_of_getElem? (i := 87) (by decide +kernel))) rfl
theorem aw_568 : Cond.lays "SceneTimesModel" "SceneTimesModel" "writers" "I" ∈ AL := AL_t (tb_3 (List.mem_of_getElem? (i := 88) (by decide +kernel))) rfl
theorem aw_569 : Cond.soleField "SceneTimesModel" "writers" ∈ AL := AL_t (tb_3 (List.mem_of_getElem? (i := 89) (by decide +kernel))) rfl
theorem aw_570 : Cond.lays "SceneTimesModel" "SceneTimesModel" "notes" "I" ∈ AL := AL_t (tb_3 (List.mem_of_getElem? (i := 90) (by decide +kernel))) rfl
theorem aw_571 : Cond.soleField "SceneTimesModel" "notes" ∈ AL := AL_t (tb_3 (List.mem_of_getElem? (i := 91) (by decide +kernel))) rfl
theorem aw_572 : Cond.laysFinal "SceneTimesModel" "SceneTimesModel" "writer" "[I" ∈ AL := AL_t (tb_3 (List.mem_of_getElem? (i := 92) (by decide +kernel))) rfl
theorem aw_573 : Cond.soleField "SceneTimesModel" "writer" ∈ AL := AL_t (tb_3 (List.mem_of_getElem? (i := 93) (by decide +kernel))) rfl
theorem aw_574 : Cond.laysFinal "SceneTimesModel" "SceneTimesModel" "kind" "[I" ∈ AL := AL_t (tb_3 (List.mem_of_getElem? (i := 94) (by decide +kernel))) rfl
theorem aw_575 : Cond.soleField "SceneTimesModel" "kind" ∈ AL := AL_t (tb_3 (List.mem_of_getElem? (i := 95) (by decide +kernel))) rfl
theorem aw_576 : Cond.laysFinal "SceneTimesModel" "SceneTimesModel" "sector" "[I" ∈ AL := AL_t (tb_3 (List.mem_of_getElem? (i := 96) (by decide +kernel))) rfl
theorem aw_577 : Cond.soleField "SceneTimesModel" "sector" ∈ AL := AL_t (tb_3 (List.mem_of_getElem? (i := 97) (by decide +kernel))) rfl
theorem aw_578 : Cond.laysFinal "SceneTimesModel" "SceneTimesModel" "was" "[I" ∈ AL := AL_t (tb_3 (List.mem_of_getElem? (i := 98) (by decide +kernel))) rfl
theorem aw_579 : Cond.soleField "SceneTimesModel" "was" ∈ AL := AL_t (tb_3 (List.mem_of_getElem? (i := 99) (by decide +kernel))) rfl
theorem aw_580 : Cond.laysFinal "SceneTimesModel" "SceneTimesModel" "first" "[I" ∈ AL := AL_t (tb_3 (List.mem_of_getElem? (i := 100) (by decide +kernel))) rfl
theorem aw_581 : Cond.soleField "SceneTimesModel" "first" ∈ AL := AL_t (tb_3 (List.mem_of_getElem? (i := 101) (by decide +kernel))) rfl
theorem aw_582 : Cond.laysFinal "SceneTimesModel" "SceneTimesModel" "known" "[I" ∈ AL := AL_t (tb_3 (List.mem_of_getElem? (i := 102) (by decide +kernel))) rfl
theorem aw_583 : Cond.soleField "SceneTimesModel" "known" ∈ AL := AL_t (tb_3 (List.mem_of_getElem? (i := 103) (by decide +kernel))) rfl
theorem aw_584 : Cond.lays "SceneTimesModel" "SceneTimesModel" "acts" "I" ∈ AL := AL_t (tb_3 (List.mem_of_getElem? (i := 104) (by decide +kernel))) rfl
theorem aw_585 : Cond.soleField "SceneTimesModel" "acts" ∈ AL := AL_t (tb_3 (List.mem_of_getElem? (i := 105) (by decide +kernel))) rfl
theorem aw_586 : Cond.laysFinal "SceneTimesModel" "SceneTimesModel" "actOn" "[I" ∈ AL := AL_t (tb_3 (List.mem_of_getElem? (i := 106) (by decide +kernel))) rfl
theorem aw_587 : Cond.soleField "SceneTimesModel" "actOn" ∈ AL := AL_t (tb_3 (List.mem_of_getElem? (i := 107) (by decide +kernel))) rfl
theorem aw_588 : Cond.laysFinal "SceneTimesModel" "SceneTimesModel" "act" "[I" ∈ AL := AL_t (tb_3 (List.mem_of_getElem? (i := 108) (by decide +kernel))) rfl
theorem aw_589 : Cond.soleField "SceneTimesModel" "act" ∈ AL := AL_t (tb_3 (List.mem_of_getElem? (i := 109) (by decide +kernel))) rfl
theorem aw_590 : Cond.laysFinal "SceneTimesModel" "SceneTimesModel" "actValue" "[I" ∈ AL := AL_t (tb_3 (List.mem_of_getElem? (i := 110) (by decide +kernel))) rfl
theorem aw_591 : Cond.soleField "SceneTimesModel" "actValue" ∈ AL := AL_t (tb_3 (List.mem_of_getElem? (i := 111) (by decide +kernel))) rfl
theorem aw_592 : Cond.laysFinal "SceneTimesModel" "SceneTimesModel" "actAt" "[I" ∈ AL := AL_t (tb_3 (List.mem_of_getElem? (i := 112) (by decide +kernel))) rfl
theorem aw_593 : Cond.soleField "SceneTimesModel" "actAt" ∈ AL := AL_t (tb_3 (List.mem_of_getElem? (i := 113) (by decide +kernel))) rfl
theorem aw_594 : Cond.lays "SceneTimesModel" "SceneTimesModel" "asked" "Z" ∈ AL := AL_t (tb_3 (List.mem_of_getElem? (i := 114) (by decide +kernel))) rfl
theorem aw_595 : Cond.soleField "SceneTimesModel" "asked" ∈ AL := AL_t (tb_3 (List.mem_of_getElem? (i := 115) (by decide +kernel))) rfl
theorem aw_596 : Cond.lays "SceneTimesModel" "SceneTimesModel" "rows" "I" ∈ AL := AL_t (tb_3 (List.mem_of_getElem? (i := 116) (by decide +kernel))) rfl
theorem aw_597 : Cond.soleField "SceneTimesModel" "rows" ∈ AL := AL_t (tb_3 (List.mem_of_getElem? (i := 117) (by decide +kernel))) rfl
theorem aw_598 : Cond.lays "SceneTimesModel" "SceneTimesModel" "asOf" "I" ∈ AL := AL_t (tb_3 (List.mem_of_getElem? (i := 118) (by decide +kernel))) rfl
theorem aw_599 : Cond.soleField "SceneTimesModel" "asOf" ∈ AL := AL_t (tb_3 (List.mem_of_getElem? (i := 119) (by decide +kernel))) rfl
theorem aw_600 : Cond.laysFinal "SceneTimesModel" "SceneTimesModel" "rowNote" "[I" ∈ AL := AL_t (tb_3 (List.mem_of_getElem? (i := 120) (by decide +kernel))) rfl
theorem aw_601 : Cond.soleField "SceneTimesModel" "rowNote" ∈ AL := AL_t (tb_3 (List.mem_of_getElem? (i := 121) (by decide +kernel))) rfl
theorem aw_602 : Cond.lays "SceneTimesModel" "SceneTimesModel" "printed" "I" ∈ AL := AL_t (tb_3 (List.mem_of_getElem? (i := 122) (by decide +kernel))) rfl
theorem aw_603 : Cond.soleField "SceneTimesModel" "printed" ∈ AL := AL_t (tb_3 (List.mem_of_getElem? (i := 123) (by decide +kernel))) rfl
theorem aw_604 : Cond.laysFinal "SceneTimesModel" "SceneTimesModel" "out" "[I" ∈ AL := AL_t (tb_3 (List.mem_of_getElem? (i := 124) (by decide +kernel))) rfl
theorem aw_605 : Cond.soleField "SceneTimesModel" "out" ∈ AL := AL_t (tb_3 (List.mem_of_getElem? (i := 125) (by decide +kernel))) rfl
theorem aw_606 : Cond.superclass "SceneTimesModel" "java/lang/Object" ∈ AL := AL_t (tb_3 (List.mem_of_getElem? (i := 126) (by decide +kernel))) rfl
theorem aw_607 : Cond.arrayClass .int ∈ AL := AL_t (tb_3 (List.mem_of_getElem? (i := 127) (by decide +kernel))) rfl
theorem aw_608 : Cond.methodLink "SceneTimesLaw" 74 ⟨"SceneTimesModel", "thrown", "()I"⟩ ∈ AL := AL_t (tb_3 (List.mem_of_getElem? (i := 128) (by decide +kernel))) rfl
theorem aw_609 : Cond.instanceMethod ⟨"SceneTimesModel", "thrown", "()I"⟩ ∈ AL := AL_t (tb_3 (List.mem_of_getElem? (i := 129) (by decide +kernel))) rfl
theorem aw_610 : Cond.selects "SceneTimesModel" ⟨"SceneTimesModel", "thrown", "()I"⟩ ⟨"SceneTimesModel", "thrown", "()I"⟩ ∈ AL := AL_t (tb_3 (List.mem_of_getElem? (i := 130) (by decide +kernel))) rfl
theorem aw_611 : Cond.code ⟨"SceneTimesModel", "thrown", "()I"⟩ prog_8_method_2_code 1 (some .int) ∈ AL := AL_t (tb_3 (List.mem_of_getElem? (i := 131) (rfl))) rfl
theorem aw_612 : Cond.methodLink "SceneTimesLaw" 73 ⟨"SceneTimesModel", "writer", "()I"⟩ ∈ AL := AL_t (tb_3 (List.mem_of_getElem? (i := 132) (by decide +kernel))) rfl
theorem aw_613 : Cond.instanceMethod ⟨"SceneTimesModel", "writer", "()I"⟩ ∈ AL := AL_t (tb_3 (List.mem_of_getElem? (i := 133) (by decide +kernel))) rfl
theorem aw_614 : Cond.selects "SceneTimesModel" ⟨"SceneTimesModel", "writer", "()I"⟩ ⟨"SceneTimesModel", "writer", "()I"⟩ ∈ AL := AL_t (tb_3 (List.mem_of_getElem? (i := 134) (by decide +kernel))) rfl
theorem aw_615 : Cond.code ⟨"SceneTimesModel", "writer", "()I"⟩ prog_8_method_7_code 1 (some .int) ∈ AL := AL_t (tb_3 (List.mem_of_getElem? (i := 135) (rfl))) rfl
theorem aw_616 : Cond.methodLink "SceneTimesModel" 63 ⟨"SceneTimesModel", "goes", "(IZZZZ)Z"⟩ ∈ AL := AL_t (tb_3 (List.mem_of_getElem? (i := 136) (by decide +kernel))) rfl
theorem aw_618 : Cond.instanceMethod ⟨"SceneTimesModel", "goes", "(IZZZZ)Z"⟩ ∈ AL := AL_t (tb_3 (List.mem_of_getElem? (i := 138) (by decide +kernel))) rfl
theorem aw_619 : Cond.code ⟨"SceneTimesModel", "goes", "(IZZZZ)Z"⟩ prog_8_method_4_code 8 (some .boolean) ∈ AL := AL_t (tb_3 (List.mem_of_getElem? (i := 139) (rfl))) rfl
theorem aw_620 : Cond.methodLink "SceneTimesLaw" 80 ⟨"SceneTimesModel", "note", "(IIIII)I"⟩ ∈ AL := AL_t (tb_3 (List.mem_of_getElem? (i := 140) (by decide +kernel))) rfl
theorem aw_621 : Cond.instanceMethod ⟨"SceneTimesModel", "note", "(IIIII)I"⟩ ∈ AL := AL_t (tb_3 (List.mem_of_getElem? (i := 141) (by decide +kernel))) rfl
theorem aw_622 : Cond.selects "SceneTimesModel" ⟨"SceneTimesModel", "note", "(IIIII)I"⟩ ⟨"SceneTimesModel", "note", "(IIIII)I"⟩ ∈ AL := AL_t (tb_3 (List.mem_of_getElem? (i := 142) (by decide +kernel))) rfl
theorem aw_623 : Cond.code ⟨"SceneTimesModel", "note", "(IIIII)I"⟩ prog_8_method_8_code 6 (some .int) ∈ AL := AL_t (tb_3 (List.mem_of_getElem? (i := 143) (rfl))) rfl
theorem aw_624 : Cond.methodLink "SceneTimesModel" 53 ⟨"SceneTimesModel", "in", "(III)Z"⟩ ∈ AL := AL_t (tb_3 (List.mem_of_getElem? (i := 144) (by decide +kernel))) rfl
theorem aw_625 : Cond.static ⟨"SceneTimesModel", "in", "(III)Z"⟩ ∈ AL := AL_t (tb_3 (List.mem_of_getElem? (i := 145) (by decide +kernel))) rfl
theorem aw_626 : Cond.code ⟨"SceneTimesModel", "in", "(III)Z"⟩ prog_8_method_3_code 3 (some .boolean) ∈ AL := AL_t (tb_3 (List.mem_of_getElem? (i := 146) (rfl))) rfl
theorem aw_627 : Cond.methodLink "SceneTimesModel" 67 ⟨"SceneTimesModel", "isGone", "(I)Z"⟩ ∈ AL := AL_t (tb_3 (List.mem_of_getElem? (i := 147) (by decide +kernel))) rfl
theorem aw_629 : Cond.instanceMethod ⟨"SceneTimesModel", "isGone", "(I)Z"⟩ ∈ AL := AL_t (tb_3 (List.mem_of_getElem? (i := 149) (by decide +kernel))) rfl
theorem aw_630 : Cond.code ⟨"SceneTimesModel", "isGone", "(I)Z"⟩ prog_8_method_6_code 2 (some .boolean) ∈ AL := AL_t (tb_3 (List.mem_of_getElem? (i := 150) (rfl))) rfl
theorem aw_631 : Cond.methodLink "SceneTimesLaw" 84 ⟨"SceneTimesModel", "correct", "(II)I"⟩ ∈ AL := AL_t (tb_3 (List.mem_of_getElem? (i := 151) (by decide +kernel))) rfl
theorem aw_632 : Cond.instanceMethod ⟨"SceneTimesModel", "correct", "(II)I"⟩ ∈ AL := AL_t (tb_3 (List.mem_of_getElem? (i := 152) (by decide +kernel))) rfl
theorem aw_633 : Cond.selects "SceneTimesModel" ⟨"SceneTimesModel", "correct", "(II)I"⟩ ⟨"SceneTimesModel", "correct", "(II)I"⟩ ∈ AL := AL_t (tb_3 (List.mem_of_getElem? (i := 153) (by decide +kernel))) rfl
theorem aw_634 : Cond.code ⟨"SceneTimesModel", "correct", "(II)I"⟩ prog_8_method_13_code 3 (some .int) ∈ AL := AL_t (tb_3 (List.mem_of_getElem? (i := 154) (rfl))) rfl
theorem aw_635 : Cond.methodLink "SceneTimesModel" 74 ⟨"SceneTimesModel", "isNote", "(I)Z"⟩ ∈ AL := AL_t (tb_3 (List.mem_of_getElem? (i := 155) (by decide +kernel))) rfl
theorem aw_637 : Cond.instanceMethod ⟨"SceneTimesModel", "isNote", "(I)Z"⟩ ∈ AL := AL_t (tb_3 (List.mem_of_getElem? (i := 157) (by decide +kernel))) rfl
theorem aw_638 : Cond.code ⟨"SceneTimesModel", "isNote", "(I)Z"⟩ prog_8_method_5_code 2 (some .boolean) ∈ AL := AL_t (tb_3 (List.mem_of_getElem? (i := 158) (rfl))) rfl
theorem aw_639 : Cond.methodLink "SceneTimesModel" 77 ⟨"SceneTimesModel", "isStruck", "(II)Z"⟩ ∈ AL := AL_t (tb_3 (List.mem_of_getElem? (i := 159) (by decide +kernel))) rfl
theorem aw_641 : Cond.instanceMethod ⟨"SceneTimesModel", "isStruck", "(II)Z"⟩ ∈ AL := AL_t (tb_3 (List.mem_of_getElem? (i := 161) (by decide +kernel))) rfl
theorem aw_642 : Cond.code ⟨"SceneTimesModel", "isStruck", "(II)Z"⟩ prog_8_method_10_code 5 (some .boolean) ∈ AL := AL_t (tb_3 (List.mem_of_getElem? (i := 162) (rfl))) rfl
theorem aw_643 : Cond.methodLink "SceneTimesModel" 81 ⟨"SceneTimesModel", "does", "(III)V"⟩ ∈ AL := AL_t (tb_3 (List.mem_of_getElem? (i := 163) (by decide +kernel))) rfl
theorem aw_645 : Cond.instanceMethod ⟨"SceneTimesModel", "does", "(III)V"⟩ ∈ AL := AL_t (tb_3 (List.mem_of_getElem? (i := 165) (by decide +kernel))) rfl
theorem aw_646 : Cond.code ⟨"SceneTimesModel", "does", "(III)V"⟩ prog_8_method_11_code 4 none ∈ AL := AL_t (tb_3 (List.mem_of_getElem? (i := 166) (rfl))) rfl
theorem aw_647 : Cond.methodLink "SceneTimesModel" 85 ⟨"SceneTimesModel", "many", "(IZ)I"⟩ ∈ AL := AL_t (tb_3 (List.mem_of_getElem? (i := 167) (by decide +kernel))) rfl
theorem aw_649 : Cond.instanceMethod ⟨"SceneTimesModel", "many", "(IZ)I"⟩ ∈ AL := AL_t (tb_3 (List.mem_of_getElem? (i := 169) (by decide +kernel))) rfl
theorem aw_650 : Cond.code ⟨"SceneTimesModel", "many", "(IZ)I"⟩ prog_8_method_12_code 5 (some .int) ∈ AL := AL_t (tb_3 (List.mem_of_getElem? (i := 170) (rfl))) rfl
theorem aw_651 : Cond.methodLink "SceneTimesLaw" 88 ⟨"SceneTimesModel", "strike", "(IZ)V"⟩ ∈ AL := AL_t (tb_3 (List.mem_of_getElem? (i := 171) (by decide +kernel))) rfl
theorem aw_652 : Cond.instanceMethod ⟨"SceneTimesModel", "strike", "(IZ)V"⟩ ∈ AL := AL_t (tb_3 (List.mem_of_getElem? (i := 172) (by decide +kernel))) rfl
theorem aw_653 : Cond.selects "SceneTimesModel" ⟨"SceneTimesModel", "strike", "(IZ)V"⟩ ⟨"SceneTimesModel", "strike", "(IZ)V"⟩ ∈ AL := AL_t (tb_3 (List.mem_of_getElem? (i := 173) (by decide +kernel))) rfl
theorem aw_654 : Cond.code ⟨"SceneTimesModel", "strike", "(IZ)V"⟩ prog_8_method_14_code 3 none ∈ AL := AL_t (tb_3 (List.mem_of_getElem? (i := 174) (rfl))) rfl
theorem aw_655 : Cond.methodLink "SceneTimesLaw" 91 ⟨"SceneTimesModel", "ask", "(IIIII)I"⟩ ∈ AL := AL_t (tb_3 (List.mem_of_getElem? (i := 175) (by decide +kernel))) rfl
theorem aw_656 : Cond.instanceMethod ⟨"SceneTimesModel", "ask", "(IIIII)I"⟩ ∈ AL := AL_t (tb_3 (List.mem_of_getElem? (i := 176) (by decide +kernel))) rfl
theorem aw_657 : Cond.selects "SceneTimesModel" ⟨"SceneTimesModel", "ask", "(IIIII)I"⟩ ⟨"SceneTimesModel", "ask", "(IIIII)I"⟩ ∈ AL := AL_t (tb_3 (List.mem_of_getElem? (i := 177) (by decide +kernel))) rfl
theorem aw_658 : Cond.code ⟨"SceneTimesModel", "ask", "(IIIII)I"⟩ prog_8_method_17_code 7 (some .int) ∈ AL := AL_t (tb_3 (List.mem_of_getElem? (i := 178) (rfl))) rfl
theorem aw_659 : Cond.methodLink "SceneTimesModel" 102 ⟨"SceneTimesModel", "following", "(IZIII)I"⟩ ∈ AL := AL_t (tb_3 (List.mem_of_getElem? (i := 179) (by decide +kernel))) rfl
theorem aw_661 : Cond.instanceMethod ⟨"SceneTimesModel", "following", "(IZIII)I"⟩ ∈ AL := AL_t (tb_3 (List.mem_of_getElem? (i := 181) (by decide +kernel))) rfl
theorem aw_662 : Cond.code ⟨"SceneTimesModel", "following", "(IZIII)I"⟩ prog_8_method_16_code 8 (some .int) ∈ AL := AL_t (tb_3 (List.mem_of_getElem? (i := 182) (rfl))) rfl
theorem aw_663 : Cond.methodLink "SceneTimesModel" 89 ⟨"SceneTimesModel", "isBefore", "(II)Z"⟩ ∈ AL := AL_t (tb_3 (List.mem_of_getElem? (i := 183) (by decide +kernel))) rfl
theorem aw_665 : Cond.instanceMethod ⟨"SceneTimesModel", "isBefore", "(II)Z"⟩ ∈ AL := AL_t (tb_3 (List.mem_of_getElem? (i := 185) (by decide +kernel))) rfl
theorem aw_666 : Cond.code ⟨"SceneTimesModel", "isBefore", "(II)Z"⟩ prog_8_method_15_code 3 (some .boolean) ∈ AL := AL_t (tb_3 (List.mem_of_getElem? (i := 186) (rfl))) rfl
theorem aw_667 : Cond.methodLink "SceneTimesLaw" 94 ⟨"SceneTimesModel", "row", "(II)I"⟩ ∈ AL := AL_t (tb_3 (List.mem_of_getElem? (i := 187) (by decide +kernel))) rfl
theorem aw_668 : Cond.instanceMethod ⟨"SceneTimesModel", "row", "(II)I"⟩ ∈ AL := AL_t (tb_3 (List.mem_of_getElem? (i := 188) (by decide +kernel))) rfl
theorem aw_669 : Cond.selects "SceneTimesModel" ⟨"SceneTimesModel", "row", "(II)I"⟩ ⟨"SceneTimesModel", "row", "(II)I"⟩ ∈ AL := AL_t (tb_3 (List.mem_of_getElem? (i := 189) (by decide +kernel))) rfl
theorem aw_670 : Cond.code ⟨"SceneTimesModel", "row", "(II)I"⟩ prog_8_method_18_code 4 (some .int) ∈ AL := AL_t (tb_3 (List.mem_of_getElem? (i := 190) (rfl))) rfl
theorem aw_671 : Cond.methodLink "SceneTimesModel" 106 ⟨"SceneTimesModel", "value", "(II)I"⟩ ∈ AL := AL_t (tb_3 (List.mem_of_getElem? (i := 191) (by decide +kernel))) rfl
theorem aw_673 : Cond.instanceMethod ⟨"SceneTimesModel", "value", "(II)I"⟩ ∈ AL := AL_t (tb_3 (List.mem_of_getElem? (i := 193) (by decide +kernel))) rfl
theorem aw_674 : Cond.code ⟨"SceneTimesModel", "value", "(II)I"⟩ prog_8_method_9_code 5 (some .int) ∈ AL := AL_t (tb_3 (List.mem_of_getElem? (i := 194) (rfl))) rfl
theorem aw_675 : Cond.methodLink "SceneTimesLaw" 97 ⟨"SceneTimesModel", "reading", "(II)I"⟩ ∈ AL := AL_t (tb_3 (List.mem_of_getElem? (i := 195) (by decide +kernel))) rfl
theorem aw_676 : Cond.instanceMethod ⟨"SceneTimesModel", "reading", "(II)I"⟩ ∈ AL := AL_t (tb_3 (List.mem_of_getElem? (i := 196) (by decide +kernel))) rfl
theorem aw_677 : Cond.selects "SceneTimesModel" ⟨"SceneTimesModel", "reading", "(II)I"⟩ ⟨"SceneTimesModel", "reading", "(II)I"⟩ ∈ AL := AL_t (tb_3 (List.mem_of_getElem? (i := 197) (by decide +kernel))) rfl
theorem aw_678 : Cond.code ⟨"SceneTimesModel", "reading", "(II)I"⟩ prog_8_method_20_code 8 (some .int) ∈ AL := AL_t (tb_3 (List.mem_of_getElem? (i := 198) (rfl))) rfl
theorem aw_679 : Cond.methodLink "SceneTimesModel" 110 ⟨"SceneTimesModel", "floor", "(II)I"⟩ ∈ AL := AL_t (tb_3 (List.mem_of_getElem? (i := 199) (by decide +kernel))) rfl
theorem aw_680 : Cond.static ⟨"SceneTimesModel", "floor", "(II)I"⟩ ∈ AL := AL_t (tb_3 (List.mem_of_getElem? (i := 200) (by decide +kernel))) rfl
theorem aw_681 : Cond.code ⟨"SceneTimesModel", "floor", "(II)I"⟩ prog_8_method_19_code 3 (some .int) ∈ AL := AL_t (tb_3 (List.mem_of_getElem? (i := 201) (rfl))) rfl
theorem aw_682 : Cond.methodLink "SceneTimesLaw" 100 ⟨"SceneTimesModel", "gap", "(II)I"⟩ ∈ AL := AL_t (tb_3 (List.mem_of_getElem? (i := 202) (by decide +kernel))) rfl
theorem aw_683 : Cond.instanceMethod ⟨"SceneTimesModel", "gap", "(II)I"⟩ ∈ AL := AL_t (tb_3 (List.mem_of_getElem? (i := 203) (by decide +kernel))) rfl
theorem aw_684 : Cond.selects "SceneTimesModel" ⟨"SceneTimesModel", "gap", "(II)I"⟩ ⟨"SceneTimesModel", "gap", "(II)I"⟩ ∈ AL := AL_t (tb_3 (List.mem_of_getElem? (i := 204) (by decide +kernel))) rfl
theorem aw_685 : Cond.code ⟨"SceneTimesModel", "gap", "(II)I"⟩ prog_8_method_21_code 6 (some .int) ∈ AL := AL_t (tb_3 (List.mem_of_getElem? (i := 205) (rfl))) rfl
theorem aw_686 : Cond.constant "SceneTimesModel" 113 99999 ∈ AL := AL_t (tb_3 (List.mem_of_getElem? (i := 206) (by decide +kernel))) rfl
theorem aw_687 : Cond.methodLink "SceneTimesLaw" 104 ⟨"SceneTimesModel", "digest", "(I)I"⟩ ∈ AL := AL_t (tb_3 (List.mem_of_getElem? (i := 207) (by decide +kernel))) rfl
theorem aw_688 : Cond.instanceMethod ⟨"SceneTimesModel", "digest", "(I)I"⟩ ∈ AL := AL_t (tb_3 (List.mem_of_getElem? (i := 208) (by decide +kernel))) rfl
theorem aw_689 : Cond.selects "SceneTimesModel" ⟨"SceneTimesModel", "digest", "(I)I"⟩ ⟨"SceneTimesModel", "digest", "(I)I"⟩ ∈ AL := AL_t (tb_3 (List.mem_of_getElem? (i := 209) (by decide +kernel))) rfl
theorem aw_690 : Cond.code ⟨"SceneTimesModel", "digest", "(I)I"⟩ prog_8_method_23_code 4 (some .int) ∈ AL := AL_t (tb_3 (List.mem_of_getElem? (i := 210) (rfl))) rfl
theorem aw_691 : Cond.methodLink "SceneTimesModel" 114 ⟨"SceneTimesModel", "mix", "(II)I"⟩ ∈ AL := AL_t (tb_3 (List.mem_of_getElem? (i := 211) (by decide +kernel))) rfl
theorem aw_692 : Cond.static ⟨"SceneTimesModel", "mix", "(II)I"⟩ ∈ AL := AL_t (tb_3 (List.mem_of_getElem? (i := 212) (by decide +kernel))) rfl
theorem aw_693 : Cond.code ⟨"SceneTimesModel", "mix", "(II)I"⟩ prog_8_method_22_code 3 (some .int) ∈ AL := AL_t (tb_3 (List.mem_of_getElem? (i := 213) (rfl))) rfl
theorem aw_694 : Cond.methodLink "SceneTimesLaw" 107 ⟨"SceneTimesModel", "noteAt", "(II)I"⟩ ∈ AL := AL_t (tb_3 (List.mem_of_getElem? (i := 214) (by decide +kernel))) rfl
theorem aw_695 : Cond.instanceMethod ⟨"SceneTimesModel", "noteAt", "(II)I"⟩ ∈ AL := AL_t (tb_3 (List.mem_of_getElem? (i := 215) (by decide +kernel))) rfl
theorem aw_696 : Cond.selects "SceneTimesModel" ⟨"SceneTimesModel", "noteAt", "(II)I"⟩ ⟨"SceneTimesModel", "noteAt", "(II)I"⟩ ∈ AL := AL_t (tb_3 (List.mem_of_getElem? (i := 216) (by decide +kernel))) rfl
theorem aw_697 : Cond.code ⟨"SceneTimesModel", "noteAt", "(II)I"⟩ prog_8_method_24_code 3 (some .int) ∈ AL := AL_t (tb_3 (List.mem_of_getElem? (i := 217) (rfl))) rfl
theorem aw_698 : Cond.methodLink "SceneTimesLaw" 110 ⟨"SceneTimesModel", "print", "()I"⟩ ∈ AL := AL_t (tb_3 (List.mem_of_getElem? (i := 218) (by decide +kernel))) rfl
theorem aw_699 : Cond.instanceMethod ⟨"SceneTimesModel", "print", "()I"⟩ ∈ AL := AL_t (tb_3 (List.mem_of_getElem? (i := 219) (by decide +kernel))) rfl
theorem aw_700 : Cond.selects "SceneTimesModel" ⟨"SceneTimesModel", "print", "()I"⟩ ⟨"SceneTimesModel", "print", "()I"⟩ ∈ AL := AL_t (tb_3 (List.mem_of_getElem? (i := 220) (by decide +kernel))) rfl
theorem aw_701 : Cond.code ⟨"SceneTimesModel", "print", "()I"⟩ prog_8_method_27_code 4 (some .int) ∈ AL := AL_t (tb_3 (List.mem_of_getElem? (i := 221) (rfl))) rfl
theorem aw_702 : Cond.methodLink "SceneTimesModel" 124 ⟨"SceneTimesModel", "number", "(II)V"⟩ ∈ AL := AL_t (tb_3 (List.mem_of_getElem? (i := 222) (by decide +kernel))) rfl
theorem aw_704 : Cond.instanceMethod ⟨"SceneTimesModel", "number", "(II)V"⟩ ∈ AL := AL_t (tb_3 (List.mem_of_getElem? (i := 224) (by decide +kernel))) rfl
theorem aw_705 : Cond.code ⟨"SceneTimesModel", "number", "(II)V"⟩ prog_8_method_26_code 5 none ∈ AL := AL_t (tb_3 (List.mem_of_getElem? (i := 225) (rfl))) rfl
theorem aw_706 : Cond.methodLink "SceneTimesModel" 120 ⟨"SceneTimesModel", "put", "(I)V"⟩ ∈ AL := AL_t (tb_3 (List.mem_of_getElem? (i := 226) (by decide +kernel))) rfl
theorem aw_708 : Cond.instanceMethod ⟨"SceneTimesModel", "put", "(I)V"⟩ ∈ AL := AL_t (tb_3 (List.mem_of_getElem? (i := 228) (by decide +kernel))) rfl
theorem aw_709 : Cond.code ⟨"SceneTimesModel", "put", "(I)V"⟩ prog_8_method_25_code 2 none ∈ AL := AL_t (tb_3 (List.mem_of_getElem? (i := 229) (rfl))) rfl
theorem aw_710 : Cond.methodLink "SceneTimesLaw" 113 ⟨"SceneTimesModel", "at", "(I)I"⟩ ∈ AL := AL_t (tb_3 (List.mem_of_getElem? (i := 230) (by decide +kernel))) rfl
theorem aw_711 : Cond.instanceMethod ⟨"SceneTimesModel", "at", "(I)I"⟩ ∈ AL := AL_t (tb_3 (List.mem_of_getElem? (i := 231) (by decide +kernel))) rfl
theorem aw_712 : Cond.selects "SceneTimesModel" ⟨"SceneTimesModel", "at", "(I)I"⟩ ⟨"SceneTimesModel", "at", "(I)I"⟩ ∈ AL := AL_t (tb_3 (List.mem_of_getElem? (i := 232) (by decide +kernel))) rfl
theorem aw_713 : Cond.code ⟨"SceneTimesModel", "at", "(I)I"⟩ prog_8_method_28_code 2 (some .int) ∈ AL := AL_t (tb_3 (List.mem_of_getElem? (i := 233) (rfl))) rfl
theorem aw_714 : Cond.methodLink "SceneTimesLaw" 116 ⟨"SceneTimesModel", "tick", "(I)I"⟩ ∈ AL := AL_t (tb_3 (List.mem_of_getElem? (i := 234) (by decide +kernel))) rfl
theorem aw_715 : Cond.instanceMethod ⟨"SceneTimesModel", "tick", "(I)I"⟩ ∈ AL := AL_t (tb_3 (List.mem_of_getElem? (i := 235) (by decide +kernel))) rfl
theorem aw_716 : Cond.selects "SceneTimesModel" ⟨"SceneTimesModel", "tick", "(I)I"⟩ ⟨"SceneTimesModel", "tick", "(I)I"⟩ ∈ AL := AL_t (tb_3 (List.mem_of_getElem? (i := 236) (by decide +kernel))) rfl
theorem aw_717 : Cond.code ⟨"SceneTimesModel", "tick", "(I)I"⟩ prog_8_method_29_code 2 (some .int) ∈ AL := AL_t (tb_3 (List.mem_of_getElem? (i := 237) (rfl))) rfl
theorem aw_718 : Cond.methodLink "SceneTimesLaw" 119 ⟨"SceneTimesModel", "count", "(I)I"⟩ ∈ AL := AL_t (tb_3 (List.mem_of_getElem? (i := 238) (by decide +kernel))) rfl
theorem aw_719 : Cond.instanceMethod ⟨"SceneTimesModel", "count", "(I)I"⟩ ∈ AL := AL_t (tb_3 (List.mem_of_getElem? (i := 239) (by decide +kernel))) rfl
theorem aw_720 : Cond.selects "SceneTimesModel" ⟨"SceneTimesModel", "count", "(I)I"⟩ ⟨"SceneTimesModel", "count", "(I)I"⟩ ∈ AL := AL_t (tb_4 (List.mem_of_getElem? (i := 0) (by decide +kernel))) rfl
theorem aw_721 : Cond.code ⟨"SceneTimesModel", "count", "(I)I"⟩ prog_8_method_30_code 5 (some .int) ∈ AL := AL_t (tb_4 (List.mem_of_getElem? (i := 1) (rfl))) rfl
theorem aw_722 : Cond.arrayClass .long ∈ AL := AL_t (tb_4 (List.mem_of_getElem? (i := 2) (by decide +kernel))) rfl
theorem aw_723 : Cond.sameMethod "java/lang/Throwable" "java/lang/Throwable" "fillInStackTrace" "(I)Ljava/lang/Throwable;" ∈ AL := AL_t (tb_4 (List.mem_of_getElem? (i := 3) (by decide +kernel))) rfl
end
section
/-! WORLDS AS MAPS: what lies at an address, by a function; the kit's lists of cells stand behind it -/
def mw (D : va_G) (cl : List vw_C) (A : Nat → Prop) (w : Nat → Option va_E) (H : Heap) : Prop := ∀ (a : Nat) (e : va_E), w a = some e → va_at D cl (a, e) H ∧ A a
def mA (w : Nat → Option va_E) (sz : Nat) : Nat → Prop := fun q => w q ≠ none ∨ sz ≤ q
theorem mw_weaken {D : va_G} {cl : List vw_C} {A B : Nat → Prop} {w : Nat → Option va_E} {H : Heap} (h : mw D cl A w H) (hAB : ∀ q, A q → B q) : mw D cl B w H := fun a e he => ⟨(h a e he).1, hAB a (h a e he).2⟩
theorem mw_self {D : va_G} {cl : List vw_C} {A : Nat → Prop} {w : Nat → Option va_E} {H : Heap} {sz : Nat} (h : mw D cl A w H) : mw D cl (mA w sz) w H := fun a e he => ⟨(h a e he).1, Or.inl (by rw [he]; exact fun q => nomatch q)⟩
theorem mw_lt {D : va_G} {cl : List vw_C} {A : Nat → Prop} {w : Nat → Option va_E} {H : Heap} (h : mw D cl A w H) {a : Nat} {e : va_E} (he : w a = some e) : a < H.size := (h a e he).1.lt
theorem mw_lt' {D : va_G} {cl : List vw_C} {A : Nat → Prop} {w : Nat → Option va_E} {H : Heap} (h : mw D cl A w H) {a : Nat} (he : w a ≠ none) : a < H.size := by
  cases hw : w a with
  | none => exact absurd hw he
  | some e => exact mw_lt h hw
/-- a heap in which the cells of w are as they were -/
theorem mw_frame {D : va_G} {cl : List vw_C} {A A1 : Nat → Prop} {w : Nat → Option va_E} {H H1 : Heap} (h : mw D cl A w H) (hq : ∀ q : Nat, q < H.size → ¬ A1 q → H1[q]? = H[q]?) (hd : ∀ q, w q ≠ none → ¬ A1 q) : mw D cl A w H1 := fun a e he =>
  ⟨(h a e he).1.kept (hq a (mw_lt h he) (hd a (by rw [he]; exact fun q => nomatch q))), (h a e he).2⟩
theorem mw_kept {D : va_G} {cl : List vw_C} {A : Nat → Prop} {w : Nat → Option va_E} {H H1 : Heap} (h : mw D cl A w H) (hq : ∀ q : Nat, q < H.size → H1[q]? = H[q]?) : mw D cl A w H1 := fun a e he => ⟨(h a e he).1.kept (hq a (mw_lt h he)), (h a e he).2⟩
theorem mw_free {D : va_G} {cl : List vw_C} {A : Nat → Prop} {w : Nat → Option va_E} {H H0 : Heap} {locs : List Loc} (h : mw D cl A w H) (hS : va_S A H0 H locs) (hA : ∀ q, H0.size ≤ q → A q) : ∀ q, mA w H.size q → A q := by
  intro q hq
  rcases hq with h1 | h1
  · cases hw : w q with
    | none => exact absurd hw h1
    | some e => exact (h q e hw).2
  · exact hA q (Nat.le_trans hS.1 h1)
/-- the cells below n, as a list -/
def mL (w : Nat → Option va_E) : Nat → va_W
  | 0 => []
  | n + 1 => match w n with
    | some e => (n, e) :: mL w n
    | none => mL w n
theorem mL_in {w : Nat → Option va_E} : ∀ (n k : Nat) (q : Nat × va_E), (mL w n)[k]? = some q → q.1 < n ∧ w q.1 = some q.2 := by
  intro n
  induction n with
  | zero => intro k q h; simp [mL] at h
  | succ n ih =>
    intro k q h
    unfold mL at h
    cases hw : w n with
    | none =>
      rw [hw] at h
      exact ⟨Nat.lt_succ_of_lt (ih k q h).1, (ih k q h).2⟩
    | some e =>
      rw [hw] at h
      cases k with
      | zero =>
        rw [List.getElem?_cons_zero] at h
        cases h
        exact ⟨Nat.lt_succ_self n, hw⟩
      | succ k =>
        rw [List.getElem?_cons_succ] at h
        exact ⟨Nat.lt_succ_of_lt (ih k q h).1, (ih k q h).2⟩
theorem mL_has {w : Nat → Option va_E} : ∀ (n a : Nat) (e : va_E), a < n → w a = some e → ∃ k : Nat, (mL w n)[k]? = some (a, e) := by
  intro n
  induction n with
  | zero => intro a e h; exact absurd h (Nat.not_lt_zero a)
  | succ n ih =>
    intro a e h he
    unfold mL
    by_cases ha : a = n
    · subst ha
      rw [he]
      exact ⟨0, rfl⟩
    · obtain ⟨k, hk⟩ := ih a e (by omega) he
      cases hw : w n with
      | none => exact ⟨k, hk⟩
      | some e2 => exact ⟨k + 1, hk⟩
theorem mL_inj {w : Nat → Option va_E} : ∀ (n i j : Nat) (p q : Nat × va_E), (mL w n)[i]? = some p → (mL w n)[j]? = some q → p.1 = q.1 → i = j := by
  intro n
  induction n with
  | zero => intro i j p q h; simp [mL] at h
  | succ n ih =>
    intro i j p q h1 h2 hpq
    unfold mL at h1 h2
    cases hw : w n with
    | none =>
      rw [hw] at h1 h2
      exact ih i j p q h1 h2 hpq
    | some e =>
      rw [hw] at h1 h2
      cases i with
      | zero =>
        rw [List.getElem?_cons_zero] at h1
        cases h1
        cases j with
        | zero => rfl
        | succ j =>
          rw [List.getElem?_cons_succ] at h2
          have := (mL_in n j q h2).1
          have hpq : n = q.1 := hpq
          omega
      | succ i =>
        rw [List.getElem?_cons_succ] at h1
        have h3 := (mL_in n i p h1).1
        cases j with
        | zero =>
          rw [List.getElem?_cons_zero] at h2
          cases h2
          have hpq : p.1 = n := hpq
          omega
        | succ j =>
          rw [List.getElem?_cons_succ] at h2
          rw [ih i j p q h1 h2 hpq]
theorem mw_list {D : va_G} {cl : List vw_C} {A : Nat → Prop} {w : Nat → Option va_E} {H : Heap} (h : mw D cl A w H) : ∃ ws : va_W, va_P D cl ws H ∧ va_D A ws ∧ ∀ (a : Nat) (e : va_E), w a = some e → ∃ k : Nat, ws[k]? = some (a, e) :=
  ⟨mL w H.size, fun k q hk => (h q.1 q.2 (mL_in _ k q hk).2).1, ⟨fun i j p q h1 h2 h3 => mL_inj _ i j p q h1 h2 h3, fun k q hk => (h q.1 q.2 (mL_in _ k q hk).2).2⟩, fun a e he => mL_has _ a e (mw_lt h he) he⟩
theorem mw_upd {D : va_G} {cl : List vw_C} {A : Nat → Prop} {w : Nat → Option va_E} {ws : va_W} {H1 : Heap} {k a : Nat} {e0 e1 : va_E} (hall : ∀ (a : Nat) (e : va_E), w a = some e → ∃ k : Nat, ws[k]? = some (a, e)) (hk : ws[k]? = some (a, e0)) (hP : va_P D cl (ws.set k (a, e1)) H1) (hD : va_D A (ws.set k (a, e1))) : mw D cl A (va_up w a (some e1)) H1 := by
  intro b e hb
  by_cases hba : b = a
  · subst hba
    rw [va_up_self] at hb
    cases hb
    have h9 : (ws.set k (b, e1))[k]? = some (b, e1) := by
      have hl : k < ws.length := (List.getElem?_eq_some_iff.mp hk).1
      simp [List.getElem?_set, hl]
    exact ⟨hP k _ h9, hD.2 k _ h9⟩
  · rw [va_up_ne _ _ hba] at hb
    obtain ⟨j, hj⟩ := hall b e hb
    have hjk : k ≠ j := by
      intro q
      subst q
      rw [hj] at hk
      cases hk
      exact hba rfl
    have h9 : (ws.set k (a, e1))[j]? = some (b, e) := by
      rw [List.getElem?_set_ne hjk]
      exact hj
    exact ⟨hP j _ h9, hD.2 j _ h9⟩
theorem mw_push {D : va_G} {cl : List vw_C} {A : Nat → Prop} {w : Nat → Option va_E} {ws : va_W} {H1 : Heap} {a : Nat} {e1 : va_E} (hall : ∀ (a : Nat) (e : va_E), w a = some e → ∃ k : Nat, ws[k]? = some (a, e)) (hP : va_P D cl (ws ++ [(a, e1)]) H1) (hD : va_D A (ws ++ [(a, e1)])) : mw D cl A (va_up w a (some e1)) H1 ∧ w a = none := by
  have hl : (ws ++ [(a, e1)])[ws.length]? = some (a, e1) := by simp
  constructor
  · intro b e hb
    by_cases hba : b = a
    · subst hba
      rw [va_up_self] at hb
      cases hb
      exact ⟨hP _ _ hl, hD.2 _ _ hl⟩
    · rw [va_up_ne _ _ hba] at hb
      obtain ⟨j, hj⟩ := hall b e hb
      have h9 : (ws ++ [(a, e1)])[j]? = some (b, e) := by
        rw [List.getElem?_append_left (List.getElem?_eq_some_iff.mp hj).1]
        exact hj
      exact ⟨hP j _ h9, hD.2 j _ h9⟩
  · cases hw : w a with
    | none => rfl
    | some e =>
      obtain ⟨j, hj⟩ := hall a e hw
      have hjl := (List.getElem?_eq_some_iff.mp hj).1
      have h9 : (ws ++ [(a, e1)])[j]? = some (a, e) := by
        rw [List.getElem?_append_left hjl]
        exact hj
      have := hD.1 j ws.length _ _ h9 hl rfl
      omega
section MW
variable {p : Program} {l : Launch} {e : Env} {R : Room} {s : State} {m : MethodId} {args : Array Value} {below : List Frame} {meth : Method} {c : Code} {H : Heap} {locs : List Loc} {cells slots : Nat} {Q : State → Prop}
variable {cc : ByteArray} {pc : Nat} {ls : Array Slot} {rest : List Value} {D : va_G} {cl : List vw_C} {A : Nat → Prop} {a : Nat} {tys : List (ClassId × FieldType)} {w : Nat → Option va_E} {H0 : Heap}
theorem m_get (hexec : p.tables.exec = Jvm.exec) (hb : c.code = cc) {own ref C : String} {T : u_T} {N ci index : Nat} {Ts : List Cond} (hts : ∀ w ∈ Ts, w.before args s = true) (hin : ∀ w ∈ u_ws C T N, w ∈ Ts) (hown : s.vm.findClass own = some m.cls) (hK : va_K D cl tys s) (hM : mw D cl A w H) {fs : List Value} (he : w a = some (.inr (ci, fs))) (hc : cl[ci]? = some (C, T, N)) (k : Nat) (hk : k < N) (hlink : (Cond.fieldLink own index ref (T k).2.1 (T k).2.2.1).before args s = true) (hsame : ∀ x, s.fieldFound? (T k).1 (T k).2.1 (T k).2.2.1 = some x → s.fieldFound? ref (T k).2.1 (T k).2.2.1 = some x) {v : Value} (hv : fs[k]? = some v) (hdg : decode cc pc = .ok (.getfield index, 3))
    (kk : W p l e R s m args below meth c H locs cells slots Q (F0 m (pc + 3) ls (v :: rest))) : W p l e R s m args below meth c H locs cells slots Q (F0 m pc ls (.ref a :: rest)) :=
  va_get (ws := [(a, .inr (ci, fs))]) hexec hb hts hin hown hK (fun k q hk => by
    have hz : k < 1 := (List.getElem?_eq_some_iff.mp hk).1
    rw [show k = 0 by omega] at hk
    cases hk
    exact (hM _ _ he).1) 0 rfl hc k hk hlink hsame hv hdg kk
theorem m_put (hexec : p.tables.exec = Jvm.exec) (hb : c.code = cc) {own ref C : String} {T : u_T} {N ci index : Nat} {Ts : List Cond} (hts : ∀ w ∈ Ts, w.before args s = true) (hin : ∀ w ∈ u_ws C T N, w ∈ Ts) (ty0 : Nat → FieldType) (hty : ∀ k, k < N → parseFieldDescriptor (T k).2.2.1 = some (ty0 k)) (hnm : ∀ a, a < N → ∀ b, b < N → a ≠ b → (T a).2.1 ≠ (T b).2.1) (hown : s.vm.findClass own = some m.cls) (hK : va_K D cl tys s) (hM : mw D cl A w H) (hS : va_S A H0 H locs) {fs : List Value} (he : w a = some (.inr (ci, fs))) (hc : cl[ci]? = some (C, T, N)) (k : Nat) (hk : k < N) (hlink : (Cond.fieldLink own index ref (T k).2.1 (T k).2.2.1).before args s = true) (hsame : ∀ x, s.fieldFound? (T k).1 (T k).2.1 (T k).2.2.1 = some x → s.fieldFound? ref (T k).2.1 (T k).2.2.1 = some x) (hfin : (T k).2.2.2 = false) {ty : FieldType} {v : Value} (hd : parseFieldDescriptor (T k).2.2.1 = some ty) (hn : narrow ty v = v) (hfit : fits ty v = true) (hl : k < fs.length) (hdg : decode cc pc = .ok (.putfield index, 3)) {fs' : List Value} (hfs : fs.set k v = fs')
    (kk : ∀ (H : Heap) (locs : List Loc), mw D cl A (va_up w a (some (.inr (ci, fs')))) H → va_S A H0 H locs → W p l e R s m args below meth c H locs cells slots Q (F0 m (pc + 3) ls rest)) : W p l e R s m args below meth c H locs cells slots Q (F0 m pc ls (v :: .ref a :: rest)) := by
  obtain ⟨ws, hP, hD, hall⟩ := mw_list hM
  obtain ⟨q0, hq0⟩ := hall _ _ he
  subst hfs
  exact va_put hexec hb hts hin ty0 hty hnm hown hK hP hD hS q0 hq0 hc k hk hlink hsame hfin hd hn hfit hl hdg (fun H1 locs1 hP1 hD1 hS1 => kk H1 locs1 (mw_upd hall hq0 hP1 hD1) hS1)
theorem m_putF (hexec : p.tables.exec = Jvm.exec) (hb : c.code = cc) {own ref C : String} {T : u_T} {N ci index : Nat} {Ts : List Cond} (hts : ∀ w ∈ Ts, w.before args s = true) (hin : ∀ w ∈ u_ws C T N, w ∈ Ts) (ty0 : Nat → FieldType) (hty : ∀ k, k < N → parseFieldDescriptor (T k).2.2.1 = some (ty0 k)) (hnm : ∀ a, a < N → ∀ b, b < N → a ≠ b → (T a).2.1 ≠ (T b).2.1) (hown : s.vm.findClass own = some m.cls) (hK : va_K D cl tys s) (hM : mw D cl A w H) (hS : va_S A H0 H locs) {fs : List Value} (he : w a = some (.inr (ci, fs))) (hc : cl[ci]? = some (C, T, N)) (k : Nat) (hk : k < N) (hlink : (Cond.fieldLink own index ref (T k).2.1 (T k).2.2.1).before args s = true) (hsame : ∀ x, s.fieldFound? (T k).1 (T k).2.1 (T k).2.2.1 = some x → s.fieldFound? ref (T k).2.1 (T k).2.2.1 = some x) (hfin : (T k).2.2.2 = true) (hin2 : meth.name = "<init>") (hdecl : (T k).1 = own) {ty : FieldType} {v : Value} (hd : parseFieldDescriptor (T k).2.2.1 = some ty) (hn : narrow ty v = v) (hfit : fits ty v = true) (hl : k < fs.length) (hdg : decode cc pc = .ok (.putfield index, 3)) {fs' : List Value} (hfs : fs.set k v = fs')
    (kk : ∀ (H : Heap) (locs : List Loc), mw D cl A (va_up w a (some (.inr (ci, fs')))) H → va_S A H0 H locs → W p l e R s m args below meth c H locs cells slots Q (F0 m (pc + 3) ls rest)) : W p l e R s m args below meth c H locs cells slots Q (F0 m pc ls (v :: .ref a :: rest)) := by
  obtain ⟨ws, hP, hD, hall⟩ := mw_list hM
  obtain ⟨q0, hq0⟩ := hall _ _ he
  subst hfs
  exact va_putF hexec hb hts hin ty0 hty hnm hown hK hP hD hS q0 hq0 hc k hk hlink hsame hfin hin2 hdecl hd hn hfit hl hdg (fun H1 locs1 hP1 hD1 hS1 => kk H1 locs1 (mw_upd hall hq0 hP1 hD1) hS1)
theorem m_aald (hexec : p.tables.exec = Jvm.exec) (hb : c.code = cc) (hK : va_K D cl tys s) (hM : mw D cl A w H) (t0 : Nat) {cA : ClassId} {C : String} {n : Nat} {f : Nat → Option Nat} (ha : w a = some (.inl (cA, n, .inr (.inr (.inr (.inr f)))))) (ht : tys[t0]? = some (cA, .object C)) {i : Int32} (hin : vp_in i n) {v : Value} (hv : va_rf (f i.toNatClampNeg) = v) (hdg : decode cc pc = .ok (.aaload, 1))
    (kk : W p l e R s m args below meth c H locs cells slots Q (F0 m (pc + 1) ls (v :: rest))) : W p l e R s m args below meth c H locs cells slots Q (F0 m pc ls (.int i :: .ref a :: rest)) := by
  obtain ⟨ws, hP, hD, hall⟩ := mw_list hM
  obtain ⟨q0, hq0⟩ := hall _ _ ha
  subst hv
  exact va_aldq hexec hb hK hP q0 t0 hq0 ht hin hdg kk
theorem m_iald (hexec : p.tables.exec = Jvm.exec) (hb : c.code = cc) (hK : va_K D cl tys s) (hM : mw D cl A w H) (t0 : Nat) {cA : ClassId} {n : Nat} {f : Nat → Int32} (ha : w a = some (.inl (cA, n, .inl f))) (ht : tys[t0]? = some (cA, .int)) {i : Int32} (hin : vp_in i n) (hdg : decode cc pc = .ok (.iaload, 1))
    (kk : W p l e R s m args below meth c H locs cells slots Q (F0 m (pc + 1) ls (.int (f i.toNatClampNeg) :: rest))) : W p l e R s m args below meth c H locs cells slots Q (F0 m pc ls (.int i :: .ref a :: rest)) := by
  obtain ⟨ws, hP, hD, hall⟩ := mw_list hM
  obtain ⟨q0, hq0⟩ := hall _ _ ha
  exact va_iald hexec hb hK hP q0 t0 hq0 ht hin hdg kk
theorem m_bald (hexec : p.tables.exec = Jvm.exec) (hb : c.code = cc) (hK : va_K D cl tys s) (hM : mw D cl A w H) (t0 : Nat) {cA : ClassId} {n : Nat} {f : Nat → Int32} (ha : w a = some (.inl (cA, n, .inl f))) (ht : tys[t0]? = some (cA, .byte)) {i : Int32} (hin : vp_in i n) (hdg : decode cc pc = .ok (.baload, 1))
    (kk : W p l e R s m args below meth c H locs cells slots Q (F0 m (pc + 1) ls (.int (f i.toNatClampNeg) :: rest))) : W p l e R s m args below meth c H locs cells slots Q (F0 m pc ls (.int i :: .ref a :: rest)) := by
  obtain ⟨ws, hP, hD, hall⟩ := mw_list hM
  obtain ⟨q0, hq0⟩ := hall _ _ ha
  exact va_bald hexec hb hK hP q0 t0 hq0 ht hin hdg kk
theorem m_zald (hexec : p.tables.exec = Jvm.exec) (hb : c.code = cc) (hK : va_K D cl tys s) (hM : mw D cl A w H) (t0 : Nat) {cA : ClassId} {n : Nat} {f : Nat → Int32} (ha : w a = some (.inl (cA, n, .inl f))) (ht : tys[t0]? = some (cA, .boolean)) {i : Int32} (hin : vp_in i n) (hdg : decode cc pc = .ok (.baload, 1))
    (kk : W p l e R s m args below meth c H locs cells slots Q (F0 m (pc + 1) ls (.int (f i.toNatClampNeg) :: rest))) : W p l e R s m args below meth c H locs cells slots Q (F0 m pc ls (.int i :: .ref a :: rest)) := by
  obtain ⟨ws, hP, hD, hall⟩ := mw_list hM
  obtain ⟨q0, hq0⟩ := hall _ _ ha
  exact va_zald hexec hb hK hP q0 t0 hq0 ht hin hdg kk
theorem m_lald (hexec : p.tables.exec = Jvm.exec) (hb : c.code = cc) (hK : va_K D cl tys s) (hM : mw D cl A w H) (t0 : Nat) {cA : ClassId} {n : Nat} {f : Nat → Int64} (ha : w a = some (.inl (cA, n, .inr (.inl f)))) (ht : tys[t0]? = some (cA, .long)) {i : Int32} (hin : vp_in i n) (hdg : decode cc pc = .ok (.laload, 1))
    (kk : W p l e R s m args below meth c H locs cells slots Q (F0 m (pc + 1) ls (.long (f i.toNatClampNeg) :: rest))) : W p l e R s m args below meth c H locs cells slots Q (F0 m pc ls (.int i :: .ref a :: rest)) := by
  obtain ⟨ws, hP, hD, hall⟩ := mw_list hM
  obtain ⟨q0, hq0⟩ := hall _ _ ha
  exact va_lald hexec hb hK hP q0 t0 hq0 ht hin hdg kk
theorem m_iast (hexec : p.tables.exec = Jvm.exec) (hb : c.code = cc) (hK : va_K D cl tys s) (hM : mw D cl A w H) (hS : va_S A H0 H locs) (t0 : Nat) {cA : ClassId} {n : Nat} {f : Nat → Int32} (ha : w a = some (.inl (cA, n, .inl f))) (ht : tys[t0]? = some (cA, .int)) {i x : Int32} (hin : vp_in i n) (hdg : decode cc pc = .ok (.iastore, 1))
    (kk : ∀ (H : Heap) (locs : List Loc), mw D cl A (va_up w a (some (.inl (cA, n, .inl (upd f i.toNatClampNeg x))))) H → va_S A H0 H locs → W p l e R s m args below meth c H locs cells slots Q (F0 m (pc + 1) ls rest)) : W p l e R s m args below meth c H locs cells slots Q (F0 m pc ls (.int x :: .int i :: .ref a :: rest)) := by
  obtain ⟨ws, hP, hD, hall⟩ := mw_list hM
  obtain ⟨q0, hq0⟩ := hall _ _ ha
  exact va_iast hexec hb hK hP hD hS q0 t0 hq0 ht hin hdg (fun H1 locs1 hP1 hD1 hS1 => kk H1 locs1 (mw_upd hall hq0 hP1 hD1) hS1)
theorem m_bast (hexec : p.tables.exec = Jvm.exec) (hb : c.code = cc) (hK : va_K D cl tys s) (hM : mw D cl A w H) (hS : va_S A H0 H locs) (t0 : Nat) {cA : ClassId} {n : Nat} {f : Nat → Int32} (ha : w a = some (.inl (cA, n, .inl f))) (ht : tys[t0]? = some (cA, .byte)) {i x : Int32} (hin : vp_in i n) (hdg : decode cc pc = .ok (.bastore, 1))
    (kk : ∀ (H : Heap) (locs : List Loc), mw D cl A (va_up w a (some (.inl (cA, n, .inl (upd f i.toNatClampNeg (vp_nar .byte x)))))) H → va_S A H0 H locs → W p l e R s m args below meth c H locs cells slots Q (F0 m (pc + 1) ls rest)) : W p l e R s m args below meth c H locs cells slots Q (F0 m pc ls (.int x :: .int i :: .ref a :: rest)) := by
  obtain ⟨ws, hP, hD, hall⟩ := mw_list hM
  obtain ⟨q0, hq0⟩ := hall _ _ ha
  exact va_bast hexec hb hK hP hD hS q0 t0 hq0 ht hin hdg (fun H1 locs1 hP1 hD1 hS1 => kk H1 locs1 (mw_upd hall hq0 hP1 hD1) hS1)
theorem m_zast (hexec : p.tables.exec = Jvm.exec) (hb : c.code = cc) (hK : va_K D cl tys s) (hM : mw D cl A w H) (hS : va_S A H0 H locs) (t0 : Nat) {cA : ClassId} {n : Nat} {f : Nat → Int32} (ha : w a = some (.inl (cA, n, .inl f))) (ht : tys[t0]? = some (cA, .boolean)) {i x : Int32} (hin : vp_in i n) (hdg : decode cc pc = .ok (.bastore, 1))
    (kk : ∀ (H : Heap) (locs : List Loc), mw D cl A (va_up w a (some (.inl (cA, n, .inl (upd f i.toNatClampNeg (vp_nar .boolean x)))))) H → va_S A H0 H locs → W p l e R s m args below meth c H locs cells slots Q (F0 m (pc + 1) ls rest)) : W p l e R s m args below meth c H locs cells slots Q (F0 m pc ls (.int x :: .int i :: .ref a :: rest)) := by
  obtain ⟨ws, hP, hD, hall⟩ := mw_list hM
  obtain ⟨q0, hq0⟩ := hall _ _ ha
  exact va_zast hexec hb hK hP hD hS q0 t0 hq0 ht hin hdg (fun H1 locs1 hP1 hD1 hS1 => kk H1 locs1 (mw_upd hall hq0 hP1 hD1) hS1)
theorem m_last (hexec : p.tables.exec = Jvm.exec) (hb : c.code = cc) (hK : va_K D cl tys s) (hM : mw D cl A w H) (hS : va_S A H0 H locs) (t0 : Nat) {cA : ClassId} {n : Nat} {f : Nat → Int64} (ha : w a = some (.inl (cA, n, .inr (.inl f)))) (ht : tys[t0]? = some (cA, .long)) {i : Int32} {x : Int64} (hin : vp_in i n) (hdg : decode cc pc = .ok (.lastore, 1))
    (kk : ∀ (H : Heap) (locs : List Loc), mw D cl A (va_up w a (some (.inl (cA, n, .inr (.inl (vp_updL f i.toNatClampNeg x)))))) H → va_S A H0 H locs → W p l e R s m args below meth c H locs cells slots Q (F0 m (pc + 1) ls rest)) : W p l e R s m args below meth c H locs cells slots Q (F0 m pc ls (.long x :: .int i :: .ref a :: rest)) := by
  obtain ⟨ws, hP, hD, hall⟩ := mw_list hM
  obtain ⟨q0, hq0⟩ := hall _ _ ha
  exact va_last hexec hb hK hP hD hS q0 t0 hq0 ht hin hdg (fun H1 locs1 hP1 hD1 hS1 => kk H1 locs1 (mw_upd hall hq0 hP1 hD1) hS1)
theorem m_aast (hexec : p.tables.exec = Jvm.exec) (hb : c.code = cc) (hK : va_K D cl tys s) (hM : mw D cl A w H) (hS : va_S A H0 H locs) (t0 ci : Nat) {cA : ClassId} {r : vw_C} {n v : Nat} {vs : List Value} {f : Nat → Option Nat} (ha : w a = some (.inl (cA, n, .inr (.inr (.inr (.inr f)))))) (ht : tys[t0]? = some (cA, .object r.1)) (hv : w v = some (.inr (ci, vs))) (hc : cl[ci]? = some r) {i : Int32} (hin : vp_in i n) (hdg : decode cc pc = .ok (.aastore, 1))
    (kk : ∀ (H : Heap) (locs : List Loc), mw D cl A (va_up w a (some (.inl (cA, n, .inr (.inr (.inr (.inr (va_up f i.toNatClampNeg (some v))))))))) H → va_S A H0 H locs → W p l e R s m args below meth c H locs cells slots Q (F0 m (pc + 1) ls rest)) : W p l e R s m args below meth c H locs cells slots Q (F0 m pc ls (.ref v :: .int i :: .ref a :: rest)) := by
  obtain ⟨ws, hP, hD, hall⟩ := mw_list hM
  obtain ⟨q0, hq0⟩ := hall _ _ ha
  obtain ⟨qk, hqk⟩ := hall _ _ hv
  exact va_astq hexec hb hK hP hD hS q0 t0 qk ci hq0 ht hqk hc hin hdg (fun H1 locs1 hP1 hD1 hS1 => kk H1 locs1 (mw_upd hall hq0 hP1 hD1) hS1)
theorem m_alen (hexec : p.tables.exec = Jvm.exec) (hb : c.code = cc) (hK : va_K D cl tys s) (hM : mw D cl A w H) (t0 : Nat) {cA : ClassId} {x : vp_A} (ha : w a = some (.inl (cA, x))) {ty : FieldType} (ht : tys[t0]? = some (cA, ty)) {v : Int32} (hv : Int32.ofNat x.1 = v) (hdg : decode cc pc = .ok (.arraylength, 1))
    (kk : W p l e R s m args below meth c H locs cells slots Q (F0 m (pc + 1) ls (.int v :: rest))) : W p l e R s m args below meth c H locs cells slots Q (F0 m pc ls (.ref a :: rest)) := by
  obtain ⟨ws, hP, hD, hall⟩ := mw_list hM
  obtain ⟨q0, hq0⟩ := hall _ _ ha
  exact va_alen hexec hb hK hP q0 t0 hq0 ht hv hdg kk
theorem m_new (hexec : p.tables.exec = Jvm.exec) (hb : c.code = cc) {own C : String} {T : u_T} {N ci index : Nat} {Ts : List Cond} (hts : ∀ w ∈ Ts, w.before args s = true) (hin : ∀ w ∈ u_ws C T N, w ∈ Ts) (ty : Nat → FieldType) (hty : ∀ k, k < N → parseFieldDescriptor (T k).2.2.1 = some (ty k)) (hown : s.vm.findClass own = some m.cls) (hcl : (Cond.classLink own index C).before args s = true) (hinst : (Cond.instantiable C N).before args s = true) (hini : (Cond.initialized C).before args s = true)
    (hK : va_K D cl tys s) (hM : mw D cl A w H) (hS : va_S A H0 H locs) (hA : ∀ q, H0.size ≤ q → A q) (hc : cl[ci]? = some (C, T, N)) {fs : List Value} (hfs : ∀ j, j < N → defaultValue (ty j) = vp_V fs j) (hcells : cells + 1 ≤ R.cells) (hslots : slots + N ≤ R.slots) (hdg : decode cc pc = .ok (.new index, 3))
    (kk : ∀ (q : Nat) (H : Heap), w q = none → mw D cl A (va_up w q (some (.inr (ci, fs)))) H → va_S A H0 H locs → W p l e R s m args below meth c H locs (cells + 1) (slots + N) Q (F0 m (pc + 3) ls (.ref q :: rest))) : W p l e R s m args below meth c H locs cells slots Q (F0 m pc ls rest) := by
  obtain ⟨ws, hP, hD, hall⟩ := mw_list hM
  exact va_new hexec hb hts hin ty hty hown hcl hinst hini hK hP hD hS hA hc hfs hcells hslots hdg (fun q H1 hP1 hD1 hS1 => kk q H1 (mw_push hall hP1 hD1).2 (mw_push hall hP1 hD1).1 hS1)
theorem m_newa (hexec : p.tables.exec = Jvm.exec) (hb : c.code = cc) {atype : ArrayType} (harr : (Cond.arrayClass (newarray.typeOf atype)).before args s = true) {ty : FieldType} (hty : newarray.typeOf atype = ty) (hK : va_K D cl tys s) (hM : mw D cl A w H) (hS : va_S A H0 H locs) (hA : ∀ q, H0.size ≤ q → A q) {n : Int32} {N' : Nat} {a0 : vp_A} (ha : ∀ cA : ClassId, vp_cell cA a0 = arrV cA N' (fun _ => defaultValue ty)) (hn : ¬ n < 0) (hN : n.toNatClampNeg = N') (hbytes : N' * componentBytes ty ≤ 536870912) (hcells : cells + 1 ≤ R.cells) (hslots : slots + N' ≤ R.slots) (hdg : decode cc pc = .ok (.newarray atype, 2))
    (kk : ∀ (q : Nat) (cA : ClassId) (H : Heap), va_K D cl (tys ++ [(cA, ty)]) s → w q = none → mw D cl A (va_up w q (some (.inl (cA, a0)))) H → va_S A H0 H locs → W p l e R s m args below meth c H locs (cells + 1) (slots + N') Q (F0 m (pc + 2) ls (.ref q :: rest))) : W p l e R s m args below meth c H locs cells slots Q (F0 m pc ls (.int n :: rest)) := by
  obtain ⟨ws, hP, hD, hall⟩ := mw_list hM
  exact va_newa hexec hb harr hty hK hP hD hS hA ha hn hN hbytes hcells hslots hdg (fun q cA H1 hK1 hP1 hD1 hS1 => kk q cA H1 hK1 (mw_push hall hP1 hD1).2 (mw_push hall hP1 hD1).1 hS1)
theorem m_newq (hexec : p.tables.exec = Jvm.exec) (hb : c.code = cc) {own C : String} {index : Nat} (hown : s.vm.findClass own = some m.cls) (hclink : (Cond.classLink own index C).before args s = true) (hover : va_AO C s) (hK : va_K D cl tys s) (hM : mw D cl A w H) (hS : va_S A H0 H locs) (hA : ∀ q, H0.size ≤ q → A q) {n : Int32} {N' : Nat} (hn : ¬ n < 0) (hN : n.toNatClampNeg = N') (hbytes : N' * 4 ≤ 536870912) (hcells : cells + 1 ≤ R.cells) (hslots : slots + N' ≤ R.slots) (hdg : decode cc pc = .ok (.anewarray index, 3))
    (kk : ∀ (q : Nat) (cA : ClassId) (H : Heap), va_K D cl (tys ++ [(cA, .object C)]) s → w q = none → mw D cl A (va_up w q (some (.inl (cA, N', .inr (.inr (.inr (.inr (fun _ => none)))))))) H → va_S A H0 H locs → W p l e R s m args below meth c H locs (cells + 1) (slots + N') Q (F0 m (pc + 3) ls (.ref q :: rest))) : W p l e R s m args below meth c H locs cells slots Q (F0 m pc ls (.int n :: rest)) := by
  obtain ⟨ws, hP, hD, hall⟩ := mw_list hM
  exact va_newq hexec hb hown hclink hover hK hP hD hS hA hn hN hbytes hcells hslots hdg (fun q cA H1 hK1 hP1 hD1 hS1 => kk q cA H1 hK1 (mw_push hall hP1 hD1).2 (mw_push hall hP1 hD1).1 hS1)
theorem m_recv (hK : va_K D cl tys s) (hM : mw D cl A w H) {ci : Nat} {q : vw_C} {fs : List Value} (hc : cl[ci]? = some q) (he : w a = some (.inr (ci, fs))) : ∃ cell : Cell, H[a]? = some cell ∧ cell.vm.isStatics = false ∧ s.vm.findClass q.1 = some cell.cls := by
  obtain ⟨ws, hP, hD, hall⟩ := mw_list hM
  obtain ⟨q0, hq0⟩ := hall _ _ he
  exact va_recv hK hP hc hq0
end MW
/-- two addresses with different things are two -/
theorem m_ne {w : Nat → Option va_E} {a b : Nat} {x y : va_E} (h1 : w a = some x) (h2 : w b = some y) (h : x ≠ y) : a ≠ b := by
  intro q
  subst q
  rw [h1] at h2
  exact h (Option.some.inj h2)
theorem m_newne {w : Nat → Option va_E} {a b : Nat} {x : va_E} (h1 : w a = some x) (h2 : w b = none) : a ≠ b := by
  intro q
  subst q
  rw [h1] at h2
  cases h2
end
section
/-! CALLS OF METHODS THAT MAY THROW, where a throw keeps every old cell -/
def x_K (px : String → Prop) : String → State → State → Prop := fun E st t => px E ∧ st.heap.size ≤ t.heap.size ∧ ∀ q : Nat, q < st.heap.size → t.heap[q]? = st.heap[q]?
section XR
variable {p : Program} {l : Launch} {e : Env} {R : Room} {s : State} {m : MethodId} {args : Array Value} {below : List Frame} {meth : Method} {c : Code} {H : Heap} {locs : List Loc} {cells slots : Nat} {Q : State → Prop}
variable {mc ms : Nat} {free : Addr → Prop} {A0 A1 : Nat → Prop} {H0 : Heap} {a : Array Value} {pc : Nat} {ls : Array Slot} {st0 rest : List Value} {px : String → Prop}
theorem x_locs {H1 : Heap} {L : List Loc} (hS : va_S A0 H0 H locs) (hz : H.size ≤ H1.size) (hk : ∀ q : Nat, q < H.size → H1[q]? = H[q]?) (hf : ∀ q, free q → A0 q) (hL : ∀ q ∈ L, free q.base) : va_S A0 H0 H1 (locs ++ L) :=
  ⟨Nat.le_trans hS.1 hz, fun q h1 h2 => (hk q (Nat.lt_of_lt_of_le h1 hS.1)).trans (hS.2.1 q h1 h2), fun q hq => (List.mem_append.mp hq).elim (hS.2.2 q) (fun h => hf _ (hL q h))⟩
/-- the throw's side of a call -/
abbrev x_kx (p : Program) (l : Launch) (e : Env) (R : Room) (s : State) (m : MethodId) (args : Array Value) (below : List Frame) (meth : Method) (c : Code) (H : Heap) (cells slots : Nat) (Q : State → Prop) (A0 : Nat → Prop) (H0 : Heap) (px : String → Prop) (g : JFrame) : Prop :=
  ∀ (E : String) (ce : Cell) (q9 : Addr) (H1 : Heap) (locs1 : List Loc), px E → H.size ≤ H1.size → (∀ q : Nat, q < H.size → H1[q]? = H[q]?) → va_S A0 H0 H1 locs1 → H1[q9]? = some ce → ce.vm = .none → s.vm.findClass E = some ce.cls → vx_W p l e R s m args below meth c H1 locs1 cells slots Q g q9
theorem x_callSi {post : Int32 → Prop} (hr : vx_Run p l e R s m args below meth c H locs cells slots mc ms (F0 m pc ls st0) rest (vp_Si post a) (x_K px) free) (hS : va_S A0 H0 H locs) (hf : ∀ q, free q → A0 q)
    (kx : x_kx p l e R s m args below meth c H (cells + mc) (slots + ms) Q A0 H0 px (F0 m pc ls rest))
    (kk : ∀ (r : Int32) (locs1 : List Loc), post r → va_S A0 H0 H locs1 → W p l e R s m args below meth c H locs1 (cells + mc) (slots + ms) Q (F0 m (pc + 3) ls (.int r :: rest))) : W p l e R s m args below meth c H locs cells slots Q (F0 m pc ls st0) := by
  intro T hT X
  rcases hr T hT X with ⟨v, st₀, t, T', L, h0, X', hL, e1, e2, ⟨r, hv, hp, hh⟩, st⟩ | ⟨q, st₀, t, T', L, E, ce, h0, X', hL, e1, e2, ⟨hp, hz, hk⟩, hce, hcv, hcl, st⟩
  · cases hv
    have hH : T'.heap = H := by rw [e1, hh, h0]
    obtain ⟨t2, a1, b1⟩ := kk r (locs ++ L) hp (x_locs hS (Nat.le_refl _) (fun _ _ => rfl) hf hL) T' hH X'
    exact ⟨t2, st t2 a1, b1⟩
  · rw [h0] at hz hk
    rw [← e1] at hz hk
    obtain ⟨t2, a1, b1⟩ := kx E ce q T'.heap (locs ++ L) hp hz hk (x_locs hS hz hk hf hL) (by rw [e1]; exact hce) hcv hcl T' rfl X'
    exact ⟨t2, st.trans a1, b1⟩
theorem x_callSq {post : Option Nat → Prop} (hr : vx_Run p l e R s m args below meth c H locs cells slots mc ms (F0 m pc ls st0) rest (va_Sq post a) (x_K px) free) (hS : va_S A0 H0 H locs) (hf : ∀ q, free q → A0 q)
    (kx : x_kx p l e R s m args below meth c H (cells + mc) (slots + ms) Q A0 H0 px (F0 m pc ls rest))
    (kk : ∀ (r : Option Nat) (locs1 : List Loc), post r → va_S A0 H0 H locs1 → W p l e R s m args below meth c H locs1 (cells + mc) (slots + ms) Q (F0 m (pc + 3) ls (va_rf r :: rest))) : W p l e R s m args below meth c H locs cells slots Q (F0 m pc ls st0) := by
  intro T hT X
  rcases hr T hT X with ⟨v, st₀, t, T', L, h0, X', hL, e1, e2, ⟨r, hv, hp, hh⟩, st⟩ | ⟨q, st₀, t, T', L, E, ce, h0, X', hL, e1, e2, ⟨hp, hz, hk⟩, hce, hcv, hcl, st⟩
  · cases hv
    have hH : T'.heap = H := by rw [e1, hh, h0]
    obtain ⟨t2, a1, b1⟩ := kk r (locs ++ L) hp (x_locs hS (Nat.le_refl _) (fun _ _ => rfl) hf hL) T' hH X'
    exact ⟨t2, st t2 a1, b1⟩
  · rw [h0] at hz hk
    rw [← e1] at hz hk
    obtain ⟨t2, a1, b1⟩ := kx E ce q T'.heap (locs ++ L) hp hz hk (x_locs hS hz hk hf hL) (by rw [e1]; exact hce) hcv hcl T' rfl X'
    exact ⟨t2, st.trans a1, b1⟩
theorem x_callSv {post : Unit → Prop} (hr : vx_Run p l e R s m args below meth c H locs cells slots mc ms (F0 m pc ls st0) rest (va_Sv post a) (x_K px) free) (hS : va_S A0 H0 H locs) (hf : ∀ q, free q → A0 q)
    (kx : x_kx p l e R s m args below meth c H (cells + mc) (slots + ms) Q A0 H0 px (F0 m pc ls rest))
    (kk : ∀ (locs1 : List Loc), post () → va_S A0 H0 H locs1 → W p l e R s m args below meth c H locs1 (cells + mc) (slots + ms) Q (F0 m (pc + 3) ls rest)) : W p l e R s m args below meth c H locs cells slots Q (F0 m pc ls st0) := by
  intro T hT X
  rcases hr T hT X with ⟨v, st₀, t, T', L, h0, X', hL, e1, e2, ⟨hv, hp, hh⟩, st⟩ | ⟨q, st₀, t, T', L, E, ce, h0, X', hL, e1, e2, ⟨hp, hz, hk⟩, hce, hcv, hcl, st⟩
  · cases hv
    have hH : T'.heap = H := by rw [e1, hh, h0]
    obtain ⟨t2, a1, b1⟩ := kk (locs ++ L) hp (x_locs hS (Nat.le_refl _) (fun _ _ => rfl) hf hL) T' hH X'
    exact ⟨t2, st t2 a1, b1⟩
  · rw [h0] at hz hk
    rw [← e1] at hz hk
    obtain ⟨t2, a1, b1⟩ := kx E ce q T'.heap (locs ++ L) hp hz hk (x_locs hS hz hk hf hL) (by rw [e1]; exact hce) hcv hcl T' rfl X'
    exact ⟨t2, st.trans a1, b1⟩
theorem x_callWi {S : Type} {post : Int32 → S → Prop} {B : S → State → Prop} (hr : vx_Run p l e R s m args below meth c H locs cells slots mc ms (F0 m pc ls st0) rest (va_Qi post B A1 a) (x_K px) free) (hS : va_S A0 H0 H locs) (hA : ∀ q, q < H.size → A1 q → A0 q) (hf : ∀ q, free q → A0 q)
    (kx : x_kx p l e R s m args below meth c H (cells + mc) (slots + ms) Q A0 H0 px (F0 m pc ls rest))
    (kk : ∀ (r : Int32) (u : S) (t : State) (H1 : Heap) (locs1 : List Loc), t.heap = H1 → s.vm.Alike t.vm → post r u → B u t → H.size ≤ H1.size → (∀ q : Nat, q < H.size → ¬ A1 q → H1[q]? = H[q]?) → va_S A0 H0 H1 locs1 → W p l e R s m args below meth c H1 locs1 (cells + mc) (slots + ms) Q (F0 m (pc + 3) ls (.int r :: rest))) : W p l e R s m args below meth c H locs cells slots Q (F0 m pc ls st0) := by
  intro T hT X
  rcases hr T hT X with ⟨v, st₀, t, T', L, h0, X', hL, e1, e2, ⟨⟨r, u, hv, hp, hb⟩, hF⟩, st⟩ | ⟨q, st₀, t, T', L, E, ce, h0, X', hL, e1, e2, ⟨hp, hz, hk⟩, hce, hcv, hcl, st⟩
  · cases hv
    obtain ⟨k1, k2, k3⟩ := vx_keep h0 e1 hS hA hf hL hF
    obtain ⟨t2, a1, b1⟩ := kk r u t T'.heap (locs ++ L) e1.symm (by rw [← e2]; exact X'.warmed.alike) hp hb k1 k2 k3 T' rfl X'
    exact ⟨t2, st t2 a1, b1⟩
  · rw [h0] at hz hk
    rw [← e1] at hz hk
    obtain ⟨t2, a1, b1⟩ := kx E ce q T'.heap (locs ++ L) hp hz hk (x_locs hS hz hk hf hL) (by rw [e1]; exact hce) hcv hcl T' rfl X'
    exact ⟨t2, st.trans a1, b1⟩
theorem x_callWv {S : Type} {post : S → Prop} {B : S → State → Prop} (hr : vx_Run p l e R s m args below meth c H locs cells slots mc ms (F0 m pc ls st0) rest (va_Qv post B A1 a) (x_K px) free) (hS : va_S A0 H0 H locs) (hA : ∀ q, q < H.size → A1 q → A0 q) (hf : ∀ q, free q → A0 q)
    (kx : x_kx p l e R s m args below meth c H (cells + mc) (slots + ms) Q A0 H0 px (F0 m pc ls rest))
    (kk : ∀ (u : S) (t : State) (H1 : Heap) (locs1 : List Loc), t.heap = H1 → s.vm.Alike t.vm → post u → B u t → H.size ≤ H1.size → (∀ q : Nat, q < H.size → ¬ A1 q → H1[q]? = H[q]?) → va_S A0 H0 H1 locs1 → W p l e R s m args below meth c H1 locs1 (cells + mc) (slots + ms) Q (F0 m (pc + 3) ls rest)) : W p l e R s m args below meth c H locs cells slots Q (F0 m pc ls st0) := by
  intro T hT X
  rcases hr T hT X with ⟨v, st₀, t, T', L, h0, X', hL, e1, e2, ⟨⟨u, hv, hp, hb⟩, hF⟩, st⟩ | ⟨q, st₀, t, T', L, E, ce, h0, X', hL, e1, e2, ⟨hp, hz, hk⟩, hce, hcv, hcl, st⟩
  · cases hv
    obtain ⟨k1, k2, k3⟩ := vx_keep h0 e1 hS hA hf hL hF
    obtain ⟨t2, a1, b1⟩ := kk u t T'.heap (locs ++ L) e1.symm (by rw [← e2]; exact X'.warmed.alike) hp hb k1 k2 k3 T' rfl X'
    exact ⟨t2, st t2 a1, b1⟩
  · rw [h0] at hz hk
    rw [← e1] at hz hk
    obtain ⟨t2, a1, b1⟩ := kx E ce q T'.heap (locs ++ L) hp hz hk (x_locs hS hz hk hf hL) (by rw [e1]; exact hce) hcv hcl T' rfl X'
    exact ⟨t2, st.trans a1, b1⟩
end XR
end
section
/-! small things: switches, refusals by number, the state of the class -/
theorem i_of {x : Int32} {k : Int} (h : x.toInt = k) : x = Int32.ofInt k := by rw [← h]; exact (Int32.ofInt_toInt x).symm
theorem sw_5 (x : Int32) : x = 0 ∨ x = 1 ∨ x = 2 ∨ x = 3 ∨ x = 4 ∨ (x.toInt < 0 ∨ 4 < x.toInt) := by
  by_cases h : x.toInt < 0 ∨ 4 < x.toInt
  · exact Or.inr (Or.inr (Or.inr (Or.inr (Or.inr h))))
  · have h1 : x.toInt = 0 ∨ x.toInt = 1 ∨ x.toInt = 2 ∨ x.toInt = 3 ∨ x.toInt = 4 := by omega
    rcases h1 with h | h | h | h | h
    · exact Or.inl (i_of h)
    · exact Or.inr (Or.inl (i_of h))
    · exact Or.inr (Or.inr (Or.inl (i_of h)))
    · exact Or.inr (Or.inr (Or.inr (Or.inl (i_of h))))
    · exact Or.inr (Or.inr (Or.inr (Or.inr (Or.inl (i_of h)))))
/-- the refusals: 1 unknown number, 2 out of range, 3 not in this state, 4 no room -/
def exN (k : Nat) : String := if k = 1 then "java/lang/IllegalArgumentException" else if k = 2 then "java/lang/IndexOutOfBoundsException" else if k = 3 then "java/lang/IllegalStateException" else "java/lang/UnsupportedOperationException"
end
