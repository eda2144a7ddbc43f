/-! THROWS: what a throw of the class wants of the machine, and the four of them -/
def nNG : List Cond := [.castable "java/lang/UnsupportedOperationException" "java/lang/UnsupportedOperationException", .declares ⟨"java/lang/RuntimeException", "<init>", "()V"⟩, .declares ⟨"java/lang/RuntimeException", "<init>", "(Ljava/lang/String;)V"⟩, .declares ⟨"java/lang/Exception", "<init>", "()V"⟩, .declares ⟨"java/lang/Exception", "<init>", "(Ljava/lang/String;)V"⟩, .declares ⟨"java/lang/Throwable", "<init>", "()V"⟩, .declares ⟨"java/lang/Throwable", "<init>", "(Ljava/lang/String;)V"⟩, .castable "java/lang/IllegalArgumentException" "java/lang/IllegalArgumentException", .castable "java/lang/IndexOutOfBoundsException" "java/lang/IndexOutOfBoundsException", .castable "java/lang/IllegalStateException" "java/lang/IllegalStateException"]
def nSR : List (Nat × String) := [(36, "no room for a writer"), (53, "no such writer, kind or sector"), (64, "the second or the value"), (70, "no room for a note"), (229, "no such note"), (91, "the value"), (105, "the note is struck"), (234, "no room for an act"), (121, "the note is so already"), (127, "no such kind or sector"), (129, "the second of knowing"), (154, "no such row"), (177, "no such what"), (179, "no such sector"), (181, "the second"), (190, "no reading there"), (197, "the length or the gap's number"), (206, "no question was asked"), (214, "the byte's number"), (220, "the seconds")]
def xE (U : State) (H : Heap) : Prop := vx_Zq Bundle.tN "UNASSIGNED_STACK" Bundle.steD (fun _ => False) U H ∧ vx_Zq Bundle.tN "SUPPRESSED_SENTINEL" Bundle.listD (fun _ => False) U H ∧ (∀ q ∈ nSR, ∃ sa : Nat, vk_R nR_X q.1 q.2 sa U) ∧ ∀ w ∈ nNG, va_Nw w U
theorem nNG_w {w : Cond} {s U : State} (hw : w ∈ nNG) (hW : s.WarmedH U.vm) (h : va_Nw w s) : va_Nw w U := by
  simp only [nNG, List.mem_cons, List.not_mem_nil, or_false] at hw
  rcases hw with rfl | rfl | rfl | rfl | rfl | rfl | rfl | rfl | rfl | rfl
  · exact va_Nw.warmC hW h
  · exact va_Nw.warmD hW h
  · exact va_Nw.warmD hW h
  · exact va_Nw.warmD hW h
  · exact va_Nw.warmD hW h
  · exact va_Nw.warmD hW h
  · exact va_Nw.warmD hW h
  · exact va_Nw.warmC hW h
  · exact va_Nw.warmC hW h
  · exact va_Nw.warmC hW h
theorem xE.warm {s U : State} {H : Heap} (hW : s.WarmedH U.vm) (h : xE s H) : xE U H :=
  ⟨vx_Zq.moved hW.alike h.1, vx_Zq.moved hW.alike h.2.1, fun q hq => (h.2.2.1 q hq).elim fun a ha => ⟨a, vk_R.warm hW ha⟩, fun w hw => nNG_w hw hW (h.2.2.2 w hw)⟩
theorem nNG_t : ∀ w ∈ nNG, w.onTables = true := by decide +kernel
theorem xE.same {u U : State} {H : Heap} (hv : u.vm = U.vm) (h : xE u H) : xE U H :=
  ⟨vx_Zq.moved (by rw [hv]; exact Vm.Alike.refl _) h.1, vx_Zq.moved (by rw [hv]; exact Vm.Alike.refl _) h.2.1, fun q hq => (h.2.2.1 q hq).elim fun a ha => ⟨a, vk_R.same hv.symm ha⟩, fun w hw => va_Nw.same (nNG_t w hw) hv (h.2.2.2 w hw)⟩
theorem xS0 {A : Nat → Prop} {H0 H : Heap} {locs : List Loc} (h : va_S (fun _ => False) H0 H locs) : va_S A H0 H locs := ⟨h.1, fun q h1 h2 => h.2.1 q h1 id, fun q hq => (h.2.2 q hq).elim⟩
theorem xg_U : ∀ w ∈ Cond.classLink nR_X 34 "java/lang/UnsupportedOperationException" :: Cond.initialized "java/lang/UnsupportedOperationException" :: vx_atS nR_X 38 "java/lang/UnsupportedOperationException" ["java/lang/RuntimeException", "java/lang/Exception"], vx_ot w = true := by decide +kernel
theorem xb_U : ∀ w ∈ (vx_atS nR_X 38 "java/lang/UnsupportedOperationException" ["java/lang/RuntimeException", "java/lang/Exception"]).filter (fun w => !goodWord w), w ∈ nNG := by decide +kernel
theorem xa_U : ∀ w ∈ (vx_atS nR_X 38 "java/lang/UnsupportedOperationException" ["java/lang/RuntimeException", "java/lang/Exception"]).filter goodWord, w ∈ AL := by decide +kernel
theorem xg_A : ∀ w ∈ Cond.classLink nR_X 51 "java/lang/IllegalArgumentException" :: Cond.initialized "java/lang/IllegalArgumentException" :: vx_atS nR_X 55 "java/lang/IllegalArgumentException" ["java/lang/RuntimeException", "java/lang/Exception"], vx_ot w = true := by decide +kernel
theorem xb_A : ∀ w ∈ (vx_atS nR_X 55 "java/lang/IllegalArgumentException" ["java/lang/RuntimeException", "java/lang/Exception"]).filter (fun w => !goodWord w), w ∈ nNG := by decide +kernel
theorem xa_A : ∀ w ∈ (vx_atS nR_X 55 "java/lang/IllegalArgumentException" ["java/lang/RuntimeException", "java/lang/Exception"]).filter goodWord, w ∈ AL := by decide +kernel
theorem xg_I : ∀ w ∈ Cond.classLink nR_X 62 "java/lang/IndexOutOfBoundsException" :: Cond.initialized "java/lang/IndexOutOfBoundsException" :: vx_atS nR_X 66 "java/lang/IndexOutOfBoundsException" ["java/lang/RuntimeException", "java/lang/Exception"], vx_ot w = true := by decide +kernel
theorem xb_I : ∀ w ∈ (vx_atS nR_X 66 "java/lang/IndexOutOfBoundsException" ["java/lang/RuntimeException", "java/lang/Exception"]).filter (fun w => !goodWord w), w ∈ nNG := by decide +kernel
theorem xa_I : ∀ w ∈ (vx_atS nR_X 66 "java/lang/IndexOutOfBoundsException" ["java/lang/RuntimeException", "java/lang/Exception"]).filter goodWord, w ∈ AL := by decide +kernel
theorem xg_S : ∀ w ∈ Cond.classLink nR_X 103 "java/lang/IllegalStateException" :: Cond.initialized "java/lang/IllegalStateException" :: vx_atS nR_X 107 "java/lang/IllegalStateException" ["java/lang/RuntimeException", "java/lang/Exception"], vx_ot w = true := by decide +kernel
theorem xb_S : ∀ w ∈ (vx_atS nR_X 107 "java/lang/IllegalStateException" ["java/lang/RuntimeException", "java/lang/Exception"]).filter (fun w => !goodWord w), w ∈ nNG := by decide +kernel
theorem xa_S : ∀ w ∈ (vx_atS nR_X 107 "java/lang/IllegalStateException" ["java/lang/RuntimeException", "java/lang/Exception"]).filter goodWord, w ∈ AL := by decide +kernel
section TH
variable {p : Program} {l : Launch} {e : Env} {R : Room} {s : State} {m : MethodId} {args : Array Value} {below : List Frame} {meth : Method} {c : Code} {locs : List Loc}
variable {mc ms : Nat} {free : Addr → Prop} {ls : Array Slot} {rest : List Value} {cc : ByteArray} {pc : Nat} {Qc : Array Value → State → Outcome → State → Prop} {px : String → Prop}
theorem xt_U (hexec : p.tables.exec = Jvm.exec) (hb : c.code = cc) (hl : l.stackTraces = false) (hown : s.vm.findClass nR_X = some m.cls) (hta : ∀ w ∈ AL, w.before args s = true) (hE : xE s s.heap) {is : Nat} (text : String) (hstr : (is, text) ∈ nSR) (hS : va_S (fun _ => False) s.heap s.heap locs) (hsize : ls.size = c.maxLocals)
    (d0 : decode cc pc = .ok (.new 34, 3)) (d3 : decode cc (pc + 3) = .ok (.dup, 1)) (d4 : decode cc (pc + 4) = .ok (.ldc is, 2)) (d6 : decode cc (pc + 6) = .ok (.invokespecial 38, 3)) (d9 : decode cc (pc + 9) = .ok (.athrow, 1))
    (hnx : ∀ x ∈ c.exceptionTable.toList, False) (hRf : 5 < R.frames) (hRl : (rest.map fun v => v.category).sum + 82 ≤ R.locals) {cells slots : Nat} (hRc : cells + 1 ≤ R.cells) (hRs : slots + 6 ≤ R.slots) (hlocks : meth.locks = false) (hp : px "java/lang/UnsupportedOperationException") (hc : cells + 1 ≤ mc) (hs : slots + 6 ≤ ms) :
    W p l e R s m args below meth c s.heap locs cells slots (vx_MQ below Qc (x_K px) args s mc ms free) (F0 m pc ls rest) := by
  obtain ⟨sa, hsa⟩ := hE.2.2.1 _ hstr
  exact vx_throwS (names := ["java/lang/RuntimeException", "java/lang/Exception"]) hexec hb hl hown (by decide +kernel) (by decide +kernel) (hta _ aw_112) (hta _ aw_9) hsa
    (vx_hat (fun w hw => hta w (xa_U w hw)) xb_U (fun w hw => va_Nw.use (nNG_t w hw) (hE.2.2.2 w hw))) xg_U hE.1 hE.2.1 hS hsize d0 d3 d4 d6 d9 (fun x hx => (hnx x hx).elim) hRf hRl hRc hRs hlocks (fun t _ h1 h2 => ⟨hp, h1, h2⟩) (fun z hz => (hS.2.2 z hz).elim) hc hs
theorem xt_A (hexec : p.tables.exec = Jvm.exec) (hb : c.code = cc) (hl : l.stackTraces = false) (hown : s.vm.findClass nR_X = some m.cls) (hta : ∀ w ∈ AL, w.before args s = true) (hE : xE s s.heap) {is : Nat} (text : String) (hstr : (is, text) ∈ nSR) (hS : va_S (fun _ => False) s.heap s.heap locs) (hsize : ls.size = c.maxLocals)
    (d0 : decode cc pc = .ok (.new 51, 3)) (d3 : decode cc (pc + 3) = .ok (.dup, 1)) (d4 : decode cc (pc + 4) = .ok (.ldc is, 2)) (d6 : decode cc (pc + 6) = .ok (.invokespecial 55, 3)) (d9 : decode cc (pc + 9) = .ok (.athrow, 1))
    (hnx : ∀ x ∈ c.exceptionTable.toList, False) (hRf : 5 < R.frames) (hRl : (rest.map fun v => v.category).sum + 82 ≤ R.locals) {cells slots : Nat} (hRc : cells + 1 ≤ R.cells) (hRs : slots + 6 ≤ R.slots) (hlocks : meth.locks = false) (hp : px "java/lang/IllegalArgumentException") (hc : cells + 1 ≤ mc) (hs : slots + 6 ≤ ms) :
    W p l e R s m args below meth c s.heap locs cells slots (vx_MQ below Qc (x_K px) args s mc ms free) (F0 m pc ls rest) := by
  obtain ⟨sa, hsa⟩ := hE.2.2.1 _ hstr
  exact vx_throwS (names := ["java/lang/RuntimeException", "java/lang/Exception"]) hexec hb hl hown (by decide +kernel) (by decide +kernel) (hta _ aw_199) (hta _ aw_10) hsa
    (vx_hat (fun w hw => hta w (xa_A w hw)) xb_A (fun w hw => va_Nw.use (nNG_t w hw) (hE.2.2.2 w hw))) xg_A hE.1 hE.2.1 hS hsize d0 d3 d4 d6 d9 (fun x hx => (hnx x hx).elim) hRf hRl hRc hRs hlocks (fun t _ h1 h2 => ⟨hp, h1, h2⟩) (fun z hz => (hS.2.2 z hz).elim) hc hs
theorem xt_I (hexec : p.tables.exec = Jvm.exec) (hb : c.code = cc) (hl : l.stackTraces = false) (hown : s.vm.findClass nR_X = some m.cls) (hta : ∀ w ∈ AL, w.before args s = true) (hE : xE s s.heap) {is : Nat} (text : String) (hstr : (is, text) ∈ nSR) (hS : va_S (fun _ => False) s.heap s.heap locs) (hsize : ls.size = c.maxLocals)
    (d0 : decode cc pc = .ok (.new 62, 3)) (d3 : decode cc (pc + 3) = .ok (.dup, 1)) (d4 : decode cc (pc + 4) = .ok (.ldc is, 2)) (d6 : decode cc (pc + 6) = .ok (.invokespecial 66, 3)) (d9 : decode cc (pc + 9) = .ok (.athrow, 1))
    (hnx : ∀ x ∈ c.exceptionTable.toList, False) (hRf : 5 < R.frames) (hRl : (rest.map fun v => v.category).sum + 82 ≤ R.locals) {cells slots : Nat} (hRc : cells + 1 ≤ R.cells) (hRs : slots + 6 ≤ R.slots) (hlocks : meth.locks = false) (hp : px "java/lang/IndexOutOfBoundsException") (hc : cells + 1 ≤ mc) (hs : slots + 6 ≤ ms) :
    W p l e R s m args below meth c s.heap locs cells slots (vx_MQ below Qc (x_K px) args s mc ms free) (F0 m pc ls rest) := by
  obtain ⟨sa, hsa⟩ := hE.2.2.1 _ hstr
  exact vx_throwS (names := ["java/lang/RuntimeException", "java/lang/Exception"]) hexec hb hl hown (by decide +kernel) (by decide +kernel) (hta _ aw_222) (hta _ aw_11) hsa
    (vx_hat (fun w hw => hta w (xa_I w hw)) xb_I (fun w hw => va_Nw.use (nNG_t w hw) (hE.2.2.2 w hw))) xg_I hE.1 hE.2.1 hS hsize d0 d3 d4 d6 d9 (fun x hx => (hnx x hx).elim) hRf hRl hRc hRs hlocks (fun t _ h1 h2 => ⟨hp, h1, h2⟩) (fun z hz => (hS.2.2 z hz).elim) hc hs
theorem xt_S (hexec : p.tables.exec = Jvm.exec) (hb : c.code = cc) (hl : l.stackTraces = false) (hown : s.vm.findClass nR_X = some m.cls) (hta : ∀ w ∈ AL, w.before args s = true) (hE : xE s s.heap) {is : Nat} (text : String) (hstr : (is, text) ∈ nSR) (hS : va_S (fun _ => False) s.heap s.heap locs) (hsize : ls.size = c.maxLocals)
    (d0 : decode cc pc = .ok (.new 103, 3)) (d3 : decode cc (pc + 3) = .ok (.dup, 1)) (d4 : decode cc (pc + 4) = .ok (.ldc is, 2)) (d6 : decode cc (pc + 6) = .ok (.invokespecial 107, 3)) (d9 : decode cc (pc + 9) = .ok (.athrow, 1))
    (hnx : ∀ x ∈ c.exceptionTable.toList, False) (hRf : 5 < R.frames) (hRl : (rest.map fun v => v.category).sum + 82 ≤ R.locals) {cells slots : Nat} (hRc : cells + 1 ≤ R.cells) (hRs : slots + 6 ≤ R.slots) (hlocks : meth.locks = false) (hp : px "java/lang/IllegalStateException") (hc : cells + 1 ≤ mc) (hs : slots + 6 ≤ ms) :
    W p l e R s m args below meth c s.heap locs cells slots (vx_MQ below Qc (x_K px) args s mc ms free) (F0 m pc ls rest) := by
  obtain ⟨sa, hsa⟩ := hE.2.2.1 _ hstr
  exact vx_throwS (names := ["java/lang/RuntimeException", "java/lang/Exception"]) hexec hb hl hown (by decide +kernel) (by decide +kernel) (hta _ aw_346) (hta _ aw_14) hsa
    (vx_hat (fun w hw => hta w (xa_S w hw)) xb_S (fun w hw => va_Nw.use (nNG_t w hw) (hE.2.2.2 w hw))) xg_S hE.1 hE.2.1 hS hsize d0 d3 d4 d6 d9 (fun x hx => (hnx x hx).elim) hRf hRl hRc hRs hlocks (fun t _ h1 h2 => ⟨hp, h1, h2⟩) (fun z hz => (hS.2.2 z hz).elim) hc hs
end TH
/-- before a reader or writer that may throw -/
abbrev pX (G : va_G) (tys : List (ClassId × FieldType)) (w : Nat → Option va_E) (av : List Value) : Array Value → State → Prop := va_Pc av (fun U => mw G ncl (fun _ => True) w U.heap ∧ va_K G ncl tys U ∧ xE U U.heap)
abbrev pY (G : va_G) (tys : List (ClassId × FieldType)) (w : Nat → Option va_E) (sz : Nat) (av : List Value) : Array Value → State → Prop := va_Pc av (fun U => U.heap.size = sz ∧ mw G ncl (fun _ => True) w U.heap ∧ va_K G ncl tys U ∧ xE U U.heap)
section PX
variable {G : va_G} {tys : List (ClassId × FieldType)} {w : Nat → Option va_E} {s : State} {H : Heap} {A : Nat → Prop} {a ci : Nat} {q : vw_C} {fs As : List Value}
theorem pX_V (hK : va_K G ncl tys s) (hM : mw G ncl A w H) (hE : xE s H) (hc : ncl[ci]? = some q) (he : w a = some (.inr (ci, fs))) : PreV s H q.1 a (pX G tys w (.ref a :: As)) As :=
  ⟨fun a U g mk q => ⟨q.1, q.2.1, va_K.moved (u := U) (U := U.calling g mk a) (Vm.Alike.refl U.vm) q.2.2.1, xE.same (u := U) (U := U.calling g mk a) rfl q.2.2.2⟩, m_recv hK hM hc he, fun U hU hW => ⟨rfl, by rw [hU]; exact mw_weaken hM (fun _ _ => trivial), va_K.moved hW.alike hK, by rw [hU]; exact xE.warm hW hE⟩⟩
theorem pY_V (hK : va_K G ncl tys s) (hM : mw G ncl A w H) (hE : xE s H) (hc : ncl[ci]? = some q) (he : w a = some (.inr (ci, fs))) : PreV s H q.1 a (pY G tys w H.size (.ref a :: As)) As :=
  ⟨fun a U g mk q => ⟨q.1, q.2.1, q.2.2.1, va_K.moved (u := U) (U := U.calling g mk a) (Vm.Alike.refl U.vm) q.2.2.2.1, xE.same (u := U) (U := U.calling g mk a) rfl q.2.2.2.2⟩, m_recv hK hM hc he, fun U hU hW => ⟨rfl, by rw [hU], by rw [hU]; exact mw_weaken hM (fun _ _ => trivial), va_K.moved hW.alike hK, by rw [hU]; exact xE.warm hW hE⟩⟩
end PX
