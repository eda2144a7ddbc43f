/-! the law: its loop, its start, the claim (rows of the kit's skeleton of the claim stand here) -/
def R_law : String := "SceneTimesLaw"
def lw_P (b : Addr) (xs : List Int32) (args : Array Value) (s : State) : Prop := args = #[.ref b] ∧ s.IntsAt b xs ∧ xs.length ≤ 3072 ∧ (Jvm.Cond.and given_1 narrow_1).before args s = true
def lw_Q (_ : Array Value) (s : State) (o : Outcome) (t : State) : Prop := o = .returned (some (.int 1)) ∧ Framed s o t [] 601024 7293034
def lw_Z (below : List Frame) (a : Array Value) (s : State) : State → Prop := fun t => ∃ o, t.status = .running ∧ Ended t below o ∧ lw_Q a s o t
/-- the law's own end, with 1 on the stack, nothing written that was there before, its room as the claim has it -/
theorem lw_ret {p : Program} {l : Launch} {e : Env} {s : State} {m : MethodId} {below : List Frame} {meth : Method} {c : Code} {b : Nat} (hx : p.tables.exec = Jvm.exec) (hb : c.code = code) (hr : meth.sig.returnType = ret) (hlocks : meth.locks = false) {pc : Nat} {H : Heap} {ls : Array Slot} (hdg : decode code pc = .ok (.ireturn, 1)) : W p l e room_1 s m #[Value.ref b] below meth c H [] 601024 7293034 (lw_Z below #[Value.ref b] s) (F0 m pc ls [.int 1]) := by
  intro T hT X
  obtain ⟨fs, hret, hrun, hended, hW, hframe⟩ := X.leave (v := some (.int 1)) (hlocks := hlocks) (fun h => by rw [hr] at h; cases h)
  have hmeth' : T.vm.method? m = some meth := X.method'
  refine ⟨T.setFrames fs, ?_, .returned (some (.int 1)), hrun, hended, rfl, ⟨_, rfl⟩, hW, hframe⟩
  jvm_step X.here [X.here.top, hx, hb, hdg, hmeth', hr, ret, narrow_b1]
  (try refine ⟨rfl, ?_⟩); (try refine ⟨rfl, ?_⟩)
  first | (intro acts; rw [hret _ acts rfl rfl rfl]) | rw [hret _ _ rfl rfl rfl]
  exact Steps.refl _
/-- what holds at the law's entry: the machine, the code, the tables' words (any of lw_tbl by 'hts w (by decide +kernel)'), the script of L ints xs at the cell b, what the Statement gives of the start (any of its parts by flat_of_before) -/
def lw_At (p : Program) (s : State) (m : MethodId) (meth : Method) (c : Code) (b L : Nat) (xs : Nat → Int32) : Prop :=
  p.tables.exec = Jvm.exec ∧ c.code = code ∧ meth.sig.returnType = ret ∧ c.maxLocals = 7 ∧ s.vm.findClass R_law = some m.cls ∧ (∀ w ∈ lw_tbl, w.before #[Value.ref b] s = true) ∧ va_X b L xs s s.heap ∧ b < s.heap.size ∧ meth.locks = false ∧ (Jvm.Cond.and given_1 narrow_1).before #[Value.ref b] s = true
theorem sw_14 (x : Int32) : x = 0 ∨ x = 1 ∨ x = 2 ∨ x = 3 ∨ x = 4 ∨ x = 5 ∨ x = 6 ∨ x = 7 ∨ x = 8 ∨ x = 9 ∨ x = 10 ∨ x = 11 ∨ x = 12 ∨ x = 13 ∨ (x.toInt < 0 ∨ 13 < x.toInt) := by
  by_cases h : x.toInt < 0 ∨ 13 < x.toInt
  · exact Or.inr (Or.inr (Or.inr (Or.inr (Or.inr (Or.inr (Or.inr (Or.inr (Or.inr (Or.inr (Or.inr (Or.inr (Or.inr (Or.inr (h))))))))))))))
  · have h1 : x.toInt = 0 ∨ x.toInt = 1 ∨ x.toInt = 2 ∨ x.toInt = 3 ∨ x.toInt = 4 ∨ x.toInt = 5 ∨ x.toInt = 6 ∨ x.toInt = 7 ∨ x.toInt = 8 ∨ x.toInt = 9 ∨ x.toInt = 10 ∨ x.toInt = 11 ∨ x.toInt = 12 ∨ x.toInt = 13 := by omega
    rcases h1 with h | h | h | h | h | h | h | h | h | h | h | h | h | h
    · exact Or.inl (i_of h)
    · exact Or.inr (Or.inl (i_of h))
    · exact Or.inr (Or.inr (Or.inl (i_of h)))
    · exact Or.inr (Or.inr (Or.inr (Or.inl (i_of h))))
    · exact Or.inr (Or.inr (Or.inr (Or.inr (Or.inl (i_of h)))))
    · exact Or.inr (Or.inr (Or.inr (Or.inr (Or.inr (Or.inl (i_of h))))))
    · exact Or.inr (Or.inr (Or.inr (Or.inr (Or.inr (Or.inr (Or.inl (i_of h)))))))
    · exact Or.inr (Or.inr (Or.inr (Or.inr (Or.inr (Or.inr (Or.inr (Or.inl (i_of h))))))))
    · exact Or.inr (Or.inr (Or.inr (Or.inr (Or.inr (Or.inr (Or.inr (Or.inr (Or.inl (i_of h)))))))))
    · exact Or.inr (Or.inr (Or.inr (Or.inr (Or.inr (Or.inr (Or.inr (Or.inr (Or.inr (Or.inl (i_of h))))))))))
    · exact Or.inr (Or.inr (Or.inr (Or.inr (Or.inr (Or.inr (Or.inr (Or.inr (Or.inr (Or.inr (Or.inl (i_of h)))))))))))
    · exact Or.inr (Or.inr (Or.inr (Or.inr (Or.inr (Or.inr (Or.inr (Or.inr (Or.inr (Or.inr (Or.inr (Or.inl (i_of h))))))))))))
    · exact Or.inr (Or.inr (Or.inr (Or.inr (Or.inr (Or.inr (Or.inr (Or.inr (Or.inr (Or.inr (Or.inr (Or.inr (Or.inl (i_of h)))))))))))))
    · exact Or.inr (Or.inr (Or.inr (Or.inr (Or.inr (Or.inr (Or.inr (Or.inr (Or.inr (Or.inr (Or.inr (Or.inr (Or.inr (Or.inl (i_of h))))))))))))))
theorem lp_c {i L : Nat} (hi : i ≤ 4000) (hL : L ≤ 3072) : Int32.ofNat L - 6 < nI i ↔ ¬ i + 6 ≤ L := by
  have e1 : (Int32.ofNat L).toInt = (L : Int) := nI_toInt (by omega)
  have e2 : (nI i).toInt = (i : Int) := nI_toInt (by omega)
  have e6 : (6 : Int32).toInt = 6 := rfl
  rw [i_lt, i_sub (by rw [e1, e6]; omega) (by rw [e1, e6]; omega), e1, e2, e6]
  omega
set_option maxHeartbeats 4000000 in
set_option maxRecDepth 100000 in
theorem law_loop (l : Launch) (hlt : l.stackTraces = false) {p : Program} {e : Env} {s : State} {m : MethodId} {below : List Frame} {meth : Method} {c : Code} {b L : Nat} {xs : Nat → Int32} (hx : p.tables.exec = Jvm.exec) (hb : c.code = c_W_law) (hml : c.maxLocals = 7) (hown : s.vm.findClass nR_W = some m.cls) (hta : ∀ w ∈ AL, w.before #[Value.ref b] s = true) (hX : va_X b L xs s s.heap) (hbl : b < s.heap.size) (hL : L ≤ 3072) (G : va_G) (cN cB cI cJ : ClassId) (hK : va_K G ncl [(cN, .object nR_N), (cB, .byte), (cI, .int), (cJ, .long)] s) (hE0 : xEA s) (hN : xN s) {x mm o : Nat} {Q : State → Prop} (hend : ∀ (H : Heap) (locs : List Loc) (cells slots : Nat) (ls : Array Slot), cells ≤ 601024 → slots ≤ 7293034 → va_S (fun q => s.heap.size ≤ q) s.heap H locs → lv_has ls 7 [(0, .ref b)] → W p l e room_1 s m #[Value.ref b] below meth c H locs cells slots Q (F0 m 1042 ls [])) : ∀ (k i : Nat) (H : Heap) (locs : List Loc) (cells slots : Nat) (ls : Array Slot), L + 6 ≤ i + 6 * k → i ≤ 4000 → cells + 6 * k ≤ 601024 → slots + 40 * k ≤ 7293034 → LI G cN cB cI cJ x mm o (fun q => s.heap.size ≤ q) H → va_S (fun q => s.heap.size ≤ q) s.heap H locs → lv_has ls 7 [(0, .ref b), (1, .ref x), (2, .ref mm), (3, .ref o), (4, .int (nI i))] → W p l e room_1 s m #[Value.ref b] below meth c H locs cells slots Q (F0 m 23 ls []) := by
  intro k
  induction k with
  | zero =>
    intro i H locs cells slots ls h6 hi4 hcb hsb hLI hS hl
    refine lv_iload hx hb d_W_law_23 (lv_at hl 4 rfl) ?_
    refine lv_aload_n hx hb d_W_law_25 rfl (lv_at hl 0 rfl) ?_
    refine va_slen hx hb hX hbl (Nat.not_le.mpr hbl) hS d_W_law_26 ?_
    refine lv_bipush (v := 6) hx hb d_W_law_27 (by decide) ?_
    refine lv_isub hx hb d_W_law_29 ?_
    refine lv_icmp_gt (tgt := 1042) hx hb d_W_law_30 (by decide) (fun c_1 => ?_) (fun c_1 => absurd ((lp_c hi4 hL).mpr (by omega)) c_1)
    exact hend H locs cells slots ls (by omega) (by omega) hS (lv_sub hl [0] rfl)
  | succ k ih =>
    intro i H locs cells slots ls h6 hi4 hcb hsb hLI hS hl
    by_cases hi6 : i + 6 ≤ L
    · have hkk : ∀ (H : Heap) (locs : List Loc) (ls : Array Slot), LI G cN cB cI cJ x mm o (fun q => s.heap.size ≤ q) H → va_S (fun q => s.heap.size ≤ q) s.heap H locs → lv_has ls 7 [(0, .ref b), (1, .ref x), (2, .ref mm), (3, .ref o), (4, .int (nI i))] → W p l e room_1 s m #[Value.ref b] below meth c H locs (cells + 6) (slots + 40) Q (F0 m 1036 ls []) := by
        intro H locs ls hLI hS hl
        obtain ⟨x_51, ex_51⟩ : ∃ y : Int32, y = (nI i) + 6 := ⟨_, rfl⟩
        refine lv_iinc (v := x_51) (lv' := [(4, .int x_51), (0, .ref b), (1, .ref x), (2, .ref mm), (3, .ref o)]) hx hb d_W_law_1036 hl (k := 4) rfl (by rw [ex_51]; rfl) (by decide) rfl (fun ls hl => ?_)
        refine lv_goto (tgt := 23) hx hb d_W_law_1039 (by decide) ?_
        have ex : x_51 = nI (i + 6) := by rw [ex_51, show (6 : Int32) = nI 6 from rfl, nI_add]
        subst ex
        exact ih (i + 6) H locs (cells + 6) (slots + 40) ls (by omega) (by omega) (by omega) (by omega) hLI hS (lv_sub hl [1, 2, 3, 4, 0] rfl)
      refine lv_iload hx hb d_W_law_23 (lv_at hl 4 rfl) ?_
      refine lv_aload_n hx hb d_W_law_25 rfl (lv_at hl 0 rfl) ?_
      refine va_slen hx hb hX hbl (Nat.not_le.mpr hbl) hS d_W_law_26 ?_
      refine lv_bipush (v := 6) hx hb d_W_law_27 (by decide) ?_
      refine lv_isub hx hb d_W_law_29 ?_
      refine lv_icmp_gt (tgt := 1042) hx hb d_W_law_30 (by decide) (fun c_101 => absurd hi6 ((lp_c hi4 hL).mp c_101)) (fun c_101 => ?_)
      refine lv_aload_n hx hb d_W_law_33 rfl (lv_at hl 0 rfl) ?_
      refine lv_iload hx hb d_W_law_34 (lv_at hl 4 rfl) ?_
      refine va_sld hx hb hX hbl (Nat.not_le.mpr hbl) hS (vp_in_nI (show i < L by omega) (by omega)) d_W_law_36 ?_
      refine lv_bipush (v := 15) hx hb d_W_law_37 (by decide) ?_
      refine lv_iand hx hb d_W_law_39 ?_
      obtain ⟨x0, ex0⟩ : ∃ z9 : Int32, (xs (nI i).toNatClampNeg) &&& 15 = z9 := ⟨_, rfl⟩
      rw [ex0]
      rcases sw_14 x0 with hs | hs | hs | hs | hs | hs | hs | hs | hs | hs | hs | hs | hs | hs | hs
      · rw [hs]
        refine lv_tableIn (tgt := 112) hx hb d_W_law_40 (by decide) (by decide) rfl (by decide) ?_
        exact arm_writer l hlt hx hb hml hown hta hX hbl hL G cN cB cI cJ hK hE0 hN (x := x) (mm := mm) (o := o) hi6 (by omega) (by omega) hLI hS (lv_sub hl [0, 1, 2, 3, 4] rfl) hkk
      · rw [hs]
        refine lv_tableIn (tgt := 156) hx hb d_W_law_40 (by decide) (by decide) rfl (by decide) ?_
        exact arm_note l hlt hx hb hml hown hta hX hbl hL G cN cB cI cJ hK hE0 hN (x := x) (mm := mm) (o := o) hi6 (by omega) (by omega) hLI hS (lv_sub hl [0, 1, 2, 3, 4] rfl) hkk
      · rw [hs]
        refine lv_tableIn (tgt := 260) hx hb d_W_law_40 (by decide) (by decide) rfl (by decide) ?_
        exact arm_correct l hlt hx hb hml hown hta hX hbl hL G cN cB cI cJ hK hE0 hN (x := x) (mm := mm) (o := o) hi6 (by omega) (by omega) hLI hS (lv_sub hl [0, 1, 2, 3, 4] rfl) hkk
      · rw [hs]
        refine lv_tableIn (tgt := 328) hx hb d_W_law_40 (by decide) (by decide) rfl (by decide) ?_
        exact arm_strike l hlt hx hb hml hown hta hX hbl hL G cN cB cI cJ hK hE0 hN (x := x) (mm := mm) (o := o) hi6 (by omega) (by omega) hLI hS (lv_sub hl [0, 1, 2, 3, 4] rfl) hkk
      · rw [hs]
        refine lv_tableIn (tgt := 392) hx hb d_W_law_40 (by decide) (by decide) rfl (by decide) ?_
        exact arm_ask l hlt hx hb hml hown hta hX hbl hL G cN cB cI cJ hK hE0 hN (x := x) (mm := mm) (o := o) hi6 (by omega) (by omega) hLI hS (lv_sub hl [0, 1, 2, 3, 4] rfl) hkk
      · rw [hs]
        refine lv_tableIn (tgt := 496) hx hb d_W_law_40 (by decide) (by decide) rfl (by decide) ?_
        exact arm_row l hlt hx hb hml hown hta hX hbl hL G cN cB cI cJ hK hE0 hN (x := x) (mm := mm) (o := o) hi6 (by omega) (by omega) hLI hS (lv_sub hl [0, 1, 2, 3, 4] rfl) hkk
      · rw [hs]
        refine lv_tableIn (tgt := 564) hx hb d_W_law_40 (by decide) (by decide) rfl (by decide) ?_
        exact arm_reading l hlt hx hb hml hown hta hX hbl hL G cN cB cI cJ hK hE0 hN (x := x) (mm := mm) (o := o) hi6 (by omega) (by omega) hLI hS (lv_sub hl [0, 1, 2, 3, 4] rfl) hkk
      · rw [hs]
        refine lv_tableIn (tgt := 632) hx hb d_W_law_40 (by decide) (by decide) rfl (by decide) ?_
        exact arm_gap l hlt hx hb hml hown hta hX hbl hL G cN cB cI cJ hK hE0 hN (x := x) (mm := mm) (o := o) hi6 (by omega) (by omega) hLI hS (lv_sub hl [0, 1, 2, 3, 4] rfl) hkk
      · rw [hs]
        refine lv_tableIn (tgt := 700) hx hb d_W_law_40 (by decide) (by decide) rfl (by decide) ?_
        exact arm_digest l hlt hx hb hml hown hta hX hbl hL G cN cB cI cJ hK hE0 hN (x := x) (mm := mm) (o := o) hi6 (by omega) (by omega) hLI hS (lv_sub hl [0, 1, 2, 3, 4] rfl) hkk
      · rw [hs]
        refine lv_tableIn (tgt := 756) hx hb d_W_law_40 (by decide) (by decide) rfl (by decide) ?_
        exact arm_noteAt l hlt hx hb hml hown hta hX hbl hL G cN cB cI cJ hK hE0 hN (x := x) (mm := mm) (o := o) hi6 (by omega) (by omega) hLI hS (lv_sub hl [0, 1, 2, 3, 4] rfl) hkk
      · rw [hs]
        refine lv_tableIn (tgt := 824) hx hb d_W_law_40 (by decide) (by decide) rfl (by decide) ?_
        exact arm_print l hlt hx hb hml hown hta hX hbl hL G cN cB cI cJ hK hE0 hN (x := x) (mm := mm) (o := o) hi6 (by omega) (by omega) hLI hS (lv_sub hl [0, 1, 2, 3, 4] rfl) hkk
      · rw [hs]
        refine lv_tableIn (tgt := 868) hx hb d_W_law_40 (by decide) (by decide) rfl (by decide) ?_
        exact arm_at l hlt hx hb hml hown hta hX hbl hL G cN cB cI cJ hK hE0 hN (x := x) (mm := mm) (o := o) hi6 (by omega) (by omega) hLI hS (lv_sub hl [0, 1, 2, 3, 4] rfl) hkk
      · rw [hs]
        refine lv_tableIn (tgt := 924) hx hb d_W_law_40 (by decide) (by decide) rfl (by decide) ?_
        exact arm_tick l hlt hx hb hml hown hta hX hbl hL G cN cB cI cJ hK hE0 hN (x := x) (mm := mm) (o := o) hi6 (by omega) (by omega) hLI hS (lv_sub hl [0, 1, 2, 3, 4] rfl) hkk
      · rw [hs]
        refine lv_tableIn (tgt := 980) hx hb d_W_law_40 (by decide) (by decide) rfl (by decide) ?_
        exact arm_count l hlt hx hb hml hown hta hX hbl hL G cN cB cI cJ hK hE0 hN (x := x) (mm := mm) (o := o) hi6 (by omega) (by omega) hLI hS (lv_sub hl [0, 1, 2, 3, 4] rfl) hkk
      · refine lv_tableOut (tgt := 1036) hx hb d_W_law_40 hs (by decide) ?_
        refine W.widen (k := cells + 6) (n := slots + 40) (by omega) (by omega) ?_
        exact hkk H locs ls hLI hS (lv_sub hl [0, 1, 2, 3, 4] rfl)
    · refine lv_iload hx hb d_W_law_23 (lv_at hl 4 rfl) ?_
      refine lv_aload_n hx hb d_W_law_25 rfl (lv_at hl 0 rfl) ?_
      refine va_slen hx hb hX hbl (Nat.not_le.mpr hbl) hS d_W_law_26 ?_
      refine lv_bipush (v := 6) hx hb d_W_law_27 (by decide) ?_
      refine lv_isub hx hb d_W_law_29 ?_
      refine lv_icmp_gt (tgt := 1042) hx hb d_W_law_30 (by decide) (fun c_201 => ?_) (fun c_201 => absurd ((lp_c hi4 hL).mpr hi6) c_201)
      exact hend H locs cells slots ls (by omega) (by omega) hS (lv_sub hl [0] rfl)
theorem ng_tb : ∀ w ∈ nNG, w ∈ lw_tbl := (List.forall_mem_cons.mpr ⟨(List.mem_append_right _ (tb_1 (List.mem_of_getElem? (i := 114) (by decide +kernel)))), (List.forall_mem_cons.mpr ⟨(List.mem_append_right _ (tb_1 (List.mem_of_getElem? (i := 115) (by decide +kernel)))), (List.forall_mem_cons.mpr ⟨(List.mem_append_right _ (tb_1 (List.mem_of_getElem? (i := 116) (by decide +kernel)))), (List.forall_mem_cons.mpr ⟨(List.mem_append_right _ (tb_1 (List.mem_of_getElem? (i := 117) (by decide +kernel)))), (List.forall_mem_cons.mpr ⟨(List.mem_append_right _ (tb_1 (List.mem_of_getElem? (i := 118) (by decide +kernel)))), (List.forall_mem_cons.mpr ⟨(List.mem_append_right _ (tb_1 (List.mem_of_getElem? (i := 119) (by decide +kernel)))), (List.forall_mem_cons.mpr ⟨(List.mem_append_right _ (tb_1 (List.mem_of_getElem? (i := 120) (by decide +kernel)))), (List.forall_mem_cons.mpr ⟨(List.mem_append_right _ (tb_1 (List.mem_of_getElem? (i := 201) (by decide +kernel)))), (List.forall_mem_cons.mpr ⟨(List.mem_append_right _ (tb_1 (List.mem_of_getElem? (i := 224) (by decide +kernel)))), (List.forall_mem_cons.mpr ⟨(List.mem_append_right _ (tb_2 (List.mem_of_getElem? (i := 108) (by decide +kernel)))), (fun _ h => absurd h List.not_mem_nil)⟩)⟩)⟩)⟩)⟩)⟩)⟩)⟩)⟩)⟩)
theorem sr_tb : ∀ q ∈ nSR, Cond.stringRef nR_X q.1 q.2 ∈ lw_tbl := (List.forall_mem_cons.mpr ⟨(List.mem_append_right _ (tb_1 (List.mem_of_getElem? (i := 154) (by decide +kernel)))), (List.forall_mem_cons.mpr ⟨(List.mem_append_right _ (tb_1 (List.mem_of_getElem? (i := 208) (by decide +kernel)))), (List.forall_mem_cons.mpr ⟨(List.mem_append_right _ (tb_1 (List.mem_of_getElem? (i := 231) (by decide +kernel)))), (List.forall_mem_cons.mpr ⟨(List.mem_append_right _ (tb_1 (List.mem_of_getElem? (i := 238) (by decide +kernel)))), (List.forall_mem_cons.mpr ⟨(List.mem_append_right _ (tb_2 (List.mem_of_getElem? (i := 104) (by decide +kernel)))), (List.forall_mem_cons.mpr ⟨(List.mem_append_right _ (tb_2 (List.mem_of_getElem? (i := 105) (by decide +kernel)))), (List.forall_mem_cons.mpr ⟨(List.mem_append_right _ (tb_2 (List.mem_of_getElem? (i := 115) (by decide +kernel)))), (List.forall_mem_cons.mpr ⟨(List.mem_append_right _ (tb_2 (List.mem_of_getElem? (i := 126) (by decide +kernel)))), (List.forall_mem_cons.mpr ⟨(List.mem_append_right _ (tb_2 (List.mem_of_getElem? (i := 138) (by decide +kernel)))), (List.forall_mem_cons.mpr ⟨(List.mem_append_right _ (tb_2 (List.mem_of_getElem? (i := 150) (by decide +kernel)))), (List.forall_mem_cons.mpr ⟨(List.mem_append_right _ (tb_2 (List.mem_of_getElem? (i := 151) (by decide +kernel)))), (List.forall_mem_cons.mpr ⟨(List.mem_append_right _ (tb_2 (List.mem_of_getElem? (i := 175) (by decide +kernel)))), (List.forall_mem_cons.mpr ⟨(List.mem_append_right _ (tb_2 (List.mem_of_getElem? (i := 183) (by decide +kernel)))), (List.forall_mem_cons.mpr ⟨(List.mem_append_right _ (tb_2 (List.mem_of_getElem? (i := 191) (by decide +kernel)))), (List.forall_mem_cons.mpr ⟨(List.mem_append_right _ (tb_2 (List.mem_of_getElem? (i := 192) (by decide +kernel)))), (List.forall_mem_cons.mpr ⟨(List.mem_append_right _ (tb_2 (List.mem_of_getElem? (i := 205) (by decide +kernel)))), (List.forall_mem_cons.mpr ⟨(List.mem_append_right _ (tb_2 (List.mem_of_getElem? (i := 220) (by decide +kernel)))), (List.forall_mem_cons.mpr ⟨(List.mem_append_right _ (tb_3 (List.mem_of_getElem? (i := 2) (by decide +kernel)))), (List.forall_mem_cons.mpr ⟨(List.mem_append_right _ (tb_3 (List.mem_of_getElem? (i := 33) (by decide +kernel)))), (List.forall_mem_cons.mpr ⟨(List.mem_append_right _ (tb_3 (List.mem_of_getElem? (i := 41) (by decide +kernel)))), (fun _ h => absurd h List.not_mem_nil)⟩)⟩)⟩)⟩)⟩)⟩)⟩)⟩)⟩)⟩)⟩)⟩)⟩)⟩)⟩)⟩)⟩)⟩)⟩)⟩)
theorem arr_P {s : State} {args : Array Value} {ty : FieldType} (h : (Cond.arrayClass ty).before args s = true) (hr : ∀ c, s.vm.findClass ("[" ++ ty.toString) = some c → va_RA s c ty) : ∃ c : ClassId, ArrOfT s c ty ∧ va_RA s c ty := by
  obtain ⟨c, k, comp, h1, h2, h3⟩ := Cond.arrayClass_spec h
  exact ⟨c, fun n z => ⟨fun k h => (by cases h), k, h2, comp, h3⟩, hr c h1⟩
theorem arr_O {s : State} {args : Array Value} {C : String} (h : (Cond.arrayOver (.object C)).before args s = true) : ∃ c : ClassId, ArrOfT s c (.object C) ∧ va_RA s c (.object C) := by
  obtain ⟨comp, c, k, h1, h2, h3, h4, h5⟩ := Cond.arrayOver_spec h
  exact ⟨c, fun n z => ⟨fun k h => (by cases h), k, h3, comp, h4⟩, k, comp, h3, h4, h1, h5⟩
theorem rl_0 (v : Nat → nV) (od ro : Nat → Nat) : rl v od ro (fun _ => 0) 0 0 0 0 0 0 0 (fun _ _ => 0) :=
  ⟨⟨by decide, by decide, by decide, by decide, by decide, by decide, by decide, by decide, Or.inl rfl⟩, fun i hi => absurd hi (Nat.not_lt_zero i), fun i hi => absurd hi (Nat.not_lt_zero i), fun a b _ hb => absurd hb (Nat.not_lt_zero b), ⟨fun i hi => absurd hi (Nat.not_lt_zero i), fun i j _ hj => absurd hj (Nat.not_lt_zero j), fun j hj => absurd hj (Nat.not_lt_zero j)⟩, fun i hi => absurd hi (Nat.not_lt_zero i), fun i hi => absurd hi (Nat.not_lt_zero i)⟩
set_option maxHeartbeats 4000000 in
set_option maxRecDepth 100000 in
theorem whole_start {p : Program} {e : Env} {s : State} {m : MethodId} {below : List Frame} {meth : Method} {c : Code} (l : Launch) (hlt : l.stackTraces = false) {b L : Nat} {xs : Nat → Int32} (hL : L ≤ 3072) (C0 : lw_At p s m meth c b L xs) : W p l e room_1 s m #[Value.ref b] below meth c s.heap [] 0 0 (lw_Z below #[Value.ref b] s) (entryFrame m ([Value.ref b] : List Value).toArray 7) := by
  obtain ⟨hx, hb, hr, hml, hown, hts, hX, hbl, hlocks, hgv⟩ := C0
  have hb : c.code = c_W_law := hb
  have hown : s.vm.findClass nR_W = some m.cls := hown
  have hta : ∀ w ∈ AL, w.before #[Value.ref b] s = true := fun w h => hts w (List.mem_filter.mp h).1
  have hfl := flat_of_before _ hgv
  obtain ⟨c0, iS0, hKn0⟩ := u_known (C := nR_X) (T := nT_X) (N := 6) (n := 6) hta in_X (hta _ aw_17)
  obtain ⟨c1, iS1, hKn1⟩ := u_known (C := nR_L) (T := nT_L) (N := 3) (n := 3) hta in_L (hta _ aw_25)
  obtain ⟨c2, iS2, hKn2⟩ := u_known (C := nR_Q) (T := nT_Q) (N := 4) (n := 4) hta in_Q (hta _ aw_46)
  obtain ⟨c3, iS3, hKn3⟩ := u_known (C := nR_S) (T := nT_S) (N := 2) (n := 2) hta in_S (hta _ aw_70)
  obtain ⟨c4, iS4, hKn4⟩ := u_known (C := nR_N) (T := nT_N) (N := 10) (n := 10) hta in_N (hta _ aw_240)
  obtain ⟨c5, iS5, hKn5⟩ := u_known (C := nR_T) (T := nT_T) (N := 4) (n := 4) hta in_T (hta _ aw_246)
  obtain ⟨c6, iS6, hKn6⟩ := u_known (C := nR_M) (T := nT_M) (N := 21) (n := 21) hta in_M (hta _ aw_538)
  obtain ⟨dC, dI, hKc⟩ : ∃ (dC : Nat → ClassId) (dI : Nat → Nat → Nat), ∀ (k : Nat) (q : vw_C), ncl[k]? = some q → u_Kn s q.1 q.2.1 q.2.2 (dC k) (dI k) := by
    refine ⟨fun k => if k = 0 then c0 else if k = 1 then c1 else if k = 2 then c2 else if k = 3 then c3 else if k = 4 then c4 else if k = 5 then c5 else c6, fun k => if k = 0 then iS0 else if k = 1 then iS1 else if k = 2 then iS2 else if k = 3 then iS3 else if k = 4 then iS4 else if k = 5 then iS5 else iS6, ?_⟩
    intro k q hq
    match k, hq with
    | 0, hq => cases hq; exact hKn0
    | 1, hq => cases hq; exact hKn1
    | 2, hq => cases hq; exact hKn2
    | 3, hq => cases hq; exact hKn3
    | 4, hq => cases hq; exact hKn4
    | 5, hq => cases hq; exact hKn5
    | 6, hq => cases hq; exact hKn6
    | k + 7, hq => simp [ncl] at hq
  obtain ⟨cN, hN1, hN2⟩ := arr_O (C := nR_N) (hts (.arrayOver (.object "SceneTimes$Note")) (List.mem_append_right _ (tb_1 (List.mem_of_getElem? (i := 31) (by decide +kernel)))))
  obtain ⟨cB, hB1, hB2⟩ := arr_P (ty := .byte) (hta _ aw_84) (fun c h => h)
  obtain ⟨yI, hI1, hI2⟩ := arr_P (ty := .int) (hta _ aw_607) (fun c h => h)
  obtain ⟨cJ, hJ1, hJ2⟩ := arr_P (ty := .long) (hta _ aw_722) (fun c h => h)
  have hK : va_K (dC, dI) ncl [(cN, .object nR_N), (cB, .byte), (yI, .int), (cJ, .long)] s := by
    refine ⟨hKc, fun k q hq => ?_⟩
    match k, hq with
    | 0, hq => cases hq; exact ⟨hN1, hN2⟩
    | 1, hq => cases hq; exact ⟨hB1, hB2⟩
    | 2, hq => cases hq; exact ⟨hI1, hI2⟩
    | 3, hq => cases hq; exact ⟨hJ1, hJ2⟩
    | k + 4, hq => simp at hq
  have hAl : ∀ a : Nat, a < s.heap.size → ¬ s.heap.size ≤ a := fun a h => Nat.not_le.mpr h
  obtain ⟨cX, kX, hfX, -⟩ := Cond.instantiable_spec (hta _ aw_17)
  have hE0 : xEA s := by
    refine ⟨vx_Zqof (hts (.laysStatic Bundle.tN "UNASSIGNED_STACK" Bundle.steD) (List.mem_append_right _ (tb_1 (List.mem_of_getElem? (i := 139) (by decide +kernel))))) (hta _ aw_6) (hfl (.isRef (.static Bundle.tN "UNASSIGNED_STACK" Bundle.steD)) (by decide +kernel)) hAl, vx_Zqof (hts (.laysStatic Bundle.tN "SUPPRESSED_SENTINEL" Bundle.listD) (List.mem_append_right _ (tb_1 (List.mem_of_getElem? (i := 141) (by decide +kernel))))) (hta _ aw_6) (hfl (.isRef (.static Bundle.tN "SUPPRESSED_SENTINEL" Bundle.listD)) (by decide +kernel)) hAl, fun q hq => ?_, fun w hw => va_Nw.of (nNG_t w hw) (hts w (ng_tb w hw))⟩
    obtain ⟨k9, cf, i9, a9, -, -, -, -, -, hev⟩ := Cond.stringRef_spec hfX (hts _ (sr_tb q hq))
    exact ⟨a9, vk_R.of (A := #[Value.ref b]) (hts _ (sr_tb q hq)) hev⟩
  have hN : xN s := by
    intro i j h1 h2 h3 h4 h5
    have hi : i = 1 ∨ i = 2 ∨ i = 3 ∨ i = 4 := by omega
    have hj : j = 1 ∨ j = 2 ∨ j = 3 ∨ j = 4 := by omega
    rcases hi with rfl | rfl | rfl | rfl
    · rcases hj with rfl | rfl | rfl | rfl
      · exact absurd rfl h5
      · exact va_Nc.of (hfl (.not (.castable "java/lang/IllegalArgumentException" "java/lang/IndexOutOfBoundsException")) (by decide +kernel))
      · exact va_Nc.of (hfl (.not (.castable "java/lang/IllegalArgumentException" "java/lang/IllegalStateException")) (by decide +kernel))
      · exact va_Nc.of (hfl (.not (.castable "java/lang/IllegalArgumentException" "java/lang/UnsupportedOperationException")) (by decide +kernel))
    · rcases hj with rfl | rfl | rfl | rfl
      · exact va_Nc.of (hfl (.not (.castable "java/lang/IndexOutOfBoundsException" "java/lang/IllegalArgumentException")) (by decide +kernel))
      · exact absurd rfl h5
      · exact va_Nc.of (hfl (.not (.castable "java/lang/IndexOutOfBoundsException" "java/lang/IllegalStateException")) (by decide +kernel))
      · exact va_Nc.of (hfl (.not (.castable "java/lang/IndexOutOfBoundsException" "java/lang/UnsupportedOperationException")) (by decide +kernel))
    · rcases hj with rfl | rfl | rfl | rfl
      · exact va_Nc.of (hfl (.not (.castable "java/lang/IllegalStateException" "java/lang/IllegalArgumentException")) (by decide +kernel))
      · exact va_Nc.of (hfl (.not (.castable "java/lang/IllegalStateException" "java/lang/IndexOutOfBoundsException")) (by decide +kernel))
      · exact absurd rfl h5
      · exact va_Nc.of (hfl (.not (.castable "java/lang/IllegalStateException" "java/lang/UnsupportedOperationException")) (by decide +kernel))
    · rcases hj with rfl | rfl | rfl | rfl
      · exact va_Nc.of (hfl (.not (.castable "java/lang/UnsupportedOperationException" "java/lang/IllegalArgumentException")) (by decide +kernel))
      · exact va_Nc.of (hfl (.not (.castable "java/lang/UnsupportedOperationException" "java/lang/IndexOutOfBoundsException")) (by decide +kernel))
      · exact va_Nc.of (hfl (.not (.castable "java/lang/UnsupportedOperationException" "java/lang/IllegalStateException")) (by decide +kernel))
      · exact absurd rfl h5
  have hI : xI s := ⟨va_AO.of (hts (.arrayOver (.object "SceneTimes$Note")) (List.mem_append_right _ (tb_1 (List.mem_of_getElem? (i := 31) (by decide +kernel))))), va_Nw.of rfl (hts nestL (List.mem_append_right _ (tb_1 (List.mem_of_getElem? (i := 26) (by decide +kernel))))), va_Nw.of rfl (hts nestQ (List.mem_append_right _ (tb_1 (List.mem_of_getElem? (i := 47) (by decide +kernel))))), va_Nw.of rfl (hts nestS (List.mem_append_right _ (tb_1 (List.mem_of_getElem? (i := 71) (by decide +kernel)))))⟩
  have hS : va_S (fun q => s.heap.size ≤ q) s.heap s.heap [] := va_S.rf
  obtain ⟨A, hAe⟩ : ∃ z9 : Nat → Prop, z9 = (fun q => s.heap.size ≤ q) := ⟨_, rfl⟩
  rw [← hAe] at hS
  have hA : ∀ q : Nat, s.heap.size ≤ q → A q := fun q h => by rw [hAe]; exact h
  obtain ⟨G, eG⟩ : ∃ z9 : va_G, z9 = (dC, dI) := ⟨_, rfl⟩
  rw [← eG] at hK
  have hM : mw G ncl A (fun _ => none) s.heap := fun a e h => nomatch h
  have hl := lv_entry ([.ref b]) (n := 7) (Nat.le_of_ble_eq_true rfl)
  rw [lg_entry_eq]
  generalize (lg_sl ([.ref b]) ++ List.replicate (7 - (lg_sl ([.ref b])).length) Slot.unset).toArray = ls at hl ⊢
  have hl : lv_has ls 7 [(0, .ref b)] := hl
  refine m_new (D := G) (ci := 0) (fs := [.null, .null, .null, .int 0, .int 0, .int 0]) (C := nR_X) (T := nT_X) (N := 6) hx hb hta in_X nt_X nt_X_ok hown (hta _ aw_16) (hta _ aw_17) (hta _ aw_1) hK hM hS hA rfl (fun j hj => by rcases (show j = 0 ∨ j = 1 ∨ j = 2 ∨ j = 3 ∨ j = 4 ∨ j = 5 by omega) with rfl | rfl | rfl | rfl | rfl | rfl <;> rfl) (Nat.le_of_ble_eq_true rfl) (Nat.le_of_ble_eq_true rfl) d_W_law_0 (fun q_x H nq_x hM hS => ?_)
  obtain ⟨w_1, hw_1⟩ : ∃ z9 : Nat → Option va_E, z9 = va_up (fun _ => none) q_x (some (.inr (0, [.null, .null, .null, .int 0, .int 0, .int 0]))) := ⟨_, rfl⟩
  rw [← hw_1] at hM
  have k_2 : w_1 q_x = some (.inr (0, [.null, .null, .null, .int 0, .int 0, .int 0])) := by rw [hw_1, va_up_self]
  refine lv_dup hx hb d_W_law_3 rfl ?_
  have hF := mw_free hM hS hA
  refine va_callv (va_runI (As := []) (rest := [.ref q_x]) ⟨hx, hb, hml, hown, hta⟩ (k_X_init l G cN cB [(yI, .int), (cJ, .long)] w_1 k_2 _) (cI 0 hta aw_20 aw_1 aw_18 aw_19 rfl rfl rfl (by decide +kernel) ⟨Nat.le_of_ble_eq_true rfl, Nat.le_of_ble_eq_true rfl⟩) (pI_S hK hM hI) rfl rfl hl.1 rfl (lv_room (Nat.le_of_ble_eq_true rfl)) d_W_law_4 ⟨Nat.le_of_ble_eq_true rfl, Nat.le_of_ble_eq_true rfl⟩) hS (fun q _ h => hF q h) hF (fun u1 t H locs ht hvm hp1 hB hz1 hk1 hS => ?_)
  obtain ⟨hM1, hK1⟩ := hB
  rw [ht] at hM1
  have hMx := mw_weaken hM1 hF
  clear hM1 hK1 hF hk1 hz1 hM
  obtain ⟨hx0, hα, hcp⟩ := hp1
  have hM : mw G ncl A (fun _ => none) H := fun a e h => nomatch h
  refine lv_astore_n (lv' := [(1, .ref q_x), (0, .ref b)]) hx hb d_W_law_7 rfl hl (by decide) rfl (fun ls hl => ?_)
  refine m_new (D := G) (ci := 6) (fs := [.int 0, .int 0, .int 0, .int 0, .null, .null, .null, .null, .null, .null, .int 0, .null, .null, .null, .null, .int 0, .int 0, .int 0, .null, .int 0, .null]) (C := nR_M) (T := nT_M) (N := 21) hx hb hta in_M nt_M nt_M_ok hown (hta _ aw_537) (hta _ aw_538) (hta _ aw_5) hK hMx hS hA rfl (fun j hj => by rcases (show j = 0 ∨ j = 1 ∨ j = 2 ∨ j = 3 ∨ j = 4 ∨ j = 5 ∨ j = 6 ∨ j = 7 ∨ j = 8 ∨ j = 9 ∨ j = 10 ∨ j = 11 ∨ j = 12 ∨ j = 13 ∨ j = 14 ∨ j = 15 ∨ j = 16 ∨ j = 17 ∨ j = 18 ∨ j = 19 ∨ j = 20 by omega) with rfl | rfl | rfl | rfl | rfl | rfl | rfl | rfl | rfl | rfl | rfl | rfl | rfl | rfl | rfl | rfl | rfl | rfl | rfl | rfl | rfl <;> rfl) (Nat.le_of_ble_eq_true rfl) (Nat.le_of_ble_eq_true rfl) d_W_law_8 (fun q_m H nq_m hMy hS => ?_)
  have hMx : mw G ncl A u1.1 H := mw_sub hMy nq_m
  obtain ⟨w2, hw2⟩ : ∃ z9 : Nat → Option va_E, z9 = va_up (fun _ => none) q_m (some (.inr (6, [.int 0, .int 0, .int 0, .int 0, .null, .null, .null, .null, .null, .null, .int 0, .null, .null, .null, .null, .int 0, .int 0, .int 0, .null, .int 0, .null]))) := ⟨_, rfl⟩
  have hM : mw G ncl A w2 H := fun a e9 he => by
    rw [hw2] at he
    by_cases y : a = q_m
    · rw [y, va_up_self] at he; cases he; rw [y]; exact hMy q_m _ (va_up_self _ _ _)
    · rw [va_up_ne _ _ y] at he; cases he
  have k2 : w2 q_m = some (.inr (6, [.int 0, .int 0, .int 0, .int 0, .null, .null, .null, .null, .null, .null, .int 0, .null, .null, .null, .null, .int 0, .int 0, .int 0, .null, .int 0, .null])) := by rw [hw2, va_up_self]
  have hdj : ∀ q, u1.1 q ≠ none → w2 q = none := fun q h => by rw [hw2, va_up_ne _ _ (fun y => h (by rw [y]; exact nq_m))]
  refine lv_dup hx hb d_W_law_11 rfl ?_
  have hF := mw_free hM hS hA
  refine va_callv (va_runI (As := []) (rest := [.ref q_m]) ⟨hx, hb, hml, hown, hta⟩ (k_M_init l G (cN, .object nR_N) (cB, .byte) yI [(cJ, .long)] w2 k2 _) (cI 0 hta aw_541 aw_5 aw_539 aw_540 rfl rfl rfl (by decide +kernel) ⟨Nat.le_of_ble_eq_true rfl, Nat.le_of_ble_eq_true rfl⟩) (pZ_S hK hM) rfl rfl hl.1 rfl (lv_room (Nat.le_of_ble_eq_true rfl)) d_W_law_12 ⟨Nat.le_of_ble_eq_true rfl, Nat.le_of_ble_eq_true rfl⟩) hS (fun q _ h => hF q h) hF (fun u2 t H locs ht hvm hp2 hB hz1 hk1 hS => ?_)
  obtain ⟨hM1, hK1⟩ := hB
  rw [ht] at hM1
  obtain ⟨hMM, hMx, hdj⟩ := mw_pair hMx hdj hM1 hk1 hF
  clear hM1 hK1 hF hk1 hz1 hM
  obtain ⟨had, hmp⟩ := hp2
  refine lv_astore_n (lv' := [(2, .ref q_m), (1, .ref q_x), (0, .ref b)]) hx hb d_W_law_15 rfl hl (by decide) rfl (fun ls hl => ?_)
  refine lv_iconst (v := 1) hx hb d_W_law_16 (by decide) ?_
  have hMu : mw G ncl A (fun q => if u1.1 q = none then u2.1 q else u1.1 q) H := fun a e9 he => by
    have he : (if u1.1 a = none then u2.1 a else u1.1 a) = some e9 := he
    by_cases y : u1.1 a = none
    · rw [if_pos y] at he; exact hMM a e9 he
    · rw [if_neg y] at he; exact hMx a e9 he
  refine m_newaT (atype := .long) (ty := .long) hx hb (hta _ aw_722) rfl hK hMu hS hA (t0 := 3) rfl (n := 1) (N' := 1) (a0 := (1, .inr (.inl (fun _ => 0)))) (fun _ => rfl) (by decide) (by decide) (by decide) (Nat.le_of_ble_eq_true rfl) (Nat.le_of_ble_eq_true rfl) d_W_law_17 (fun q_o H nq_o hMy hS => ?_)
  have nq1 : u1.1 q_o = none := by
    by_cases y : u1.1 q_o = none
    · exact y
    · have z9 := nq_o; simp only [if_neg y] at z9; exact z9
  have nq2 : u2.1 q_o = none := by have z9 := nq_o; simp only [if_pos nq1] at z9; exact z9
  have hMc : mw G ncl A (va_up u1.1 q_o (some (aJ cJ 1 (fun _ => 0)))) H := fun a e9 he => by
    by_cases y : a = q_o
    · rw [y, va_up_self] at he; cases he; rw [y]; exact hMy q_o _ (va_up_self _ _ _)
    · rw [va_up_ne _ _ y] at he; exact hMy a e9 (by rw [va_up_ne _ _ y]; show (if u1.1 a = none then u2.1 a else u1.1 a) = some e9; rw [if_neg (by rw [he]; exact fun z => nomatch z)]; exact he)
  have hMm : mw G ncl A u2.1 H := fun a e9 he => hMy a e9 (by
    rw [va_up_ne _ _ (m_newne he nq2)]
    show (if u1.1 a = none then u2.1 a else u1.1 a) = some e9
    rw [if_pos (dj_sym hdj a (by rw [he]; exact fun z => nomatch z))]; exact he)
  refine lv_astore_n (lv' := [(3, .ref q_o), (2, .ref q_m), (1, .ref q_x), (0, .ref b)]) hx hb d_W_law_19 rfl hl (by decide) rfl (fun ls hl => ?_)
  refine lv_iconst (v := 0) hx hb d_W_law_20 (by decide) ?_
  refine lv_istore (lv' := [(4, .int 0), (3, .ref q_o), (2, .ref q_m), (1, .ref q_x), (0, .ref b)]) hx hb d_W_law_21 hl (by decide) rfl (fun ls hl => ?_)
  have hLI : LI G cN cB yI cJ q_x q_m q_o A H := ⟨u1.1, u2.1, u1.2, u2.2, fun _ => (0, (0, 0, 0, 0, 0), 0, (0, 0, 0), []), fun _ => 0, fun _ => 0, fun _ => 0, 0, 0, 0, 0, 0, 0, 0, 0, 0, fun _ _ => 0, fun _ => 0, hx0, hα, had, hcp _ _ _, hmp, rl_0 _ _ _, nq1, hMc, hMm, fun q h => by rw [va_up_ne _ _ (fun y => h (by rw [y]; exact nq2))]; exact dj_sym hdj q h⟩
  rw [hAe] at hLI hS
  refine W.widen (k := 100) (n := 10000) (by omega) (by omega) ?_
  refine law_loop l hlt hx hb hml hown hta hX hbl hL G cN cB yI cJ hK hE0 hN (fun H locs cells slots ls h1 h2 hS hl => ?_) 520 0 H locs 100 10000 ls (by omega) (by omega) (by omega) (by omega) hLI hS (lv_sub hl [4, 3, 2, 1, 0] rfl)
  refine va_forget (fun q hq => hS.2.2 q hq) ?_
  refine W.widen (k := 601024) (n := 7293034) h1 h2 ?_
  refine lv_iconst (v := 1) hx hb d_W_law_1042 (by decide) ?_
  exact lw_ret hx hb hr hlocks d_W_law_1043
set_option maxHeartbeats 4000000 in
theorem lw_walk (l : Launch) (hlt : l.stackTraces = false) (b : Addr) (xs : List Int32) : MetFree l x (headSpec (Jvm.Cond.code x code maxLocals ret :: tables_1) room_1) (lw_P b xs) (fun _ _ _ _ _ => True) lw_Q := by
  refine MetFree.of_bodyS (code := code) (maxLocals := maxLocals) (ret := ret) (by decide) ?_ ?_
  · intro args s m h hn
    obtain ⟨meth, c, h1, h2, h3, h4, h5, h6, -, -⟩ := Cond.code_spec hn (atoms_spec (ws := Jvm.Cond.code x code maxLocals ret :: tables_1) h _ List.mem_cons_self)
    exact ⟨meth, c, h1, h2, h3, h4, h5, h6⟩
  · intro p e s m args below meth c s₁ B hml0 hP _
    obtain ⟨rfl, hx, hbd, hgv⟩ := hP
    obtain ⟨scr, harrAt, hlist, hof, hsmall⟩ := hx
    obtain ⟨hcb, hkn, -, -⟩ := State.arrayAt?_spec harrAt
    have hown : s.vm.findClass R_law = some m.cls := findClass_of_methodNamed B.named
    have hts0 : ∀ c ∈ (Jvm.Cond.code x code maxLocals ret :: tables_1), c.before #[Value.ref b] s = true := atoms_spec (ws := Jvm.Cond.code x code maxLocals ret :: tables_1) B.pre
    have hts : ∀ w ∈ lw_tbl, w.before #[Value.ref b] s = true := k2_hts_sels lw_privs (fun w hw => hts0 w (List.mem_cons_of_mem _ hw)) lw_privs_ok
    have hml : c.maxLocals = 7 := B.maxLocals_eq (hts0 _ List.mem_cons_self)
    have X₀ : Stand p l e room_1 s m #[Value.ref b] below meth c s₁ [] 0 0 := Stand.of_body B
    have hh0 : s₁.heap = s.heap := by rw [B.state]; rfl
    have hsz : scr.slots.size = xs.length := by rw [← Array.length_toList, hlist, List.length_map]
    have hval : ∀ j : Nat, j < xs.length → scr.slots[j]? = some (.int (xs.getD j 0)) := fun j hj => by
      rw [← Array.getElem?_toList, hlist]
      simp [hj]
    have hbl : b < s.heap.size := (Array.getElem?_eq_some_iff.mp hcb).1
    have hX : va_X b xs.length (fun j => xs.getD j 0) s s.heap := ⟨scr, hcb, hof, hkn, hsz, hval⟩
    have K : W p l e room_1 s m #[Value.ref b] below meth c s₁.heap [] 0 0 (lw_Z below #[Value.ref b] s) (entryFrame m ([Value.ref b] : List Value).toArray 7) := by
      rw [hh0]
      exact whole_start l hlt hbd ⟨B.exec, B.bytes, B.returns, hml, hown, hts, hX, hbl, B.notSynchronized, hgv⟩
    obtain ⟨t, a1, o, b1, b2, b3⟩ := K s₁ rfl X₀
    exact ⟨t, o, a1, b1, b2, b3⟩
theorem lw_pre_spec {args : Array Value} {s : State} (h : (Jvm.Cond.and given_1 narrow_1).before args s = true) (hr : rest_1_c.before args s = true) : ∃ (b : Addr) (xs : List Int32), lw_P b xs args s := by
  have hs := flat_of_before _ h
  have hq := flat_of_before _ hr
  have hc : (Cond.count 1).before args s = true := hs _ (by decide +kernel)
  have harr : (Cond.arrayOf (.arg 0) .int).before args s = true := hs _ (by decide +kernel)
  have hle : (Cond.le (.length (.arg 0)) (.int 3072)).before args s = true := hs _ (by decide +kernel)
  have hlen : (Cond.isInt (.length (.arg 0))).before args s = true := hq _ (by decide +kernel)
  have hall : (Cond.all (.arg 0) (.isInt (.elem (.arg 0) (.index 0)))).before args s = true := hq _ (by decide +kernel)
  obtain ⟨b, xs, hb, hx⟩ := State.ints_of_pre rfl harr hlen hall
  have hsm : xs.length < 2 ^ 31 := hx.choose_spec.2.2.2
  have hev : (Term.length (.arg 0)).eval args s none [] s = some (.int xs.length.toInt32) := hx.length_eval hb
  have hv := Cond.le_ints hev (show (Term.int 3072).eval args s none [] s = some (.int 3072) from rfl)
  have hd : xs.length.toInt32 ≤ 3072 := by
    simpa [Cond.before, Cond.holds, hv] using hle
  have hN : xs.length ≤ 3072 := (Int32.ofNat_le_ofNat hsm (by decide)).mp (show Int32.ofNat xs.length ≤ Int32.ofNat 3072 from hd)
  exact ⟨b, xs, Cond.one_arg hc (show args[0]? = some (.ref b) from hb), hx, hN, h⟩
theorem lw_comes (l : Launch) (hlt : l.stackTraces = false) : Comes l x (Jvm.Cond.code x code maxLocals ret :: tables_1) room_1 (fun tb e args s => Calls_1 tb e args s ∧ rest_1 tb e args s ∧ Pre_1 tb e args s)
    (fun _ _ args s o t => lw_Q args s o t) := by
  intro p e ha hc hk s m args below hf hfit hheap happ hpre
  obtain ⟨b, xs, hP⟩ := lw_pre_spec hpre.2.2 hpre.2.1
  obtain ⟨k, o, h1, h2, h3, hQ⟩ := lw_walk l hlt b xs p e ha hc hk s m args below hf ((Spec.applies_iff_loose hf).mp happ).1 hP trivial
  exact ⟨k, o, h1, h2, h3, hQ⟩
theorem lw_frame {s t : State} {o : Outcome} {args : Array Value} (h : Framed s o t [] 601024 7293034) :
    Framed s o t (fieldLocs frame_1_writes args s ++ arrayLocs frame_1_arrays args s ++ staticLocs frame_1_statics s) 601024 7293034 := h
theorem lw_limb (L : Cond) (hL : ∀ (args : Array Value) (s t : State), L.after args s (.returned (some (.int 1))) t = true) :
    ArmFor flags0 classFile x code maxLocals ret World_1 tables_1 room_1 Calls_1 rest_1 Pre_1
      (fun tb e a s o t => postC L tb e a s o t ∧ Framed s o t (fieldLocs frame_1_writes a s ++ arrayLocs frame_1_arrays a s ++ staticLocs frame_1_statics s) 601024 7293034) := by
  intro l hfl _ _ p e ha hc hk s m args below hf hfit hheap happ hpre
  have hlt : l.stackTraces = false := by unfold Launch.stackTraces; rw [hfl]; decide +kernel
  obtain ⟨k, o, h1, h2, h3, rfl, hF⟩ := lw_comes l hlt p e ha hc hk s m args below hf hfit hheap happ hpre
  exact ⟨k, _, h1, h2, h3, hL args s _, lw_frame hF⟩
theorem i_vc : Claimed_1_1 ∧ Claimed_1_2 := ⟨lw_limb limb_1_1 (fun args s t => by simp [limb_1_1, Cond.after, Cond.holds, Cond.value]), lw_limb limb_1_2 (fun args s t => Cond.after_iff.mpr (by
  first | (rw [show limb_1_2 = Cond.eq .result (.int 1) from rfl, Cond.eq_ints (x := 1) (y := 1) rfl rfl]; simp; done) | (simp [limb_1_2, Cond.value, Term.eval]; done)))⟩
