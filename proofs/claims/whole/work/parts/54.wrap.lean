/-! the law's wrappers: a call, its answer laid, its refusal by number -/
def xN (U : State) : Prop := ∀ i j, 1 ≤ i → i ≤ 4 → 1 ≤ j → j ≤ 4 → i ≠ j → va_Nc (exN i) (exN j) U
theorem xN.moved {u U : State} (h : u.vm.Alike U.vm) (hN : xN u) : xN U := fun i j a b c d e => va_Nc.moved h (hN i j a b c d e)
theorem gC_cases (a b c d : Int32) : gC a b c d = 0 ∨ (a = 0 ∧ gC a b c d = 1) ∨ (b = 0 ∧ gC a b c d = 2) ∨ (c = 0 ∧ gC a b c d = 3) ∨ (d = 0 ∧ gC a b c d = 4) := by
  unfold gC
  split
  · exact Or.inr (Or.inl ⟨by assumption, rfl⟩)
  · split
    · exact Or.inr (Or.inr (Or.inl ⟨by assumption, rfl⟩))
    · split
      · exact Or.inr (Or.inr (Or.inr (Or.inl ⟨by assumption, rfl⟩)))
      · split
        · exact Or.inr (Or.inr (Or.inr (Or.inr ⟨by assumption, rfl⟩)))
        · exact Or.inl rfl
theorem ng_c (k : Nat) (h1 : 1 ≤ k) (h4 : k ≤ 4) : Cond.castable (exN k) (exN k) ∈ nNG := by
  have : k = 1 ∨ k = 2 ∨ k = 3 ∨ k = 4 := by omega
  rcases this with rfl | rfl | rfl | rfl <;> decide +kernel
theorem mw_sub {D : va_G} {cl : List vw_C} {A : Nat → Prop} {w : Nat → Option va_E} {o : Nat} {x : Option va_E} {H : Heap} (h : mw D cl A (va_up w o x) H) (ho : w o = none) : mw D cl A w H := fun a e he => h a e (by rw [va_up_ne _ _ (m_newne he ho)]; exact he)
theorem mw_two {D : va_G} {cl : List vw_C} {A : Nat → Prop} {w u : Nat → Option va_E} {o : Nat} {x : va_E} {H H1 : Heap} (hM : mw D cl A (va_up w o (some x)) H) (ho : w o = none) (hu : mw D cl (mA w H.size) u H1) (hk : ∀ q : Nat, q < H.size → ¬ mA w H.size q → H1[q]? = H[q]?) (hF : ∀ q, mA w H.size q → A q) : mw D cl A (va_up u o (some x)) H1 ∧ u o = none := by
  have h1 := hM o x (va_up_self _ _ _)
  have hlt : o < H.size := mw_lt hM (va_up_self w o (some x))
  have hn : ¬ mA w H.size o := fun q => q.elim (fun z => z ho) (fun z => by omega)
  refine ⟨fun a e he => ?_, ?_⟩
  · by_cases hao : a = o
    · subst hao
      rw [va_up_self] at he
      cases he
      exact ⟨h1.1.kept (hk a hlt hn), h1.2⟩
    · rw [va_up_ne _ _ hao] at he
      exact ⟨(hu a e he).1, hF a (hu a e he).2⟩
  · cases he : u o with
    | none => rfl
    | some e => exact absurd (hu o e he).2 hn
theorem updL_0 (f : Nat → Int64) (x : Int64) : vp_updL f (0 : Int32).toNatClampNeg x 0 = x := by simp [vp_updL]
abbrev pV (G : va_G) (tys : List (ClassId × FieldType)) (w : Nat → Option va_E) (sz : Nat) (av : List Value) : Array Value → State → Prop := va_Pc av (fun U => U.heap.size = sz ∧ mw G ncl (fun _ => True) w U.heap ∧ va_K G ncl tys U ∧ xE U U.heap ∧ xN U)
theorem pV_S {G : va_G} {tys : List (ClassId × FieldType)} {w : Nat → Option va_E} {s : State} {H : Heap} {A : Nat → Prop} {As : List Value} (hK : va_K G ncl tys s) (hM : mw G ncl A w H) (hE : xE s H) (hN : xN s) : PreS s H (pV G tys w H.size As) As :=
  ⟨fun a U g mk q => ⟨q.1, q.2.1, q.2.2.1, va_K.moved (u := U) (U := U.calling g mk a) (Vm.Alike.refl U.vm) q.2.2.2.1, xE.same (u := U) (U := U.calling g mk a) rfl q.2.2.2.2.1, xN.moved (u := U) (U := U.calling g mk a) (Vm.Alike.refl U.vm) q.2.2.2.2.2⟩, fun U hU hW => ⟨rfl, by rw [hU], by rw [hU]; exact mw_weaken hM (fun _ _ => trivial), va_K.moved hW.alike hK, by rw [hU]; exact xE.warm hW hE, xN.moved hW.alike hN⟩⟩
set_option maxHeartbeats 4000000 in
set_option maxRecDepth 100000 in
theorem k_W_writer (l : Launch) (hlt : l.stackTraces = false) (G : va_G) (cN cB cI cJ : ClassId) (ty3 : List (ClassId × FieldType)) (w : Nat → Option va_E) {α : Nat → Nat} (hα : ∀ i j, i < 8 → j < 8 → α i = α j → i = j) {v : Nat → nV} {od ro : Nat → Nat} {bs : Nat → Int32} {se wr ac : Int32} {n rn sn : Nat} {kn z : Int32} (hcp : cPic w α cN cB v od ro bs se wr ac n rn sn kn z) (hok : cOk v od ro n rn sn) {o : Nat} (ho : w o = none) (f0 : Nat → Int64) (sz : Nat) : Met l y_W_writer (ww y_W_writer c_W_writer 3 (some .int) [(0, 8, 11, 13)]) ({ frames := 7, cells := 1, slots := 6, locals := 102 }) (pV G ((cN, .object nR_N) :: (cB, .byte) :: (cI, .int) :: (cJ, .long) :: ty3) (va_up w o (some (aJ cJ 1 f0))) sz [.ref (α 0), .ref o]) (va_Qi (fun (r0 : Int32) (u : (Nat → Option va_E) × (Nat → Int64)) => u.1 o = none ∧ r0 = nI (gT 8 (gC 1 1 1 (if wr < 10 then 1 else 0))) ∧ (¬ gC 1 1 1 (if wr < 10 then 1 else 0) = 0 → cPic u.1 α cN cB v od ro bs se wr ac n rn sn kn z) ∧ (gC 1 1 1 (if wr < 10 then 1 else 0) = 0 → ∃ r : Int32, u.2 0 = r.toInt64 ∧ r = wr + 1 - 1 ∧ cPic u.1 α cN cB v od ro bs se (wr + 1) ac n rn sn kn z)) (fun u t => mw G ncl (mA (va_up w o (some (aJ cJ 1 f0))) sz) (va_up u.1 o (some (aJ cJ 1 u.2))) t.heap ∧ va_K G ncl ((cN, .object nR_N) :: (cB, .byte) :: (cI, .int) :: (cJ, .long) :: ty3) t) (mA (va_up w o (some (aJ cJ 1 f0))) sz)) 1 6 (mA (va_up w o (some (aJ cJ 1 f0))) sz) := by
  refine va_MetW (cc := c_W_writer) (maxL := 3) (ret := (some .int)) (hh := [(0, 8, 11, 13)]) (by decide) rfl ?_
  intro p e s m args below meth c s₁ B hml hv
  obtain ⟨rfl, hsz, hM0, hK, hE, hN⟩ := hv
  have hx := B.exec
  have hb := B.bytes
  have hr := B.returns
  have hts := atoms_spec (ws := (ww y_W_writer c_W_writer 3 (some .int) [(0, 8, 11, 13)])) B.pre
  have hta : ∀ w ∈ AL, w.before _ s = true := fun w h => hts w (List.mem_cons_of_mem _ h)
  have htab : c.exceptionTable.toList = tableOf [(0, 8, 11, 13)] := vx_table (x := y_W_writer) B (hts _ List.mem_cons_self)
  have hown : s.vm.findClass nR_W = some m.cls := findClass_of_methodNamed B.named
  have hlocks := B.notSynchronized
  have hl := lv_entry ([.ref (α 0), .ref o]) (n := 3) (Nat.le_of_ble_eq_true rfl)
  rw [lg_entry_eq]
  generalize (lg_sl ([.ref (α 0), .ref o]) ++ List.replicate (3 - (lg_sl ([.ref (α 0), .ref o])).length) Slot.unset).toArray = ls at hl ⊢
  have hl : lv_has ls 3 [(0, .ref (α 0)), (1, .ref o)] := hl
  subst hsz
  have hM := mw_self (sz := s.heap.size) hM0
  clear hM0
  generalize hAe : mA (va_up w o (some (aJ cJ 1 f0))) s.heap.size = A at hM ⊢
  have hA : ∀ q : Nat, s.heap.size ≤ q → A q := fun q h => by rw [← hAe]; exact Or.inr h
  have hS : va_S A s.heap s.heap [] := va_S.rf
  have hMw := mw_sub hM ho
  have hF := mw_free hMw hS hA
  obtain ⟨Cc, hCc⟩ : ∃ z9 : Nat, z9 = gC 1 1 1 (if wr < 10 then 1 else 0) := ⟨_, rfl⟩
  refine lv_aload_n hx hb d_W_writer_0 rfl (lv_at hl 1 rfl) ?_
  refine lv_iconst (v := 0) hx hb d_W_writer_1 (by decide) ?_
  refine lv_aload_n hx hb d_W_writer_2 rfl (lv_at hl 0 rfl) ?_
  refine x_callWi (vx_runV (As := []) (rest := [.int 0, .ref o]) ⟨hx, hb, hml, hown, hta⟩ (k_X_writer l hlt G cN cB ((cI, .int) :: (cJ, .long) :: ty3) w hα hcp hok  _) (cV 0 hta aw_111 aw_1 aw_108 aw_109 aw_110 rfl rfl (by decide +kernel) ⟨Nat.le_of_ble_eq_true rfl, Nat.le_of_ble_eq_true rfl⟩) (pY_V hK hMw hE rfl hcp.1) rfl rfl hl.1 rfl (lv_room (Nat.le_of_ble_eq_true rfl)) d_W_writer_3 ⟨Nat.le_of_ble_eq_true rfl, Nat.le_of_ble_eq_true rfl⟩) hS (fun q _ h => hF q h) hF (fun E ce q9 H1 locs1 hp9 hz9 hk9 hS9 hce hcv hcl => ?_) (fun r_1 u9 t H locs ht hvm hr_1 hB hz1 hk1 hS => ?_)
  · obtain ⟨hC9, hE9⟩ := hp9
    have hMk : mw G ncl A (va_up w o (some (aJ cJ 1 f0))) H1 := mw_kept hM hk9
    rcases gC_cases 1 1 1 (if wr < 10 then 1 else 0) with hcc | hcc | hcc | hcc | hcc
    · exact absurd hcc hC9
    · exact absurd hcc.1 (by decide)
    · exact absurd hcc.1 (by decide)
    · exact absurd hcc.1 (by decide)
    · rw [hcc.2] at hE9
      subst hE9
      refine vx_catch (name := "java/lang/UnsupportedOperationException") (E := exN 4) hown [] ⟨0, 8, 11, 13⟩ [] (htab.trans rfl) (fun _ h => absurd h List.not_mem_nil) (by decide) (by decide) (hta _ aw_107) (va_Nw.use (nNG_t _ (ng_c 4 (by decide) (by decide))) (hE.2.2.2 _ (ng_c 4 (by decide) (by decide)))) hce hcv hcl ?_
      refine lv_astore_n (lv' := [(2, .ref q9), (0, .ref (α 0)), (1, .ref o)]) hx hb d_W_writer_11 rfl hl (by decide) rfl (fun ls hl => ?_)
      refine lv_iconst (v := 1) hx hb d_W_writer_12 (by decide) ?_
      exact W.iret (v := 1) hx hb hr (fun t ht hW => ⟨⟨1, (w, f0), rfl, ⟨ho, by rw [hcc.2]; rfl, fun _ => hcp, fun q8 => absurd q8 hC9⟩, by rw [ht]; exact hMk, va_K.moved hW.alike hK⟩, hS9.F ht⟩) hS9.2.2 d_W_writer_13
  obtain ⟨hM1, hK1⟩ := hB
  rw [ht] at hM1
  obtain ⟨hM, hu9⟩ := mw_two hM ho hM1 hk1 hF
  obtain ⟨hC0, hpo⟩ := hr_1
  refine lv_i2l hx hb d_W_writer_6 rfl ?_
  refine m_last hx hb hK hM hS 3 (va_up_self u9 o (some (aJ cJ 1 f0))) rfl (vp_in_nI (n := 0) (by decide) (by decide)) d_W_writer_7 (fun H locs hM hS => ?_)
  obtain ⟨w_2, hw_2⟩ : ∃ z9 : Nat → Option va_E, z9 = va_up (va_up u9 o (some (aJ cJ 1 f0))) o (some (.inl (cJ, 1, .inr (.inl (vp_updL f0 (0 : Int32).toNatClampNeg r_1.toInt64))))) := ⟨_, rfl⟩
  rw [← hw_2] at hM
  have k_3 : w_2 o = some (.inl (cJ, 1, .inr (.inl (vp_updL f0 (0 : Int32).toNatClampNeg r_1.toInt64)))) := by rw [hw_2, va_up_self]
  refine lv_goto (tgt := 14) hx hb d_W_writer_8 (by decide) ?_
  refine lv_iconst (v := 0) hx hb d_W_writer_14 (by decide) ?_
  have hM : mw G ncl A (va_up u9 o (some (aJ cJ 1 (vp_updL f0 (0 : Int32).toNatClampNeg r_1.toInt64)))) H := by rw [hw_2, va_up_up] at hM; exact hM
  refine W.widen (k := 1) (n := 6) (Nat.le_of_ble_eq_true rfl) (Nat.le_of_ble_eq_true rfl) ?_
  exact W.iret (v := 0) hx hb hr (fun t ht hW => ⟨⟨0, (u9, (vp_updL f0 (0 : Int32).toNatClampNeg r_1.toInt64)), rfl, ⟨hu9, by rw [hC0]; rfl, fun q8 => absurd hC0 q8, fun _ => ⟨r_1, updL_0 f0 _, hpo⟩⟩, by rw [ht]; exact hM, va_K.moved hW.alike hK⟩, hS.F ht⟩) hS.2.2 d_W_writer_15
set_option maxHeartbeats 4000000 in
set_option maxRecDepth 100000 in
theorem k_W_note (l : Launch) (hlt : l.stackTraces = false) (G : va_G) (cN cB cI cJ : ClassId) (ty3 : List (ClassId × FieldType)) (w : Nat → Option va_E) {α : Nat → Nat} (hα : ∀ i j, i < 8 → j < 8 → α i = α j → i = j) {v : Nat → nV} {od ro : Nat → Nat} {bs : Nat → Int32} {se wr ac : Int32} {n rn sn : Nat} {kn z : Int32} (hcp : cPic w α cN cB v od ro bs se wr ac n rn sn kn z) (hok : cOk v od ro n rn sn) {o : Nat} (ho : w o = none) (f0 : Nat → Int64) (x1 x2 x3 x4 x5 : Int32) (sz : Nat) : Met l y_W_note (ww y_W_note c_W_note 8 (some .int) [(0, 16, 19, 19), (0, 16, 23, 21), (0, 16, 27, 13)]) ({ frames := 7, cells := 3, slots := 20, locals := 108 }) (pV G ((cN, .object nR_N) :: (cB, .byte) :: (cI, .int) :: (cJ, .long) :: ty3) (va_up w o (some (aJ cJ 1 f0))) sz [.ref (α 0), .int x1, .int x2, .int x3, .int x4, .int x5, .ref o]) (va_Qi (fun (r0 : Int32) (u : (Nat → Option va_E) × (Nat → Int64)) => u.1 o = none ∧ r0 = nI (gT 11 (gC (if (¬ x1 < 0 ∧ ¬ wr ≤ x1) ∧ (¬ x2 < 0 ∧ ¬ 6 ≤ x2) ∧ (¬ x3 < 0 ∧ ¬ 10 ≤ x3) then 1 else 0) (if (¬ x4 < 0 ∧ ¬ se < x4) ∧ (¬ x5 < (-9999) ∧ ¬ 9999 < x5) then 1 else 0) 1 (if nI n < 100 then 1 else 0))) ∧ (¬ gC (if (¬ x1 < 0 ∧ ¬ wr ≤ x1) ∧ (¬ x2 < 0 ∧ ¬ 6 ≤ x2) ∧ (¬ x3 < 0 ∧ ¬ 10 ≤ x3) then 1 else 0) (if (¬ x4 < 0 ∧ ¬ se < x4) ∧ (¬ x5 < (-9999) ∧ ¬ 9999 < x5) then 1 else 0) 1 (if nI n < 100 then 1 else 0) = 0 → cPic u.1 α cN cB v od ro bs se wr ac n rn sn kn z) ∧ (gC (if (¬ x1 < 0 ∧ ¬ wr ≤ x1) ∧ (¬ x2 < 0 ∧ ¬ 6 ≤ x2) ∧ (¬ x3 < 0 ∧ ¬ 10 ≤ x3) then 1 else 0) (if (¬ x4 < 0 ∧ ¬ se < x4) ∧ (¬ x5 < (-9999) ∧ ¬ 9999 < x5) then 1 else 0) 1 (if nI n < 100 then 1 else 0) = 0 → ∃ r : Int32, u.2 0 = r.toInt64 ∧ r = nI n ∧ ∃ q1 q2 : Nat, cPic u.1 α cN cB (va_up v n (nNew q1 q2 n x1 x2 x3 x4 x5 se)) (odI od (insP (fun i => behB (nT (v (od i))) (nW (v (od i))) (nN (v (od i))) x4 x1 (nI n)) n) n) ro bs se wr ac (n + 1) rn sn kn z)) (fun u t => mw G ncl (mA (va_up w o (some (aJ cJ 1 f0))) sz) (va_up u.1 o (some (aJ cJ 1 u.2))) t.heap ∧ va_K G ncl ((cN, .object nR_N) :: (cB, .byte) :: (cI, .int) :: (cJ, .long) :: ty3) t) (mA (va_up w o (some (aJ cJ 1 f0))) sz)) 3 20 (mA (va_up w o (some (aJ cJ 1 f0))) sz) := by
  refine va_MetW (cc := c_W_note) (maxL := 8) (ret := (some .int)) (hh := [(0, 16, 19, 19), (0, 16, 23, 21), (0, 16, 27, 13)]) (by decide) rfl ?_
  intro p e s m args below meth c s₁ B hml hv
  obtain ⟨rfl, hsz, hM0, hK, hE, hN⟩ := hv
  have hx := B.exec
  have hb := B.bytes
  have hr := B.returns
  have hts := atoms_spec (ws := (ww y_W_note c_W_note 8 (some .int) [(0, 16, 19, 19), (0, 16, 23, 21), (0, 16, 27, 13)])) B.pre
  have hta : ∀ w ∈ AL, w.before _ s = true := fun w h => hts w (List.mem_cons_of_mem _ h)
  have htab : c.exceptionTable.toList = tableOf [(0, 16, 19, 19), (0, 16, 23, 21), (0, 16, 27, 13)] := vx_table (x := y_W_note) B (hts _ List.mem_cons_self)
  have hown : s.vm.findClass nR_W = some m.cls := findClass_of_methodNamed B.named
  have hlocks := B.notSynchronized
  have hl := lv_entry ([.ref (α 0), .int x1, .int x2, .int x3, .int x4, .int x5, .ref o]) (n := 8) (Nat.le_of_ble_eq_true rfl)
  rw [lg_entry_eq]
  generalize (lg_sl ([.ref (α 0), .int x1, .int x2, .int x3, .int x4, .int x5, .ref o]) ++ List.replicate (8 - (lg_sl ([.ref (α 0), .int x1, .int x2, .int x3, .int x4, .int x5, .ref o])).length) Slot.unset).toArray = ls at hl ⊢
  have hl : lv_has ls 8 [(0, .ref (α 0)), (1, .int x1), (2, .int x2), (3, .int x3), (4, .int x4), (5, .int x5), (6, .ref o)] := hl
  subst hsz
  have hM := mw_self (sz := s.heap.size) hM0
  clear hM0
  generalize hAe : mA (va_up w o (some (aJ cJ 1 f0))) s.heap.size = A at hM ⊢
  have hA : ∀ q : Nat, s.heap.size ≤ q → A q := fun q h => by rw [← hAe]; exact Or.inr h
  have hS : va_S A s.heap s.heap [] := va_S.rf
  have hMw := mw_sub hM ho
  have hF := mw_free hMw hS hA
  obtain ⟨Cc, hCc⟩ : ∃ z9 : Nat, z9 = gC (if (¬ x1 < 0 ∧ ¬ wr ≤ x1) ∧ (¬ x2 < 0 ∧ ¬ 6 ≤ x2) ∧ (¬ x3 < 0 ∧ ¬ 10 ≤ x3) then 1 else 0) (if (¬ x4 < 0 ∧ ¬ se < x4) ∧ (¬ x5 < (-9999) ∧ ¬ 9999 < x5) then 1 else 0) 1 (if nI n < 100 then 1 else 0) := ⟨_, rfl⟩
  refine lv_aload hx hb d_W_note_0 (lv_at hl 6 rfl) ?_
  refine lv_iconst (v := 0) hx hb d_W_note_2 (by decide) ?_
  refine lv_aload_n hx hb d_W_note_3 rfl (lv_at hl 0 rfl) ?_
  refine lv_iload_n hx hb d_W_note_4 rfl (lv_at hl 1 rfl) ?_
  refine lv_iload_n hx hb d_W_note_5 rfl (lv_at hl 2 rfl) ?_
  refine lv_iload_n hx hb d_W_note_6 rfl (lv_at hl 3 rfl) ?_
  refine lv_iload hx hb d_W_note_7 (lv_at hl 4 rfl) ?_
  refine lv_iload hx hb d_W_note_9 (lv_at hl 5 rfl) ?_
  refine x_callWi (vx_runV (As := [.int x1, .int x2, .int x3, .int x4, .int x5]) (rest := [.int 0, .ref o]) ⟨hx, hb, hml, hown, hta⟩ (k_X_note l hlt G cN cB ((cI, .int) :: (cJ, .long) :: ty3) w hα hcp hok x1 x2 x3 x4 x5 _) (cV 5 hta aw_188 aw_1 aw_185 aw_186 aw_187 rfl rfl (by decide +kernel) ⟨Nat.le_of_ble_eq_true rfl, Nat.le_of_ble_eq_true rfl⟩) (pY_V hK hMw hE rfl hcp.1) rfl rfl hl.1 rfl (lv_room (Nat.le_of_ble_eq_true rfl)) d_W_note_11 ⟨Nat.le_of_ble_eq_true rfl, Nat.le_of_ble_eq_true rfl⟩) hS (fun q _ h => hF q h) hF (fun E ce q9 H1 locs1 hp9 hz9 hk9 hS9 hce hcv hcl => ?_) (fun r_1 u9 t H locs ht hvm hr_1 hB hz1 hk1 hS => ?_)
  · obtain ⟨hC9, hE9⟩ := hp9
    have hMk : mw G ncl A (va_up w o (some (aJ cJ 1 f0))) H1 := mw_kept hM hk9
    rcases gC_cases (if (¬ x1 < 0 ∧ ¬ wr ≤ x1) ∧ (¬ x2 < 0 ∧ ¬ 6 ≤ x2) ∧ (¬ x3 < 0 ∧ ¬ 10 ≤ x3) then 1 else 0) (if (¬ x4 < 0 ∧ ¬ se < x4) ∧ (¬ x5 < (-9999) ∧ ¬ 9999 < x5) then 1 else 0) 1 (if nI n < 100 then 1 else 0) with hcc | hcc | hcc | hcc | hcc
    · exact absurd hcc hC9
    · rw [hcc.2] at hE9
      subst hE9
      refine vx_catch (name := "java/lang/IllegalArgumentException") (E := exN 1) hown [] ⟨0, 16, 19, 19⟩ [⟨0, 16, 23, 21⟩, ⟨0, 16, 27, 13⟩] (htab.trans rfl) (fun _ h => absurd h List.not_mem_nil) (by decide) (by decide) (hta _ aw_183) (va_Nw.use (nNG_t _ (ng_c 1 (by decide) (by decide))) (hE.2.2.2 _ (ng_c 1 (by decide) (by decide)))) hce hcv hcl ?_
      refine lv_astore (lv' := [(7, .ref q9), (0, .ref (α 0)), (1, .int x1), (2, .int x2), (3, .int x3), (4, .int x4), (5, .int x5), (6, .ref o)]) hx hb d_W_note_19 hl (by decide) rfl (fun ls hl => ?_)
      refine lv_iconst (v := 1) hx hb d_W_note_21 (by decide) ?_
      exact W.iret (v := 1) hx hb hr (fun t ht hW => ⟨⟨1, (w, f0), rfl, ⟨ho, by rw [hcc.2]; rfl, fun _ => hcp, fun q8 => absurd q8 hC9⟩, by rw [ht]; exact hMk, va_K.moved hW.alike hK⟩, hS9.F ht⟩) hS9.2.2 d_W_note_22
    · rw [hcc.2] at hE9
      subst hE9
      refine vx_catch (name := "java/lang/IndexOutOfBoundsException") (E := exN 2) hown [⟨0, 16, 19, 19⟩] ⟨0, 16, 23, 21⟩ [⟨0, 16, 27, 13⟩] (htab.trans rfl) (List.forall_mem_cons.mpr ⟨Or.inr ⟨by decide, "java/lang/IllegalArgumentException", hta _ aw_183, hN 2 1 (by decide) (by decide) (by decide) (by decide) (by decide)⟩, (fun _ h => absurd h List.not_mem_nil)⟩) (by decide) (by decide) (hta _ aw_184) (va_Nw.use (nNG_t _ (ng_c 2 (by decide) (by decide))) (hE.2.2.2 _ (ng_c 2 (by decide) (by decide)))) hce hcv hcl ?_
      refine lv_astore (lv' := [(7, .ref q9), (0, .ref (α 0)), (1, .int x1), (2, .int x2), (3, .int x3), (4, .int x4), (5, .int x5), (6, .ref o)]) hx hb d_W_note_23 hl (by decide) rfl (fun ls hl => ?_)
      refine lv_iconst (v := 2) hx hb d_W_note_25 (by decide) ?_
      exact W.iret (v := 2) hx hb hr (fun t ht hW => ⟨⟨2, (w, f0), rfl, ⟨ho, by rw [hcc.2]; rfl, fun _ => hcp, fun q8 => absurd q8 hC9⟩, by rw [ht]; exact hMk, va_K.moved hW.alike hK⟩, hS9.F ht⟩) hS9.2.2 d_W_note_26
    · exact absurd hcc.1 (by decide)
    · rw [hcc.2] at hE9
      subst hE9
      refine vx_catch (name := "java/lang/UnsupportedOperationException") (E := exN 4) hown [⟨0, 16, 19, 19⟩, ⟨0, 16, 23, 21⟩] ⟨0, 16, 27, 13⟩ [] (htab.trans rfl) (List.forall_mem_cons.mpr ⟨Or.inr ⟨by decide, "java/lang/IllegalArgumentException", hta _ aw_183, hN 4 1 (by decide) (by decide) (by decide) (by decide) (by decide)⟩, (List.forall_mem_cons.mpr ⟨Or.inr ⟨by decide, "java/lang/IndexOutOfBoundsException", hta _ aw_184, hN 4 2 (by decide) (by decide) (by decide) (by decide) (by decide)⟩, (fun _ h => absurd h List.not_mem_nil)⟩)⟩) (by decide) (by decide) (hta _ aw_107) (va_Nw.use (nNG_t _ (ng_c 4 (by decide) (by decide))) (hE.2.2.2 _ (ng_c 4 (by decide) (by decide)))) hce hcv hcl ?_
      refine lv_astore (lv' := [(7, .ref q9), (0, .ref (α 0)), (1, .int x1), (2, .int x2), (3, .int x3), (4, .int x4), (5, .int x5), (6, .ref o)]) hx hb d_W_note_27 hl (by decide) rfl (fun ls hl => ?_)
      refine lv_iconst (v := 3) hx hb d_W_note_29 (by decide) ?_
      exact W.iret (v := 3) hx hb hr (fun t ht hW => ⟨⟨3, (w, f0), rfl, ⟨ho, by rw [hcc.2]; rfl, fun _ => hcp, fun q8 => absurd q8 hC9⟩, by rw [ht]; exact hMk, va_K.moved hW.alike hK⟩, hS9.F ht⟩) hS9.2.2 d_W_note_30
  obtain ⟨hM1, hK1⟩ := hB
  rw [ht] at hM1
  obtain ⟨hM, hu9⟩ := mw_two hM ho hM1 hk1 hF
  obtain ⟨hC0, hpo⟩ := hr_1
  refine lv_i2l hx hb d_W_note_14 rfl ?_
  refine m_last hx hb hK hM hS 3 (va_up_self u9 o (some (aJ cJ 1 f0))) rfl (vp_in_nI (n := 0) (by decide) (by decide)) d_W_note_15 (fun H locs hM hS => ?_)
  obtain ⟨w_2, hw_2⟩ : ∃ z9 : Nat → Option va_E, z9 = va_up (va_up u9 o (some (aJ cJ 1 f0))) o (some (.inl (cJ, 1, .inr (.inl (vp_updL f0 (0 : Int32).toNatClampNeg r_1.toInt64))))) := ⟨_, rfl⟩
  rw [← hw_2] at hM
  have k_3 : w_2 o = some (.inl (cJ, 1, .inr (.inl (vp_updL f0 (0 : Int32).toNatClampNeg r_1.toInt64)))) := by rw [hw_2, va_up_self]
  refine lv_goto (tgt := 31) hx hb d_W_note_16 (by decide) ?_
  refine lv_iconst (v := 0) hx hb d_W_note_31 (by decide) ?_
  have hM : mw G ncl A (va_up u9 o (some (aJ cJ 1 (vp_updL f0 (0 : Int32).toNatClampNeg r_1.toInt64)))) H := by rw [hw_2, va_up_up] at hM; exact hM
  refine W.widen (k := 3) (n := 20) (Nat.le_of_ble_eq_true rfl) (Nat.le_of_ble_eq_true rfl) ?_
  exact W.iret (v := 0) hx hb hr (fun t ht hW => ⟨⟨0, (u9, (vp_updL f0 (0 : Int32).toNatClampNeg r_1.toInt64)), rfl, ⟨hu9, by rw [hC0]; rfl, fun q8 => absurd hC0 q8, fun _ => ⟨r_1, updL_0 f0 _, hpo⟩⟩, by rw [ht]; exact hM, va_K.moved hW.alike hK⟩, hS.F ht⟩) hS.2.2 d_W_note_32
set_option maxHeartbeats 4000000 in
set_option maxRecDepth 100000 in
theorem k_W_correct (l : Launch) (hlt : l.stackTraces = false) (G : va_G) (cN cB cI cJ : ClassId) (ty3 : List (ClassId × FieldType)) (w : Nat → Option va_E) {α : Nat → Nat} (hα : ∀ i j, i < 8 → j < 8 → α i = α j → i = j) {v : Nat → nV} {od ro : Nat → Nat} {bs : Nat → Int32} {se wr ac : Int32} {n rn sn : Nat} {kn z : Int32} (hcp : cPic w α cN cB v od ro bs se wr ac n rn sn kn z) (hok : cOk v od ro n rn sn) {o : Nat} (ho : w o = none) (f0 : Nat → Int64) (x1 x2 : Int32) (sz : Nat) : Met l y_W_correct (ww y_W_correct c_W_correct 5 (some .int) [(0, 10, 13, 19), (0, 10, 17, 21), (0, 10, 21, 27), (0, 10, 25, 13)]) ({ frames := 8, cells := 4, slots := 22, locals := 126 }) (pV G ((cN, .object nR_N) :: (cB, .byte) :: (cI, .int) :: (cJ, .long) :: ty3) (va_up w o (some (aJ cJ 1 f0))) sz [.ref (α 0), .int x1, .int x2, .ref o]) (va_Qi (fun (r0 : Int32) (u : (Nat → Option va_E) × (Nat → Int64)) => u.1 o = none ∧ r0 = nI (gT 15 (gC (if ¬ x1 < 0 ∧ x1 < nI n then 1 else 0) (if ¬ x2 < (-9999) ∧ ¬ 9999 < x2 then 1 else 0) (if (hd (nC (v x1.toNatClampNeg))).2.2.2 = 0 then 1 else 0) (if ac < 200 then 1 else 0))) ∧ (¬ gC (if ¬ x1 < 0 ∧ x1 < nI n then 1 else 0) (if ¬ x2 < (-9999) ∧ ¬ 9999 < x2 then 1 else 0) (if (hd (nC (v x1.toNatClampNeg))).2.2.2 = 0 then 1 else 0) (if ac < 200 then 1 else 0) = 0 → cPic u.1 α cN cB v od ro bs se wr ac n rn sn kn z) ∧ (gC (if ¬ x1 < 0 ∧ x1 < nI n then 1 else 0) (if ¬ x2 < (-9999) ∧ ¬ 9999 < x2 then 1 else 0) (if (hd (nC (v x1.toNatClampNeg))).2.2.2 = 0 then 1 else 0) (if ac < 200 then 1 else 0) = 0 → ∃ r : Int32, u.2 0 = r.toInt64 ∧ r = nCo (v x1.toNatClampNeg) + 1 ∧ ∃ q9 : Nat, cPic u.1 α cN cB (va_up v x1.toNatClampNeg (nCor (v x1.toNatClampNeg) q9 se x2)) od ro bs se wr (ac + 1) n rn sn kn z)) (fun u t => mw G ncl (mA (va_up w o (some (aJ cJ 1 f0))) sz) (va_up u.1 o (some (aJ cJ 1 u.2))) t.heap ∧ va_K G ncl ((cN, .object nR_N) :: (cB, .byte) :: (cI, .int) :: (cJ, .long) :: ty3) t) (mA (va_up w o (some (aJ cJ 1 f0))) sz)) 4 22 (mA (va_up w o (some (aJ cJ 1 f0))) sz) := by
  refine va_MetW (cc := c_W_correct) (maxL := 5) (ret := (some .int)) (hh := [(0, 10, 13, 19), (0, 10, 17, 21), (0, 10, 21, 27), (0, 10, 25, 13)]) (by decide) rfl ?_
  intro p e s m args below meth c s₁ B hml hv
  obtain ⟨rfl, hsz, hM0, hK, hE, hN⟩ := hv
  have hx := B.exec
  have hb := B.bytes
  have hr := B.returns
  have hts := atoms_spec (ws := (ww y_W_correct c_W_correct 5 (some .int) [(0, 10, 13, 19), (0, 10, 17, 21), (0, 10, 21, 27), (0, 10, 25, 13)])) B.pre
  have hta : ∀ w ∈ AL, w.before _ s = true := fun w h => hts w (List.mem_cons_of_mem _ h)
  have htab : c.exceptionTable.toList = tableOf [(0, 10, 13, 19), (0, 10, 17, 21), (0, 10, 21, 27), (0, 10, 25, 13)] := vx_table (x := y_W_correct) B (hts _ List.mem_cons_self)
  have hown : s.vm.findClass nR_W = some m.cls := findClass_of_methodNamed B.named
  have hlocks := B.notSynchronized
  have hl := lv_entry ([.ref (α 0), .int x1, .int x2, .ref o]) (n := 5) (Nat.le_of_ble_eq_true rfl)
  rw [lg_entry_eq]
  generalize (lg_sl ([.ref (α 0), .int x1, .int x2, .ref o]) ++ List.replicate (5 - (lg_sl ([.ref (α 0), .int x1, .int x2, .ref o])).length) Slot.unset).toArray = ls at hl ⊢
  have hl : lv_has ls 5 [(0, .ref (α 0)), (1, .int x1), (2, .int x2), (3, .ref o)] := hl
  subst hsz
  have hM := mw_self (sz := s.heap.size) hM0
  clear hM0
  generalize hAe : mA (va_up w o (some (aJ cJ 1 f0))) s.heap.size = A at hM ⊢
  have hA : ∀ q : Nat, s.heap.size ≤ q → A q := fun q h => by rw [← hAe]; exact Or.inr h
  have hS : va_S A s.heap s.heap [] := va_S.rf
  have hMw := mw_sub hM ho
  have hF := mw_free hMw hS hA
  obtain ⟨Cc, hCc⟩ : ∃ z9 : Nat, z9 = gC (if ¬ x1 < 0 ∧ x1 < nI n then 1 else 0) (if ¬ x2 < (-9999) ∧ ¬ 9999 < x2 then 1 else 0) (if (hd (nC (v x1.toNatClampNeg))).2.2.2 = 0 then 1 else 0) (if ac < 200 then 1 else 0) := ⟨_, rfl⟩
  refine lv_aload_n hx hb d_W_correct_0 rfl (lv_at hl 3 rfl) ?_
  refine lv_iconst (v := 0) hx hb d_W_correct_1 (by decide) ?_
  refine lv_aload_n hx hb d_W_correct_2 rfl (lv_at hl 0 rfl) ?_
  refine lv_iload_n hx hb d_W_correct_3 rfl (lv_at hl 1 rfl) ?_
  refine lv_iload_n hx hb d_W_correct_4 rfl (lv_at hl 2 rfl) ?_
  refine x_callWi (vx_runV (As := [.int x1, .int x2]) (rest := [.int 0, .ref o]) ⟨hx, hb, hml, hown, hta⟩ (k_X_correct l hlt G cN cB ((cI, .int) :: (cJ, .long) :: ty3) w hα hcp hok x1 x2 _) (cV 2 hta aw_339 aw_1 aw_336 aw_337 aw_338 rfl rfl (by decide +kernel) ⟨Nat.le_of_ble_eq_true rfl, Nat.le_of_ble_eq_true rfl⟩) (pY_V hK hMw hE rfl hcp.1) rfl rfl hl.1 rfl (lv_room (Nat.le_of_ble_eq_true rfl)) d_W_correct_5 ⟨Nat.le_of_ble_eq_true rfl, Nat.le_of_ble_eq_true rfl⟩) hS (fun q _ h => hF q h) hF (fun E ce q9 H1 locs1 hp9 hz9 hk9 hS9 hce hcv hcl => ?_) (fun r_1 u9 t H locs ht hvm hr_1 hB hz1 hk1 hS => ?_)
  · obtain ⟨hC9, hE9⟩ := hp9
    have hMk : mw G ncl A (va_up w o (some (aJ cJ 1 f0))) H1 := mw_kept hM hk9
    rcases gC_cases (if ¬ x1 < 0 ∧ x1 < nI n then 1 else 0) (if ¬ x2 < (-9999) ∧ ¬ 9999 < x2 then 1 else 0) (if (hd (nC (v x1.toNatClampNeg))).2.2.2 = 0 then 1 else 0) (if ac < 200 then 1 else 0) with hcc | hcc | hcc | hcc | hcc
    · exact absurd hcc hC9
    · rw [hcc.2] at hE9
      subst hE9
      refine vx_catch (name := "java/lang/IllegalArgumentException") (E := exN 1) hown [] ⟨0, 10, 13, 19⟩ [⟨0, 10, 17, 21⟩, ⟨0, 10, 21, 27⟩, ⟨0, 10, 25, 13⟩] (htab.trans rfl) (fun _ h => absurd h List.not_mem_nil) (by decide) (by decide) (hta _ aw_183) (va_Nw.use (nNG_t _ (ng_c 1 (by decide) (by decide))) (hE.2.2.2 _ (ng_c 1 (by decide) (by decide)))) hce hcv hcl ?_
      refine lv_astore (lv' := [(4, .ref q9), (0, .ref (α 0)), (1, .int x1), (2, .int x2), (3, .ref o)]) hx hb d_W_correct_13 hl (by decide) rfl (fun ls hl => ?_)
      refine lv_iconst (v := 1) hx hb d_W_correct_15 (by decide) ?_
      exact W.iret (v := 1) hx hb hr (fun t ht hW => ⟨⟨1, (w, f0), rfl, ⟨ho, by rw [hcc.2]; rfl, fun _ => hcp, fun q8 => absurd q8 hC9⟩, by rw [ht]; exact hMk, va_K.moved hW.alike hK⟩, hS9.F ht⟩) hS9.2.2 d_W_correct_16
    · rw [hcc.2] at hE9
      subst hE9
      refine vx_catch (name := "java/lang/IndexOutOfBoundsException") (E := exN 2) hown [⟨0, 10, 13, 19⟩] ⟨0, 10, 17, 21⟩ [⟨0, 10, 21, 27⟩, ⟨0, 10, 25, 13⟩] (htab.trans rfl) (List.forall_mem_cons.mpr ⟨Or.inr ⟨by decide, "java/lang/IllegalArgumentException", hta _ aw_183, hN 2 1 (by decide) (by decide) (by decide) (by decide) (by decide)⟩, (fun _ h => absurd h List.not_mem_nil)⟩) (by decide) (by decide) (hta _ aw_184) (va_Nw.use (nNG_t _ (ng_c 2 (by decide) (by decide))) (hE.2.2.2 _ (ng_c 2 (by decide) (by decide)))) hce hcv hcl ?_
      refine lv_astore (lv' := [(4, .ref q9), (0, .ref (α 0)), (1, .int x1), (2, .int x2), (3, .ref o)]) hx hb d_W_correct_17 hl (by decide) rfl (fun ls hl => ?_)
      refine lv_iconst (v := 2) hx hb d_W_correct_19 (by decide) ?_
      exact W.iret (v := 2) hx hb hr (fun t ht hW => ⟨⟨2, (w, f0), rfl, ⟨ho, by rw [hcc.2]; rfl, fun _ => hcp, fun q8 => absurd q8 hC9⟩, by rw [ht]; exact hMk, va_K.moved hW.alike hK⟩, hS9.F ht⟩) hS9.2.2 d_W_correct_20
    · rw [hcc.2] at hE9
      subst hE9
      refine vx_catch (name := "java/lang/IllegalStateException") (E := exN 3) hown [⟨0, 10, 13, 19⟩, ⟨0, 10, 17, 21⟩] ⟨0, 10, 21, 27⟩ [⟨0, 10, 25, 13⟩] (htab.trans rfl) (List.forall_mem_cons.mpr ⟨Or.inr ⟨by decide, "java/lang/IllegalArgumentException", hta _ aw_183, hN 3 1 (by decide) (by decide) (by decide) (by decide) (by decide)⟩, (List.forall_mem_cons.mpr ⟨Or.inr ⟨by decide, "java/lang/IndexOutOfBoundsException", hta _ aw_184, hN 3 2 (by decide) (by decide) (by decide) (by decide) (by decide)⟩, (fun _ h => absurd h List.not_mem_nil)⟩)⟩) (by decide) (by decide) (hta _ aw_335) (va_Nw.use (nNG_t _ (ng_c 3 (by decide) (by decide))) (hE.2.2.2 _ (ng_c 3 (by decide) (by decide)))) hce hcv hcl ?_
      refine lv_astore (lv' := [(4, .ref q9), (0, .ref (α 0)), (1, .int x1), (2, .int x2), (3, .ref o)]) hx hb d_W_correct_21 hl (by decide) rfl (fun ls hl => ?_)
      refine lv_iconst (v := 3) hx hb d_W_correct_23 (by decide) ?_
      exact W.iret (v := 3) hx hb hr (fun t ht hW => ⟨⟨3, (w, f0), rfl, ⟨ho, by rw [hcc.2]; rfl, fun _ => hcp, fun q8 => absurd q8 hC9⟩, by rw [ht]; exact hMk, va_K.moved hW.alike hK⟩, hS9.F ht⟩) hS9.2.2 d_W_correct_24
    · rw [hcc.2] at hE9
      subst hE9
      refine vx_catch (name := "java/lang/UnsupportedOperationException") (E := exN 4) hown [⟨0, 10, 13, 19⟩, ⟨0, 10, 17, 21⟩, ⟨0, 10, 21, 27⟩] ⟨0, 10, 25, 13⟩ [] (htab.trans rfl) (List.forall_mem_cons.mpr ⟨Or.inr ⟨by decide, "java/lang/IllegalArgumentException", hta _ aw_183, hN 4 1 (by decide) (by decide) (by decide) (by decide) (by decide)⟩, (List.forall_mem_cons.mpr ⟨Or.inr ⟨by decide, "java/lang/IndexOutOfBoundsException", hta _ aw_184, hN 4 2 (by decide) (by decide) (by decide) (by decide) (by decide)⟩, (List.forall_mem_cons.mpr ⟨Or.inr ⟨by decide, "java/lang/IllegalStateException", hta _ aw_335, hN 4 3 (by decide) (by decide) (by decide) (by decide) (by decide)⟩, (fun _ h => absurd h List.not_mem_nil)⟩)⟩)⟩) (by decide) (by decide) (hta _ aw_107) (va_Nw.use (nNG_t _ (ng_c 4 (by decide) (by decide))) (hE.2.2.2 _ (ng_c 4 (by decide) (by decide)))) hce hcv hcl ?_
      refine lv_astore (lv' := [(4, .ref q9), (0, .ref (α 0)), (1, .int x1), (2, .int x2), (3, .ref o)]) hx hb d_W_correct_25 hl (by decide) rfl (fun ls hl => ?_)
      refine lv_iconst (v := 4) hx hb d_W_correct_27 (by decide) ?_
      exact W.iret (v := 4) hx hb hr (fun t ht hW => ⟨⟨4, (w, f0), rfl, ⟨ho, by rw [hcc.2]; rfl, fun _ => hcp, fun q8 => absurd q8 hC9⟩, by rw [ht]; exact hMk, va_K.moved hW.alike hK⟩, hS9.F ht⟩) hS9.2.2 d_W_correct_28
  obtain ⟨hM1, hK1⟩ := hB
  rw [ht] at hM1
  obtain ⟨hM, hu9⟩ := mw_two hM ho hM1 hk1 hF
  obtain ⟨hC0, hpo⟩ := hr_1
  refine lv_i2l hx hb d_W_correct_8 rfl ?_
  refine m_last hx hb hK hM hS 3 (va_up_self u9 o (some (aJ cJ 1 f0))) rfl (vp_in_nI (n := 0) (by decide) (by decide)) d_W_correct_9 (fun H locs hM hS => ?_)
  obtain ⟨w_2, hw_2⟩ : ∃ z9 : Nat → Option va_E, z9 = va_up (va_up u9 o (some (aJ cJ 1 f0))) o (some (.inl (cJ, 1, .inr (.inl (vp_updL f0 (0 : Int32).toNatClampNeg r_1.toInt64))))) := ⟨_, rfl⟩
  rw [← hw_2] at hM
  have k_3 : w_2 o = some (.inl (cJ, 1, .inr (.inl (vp_updL f0 (0 : Int32).toNatClampNeg r_1.toInt64)))) := by rw [hw_2, va_up_self]
  refine lv_goto (tgt := 29) hx hb d_W_correct_10 (by decide) ?_
  refine lv_iconst (v := 0) hx hb d_W_correct_29 (by decide) ?_
  have hM : mw G ncl A (va_up u9 o (some (aJ cJ 1 (vp_updL f0 (0 : Int32).toNatClampNeg r_1.toInt64)))) H := by rw [hw_2, va_up_up] at hM; exact hM
  refine W.widen (k := 4) (n := 22) (Nat.le_of_ble_eq_true rfl) (Nat.le_of_ble_eq_true rfl) ?_
  exact W.iret (v := 0) hx hb hr (fun t ht hW => ⟨⟨0, (u9, (vp_updL f0 (0 : Int32).toNatClampNeg r_1.toInt64)), rfl, ⟨hu9, by rw [hC0]; rfl, fun q8 => absurd hC0 q8, fun _ => ⟨r_1, updL_0 f0 _, hpo⟩⟩, by rw [ht]; exact hM, va_K.moved hW.alike hK⟩, hS.F ht⟩) hS.2.2 d_W_correct_30
set_option maxHeartbeats 4000000 in
set_option maxRecDepth 100000 in
theorem k_W_strike (l : Launch) (hlt : l.stackTraces = false) (G : va_G) (cN cB cI cJ : ClassId) (ty3 : List (ClassId × FieldType)) (w : Nat → Option va_E) {α : Nat → Nat} (hα : ∀ i j, i < 8 → j < 8 → α i = α j → i = j) {v : Nat → nV} {od ro : Nat → Nat} {bs : Nat → Int32} {se wr ac : Int32} {n rn sn : Nat} {kn z : Int32} (hcp : cPic w α cN cB v od ro bs se wr ac n rn sn kn z) (hok : cOk v od ro n rn sn) {o : Nat} (ho : w o = none) (f0 : Nat → Int64) (x1 x2 : Int32) (hx2 : x2 = 0 ∨ x2 = 1) (sz : Nat) : Met l y_W_strike (ww y_W_strike c_W_strike 4 (some .int) [(0, 6, 9, 19), (0, 6, 12, 27), (0, 6, 15, 13)]) ({ frames := 8, cells := 4, slots := 22, locals := 126 }) (pV G ((cN, .object nR_N) :: (cB, .byte) :: (cI, .int) :: (cJ, .long) :: ty3) (va_up w o (some (aJ cJ 1 f0))) sz [.ref (α 0), .int x1, .int x2]) (va_Qi (fun (r0 : Int32) (u : (Nat → Option va_E) × (Nat → Int64)) => u.1 o = none ∧ r0 = nI (gT 13 (gC (if ¬ x1 < 0 ∧ x1 < nI n then 1 else 0) 1 (if ¬ (hd (nC (v x1.toNatClampNeg))).2.2.2 = x2 then 1 else 0) (if ac < 200 then 1 else 0))) ∧ (¬ gC (if ¬ x1 < 0 ∧ x1 < nI n then 1 else 0) 1 (if ¬ (hd (nC (v x1.toNatClampNeg))).2.2.2 = x2 then 1 else 0) (if ac < 200 then 1 else 0) = 0 → cPic u.1 α cN cB v od ro bs se wr ac n rn sn kn z) ∧ (gC (if ¬ x1 < 0 ∧ x1 < nI n then 1 else 0) 1 (if ¬ (hd (nC (v x1.toNatClampNeg))).2.2.2 = x2 then 1 else 0) (if ac < 200 then 1 else 0) = 0 → ∃ q9 : Nat, cPic u.1 α cN cB (va_up v x1.toNatClampNeg (nStr (v x1.toNatClampNeg) q9 se x2)) od ro bs se wr (ac + 1) n rn sn kn z)) (fun u t => mw G ncl (mA (va_up w o (some (aJ cJ 1 f0))) sz) (va_up u.1 o (some (aJ cJ 1 u.2))) t.heap ∧ va_K G ncl ((cN, .object nR_N) :: (cB, .byte) :: (cI, .int) :: (cJ, .long) :: ty3) t) (mA (va_up w o (some (aJ cJ 1 f0))) sz)) 4 22 (mA (va_up w o (some (aJ cJ 1 f0))) sz) := by
  refine va_MetW (cc := c_W_strike) (maxL := 4) (ret := (some .int)) (hh := [(0, 6, 9, 19), (0, 6, 12, 27), (0, 6, 15, 13)]) (by decide) rfl ?_
  intro p e s m args below meth c s₁ B hml hv
  obtain ⟨rfl, hsz, hM0, hK, hE, hN⟩ := hv
  have hx := B.exec
  have hb := B.bytes
  have hr := B.returns
  have hts := atoms_spec (ws := (ww y_W_strike c_W_strike 4 (some .int) [(0, 6, 9, 19), (0, 6, 12, 27), (0, 6, 15, 13)])) B.pre
  have hta : ∀ w ∈ AL, w.before _ s = true := fun w h => hts w (List.mem_cons_of_mem _ h)
  have htab : c.exceptionTable.toList = tableOf [(0, 6, 9, 19), (0, 6, 12, 27), (0, 6, 15, 13)] := vx_table (x := y_W_strike) B (hts _ List.mem_cons_self)
  have hown : s.vm.findClass nR_W = some m.cls := findClass_of_methodNamed B.named
  have hlocks := B.notSynchronized
  have hl := lv_entry ([.ref (α 0), .int x1, .int x2]) (n := 4) (Nat.le_of_ble_eq_true rfl)
  rw [lg_entry_eq]
  generalize (lg_sl ([.ref (α 0), .int x1, .int x2]) ++ List.replicate (4 - (lg_sl ([.ref (α 0), .int x1, .int x2])).length) Slot.unset).toArray = ls at hl ⊢
  have hl : lv_has ls 4 [(0, .ref (α 0)), (1, .int x1), (2, .int x2)] := hl
  subst hsz
  have hM := mw_self (sz := s.heap.size) hM0
  clear hM0
  generalize hAe : mA (va_up w o (some (aJ cJ 1 f0))) s.heap.size = A at hM ⊢
  have hA : ∀ q : Nat, s.heap.size ≤ q → A q := fun q h => by rw [← hAe]; exact Or.inr h
  have hS : va_S A s.heap s.heap [] := va_S.rf
  have hMw := mw_sub hM ho
  have hF := mw_free hMw hS hA
  obtain ⟨Cc, hCc⟩ : ∃ z9 : Nat, z9 = gC (if ¬ x1 < 0 ∧ x1 < nI n then 1 else 0) 1 (if ¬ (hd (nC (v x1.toNatClampNeg))).2.2.2 = x2 then 1 else 0) (if ac < 200 then 1 else 0) := ⟨_, rfl⟩
  refine lv_aload_n hx hb d_W_strike_0 rfl (lv_at hl 0 rfl) ?_
  refine lv_iload_n hx hb d_W_strike_1 rfl (lv_at hl 1 rfl) ?_
  refine lv_iload_n hx hb d_W_strike_2 rfl (lv_at hl 2 rfl) ?_
  refine x_callWv (vx_runV (As := [.int x1, .int x2]) (rest := []) ⟨hx, hb, hml, hown, hta⟩ (k_X_strike l hlt G cN cB ((cI, .int) :: (cJ, .long) :: ty3) w hα hcp hok x1 x2 hx2 _) (cV 2 hta aw_377 aw_1 aw_374 aw_375 aw_376 rfl rfl (by decide +kernel) ⟨Nat.le_of_ble_eq_true rfl, Nat.le_of_ble_eq_true rfl⟩) (pY_V hK hMw hE rfl hcp.1) rfl rfl hl.1 rfl (lv_room (Nat.le_of_ble_eq_true rfl)) d_W_strike_3 ⟨Nat.le_of_ble_eq_true rfl, Nat.le_of_ble_eq_true rfl⟩) hS (fun q _ h => hF q h) hF (fun E ce q9 H1 locs1 hp9 hz9 hk9 hS9 hce hcv hcl => ?_) (fun u9 t H locs ht hvm hr_1 hB hz1 hk1 hS => ?_)
  · obtain ⟨hC9, hE9⟩ := hp9
    have hMk : mw G ncl A (va_up w o (some (aJ cJ 1 f0))) H1 := mw_kept hM hk9
    rcases gC_cases (if ¬ x1 < 0 ∧ x1 < nI n then 1 else 0) 1 (if ¬ (hd (nC (v x1.toNatClampNeg))).2.2.2 = x2 then 1 else 0) (if ac < 200 then 1 else 0) with hcc | hcc | hcc | hcc | hcc
    · exact absurd hcc hC9
    · rw [hcc.2] at hE9
      subst hE9
      refine vx_catch (name := "java/lang/IllegalArgumentException") (E := exN 1) hown [] ⟨0, 6, 9, 19⟩ [⟨0, 6, 12, 27⟩, ⟨0, 6, 15, 13⟩] (htab.trans rfl) (fun _ h => absurd h List.not_mem_nil) (by decide) (by decide) (hta _ aw_183) (va_Nw.use (nNG_t _ (ng_c 1 (by decide) (by decide))) (hE.2.2.2 _ (ng_c 1 (by decide) (by decide)))) hce hcv hcl ?_
      refine lv_astore_n (lv' := [(3, .ref q9), (0, .ref (α 0)), (1, .int x1), (2, .int x2)]) hx hb d_W_strike_9 rfl hl (by decide) rfl (fun ls hl => ?_)
      refine lv_iconst (v := 1) hx hb d_W_strike_10 (by decide) ?_
      exact W.iret (v := 1) hx hb hr (fun t ht hW => ⟨⟨1, (w, f0), rfl, ⟨ho, by rw [hcc.2]; rfl, fun _ => hcp, fun q8 => absurd q8 hC9⟩, by rw [ht]; exact hMk, va_K.moved hW.alike hK⟩, hS9.F ht⟩) hS9.2.2 d_W_strike_11
    · exact absurd hcc.1 (by decide)
    · rw [hcc.2] at hE9
      subst hE9
      refine vx_catch (name := "java/lang/IllegalStateException") (E := exN 3) hown [⟨0, 6, 9, 19⟩] ⟨0, 6, 12, 27⟩ [⟨0, 6, 15, 13⟩] (htab.trans rfl) (List.forall_mem_cons.mpr ⟨Or.inr ⟨by decide, "java/lang/IllegalArgumentException", hta _ aw_183, hN 3 1 (by decide) (by decide) (by decide) (by decide) (by decide)⟩, (fun _ h => absurd h List.not_mem_nil)⟩) (by decide) (by decide) (hta _ aw_335) (va_Nw.use (nNG_t _ (ng_c 3 (by decide) (by decide))) (hE.2.2.2 _ (ng_c 3 (by decide) (by decide)))) hce hcv hcl ?_
      refine lv_astore_n (lv' := [(3, .ref q9), (0, .ref (α 0)), (1, .int x1), (2, .int x2)]) hx hb d_W_strike_12 rfl hl (by decide) rfl (fun ls hl => ?_)
      refine lv_iconst (v := 2) hx hb d_W_strike_13 (by decide) ?_
      exact W.iret (v := 2) hx hb hr (fun t ht hW => ⟨⟨2, (w, f0), rfl, ⟨ho, by rw [hcc.2]; rfl, fun _ => hcp, fun q8 => absurd q8 hC9⟩, by rw [ht]; exact hMk, va_K.moved hW.alike hK⟩, hS9.F ht⟩) hS9.2.2 d_W_strike_14
    · rw [hcc.2] at hE9
      subst hE9
      refine vx_catch (name := "java/lang/UnsupportedOperationException") (E := exN 4) hown [⟨0, 6, 9, 19⟩, ⟨0, 6, 12, 27⟩] ⟨0, 6, 15, 13⟩ [] (htab.trans rfl) (List.forall_mem_cons.mpr ⟨Or.inr ⟨by decide, "java/lang/IllegalArgumentException", hta _ aw_183, hN 4 1 (by decide) (by decide) (by decide) (by decide) (by decide)⟩, (List.forall_mem_cons.mpr ⟨Or.inr ⟨by decide, "java/lang/IllegalStateException", hta _ aw_335, hN 4 3 (by decide) (by decide) (by decide) (by decide) (by decide)⟩, (fun _ h => absurd h List.not_mem_nil)⟩)⟩) (by decide) (by decide) (hta _ aw_107) (va_Nw.use (nNG_t _ (ng_c 4 (by decide) (by decide))) (hE.2.2.2 _ (ng_c 4 (by decide) (by decide)))) hce hcv hcl ?_
      refine lv_astore_n (lv' := [(3, .ref q9), (0, .ref (α 0)), (1, .int x1), (2, .int x2)]) hx hb d_W_strike_15 rfl hl (by decide) rfl (fun ls hl => ?_)
      refine lv_iconst (v := 3) hx hb d_W_strike_16 (by decide) ?_
      exact W.iret (v := 3) hx hb hr (fun t ht hW => ⟨⟨3, (w, f0), rfl, ⟨ho, by rw [hcc.2]; rfl, fun _ => hcp, fun q8 => absurd q8 hC9⟩, by rw [ht]; exact hMk, va_K.moved hW.alike hK⟩, hS9.F ht⟩) hS9.2.2 d_W_strike_17
  obtain ⟨hM1, hK1⟩ := hB
  rw [ht] at hM1
  obtain ⟨hM, hu9⟩ := mw_two hM ho hM1 hk1 hF
  obtain ⟨hC0, hpo⟩ := hr_1
  refine lv_goto (tgt := 18) hx hb d_W_strike_6 (by decide) ?_
  refine lv_iconst (v := 0) hx hb d_W_strike_18 (by decide) ?_
  refine W.widen (k := 4) (n := 22) (Nat.le_of_ble_eq_true rfl) (Nat.le_of_ble_eq_true rfl) ?_
  exact W.iret (v := 0) hx hb hr (fun t ht hW => ⟨⟨0, (u9, f0), rfl, ⟨hu9, by rw [hC0]; rfl, fun q8 => absurd hC0 q8, fun _ => hpo⟩, by rw [ht]; exact hM, va_K.moved hW.alike hK⟩, hS.F ht⟩) hS.2.2 d_W_strike_19
set_option maxHeartbeats 4000000 in
set_option maxRecDepth 100000 in
theorem k_W_ask (l : Launch) (hlt : l.stackTraces = false) (G : va_G) (cN cB cI cJ : ClassId) (ty3 : List (ClassId × FieldType)) (w : Nat → Option va_E) {α : Nat → Nat} (hα : ∀ i j, i < 8 → j < 8 → α i = α j → i = j) {v : Nat → nV} {od ro : Nat → Nat} {bs : Nat → Int32} {se wr ac : Int32} {n rn sn : Nat} {kn z : Int32} (hcp : cPic w α cN cB v od ro bs se wr ac n rn sn kn z) (hok : cOk v od ro n rn sn) {o : Nat} (ho : w o = none) (f0 : Nat → Int64) (x1 x2 x3 x4 x5 : Int32) (sz : Nat) : Met l y_W_ask (ww y_W_ask c_W_ask 8 (some .int) [(0, 16, 19, 19), (0, 16, 23, 21)]) ({ frames := 7, cells := 1, slots := 6, locals := 109 }) (pV G ((cN, .object nR_N) :: (cB, .byte) :: (cI, .int) :: (cJ, .long) :: ty3) (va_up w o (some (aJ cJ 1 f0))) sz [.ref (α 0), .int x1, .int x2, .int x3, .int x4, .int x5, .ref o]) (va_Qi (fun (r0 : Int32) (u : (Nat → Option va_E) × (Nat → Int64)) => u.1 o = none ∧ r0 = nI (gT 3 (gC (if (x3 = (-1) ∨ (¬ x3 < 0 ∧ ¬ 6 ≤ x3)) ∧ (x4 = (-1) ∨ (¬ x4 < 0 ∧ ¬ 10 ≤ x4)) then 1 else 0) (if ¬ x5 < 0 ∧ ¬ se < x5 then 1 else 0) 1 1)) ∧ (¬ gC (if (x3 = (-1) ∨ (¬ x3 < 0 ∧ ¬ 6 ≤ x3)) ∧ (x4 = (-1) ∨ (¬ x4 < 0 ∧ ¬ 10 ≤ x4)) then 1 else 0) (if ¬ x5 < 0 ∧ ¬ se < x5 then 1 else 0) 1 1 = 0 → cPic u.1 α cN cB v od ro bs se wr ac n rn sn kn z) ∧ (gC (if (x3 = (-1) ∨ (¬ x3 < 0 ∧ ¬ 6 ≤ x3)) ∧ (x4 = (-1) ∨ (¬ x4 < 0 ∧ ¬ 10 ≤ x4)) then 1 else 0) (if ¬ x5 < 0 ∧ ¬ se < x5 then 1 else 0) 1 1 = 0 → ∃ r : Int32, u.2 0 = r.toInt64 ∧ r = nI (askR (askW v x1 x2 x3 x4 x5) od n 0).length ∧ cPic u.1 α cN cB v od (fun i => (askR (askW v x1 x2 x3 x4 x5) od n 0).getD i 0) bs se wr ac n ((askR (askW v x1 x2 x3 x4 x5) od n 0).length) sn x5 1)) (fun u t => mw G ncl (mA (va_up w o (some (aJ cJ 1 f0))) sz) (va_up u.1 o (some (aJ cJ 1 u.2))) t.heap ∧ va_K G ncl ((cN, .object nR_N) :: (cB, .byte) :: (cI, .int) :: (cJ, .long) :: ty3) t) (mA (va_up w o (some (aJ cJ 1 f0))) sz)) 1 6 (mA (va_up w o (some (aJ cJ 1 f0))) sz) := by
  refine va_MetW (cc := c_W_ask) (maxL := 8) (ret := (some .int)) (hh := [(0, 16, 19, 19), (0, 16, 23, 21)]) (by decide) rfl ?_
  intro p e s m args below meth c s₁ B hml hv
  obtain ⟨rfl, hsz, hM0, hK, hE, hN⟩ := hv
  have hx := B.exec
  have hb := B.bytes
  have hr := B.returns
  have hts := atoms_spec (ws := (ww y_W_ask c_W_ask 8 (some .int) [(0, 16, 19, 19), (0, 16, 23, 21)])) B.pre
  have hta : ∀ w ∈ AL, w.before _ s = true := fun w h => hts w (List.mem_cons_of_mem _ h)
  have htab : c.exceptionTable.toList = tableOf [(0, 16, 19, 19), (0, 16, 23, 21)] := vx_table (x := y_W_ask) B (hts _ List.mem_cons_self)
  have hown : s.vm.findClass nR_W = some m.cls := findClass_of_methodNamed B.named
  have hlocks := B.notSynchronized
  have hl := lv_entry ([.ref (α 0), .int x1, .int x2, .int x3, .int x4, .int x5, .ref o]) (n := 8) (Nat.le_of_ble_eq_true rfl)
  rw [lg_entry_eq]
  generalize (lg_sl ([.ref (α 0), .int x1, .int x2, .int x3, .int x4, .int x5, .ref o]) ++ List.replicate (8 - (lg_sl ([.ref (α 0), .int x1, .int x2, .int x3, .int x4, .int x5, .ref o])).length) Slot.unset).toArray = ls at hl ⊢
  have hl : lv_has ls 8 [(0, .ref (α 0)), (1, .int x1), (2, .int x2), (3, .int x3), (4, .int x4), (5, .int x5), (6, .ref o)] := hl
  subst hsz
  have hM := mw_self (sz := s.heap.size) hM0
  clear hM0
  generalize hAe : mA (va_up w o (some (aJ cJ 1 f0))) s.heap.size = A at hM ⊢
  have hA : ∀ q : Nat, s.heap.size ≤ q → A q := fun q h => by rw [← hAe]; exact Or.inr h
  have hS : va_S A s.heap s.heap [] := va_S.rf
  have hMw := mw_sub hM ho
  have hF := mw_free hMw hS hA
  obtain ⟨Cc, hCc⟩ : ∃ z9 : Nat, z9 = gC (if (x3 = (-1) ∨ (¬ x3 < 0 ∧ ¬ 6 ≤ x3)) ∧ (x4 = (-1) ∨ (¬ x4 < 0 ∧ ¬ 10 ≤ x4)) then 1 else 0) (if ¬ x5 < 0 ∧ ¬ se < x5 then 1 else 0) 1 1 := ⟨_, rfl⟩
  refine lv_aload hx hb d_W_ask_0 (lv_at hl 6 rfl) ?_
  refine lv_iconst (v := 0) hx hb d_W_ask_2 (by decide) ?_
  refine lv_aload_n hx hb d_W_ask_3 rfl (lv_at hl 0 rfl) ?_
  refine lv_iload_n hx hb d_W_ask_4 rfl (lv_at hl 1 rfl) ?_
  refine lv_iload_n hx hb d_W_ask_5 rfl (lv_at hl 2 rfl) ?_
  refine lv_iload_n hx hb d_W_ask_6 rfl (lv_at hl 3 rfl) ?_
  refine lv_iload hx hb d_W_ask_7 (lv_at hl 4 rfl) ?_
  refine lv_iload hx hb d_W_ask_9 (lv_at hl 5 rfl) ?_
  refine x_callWi (vx_runV (As := [.int x1, .int x2, .int x3, .int x4, .int x5]) (rest := [.int 0, .ref o]) ⟨hx, hb, hml, hown, hta⟩ (k_X_ask l hlt G cN cB ((cI, .int) :: (cJ, .long) :: ty3) w hα hcp hok x1 x2 x3 x4 x5 _) (cV 5 hta aw_389 aw_1 aw_386 aw_387 aw_388 rfl rfl (by decide +kernel) ⟨Nat.le_of_ble_eq_true rfl, Nat.le_of_ble_eq_true rfl⟩) (pY_V hK hMw hE rfl hcp.1) rfl rfl hl.1 rfl (lv_room (Nat.le_of_ble_eq_true rfl)) d_W_ask_11 ⟨Nat.le_of_ble_eq_true rfl, Nat.le_of_ble_eq_true rfl⟩) hS (fun q _ h => hF q h) hF (fun E ce q9 H1 locs1 hp9 hz9 hk9 hS9 hce hcv hcl => ?_) (fun r_1 u9 t H locs ht hvm hr_1 hB hz1 hk1 hS => ?_)
  · obtain ⟨hC9, hE9⟩ := hp9
    have hMk : mw G ncl A (va_up w o (some (aJ cJ 1 f0))) H1 := mw_kept hM hk9
    rcases gC_cases (if (x3 = (-1) ∨ (¬ x3 < 0 ∧ ¬ 6 ≤ x3)) ∧ (x4 = (-1) ∨ (¬ x4 < 0 ∧ ¬ 10 ≤ x4)) then 1 else 0) (if ¬ x5 < 0 ∧ ¬ se < x5 then 1 else 0) 1 1 with hcc | hcc | hcc | hcc | hcc
    · exact absurd hcc hC9
    · rw [hcc.2] at hE9
      subst hE9
      refine vx_catch (name := "java/lang/IllegalArgumentException") (E := exN 1) hown [] ⟨0, 16, 19, 19⟩ [⟨0, 16, 23, 21⟩] (htab.trans rfl) (fun _ h => absurd h List.not_mem_nil) (by decide) (by decide) (hta _ aw_183) (va_Nw.use (nNG_t _ (ng_c 1 (by decide) (by decide))) (hE.2.2.2 _ (ng_c 1 (by decide) (by decide)))) hce hcv hcl ?_
      refine lv_astore (lv' := [(7, .ref q9), (0, .ref (α 0)), (1, .int x1), (2, .int x2), (3, .int x3), (4, .int x4), (5, .int x5), (6, .ref o)]) hx hb d_W_ask_19 hl (by decide) rfl (fun ls hl => ?_)
      refine lv_iconst (v := 1) hx hb d_W_ask_21 (by decide) ?_
      exact W.iret (v := 1) hx hb hr (fun t ht hW => ⟨⟨1, (w, f0), rfl, ⟨ho, by rw [hcc.2]; rfl, fun _ => hcp, fun q8 => absurd q8 hC9⟩, by rw [ht]; exact hMk, va_K.moved hW.alike hK⟩, hS9.F ht⟩) hS9.2.2 d_W_ask_22
    · rw [hcc.2] at hE9
      subst hE9
      refine vx_catch (name := "java/lang/IndexOutOfBoundsException") (E := exN 2) hown [⟨0, 16, 19, 19⟩] ⟨0, 16, 23, 21⟩ [] (htab.trans rfl) (List.forall_mem_cons.mpr ⟨Or.inr ⟨by decide, "java/lang/IllegalArgumentException", hta _ aw_183, hN 2 1 (by decide) (by decide) (by decide) (by decide) (by decide)⟩, (fun _ h => absurd h List.not_mem_nil)⟩) (by decide) (by decide) (hta _ aw_184) (va_Nw.use (nNG_t _ (ng_c 2 (by decide) (by decide))) (hE.2.2.2 _ (ng_c 2 (by decide) (by decide)))) hce hcv hcl ?_
      refine lv_astore (lv' := [(7, .ref q9), (0, .ref (α 0)), (1, .int x1), (2, .int x2), (3, .int x3), (4, .int x4), (5, .int x5), (6, .ref o)]) hx hb d_W_ask_23 hl (by decide) rfl (fun ls hl => ?_)
      refine lv_iconst (v := 2) hx hb d_W_ask_25 (by decide) ?_
      exact W.iret (v := 2) hx hb hr (fun t ht hW => ⟨⟨2, (w, f0), rfl, ⟨ho, by rw [hcc.2]; rfl, fun _ => hcp, fun q8 => absurd q8 hC9⟩, by rw [ht]; exact hMk, va_K.moved hW.alike hK⟩, hS9.F ht⟩) hS9.2.2 d_W_ask_26
    · exact absurd hcc.1 (by decide)
    · exact absurd hcc.1 (by decide)
  obtain ⟨hM1, hK1⟩ := hB
  rw [ht] at hM1
  obtain ⟨hM, hu9⟩ := mw_two hM ho hM1 hk1 hF
  obtain ⟨hC0, hpo⟩ := hr_1
  refine lv_i2l hx hb d_W_ask_14 rfl ?_
  refine m_last hx hb hK hM hS 3 (va_up_self u9 o (some (aJ cJ 1 f0))) rfl (vp_in_nI (n := 0) (by decide) (by decide)) d_W_ask_15 (fun H locs hM hS => ?_)
  obtain ⟨w_2, hw_2⟩ : ∃ z9 : Nat → Option va_E, z9 = va_up (va_up u9 o (some (aJ cJ 1 f0))) o (some (.inl (cJ, 1, .inr (.inl (vp_updL f0 (0 : Int32).toNatClampNeg r_1.toInt64))))) := ⟨_, rfl⟩
  rw [← hw_2] at hM
  have k_3 : w_2 o = some (.inl (cJ, 1, .inr (.inl (vp_updL f0 (0 : Int32).toNatClampNeg r_1.toInt64)))) := by rw [hw_2, va_up_self]
  refine lv_goto (tgt := 27) hx hb d_W_ask_16 (by decide) ?_
  refine lv_iconst (v := 0) hx hb d_W_ask_27 (by decide) ?_
  have hM : mw G ncl A (va_up u9 o (some (aJ cJ 1 (vp_updL f0 (0 : Int32).toNatClampNeg r_1.toInt64)))) H := by rw [hw_2, va_up_up] at hM; exact hM
  refine W.widen (k := 1) (n := 6) (Nat.le_of_ble_eq_true rfl) (Nat.le_of_ble_eq_true rfl) ?_
  exact W.iret (v := 0) hx hb hr (fun t ht hW => ⟨⟨0, (u9, (vp_updL f0 (0 : Int32).toNatClampNeg r_1.toInt64)), rfl, ⟨hu9, by rw [hC0]; rfl, fun q8 => absurd hC0 q8, fun _ => ⟨r_1, updL_0 f0 _, hpo⟩⟩, by rw [ht]; exact hM, va_K.moved hW.alike hK⟩, hS.F ht⟩) hS.2.2 d_W_ask_28
set_option maxHeartbeats 4000000 in
set_option maxRecDepth 100000 in
theorem k_W_row (l : Launch) (hlt : l.stackTraces = false) (G : va_G) (cN cB cI cJ : ClassId) (ty3 : List (ClassId × FieldType)) (w : Nat → Option va_E) {α : Nat → Nat} (hα : ∀ i j, i < 8 → j < 8 → α i = α j → i = j) {v : Nat → nV} {od ro : Nat → Nat} {bs : Nat → Int32} {se wr ac : Int32} {n rn sn : Nat} {kn z : Int32} (hcp : cPic w α cN cB v od ro bs se wr ac n rn sn kn z) (hok : cOk v od ro n rn sn) {o : Nat} (ho : w o = none) (f0 : Nat → Int64) (x1 x2 : Int32) (sz : Nat) : Met l y_W_row (ww y_W_row c_W_row 5 (some .int) [(0, 10, 13, 19)]) ({ frames := 7, cells := 1, slots := 6, locals := 105 }) (pV G ((cN, .object nR_N) :: (cB, .byte) :: (cI, .int) :: (cJ, .long) :: ty3) (va_up w o (some (aJ cJ 1 f0))) sz [.ref (α 0), .int x1, .int x2, .ref o]) (va_Qi (fun (r0 : Int32) (u : (Nat → Option va_E) × (Nat → Int64)) => u.1 o = none ∧ r0 = nI (gT 1 (gC (if (¬ x1 < 0 ∧ x1 < nI rn) ∧ (¬ x2 < 0 ∧ ¬ 4 < x2) then 1 else 0) 1 1 1)) ∧ (¬ gC (if (¬ x1 < 0 ∧ x1 < nI rn) ∧ (¬ x2 < 0 ∧ ¬ 4 < x2) then 1 else 0) 1 1 1 = 0 → cPic u.1 α cN cB v od ro bs se wr ac n rn sn kn z) ∧ (gC (if (¬ x1 < 0 ∧ x1 < nI rn) ∧ (¬ x2 < 0 ∧ ¬ 4 < x2) then 1 else 0) 1 1 1 = 0 → ∃ r : Int32, u.2 0 = r.toInt64 ∧ r = (if x2 = 0 then nN (v (ro x1.toNatClampNeg)) else if x2 = 1 then nT (v (ro x1.toNatClampNeg)) else if x2 = 2 then (stAt kn (nC (v (ro x1.toNatClampNeg)))).2.2.1 else if x2 = 3 then (if (stAt kn (nC (v (ro x1.toNatClampNeg)))).2.2.2 = 0 then 0 else 1) else nW (v (ro x1.toNatClampNeg))) ∧ cPic u.1 α cN cB v od ro bs se wr ac n rn sn kn z)) (fun u t => mw G ncl (mA (va_up w o (some (aJ cJ 1 f0))) sz) (va_up u.1 o (some (aJ cJ 1 u.2))) t.heap ∧ va_K G ncl ((cN, .object nR_N) :: (cB, .byte) :: (cI, .int) :: (cJ, .long) :: ty3) t) (mA (va_up w o (some (aJ cJ 1 f0))) sz)) 1 6 (mA (va_up w o (some (aJ cJ 1 f0))) sz) := by
  refine va_MetW (cc := c_W_row) (maxL := 5) (ret := (some .int)) (hh := [(0, 10, 13, 19)]) (by decide) rfl ?_
  intro p e s m args below meth c s₁ B hml hv
  obtain ⟨rfl, hsz, hM0, hK, hE, hN⟩ := hv
  have hx := B.exec
  have hb := B.bytes
  have hr := B.returns
  have hts := atoms_spec (ws := (ww y_W_row c_W_row 5 (some .int) [(0, 10, 13, 19)])) B.pre
  have hta : ∀ w ∈ AL, w.before _ s = true := fun w h => hts w (List.mem_cons_of_mem _ h)
  have htab : c.exceptionTable.toList = tableOf [(0, 10, 13, 19)] := vx_table (x := y_W_row) B (hts _ List.mem_cons_self)
  have hown : s.vm.findClass nR_W = some m.cls := findClass_of_methodNamed B.named
  have hlocks := B.notSynchronized
  have hl := lv_entry ([.ref (α 0), .int x1, .int x2, .ref o]) (n := 5) (Nat.le_of_ble_eq_true rfl)
  rw [lg_entry_eq]
  generalize (lg_sl ([.ref (α 0), .int x1, .int x2, .ref o]) ++ List.replicate (5 - (lg_sl ([.ref (α 0), .int x1, .int x2, .ref o])).length) Slot.unset).toArray = ls at hl ⊢
  have hl : lv_has ls 5 [(0, .ref (α 0)), (1, .int x1), (2, .int x2), (3, .ref o)] := hl
  subst hsz
  have hM := mw_self (sz := s.heap.size) hM0
  clear hM0
  generalize hAe : mA (va_up w o (some (aJ cJ 1 f0))) s.heap.size = A at hM ⊢
  have hA : ∀ q : Nat, s.heap.size ≤ q → A q := fun q h => by rw [← hAe]; exact Or.inr h
  have hS : va_S A s.heap s.heap [] := va_S.rf
  have hMw := mw_sub hM ho
  have hF := mw_free hMw hS hA
  obtain ⟨Cc, hCc⟩ : ∃ z9 : Nat, z9 = gC (if (¬ x1 < 0 ∧ x1 < nI rn) ∧ (¬ x2 < 0 ∧ ¬ 4 < x2) then 1 else 0) 1 1 1 := ⟨_, rfl⟩
  refine lv_aload_n hx hb d_W_row_0 rfl (lv_at hl 3 rfl) ?_
  refine lv_iconst (v := 0) hx hb d_W_row_1 (by decide) ?_
  refine lv_aload_n hx hb d_W_row_2 rfl (lv_at hl 0 rfl) ?_
  refine lv_iload_n hx hb d_W_row_3 rfl (lv_at hl 1 rfl) ?_
  refine lv_iload_n hx hb d_W_row_4 rfl (lv_at hl 2 rfl) ?_
  refine x_callSi (vx_runV (As := [.int x1, .int x2]) (rest := [.int 0, .ref o]) ⟨hx, hb, hml, hown, hta⟩ (k_X_row l hlt G cN cB ((cI, .int) :: (cJ, .long) :: ty3) w hα hcp hok x1 x2) (cV 2 hta aw_414 aw_1 aw_411 aw_412 aw_413 rfl rfl (by decide +kernel) ⟨Nat.le_of_ble_eq_true rfl, Nat.le_of_ble_eq_true rfl⟩) (pX_V hK hMw hE rfl hcp.1) rfl rfl hl.1 rfl (lv_room (Nat.le_of_ble_eq_true rfl)) d_W_row_5 ⟨Nat.le_of_ble_eq_true rfl, Nat.le_of_ble_eq_true rfl⟩) hS (fun q h => h.elim) (fun E ce q9 H1 locs1 hp9 hz9 hk9 hS9 hce hcv hcl => ?_) (fun r_1 locs hr_1 hS => ?_)
  · obtain ⟨hC9, hE9⟩ := hp9
    have hMk : mw G ncl A (va_up w o (some (aJ cJ 1 f0))) H1 := mw_kept hM hk9
    rcases gC_cases (if (¬ x1 < 0 ∧ x1 < nI rn) ∧ (¬ x2 < 0 ∧ ¬ 4 < x2) then 1 else 0) 1 1 1 with hcc | hcc | hcc | hcc | hcc
    · exact absurd hcc hC9
    · rw [hcc.2] at hE9
      subst hE9
      refine vx_catch (name := "java/lang/IllegalArgumentException") (E := exN 1) hown [] ⟨0, 10, 13, 19⟩ [] (htab.trans rfl) (fun _ h => absurd h List.not_mem_nil) (by decide) (by decide) (hta _ aw_183) (va_Nw.use (nNG_t _ (ng_c 1 (by decide) (by decide))) (hE.2.2.2 _ (ng_c 1 (by decide) (by decide)))) hce hcv hcl ?_
      refine lv_astore (lv' := [(4, .ref q9), (0, .ref (α 0)), (1, .int x1), (2, .int x2), (3, .ref o)]) hx hb d_W_row_13 hl (by decide) rfl (fun ls hl => ?_)
      refine lv_iconst (v := 1) hx hb d_W_row_15 (by decide) ?_
      exact W.iret (v := 1) hx hb hr (fun t ht hW => ⟨⟨1, (w, f0), rfl, ⟨ho, by rw [hcc.2]; rfl, fun _ => hcp, fun q8 => absurd q8 hC9⟩, by rw [ht]; exact hMk, va_K.moved hW.alike hK⟩, hS9.F ht⟩) hS9.2.2 d_W_row_16
    · exact absurd hcc.1 (by decide)
    · exact absurd hcc.1 (by decide)
    · exact absurd hcc.1 (by decide)
  obtain ⟨hC0, hpo⟩ := hr_1
  refine lv_i2l hx hb d_W_row_8 rfl ?_
  refine m_last hx hb hK hM hS 3 (va_up_self w o (some (aJ cJ 1 f0))) rfl (vp_in_nI (n := 0) (by decide) (by decide)) d_W_row_9 (fun H locs hM hS => ?_)
  obtain ⟨w_2, hw_2⟩ : ∃ z9 : Nat → Option va_E, z9 = va_up (va_up w o (some (aJ cJ 1 f0))) o (some (.inl (cJ, 1, .inr (.inl (vp_updL f0 (0 : Int32).toNatClampNeg r_1.toInt64))))) := ⟨_, rfl⟩
  rw [← hw_2] at hM
  have k_3 : w_2 o = some (.inl (cJ, 1, .inr (.inl (vp_updL f0 (0 : Int32).toNatClampNeg r_1.toInt64)))) := by rw [hw_2, va_up_self]
  refine lv_goto (tgt := 17) hx hb d_W_row_10 (by decide) ?_
  refine lv_iconst (v := 0) hx hb d_W_row_17 (by decide) ?_
  have hM : mw G ncl A (va_up w o (some (aJ cJ 1 (vp_updL f0 (0 : Int32).toNatClampNeg r_1.toInt64)))) H := by rw [hw_2, va_up_up] at hM; exact hM
  refine W.widen (k := 1) (n := 6) (Nat.le_of_ble_eq_true rfl) (Nat.le_of_ble_eq_true rfl) ?_
  exact W.iret (v := 0) hx hb hr (fun t ht hW => ⟨⟨0, (w, (vp_updL f0 (0 : Int32).toNatClampNeg r_1.toInt64)), rfl, ⟨ho, by rw [hC0]; rfl, fun q8 => absurd hC0 q8, fun _ => ⟨r_1, updL_0 f0 _, hpo, hcp⟩⟩, by rw [ht]; exact hM, va_K.moved hW.alike hK⟩, hS.F ht⟩) hS.2.2 d_W_row_18
set_option maxHeartbeats 4000000 in
set_option maxRecDepth 100000 in
theorem k_W_reading (l : Launch) (hlt : l.stackTraces = false) (G : va_G) (cN cB cI cJ : ClassId) (ty3 : List (ClassId × FieldType)) (w : Nat → Option va_E) {α : Nat → Nat} (hα : ∀ i j, i < 8 → j < 8 → α i = α j → i = j) {v : Nat → nV} {od ro : Nat → Nat} {bs : Nat → Int32} {se wr ac : Int32} {n rn sn : Nat} {kn z : Int32} (hcp : cPic w α cN cB v od ro bs se wr ac n rn sn kn z) (hok : cOk v od ro n rn sn) {o : Nat} (ho : w o = none) (f0 : Nat → Int64) (x1 x2 : Int32) (sz : Nat) : Met l y_W_reading (ww y_W_reading c_W_reading 5 (some .int) [(0, 10, 13, 19), (0, 10, 17, 21), (0, 10, 21, 27)]) ({ frames := 7, cells := 1, slots := 6, locals := 106 }) (pV G ((cN, .object nR_N) :: (cB, .byte) :: (cI, .int) :: (cJ, .long) :: ty3) (va_up w o (some (aJ cJ 1 f0))) sz [.ref (α 0), .int x1, .int x2, .ref o]) (va_Qi (fun (r0 : Int32) (u : (Nat → Option va_E) × (Nat → Int64)) => u.1 o = none ∧ r0 = nI (gT 7 (gC (if ¬ x1 < 0 ∧ ¬ 10 ≤ x1 then 1 else 0) (if ¬ x2 < 0 ∧ ¬ se < x2 then 1 else 0) (if (lastP (fun i => decide (¬ x2 < nT (v (od i))) && isRd x1 (v (od i))) n).isSome = true ∧ (firstP (fun i => decide (¬ nT (v (od i)) < x2) && isRd x1 (v (od i))) n 0).isSome = true then 1 else 0) 1)) ∧ (¬ gC (if ¬ x1 < 0 ∧ ¬ 10 ≤ x1 then 1 else 0) (if ¬ x2 < 0 ∧ ¬ se < x2 then 1 else 0) (if (lastP (fun i => decide (¬ x2 < nT (v (od i))) && isRd x1 (v (od i))) n).isSome = true ∧ (firstP (fun i => decide (¬ nT (v (od i)) < x2) && isRd x1 (v (od i))) n 0).isSome = true then 1 else 0) 1 = 0 → cPic u.1 α cN cB v od ro bs se wr ac n rn sn kn z) ∧ (gC (if ¬ x1 < 0 ∧ ¬ 10 ≤ x1 then 1 else 0) (if ¬ x2 < 0 ∧ ¬ se < x2 then 1 else 0) (if (lastP (fun i => decide (¬ x2 < nT (v (od i))) && isRd x1 (v (od i))) n).isSome = true ∧ (firstP (fun i => decide (¬ nT (v (od i)) < x2) && isRd x1 (v (od i))) n 0).isSome = true then 1 else 0) 1 = 0 → ∃ r : Int32, u.2 0 = r.toInt64 ∧ r = rdC (fun i => v (od i)) x2 (lastP (fun i => decide (¬ x2 < nT (v (od i))) && isRd x1 (v (od i))) n) (firstP (fun i => decide (¬ nT (v (od i)) < x2) && isRd x1 (v (od i))) n 0) ∧ cPic u.1 α cN cB v od ro bs se wr ac n rn sn kn z)) (fun u t => mw G ncl (mA (va_up w o (some (aJ cJ 1 f0))) sz) (va_up u.1 o (some (aJ cJ 1 u.2))) t.heap ∧ va_K G ncl ((cN, .object nR_N) :: (cB, .byte) :: (cI, .int) :: (cJ, .long) :: ty3) t) (mA (va_up w o (some (aJ cJ 1 f0))) sz)) 1 6 (mA (va_up w o (some (aJ cJ 1 f0))) sz) := by
  refine va_MetW (cc := c_W_reading) (maxL := 5) (ret := (some .int)) (hh := [(0, 10, 13, 19), (0, 10, 17, 21), (0, 10, 21, 27)]) (by decide) rfl ?_
  intro p e s m args below meth c s₁ B hml hv
  obtain ⟨rfl, hsz, hM0, hK, hE, hN⟩ := hv
  have hx := B.exec
  have hb := B.bytes
  have hr := B.returns
  have hts := atoms_spec (ws := (ww y_W_reading c_W_reading 5 (some .int) [(0, 10, 13, 19), (0, 10, 17, 21), (0, 10, 21, 27)])) B.pre
  have hta : ∀ w ∈ AL, w.before _ s = true := fun w h => hts w (List.mem_cons_of_mem _ h)
  have htab : c.exceptionTable.toList = tableOf [(0, 10, 13, 19), (0, 10, 17, 21), (0, 10, 21, 27)] := vx_table (x := y_W_reading) B (hts _ List.mem_cons_self)
  have hown : s.vm.findClass nR_W = some m.cls := findClass_of_methodNamed B.named
  have hlocks := B.notSynchronized
  have hl := lv_entry ([.ref (α 0), .int x1, .int x2, .ref o]) (n := 5) (Nat.le_of_ble_eq_true rfl)
  rw [lg_entry_eq]
  generalize (lg_sl ([.ref (α 0), .int x1, .int x2, .ref o]) ++ List.replicate (5 - (lg_sl ([.ref (α 0), .int x1, .int x2, .ref o])).length) Slot.unset).toArray = ls at hl ⊢
  have hl : lv_has ls 5 [(0, .ref (α 0)), (1, .int x1), (2, .int x2), (3, .ref o)] := hl
  subst hsz
  have hM := mw_self (sz := s.heap.size) hM0
  clear hM0
  generalize hAe : mA (va_up w o (some (aJ cJ 1 f0))) s.heap.size = A at hM ⊢
  have hA : ∀ q : Nat, s.heap.size ≤ q → A q := fun q h => by rw [← hAe]; exact Or.inr h
  have hS : va_S A s.heap s.heap [] := va_S.rf
  have hMw := mw_sub hM ho
  have hF := mw_free hMw hS hA
  obtain ⟨Cc, hCc⟩ : ∃ z9 : Nat, z9 = gC (if ¬ x1 < 0 ∧ ¬ 10 ≤ x1 then 1 else 0) (if ¬ x2 < 0 ∧ ¬ se < x2 then 1 else 0) (if (lastP (fun i => decide (¬ x2 < nT (v (od i))) && isRd x1 (v (od i))) n).isSome = true ∧ (firstP (fun i => decide (¬ nT (v (od i)) < x2) && isRd x1 (v (od i))) n 0).isSome = true then 1 else 0) 1 := ⟨_, rfl⟩
  refine lv_aload_n hx hb d_W_reading_0 rfl (lv_at hl 3 rfl) ?_
  refine lv_iconst (v := 0) hx hb d_W_reading_1 (by decide) ?_
  refine lv_aload_n hx hb d_W_reading_2 rfl (lv_at hl 0 rfl) ?_
  refine lv_iload_n hx hb d_W_reading_3 rfl (lv_at hl 1 rfl) ?_
  refine lv_iload_n hx hb d_W_reading_4 rfl (lv_at hl 2 rfl) ?_
  refine x_callSi (vx_runV (As := [.int x1, .int x2]) (rest := [.int 0, .ref o]) ⟨hx, hb, hml, hown, hta⟩ (k_X_reading l hlt G cN cB ((cI, .int) :: (cJ, .long) :: ty3) w hα hcp hok x1 x2) (cV 2 hta aw_430 aw_1 aw_427 aw_428 aw_429 rfl rfl (by decide +kernel) ⟨Nat.le_of_ble_eq_true rfl, Nat.le_of_ble_eq_true rfl⟩) (pX_V hK hMw hE rfl hcp.1) rfl rfl hl.1 rfl (lv_room (Nat.le_of_ble_eq_true rfl)) d_W_reading_5 ⟨Nat.le_of_ble_eq_true rfl, Nat.le_of_ble_eq_true rfl⟩) hS (fun q h => h.elim) (fun E ce q9 H1 locs1 hp9 hz9 hk9 hS9 hce hcv hcl => ?_) (fun r_1 locs hr_1 hS => ?_)
  · obtain ⟨hC9, hE9⟩ := hp9
    have hMk : mw G ncl A (va_up w o (some (aJ cJ 1 f0))) H1 := mw_kept hM hk9
    rcases gC_cases (if ¬ x1 < 0 ∧ ¬ 10 ≤ x1 then 1 else 0) (if ¬ x2 < 0 ∧ ¬ se < x2 then 1 else 0) (if (lastP (fun i => decide (¬ x2 < nT (v (od i))) && isRd x1 (v (od i))) n).isSome = true ∧ (firstP (fun i => decide (¬ nT (v (od i)) < x2) && isRd x1 (v (od i))) n 0).isSome = true then 1 else 0) 1 with hcc | hcc | hcc | hcc | hcc
    · exact absurd hcc hC9
    · rw [hcc.2] at hE9
      subst hE9
      refine vx_catch (name := "java/lang/IllegalArgumentException") (E := exN 1) hown [] ⟨0, 10, 13, 19⟩ [⟨0, 10, 17, 21⟩, ⟨0, 10, 21, 27⟩] (htab.trans rfl) (fun _ h => absurd h List.not_mem_nil) (by decide) (by decide) (hta _ aw_183) (va_Nw.use (nNG_t _ (ng_c 1 (by decide) (by decide))) (hE.2.2.2 _ (ng_c 1 (by decide) (by decide)))) hce hcv hcl ?_
      refine lv_astore (lv' := [(4, .ref q9), (0, .ref (α 0)), (1, .int x1), (2, .int x2), (3, .ref o)]) hx hb d_W_reading_13 hl (by decide) rfl (fun ls hl => ?_)
      refine lv_iconst (v := 1) hx hb d_W_reading_15 (by decide) ?_
      exact W.iret (v := 1) hx hb hr (fun t ht hW => ⟨⟨1, (w, f0), rfl, ⟨ho, by rw [hcc.2]; rfl, fun _ => hcp, fun q8 => absurd q8 hC9⟩, by rw [ht]; exact hMk, va_K.moved hW.alike hK⟩, hS9.F ht⟩) hS9.2.2 d_W_reading_16
    · rw [hcc.2] at hE9
      subst hE9
      refine vx_catch (name := "java/lang/IndexOutOfBoundsException") (E := exN 2) hown [⟨0, 10, 13, 19⟩] ⟨0, 10, 17, 21⟩ [⟨0, 10, 21, 27⟩] (htab.trans rfl) (List.forall_mem_cons.mpr ⟨Or.inr ⟨by decide, "java/lang/IllegalArgumentException", hta _ aw_183, hN 2 1 (by decide) (by decide) (by decide) (by decide) (by decide)⟩, (fun _ h => absurd h List.not_mem_nil)⟩) (by decide) (by decide) (hta _ aw_184) (va_Nw.use (nNG_t _ (ng_c 2 (by decide) (by decide))) (hE.2.2.2 _ (ng_c 2 (by decide) (by decide)))) hce hcv hcl ?_
      refine lv_astore (lv' := [(4, .ref q9), (0, .ref (α 0)), (1, .int x1), (2, .int x2), (3, .ref o)]) hx hb d_W_reading_17 hl (by decide) rfl (fun ls hl => ?_)
      refine lv_iconst (v := 2) hx hb d_W_reading_19 (by decide) ?_
      exact W.iret (v := 2) hx hb hr (fun t ht hW => ⟨⟨2, (w, f0), rfl, ⟨ho, by rw [hcc.2]; rfl, fun _ => hcp, fun q8 => absurd q8 hC9⟩, by rw [ht]; exact hMk, va_K.moved hW.alike hK⟩, hS9.F ht⟩) hS9.2.2 d_W_reading_20
    · rw [hcc.2] at hE9
      subst hE9
      refine vx_catch (name := "java/lang/IllegalStateException") (E := exN 3) hown [⟨0, 10, 13, 19⟩, ⟨0, 10, 17, 21⟩] ⟨0, 10, 21, 27⟩ [] (htab.trans rfl) (List.forall_mem_cons.mpr ⟨Or.inr ⟨by decide, "java/lang/IllegalArgumentException", hta _ aw_183, hN 3 1 (by decide) (by decide) (by decide) (by decide) (by decide)⟩, (List.forall_mem_cons.mpr ⟨Or.inr ⟨by decide, "java/lang/IndexOutOfBoundsException", hta _ aw_184, hN 3 2 (by decide) (by decide) (by decide) (by decide) (by decide)⟩, (fun _ h => absurd h List.not_mem_nil)⟩)⟩) (by decide) (by decide) (hta _ aw_335) (va_Nw.use (nNG_t _ (ng_c 3 (by decide) (by decide))) (hE.2.2.2 _ (ng_c 3 (by decide) (by decide)))) hce hcv hcl ?_
      refine lv_astore (lv' := [(4, .ref q9), (0, .ref (α 0)), (1, .int x1), (2, .int x2), (3, .ref o)]) hx hb d_W_reading_21 hl (by decide) rfl (fun ls hl => ?_)
      refine lv_iconst (v := 3) hx hb d_W_reading_23 (by decide) ?_
      exact W.iret (v := 3) hx hb hr (fun t ht hW => ⟨⟨3, (w, f0), rfl, ⟨ho, by rw [hcc.2]; rfl, fun _ => hcp, fun q8 => absurd q8 hC9⟩, by rw [ht]; exact hMk, va_K.moved hW.alike hK⟩, hS9.F ht⟩) hS9.2.2 d_W_reading_24
    · exact absurd hcc.1 (by decide)
  obtain ⟨hC0, hpo⟩ := hr_1
  refine lv_i2l hx hb d_W_reading_8 rfl ?_
  refine m_last hx hb hK hM hS 3 (va_up_self w o (some (aJ cJ 1 f0))) rfl (vp_in_nI (n := 0) (by decide) (by decide)) d_W_reading_9 (fun H locs hM hS => ?_)
  obtain ⟨w_2, hw_2⟩ : ∃ z9 : Nat → Option va_E, z9 = va_up (va_up w o (some (aJ cJ 1 f0))) o (some (.inl (cJ, 1, .inr (.inl (vp_updL f0 (0 : Int32).toNatClampNeg r_1.toInt64))))) := ⟨_, rfl⟩
  rw [← hw_2] at hM
  have k_3 : w_2 o = some (.inl (cJ, 1, .inr (.inl (vp_updL f0 (0 : Int32).toNatClampNeg r_1.toInt64)))) := by rw [hw_2, va_up_self]
  refine lv_goto (tgt := 25) hx hb d_W_reading_10 (by decide) ?_
  refine lv_iconst (v := 0) hx hb d_W_reading_25 (by decide) ?_
  have hM : mw G ncl A (va_up w o (some (aJ cJ 1 (vp_updL f0 (0 : Int32).toNatClampNeg r_1.toInt64)))) H := by rw [hw_2, va_up_up] at hM; exact hM
  refine W.widen (k := 1) (n := 6) (Nat.le_of_ble_eq_true rfl) (Nat.le_of_ble_eq_true rfl) ?_
  exact W.iret (v := 0) hx hb hr (fun t ht hW => ⟨⟨0, (w, (vp_updL f0 (0 : Int32).toNatClampNeg r_1.toInt64)), rfl, ⟨ho, by rw [hC0]; rfl, fun q8 => absurd hC0 q8, fun _ => ⟨r_1, updL_0 f0 _, hpo, hcp⟩⟩, by rw [ht]; exact hM, va_K.moved hW.alike hK⟩, hS.F ht⟩) hS.2.2 d_W_reading_26
set_option maxHeartbeats 4000000 in
set_option maxRecDepth 100000 in
theorem k_W_gap (l : Launch) (hlt : l.stackTraces = false) (G : va_G) (cN cB cI cJ : ClassId) (ty3 : List (ClassId × FieldType)) (w : Nat → Option va_E) {α : Nat → Nat} (hα : ∀ i j, i < 8 → j < 8 → α i = α j → i = j) {v : Nat → nV} {od ro : Nat → Nat} {bs : Nat → Int32} {se wr ac : Int32} {n rn sn : Nat} {kn z : Int32} (hcp : cPic w α cN cB v od ro bs se wr ac n rn sn kn z) (hok : cOk v od ro n rn sn) {o : Nat} (ho : w o = none) (f0 : Nat → Int64) (x1 x2 : Int32) (sz : Nat) : Met l y_W_gap (ww y_W_gap c_W_gap 5 (some .int) [(0, 10, 13, 21)]) ({ frames := 7, cells := 1, slots := 6, locals := 108 }) (pV G ((cN, .object nR_N) :: (cB, .byte) :: (cI, .int) :: (cJ, .long) :: ty3) (va_up w o (some (aJ cJ 1 f0))) sz [.ref (α 0), .int x1, .int x2, .ref o]) (va_Qi (fun (r0 : Int32) (u : (Nat → Option va_E) × (Nat → Int64)) => u.1 o = none ∧ r0 = nI (gT 2 (gC 1 (if (¬ x1 < 0 ∧ ¬ 99999 < x1) ∧ 0 ≤ x2 then 1 else 0) 1 1)) ∧ (¬ gC 1 (if (¬ x1 < 0 ∧ ¬ 99999 < x1) ∧ 0 ≤ x2 then 1 else 0) 1 1 = 0 → cPic u.1 α cN cB v od ro bs se wr ac n rn sn kn z) ∧ (gC 1 (if (¬ x1 < 0 ∧ ¬ 99999 < x1) ∧ 0 ≤ x2 then 1 else 0) 1 1 = 0 → ∃ r : Int32, u.2 0 = r.toInt64 ∧ r = gapN (fun i => v (od i)) x1 n 0 none x2 ∧ cPic u.1 α cN cB v od ro bs se wr ac n rn sn kn z)) (fun u t => mw G ncl (mA (va_up w o (some (aJ cJ 1 f0))) sz) (va_up u.1 o (some (aJ cJ 1 u.2))) t.heap ∧ va_K G ncl ((cN, .object nR_N) :: (cB, .byte) :: (cI, .int) :: (cJ, .long) :: ty3) t) (mA (va_up w o (some (aJ cJ 1 f0))) sz)) 1 6 (mA (va_up w o (some (aJ cJ 1 f0))) sz) := by
  refine va_MetW (cc := c_W_gap) (maxL := 5) (ret := (some .int)) (hh := [(0, 10, 13, 21)]) (by decide) rfl ?_
  intro p e s m args below meth c s₁ B hml hv
  obtain ⟨rfl, hsz, hM0, hK, hE, hN⟩ := hv
  have hx := B.exec
  have hb := B.bytes
  have hr := B.returns
  have hts := atoms_spec (ws := (ww y_W_gap c_W_gap 5 (some .int) [(0, 10, 13, 21)])) B.pre
  have hta : ∀ w ∈ AL, w.before _ s = true := fun w h => hts w (List.mem_cons_of_mem _ h)
  have htab : c.exceptionTable.toList = tableOf [(0, 10, 13, 21)] := vx_table (x := y_W_gap) B (hts _ List.mem_cons_self)
  have hown : s.vm.findClass nR_W = some m.cls := findClass_of_methodNamed B.named
  have hlocks := B.notSynchronized
  have hl := lv_entry ([.ref (α 0), .int x1, .int x2, .ref o]) (n := 5) (Nat.le_of_ble_eq_true rfl)
  rw [lg_entry_eq]
  generalize (lg_sl ([.ref (α 0), .int x1, .int x2, .ref o]) ++ List.replicate (5 - (lg_sl ([.ref (α 0), .int x1, .int x2, .ref o])).length) Slot.unset).toArray = ls at hl ⊢
  have hl : lv_has ls 5 [(0, .ref (α 0)), (1, .int x1), (2, .int x2), (3, .ref o)] := hl
  subst hsz
  have hM := mw_self (sz := s.heap.size) hM0
  clear hM0
  generalize hAe : mA (va_up w o (some (aJ cJ 1 f0))) s.heap.size = A at hM ⊢
  have hA : ∀ q : Nat, s.heap.size ≤ q → A q := fun q h => by rw [← hAe]; exact Or.inr h
  have hS : va_S A s.heap s.heap [] := va_S.rf
  have hMw := mw_sub hM ho
  have hF := mw_free hMw hS hA
  obtain ⟨Cc, hCc⟩ : ∃ z9 : Nat, z9 = gC 1 (if (¬ x1 < 0 ∧ ¬ 99999 < x1) ∧ 0 ≤ x2 then 1 else 0) 1 1 := ⟨_, rfl⟩
  refine lv_aload_n hx hb d_W_gap_0 rfl (lv_at hl 3 rfl) ?_
  refine lv_iconst (v := 0) hx hb d_W_gap_1 (by decide) ?_
  refine lv_aload_n hx hb d_W_gap_2 rfl (lv_at hl 0 rfl) ?_
  refine lv_iload_n hx hb d_W_gap_3 rfl (lv_at hl 1 rfl) ?_
  refine lv_iload_n hx hb d_W_gap_4 rfl (lv_at hl 2 rfl) ?_
  refine x_callSi (vx_runV (As := [.int x1, .int x2]) (rest := [.int 0, .ref o]) ⟨hx, hb, hml, hown, hta⟩ (k_X_gap l hlt G cN cB ((cI, .int) :: (cJ, .long) :: ty3) w hα hcp hok x1 x2) (cV 2 hta aw_458 aw_1 aw_455 aw_456 aw_457 rfl rfl (by decide +kernel) ⟨Nat.le_of_ble_eq_true rfl, Nat.le_of_ble_eq_true rfl⟩) (pX_V hK hMw hE rfl hcp.1) rfl rfl hl.1 rfl (lv_room (Nat.le_of_ble_eq_true rfl)) d_W_gap_5 ⟨Nat.le_of_ble_eq_true rfl, Nat.le_of_ble_eq_true rfl⟩) hS (fun q h => h.elim) (fun E ce q9 H1 locs1 hp9 hz9 hk9 hS9 hce hcv hcl => ?_) (fun r_1 locs hr_1 hS => ?_)
  · obtain ⟨hC9, hE9⟩ := hp9
    have hMk : mw G ncl A (va_up w o (some (aJ cJ 1 f0))) H1 := mw_kept hM hk9
    rcases gC_cases 1 (if (¬ x1 < 0 ∧ ¬ 99999 < x1) ∧ 0 ≤ x2 then 1 else 0) 1 1 with hcc | hcc | hcc | hcc | hcc
    · exact absurd hcc hC9
    · exact absurd hcc.1 (by decide)
    · rw [hcc.2] at hE9
      subst hE9
      refine vx_catch (name := "java/lang/IndexOutOfBoundsException") (E := exN 2) hown [] ⟨0, 10, 13, 21⟩ [] (htab.trans rfl) (fun _ h => absurd h List.not_mem_nil) (by decide) (by decide) (hta _ aw_184) (va_Nw.use (nNG_t _ (ng_c 2 (by decide) (by decide))) (hE.2.2.2 _ (ng_c 2 (by decide) (by decide)))) hce hcv hcl ?_
      refine lv_astore (lv' := [(4, .ref q9), (0, .ref (α 0)), (1, .int x1), (2, .int x2), (3, .ref o)]) hx hb d_W_gap_13 hl (by decide) rfl (fun ls hl => ?_)
      refine lv_iconst (v := 1) hx hb d_W_gap_15 (by decide) ?_
      exact W.iret (v := 1) hx hb hr (fun t ht hW => ⟨⟨1, (w, f0), rfl, ⟨ho, by rw [hcc.2]; rfl, fun _ => hcp, fun q8 => absurd q8 hC9⟩, by rw [ht]; exact hMk, va_K.moved hW.alike hK⟩, hS9.F ht⟩) hS9.2.2 d_W_gap_16
    · exact absurd hcc.1 (by decide)
    · exact absurd hcc.1 (by decide)
  obtain ⟨hC0, hpo⟩ := hr_1
  refine lv_i2l hx hb d_W_gap_8 rfl ?_
  refine m_last hx hb hK hM hS 3 (va_up_self w o (some (aJ cJ 1 f0))) rfl (vp_in_nI (n := 0) (by decide) (by decide)) d_W_gap_9 (fun H locs hM hS => ?_)
  obtain ⟨w_2, hw_2⟩ : ∃ z9 : Nat → Option va_E, z9 = va_up (va_up w o (some (aJ cJ 1 f0))) o (some (.inl (cJ, 1, .inr (.inl (vp_updL f0 (0 : Int32).toNatClampNeg r_1.toInt64))))) := ⟨_, rfl⟩
  rw [← hw_2] at hM
  have k_3 : w_2 o = some (.inl (cJ, 1, .inr (.inl (vp_updL f0 (0 : Int32).toNatClampNeg r_1.toInt64)))) := by rw [hw_2, va_up_self]
  refine lv_goto (tgt := 17) hx hb d_W_gap_10 (by decide) ?_
  refine lv_iconst (v := 0) hx hb d_W_gap_17 (by decide) ?_
  have hM : mw G ncl A (va_up w o (some (aJ cJ 1 (vp_updL f0 (0 : Int32).toNatClampNeg r_1.toInt64)))) H := by rw [hw_2, va_up_up] at hM; exact hM
  refine W.widen (k := 1) (n := 6) (Nat.le_of_ble_eq_true rfl) (Nat.le_of_ble_eq_true rfl) ?_
  exact W.iret (v := 0) hx hb hr (fun t ht hW => ⟨⟨0, (w, (vp_updL f0 (0 : Int32).toNatClampNeg r_1.toInt64)), rfl, ⟨ho, by rw [hC0]; rfl, fun q8 => absurd hC0 q8, fun _ => ⟨r_1, updL_0 f0 _, hpo, hcp⟩⟩, by rw [ht]; exact hM, va_K.moved hW.alike hK⟩, hS.F ht⟩) hS.2.2 d_W_gap_18
set_option maxHeartbeats 4000000 in
set_option maxRecDepth 100000 in
theorem k_W_digest (l : Launch) (hlt : l.stackTraces = false) (G : va_G) (cN cB cI cJ : ClassId) (ty3 : List (ClassId × FieldType)) (w : Nat → Option va_E) {α : Nat → Nat} (hα : ∀ i j, i < 8 → j < 8 → α i = α j → i = j) {v : Nat → nV} {od ro : Nat → Nat} {bs : Nat → Int32} {se wr ac : Int32} {n rn sn : Nat} {kn z : Int32} (hcp : cPic w α cN cB v od ro bs se wr ac n rn sn kn z) (hok : cOk v od ro n rn sn) {o : Nat} (ho : w o = none) (f0 : Nat → Int64) (x1 : Int32) (sz : Nat) : Met l y_W_digest (ww y_W_digest c_W_digest 4 (some .int) [(0, 9, 12, 19)]) ({ frames := 8, cells := 1, slots := 6, locals := 124 }) (pV G ((cN, .object nR_N) :: (cB, .byte) :: (cI, .int) :: (cJ, .long) :: ty3) (va_up w o (some (aJ cJ 1 f0))) sz [.ref (α 0), .int x1, .ref o]) (va_Qi (fun (r0 : Int32) (u : (Nat → Option va_E) × (Nat → Int64)) => u.1 o = none ∧ r0 = nI (gT 1 (gC (if ¬ x1 < 0 ∧ x1 < nI n then 1 else 0) 1 1 1)) ∧ (¬ gC (if ¬ x1 < 0 ∧ x1 < nI n then 1 else 0) 1 1 1 = 0 → cPic u.1 α cN cB v od ro bs se wr ac n rn sn kn z) ∧ (gC (if ¬ x1 < 0 ∧ x1 < nI n then 1 else 0) 1 1 1 = 0 → ∃ r : Int32, u.2 0 = r.toInt64 ∧ r = nMx (v x1.toNatClampNeg) ∧ cPic u.1 α cN cB v od ro bs se wr ac n rn sn kn z)) (fun u t => mw G ncl (mA (va_up w o (some (aJ cJ 1 f0))) sz) (va_up u.1 o (some (aJ cJ 1 u.2))) t.heap ∧ va_K G ncl ((cN, .object nR_N) :: (cB, .byte) :: (cI, .int) :: (cJ, .long) :: ty3) t) (mA (va_up w o (some (aJ cJ 1 f0))) sz)) 1 6 (mA (va_up w o (some (aJ cJ 1 f0))) sz) := by
  refine va_MetW (cc := c_W_digest) (maxL := 4) (ret := (some .int)) (hh := [(0, 9, 12, 19)]) (by decide) rfl ?_
  intro p e s m args below meth c s₁ B hml hv
  obtain ⟨rfl, hsz, hM0, hK, hE, hN⟩ := hv
  have hx := B.exec
  have hb := B.bytes
  have hr := B.returns
  have hts := atoms_spec (ws := (ww y_W_digest c_W_digest 4 (some .int) [(0, 9, 12, 19)])) B.pre
  have hta : ∀ w ∈ AL, w.before _ s = true := fun w h => hts w (List.mem_cons_of_mem _ h)
  have htab : c.exceptionTable.toList = tableOf [(0, 9, 12, 19)] := vx_table (x := y_W_digest) B (hts _ List.mem_cons_self)
  have hown : s.vm.findClass nR_W = some m.cls := findClass_of_methodNamed B.named
  have hlocks := B.notSynchronized
  have hl := lv_entry ([.ref (α 0), .int x1, .ref o]) (n := 4) (Nat.le_of_ble_eq_true rfl)
  rw [lg_entry_eq]
  generalize (lg_sl ([.ref (α 0), .int x1, .ref o]) ++ List.replicate (4 - (lg_sl ([.ref (α 0), .int x1, .ref o])).length) Slot.unset).toArray = ls at hl ⊢
  have hl : lv_has ls 4 [(0, .ref (α 0)), (1, .int x1), (2, .ref o)] := hl
  subst hsz
  have hM := mw_self (sz := s.heap.size) hM0
  clear hM0
  generalize hAe : mA (va_up w o (some (aJ cJ 1 f0))) s.heap.size = A at hM ⊢
  have hA : ∀ q : Nat, s.heap.size ≤ q → A q := fun q h => by rw [← hAe]; exact Or.inr h
  have hS : va_S A s.heap s.heap [] := va_S.rf
  have hMw := mw_sub hM ho
  have hF := mw_free hMw hS hA
  obtain ⟨Cc, hCc⟩ : ∃ z9 : Nat, z9 = gC (if ¬ x1 < 0 ∧ x1 < nI n then 1 else 0) 1 1 1 := ⟨_, rfl⟩
  refine lv_aload_n hx hb d_W_digest_0 rfl (lv_at hl 2 rfl) ?_
  refine lv_iconst (v := 0) hx hb d_W_digest_1 (by decide) ?_
  refine lv_aload_n hx hb d_W_digest_2 rfl (lv_at hl 0 rfl) ?_
  refine lv_iload_n hx hb d_W_digest_3 rfl (lv_at hl 1 rfl) ?_
  refine x_callSi (vx_runV (As := [.int x1]) (rest := [.int 0, .ref o]) ⟨hx, hb, hml, hown, hta⟩ (k_X_digest l hlt G cN cB ((cI, .int) :: (cJ, .long) :: ty3) w hα hcp hok x1) (cV 1 hta aw_467 aw_1 aw_464 aw_465 aw_466 rfl rfl (by decide +kernel) ⟨Nat.le_of_ble_eq_true rfl, Nat.le_of_ble_eq_true rfl⟩) (pX_V hK hMw hE rfl hcp.1) rfl rfl hl.1 rfl (lv_room (Nat.le_of_ble_eq_true rfl)) d_W_digest_4 ⟨Nat.le_of_ble_eq_true rfl, Nat.le_of_ble_eq_true rfl⟩) hS (fun q h => h.elim) (fun E ce q9 H1 locs1 hp9 hz9 hk9 hS9 hce hcv hcl => ?_) (fun r_1 locs hr_1 hS => ?_)
  · obtain ⟨hC9, hE9⟩ := hp9
    have hMk : mw G ncl A (va_up w o (some (aJ cJ 1 f0))) H1 := mw_kept hM hk9
    rcases gC_cases (if ¬ x1 < 0 ∧ x1 < nI n then 1 else 0) 1 1 1 with hcc | hcc | hcc | hcc | hcc
    · exact absurd hcc hC9
    · rw [hcc.2] at hE9
      subst hE9
      refine vx_catch (name := "java/lang/IllegalArgumentException") (E := exN 1) hown [] ⟨0, 9, 12, 19⟩ [] (htab.trans rfl) (fun _ h => absurd h List.not_mem_nil) (by decide) (by decide) (hta _ aw_183) (va_Nw.use (nNG_t _ (ng_c 1 (by decide) (by decide))) (hE.2.2.2 _ (ng_c 1 (by decide) (by decide)))) hce hcv hcl ?_
      refine lv_astore_n (lv' := [(3, .ref q9), (0, .ref (α 0)), (1, .int x1), (2, .ref o)]) hx hb d_W_digest_12 rfl hl (by decide) rfl (fun ls hl => ?_)
      refine lv_iconst (v := 1) hx hb d_W_digest_13 (by decide) ?_
      exact W.iret (v := 1) hx hb hr (fun t ht hW => ⟨⟨1, (w, f0), rfl, ⟨ho, by rw [hcc.2]; rfl, fun _ => hcp, fun q8 => absurd q8 hC9⟩, by rw [ht]; exact hMk, va_K.moved hW.alike hK⟩, hS9.F ht⟩) hS9.2.2 d_W_digest_14
    · exact absurd hcc.1 (by decide)
    · exact absurd hcc.1 (by decide)
    · exact absurd hcc.1 (by decide)
  obtain ⟨hC0, hpo⟩ := hr_1
  refine lv_i2l hx hb d_W_digest_7 rfl ?_
  refine m_last hx hb hK hM hS 3 (va_up_self w o (some (aJ cJ 1 f0))) rfl (vp_in_nI (n := 0) (by decide) (by decide)) d_W_digest_8 (fun H locs hM hS => ?_)
  obtain ⟨w_2, hw_2⟩ : ∃ z9 : Nat → Option va_E, z9 = va_up (va_up w o (some (aJ cJ 1 f0))) o (some (.inl (cJ, 1, .inr (.inl (vp_updL f0 (0 : Int32).toNatClampNeg r_1.toInt64))))) := ⟨_, rfl⟩
  rw [← hw_2] at hM
  have k_3 : w_2 o = some (.inl (cJ, 1, .inr (.inl (vp_updL f0 (0 : Int32).toNatClampNeg r_1.toInt64)))) := by rw [hw_2, va_up_self]
  refine lv_goto (tgt := 15) hx hb d_W_digest_9 (by decide) ?_
  refine lv_iconst (v := 0) hx hb d_W_digest_15 (by decide) ?_
  have hM : mw G ncl A (va_up w o (some (aJ cJ 1 (vp_updL f0 (0 : Int32).toNatClampNeg r_1.toInt64)))) H := by rw [hw_2, va_up_up] at hM; exact hM
  refine W.widen (k := 1) (n := 6) (Nat.le_of_ble_eq_true rfl) (Nat.le_of_ble_eq_true rfl) ?_
  exact W.iret (v := 0) hx hb hr (fun t ht hW => ⟨⟨0, (w, (vp_updL f0 (0 : Int32).toNatClampNeg r_1.toInt64)), rfl, ⟨ho, by rw [hC0]; rfl, fun q8 => absurd hC0 q8, fun _ => ⟨r_1, updL_0 f0 _, hpo, hcp⟩⟩, by rw [ht]; exact hM, va_K.moved hW.alike hK⟩, hS.F ht⟩) hS.2.2 d_W_digest_16
set_option maxHeartbeats 4000000 in
set_option maxRecDepth 100000 in
theorem k_W_noteAt (l : Launch) (hlt : l.stackTraces = false) (G : va_G) (cN cB cI cJ : ClassId) (ty3 : List (ClassId × FieldType)) (w : Nat → Option va_E) {α : Nat → Nat} (hα : ∀ i j, i < 8 → j < 8 → α i = α j → i = j) {v : Nat → nV} {od ro : Nat → Nat} {bs : Nat → Int32} {se wr ac : Int32} {n rn sn : Nat} {kn z : Int32} (hcp : cPic w α cN cB v od ro bs se wr ac n rn sn kn z) (hok : cOk v od ro n rn sn) {o : Nat} (ho : w o = none) (f0 : Nat → Int64) (x1 x2 : Int32) (sz : Nat) : Met l y_W_noteAt (ww y_W_noteAt c_W_noteAt 5 (some .int) [(0, 10, 13, 19)]) ({ frames := 8, cells := 2, slots := 12, locals := 126 }) (pV G ((cN, .object nR_N) :: (cB, .byte) :: (cI, .int) :: (cJ, .long) :: ty3) (va_up w o (some (aJ cJ 1 f0))) sz [.ref (α 0), .int x1, .int x2, .ref o]) (va_Qi (fun (r0 : Int32) (u : (Nat → Option va_E) × (Nat → Int64)) => u.1 o = none ∧ r0 = nI (gT 1 (gC (if (¬ x1 < 0 ∧ x1 < nI n) ∧ (¬ x2 < 0 ∧ ¬ 4 < x2) then 1 else 0) 1 1 1)) ∧ (¬ gC (if (¬ x1 < 0 ∧ x1 < nI n) ∧ (¬ x2 < 0 ∧ ¬ 4 < x2) then 1 else 0) 1 1 1 = 0 → cPic u.1 α cN cB v od ro bs se wr ac n rn sn kn z) ∧ (gC (if (¬ x1 < 0 ∧ x1 < nI n) ∧ (¬ x2 < 0 ∧ ¬ 4 < x2) then 1 else 0) 1 1 1 = 0 → ∃ r : Int32, u.2 0 = r.toInt64 ∧ r = (if x2 = 0 then (la (v x1.toNatClampNeg)).2.1 else if x2 = 1 then nAc (v x1.toNatClampNeg) else if x2 = 2 then (if (hd (nC (v x1.toNatClampNeg))).2.2.2 = 0 then 0 else 1) else if x2 = 3 then (hd (nC (v x1.toNatClampNeg))).2.2.1 else (la (v x1.toNatClampNeg)).2.2.1) ∧ cPic u.1 α cN cB v od ro bs se wr ac n rn sn kn z)) (fun u t => mw G ncl (mA (va_up w o (some (aJ cJ 1 f0))) sz) (va_up u.1 o (some (aJ cJ 1 u.2))) t.heap ∧ va_K G ncl ((cN, .object nR_N) :: (cB, .byte) :: (cI, .int) :: (cJ, .long) :: ty3) t) (mA (va_up w o (some (aJ cJ 1 f0))) sz)) 2 12 (mA (va_up w o (some (aJ cJ 1 f0))) sz) := by
  refine va_MetW (cc := c_W_noteAt) (maxL := 5) (ret := (some .int)) (hh := [(0, 10, 13, 19)]) (by decide) rfl ?_
  intro p e s m args below meth c s₁ B hml hv
  obtain ⟨rfl, hsz, hM0, hK, hE, hN⟩ := hv
  have hx := B.exec
  have hb := B.bytes
  have hr := B.returns
  have hts := atoms_spec (ws := (ww y_W_noteAt c_W_noteAt 5 (some .int) [(0, 10, 13, 19)])) B.pre
  have hta : ∀ w ∈ AL, w.before _ s = true := fun w h => hts w (List.mem_cons_of_mem _ h)
  have htab : c.exceptionTable.toList = tableOf [(0, 10, 13, 19)] := vx_table (x := y_W_noteAt) B (hts _ List.mem_cons_self)
  have hown : s.vm.findClass nR_W = some m.cls := findClass_of_methodNamed B.named
  have hlocks := B.notSynchronized
  have hl := lv_entry ([.ref (α 0), .int x1, .int x2, .ref o]) (n := 5) (Nat.le_of_ble_eq_true rfl)
  rw [lg_entry_eq]
  generalize (lg_sl ([.ref (α 0), .int x1, .int x2, .ref o]) ++ List.replicate (5 - (lg_sl ([.ref (α 0), .int x1, .int x2, .ref o])).length) Slot.unset).toArray = ls at hl ⊢
  have hl : lv_has ls 5 [(0, .ref (α 0)), (1, .int x1), (2, .int x2), (3, .ref o)] := hl
  subst hsz
  have hM := mw_self (sz := s.heap.size) hM0
  clear hM0
  generalize hAe : mA (va_up w o (some (aJ cJ 1 f0))) s.heap.size = A at hM ⊢
  have hA : ∀ q : Nat, s.heap.size ≤ q → A q := fun q h => by rw [← hAe]; exact Or.inr h
  have hS : va_S A s.heap s.heap [] := va_S.rf
  have hMw := mw_sub hM ho
  have hF := mw_free hMw hS hA
  obtain ⟨Cc, hCc⟩ : ∃ z9 : Nat, z9 = gC (if (¬ x1 < 0 ∧ x1 < nI n) ∧ (¬ x2 < 0 ∧ ¬ 4 < x2) then 1 else 0) 1 1 1 := ⟨_, rfl⟩
  refine lv_aload_n hx hb d_W_noteAt_0 rfl (lv_at hl 3 rfl) ?_
  refine lv_iconst (v := 0) hx hb d_W_noteAt_1 (by decide) ?_
  refine lv_aload_n hx hb d_W_noteAt_2 rfl (lv_at hl 0 rfl) ?_
  refine lv_iload_n hx hb d_W_noteAt_3 rfl (lv_at hl 1 rfl) ?_
  refine lv_iload_n hx hb d_W_noteAt_4 rfl (lv_at hl 2 rfl) ?_
  refine x_callSi (vx_runV (As := [.int x1, .int x2]) (rest := [.int 0, .ref o]) ⟨hx, hb, hml, hown, hta⟩ (k_X_noteAt l hlt G cN cB ((cI, .int) :: (cJ, .long) :: ty3) w hα hcp hok x1 x2) (cV 2 hta aw_474 aw_1 aw_471 aw_472 aw_473 rfl rfl (by decide +kernel) ⟨Nat.le_of_ble_eq_true rfl, Nat.le_of_ble_eq_true rfl⟩) (pX_V hK hMw hE rfl hcp.1) rfl rfl hl.1 rfl (lv_room (Nat.le_of_ble_eq_true rfl)) d_W_noteAt_5 ⟨Nat.le_of_ble_eq_true rfl, Nat.le_of_ble_eq_true rfl⟩) hS (fun q h => h.elim) (fun E ce q9 H1 locs1 hp9 hz9 hk9 hS9 hce hcv hcl => ?_) (fun r_1 locs hr_1 hS => ?_)
  · obtain ⟨hC9, hE9⟩ := hp9
    have hMk : mw G ncl A (va_up w o (some (aJ cJ 1 f0))) H1 := mw_kept hM hk9
    rcases gC_cases (if (¬ x1 < 0 ∧ x1 < nI n) ∧ (¬ x2 < 0 ∧ ¬ 4 < x2) then 1 else 0) 1 1 1 with hcc | hcc | hcc | hcc | hcc
    · exact absurd hcc hC9
    · rw [hcc.2] at hE9
      subst hE9
      refine vx_catch (name := "java/lang/IllegalArgumentException") (E := exN 1) hown [] ⟨0, 10, 13, 19⟩ [] (htab.trans rfl) (fun _ h => absurd h List.not_mem_nil) (by decide) (by decide) (hta _ aw_183) (va_Nw.use (nNG_t _ (ng_c 1 (by decide) (by decide))) (hE.2.2.2 _ (ng_c 1 (by decide) (by decide)))) hce hcv hcl ?_
      refine lv_astore (lv' := [(4, .ref q9), (0, .ref (α 0)), (1, .int x1), (2, .int x2), (3, .ref o)]) hx hb d_W_noteAt_13 hl (by decide) rfl (fun ls hl => ?_)
      refine lv_iconst (v := 1) hx hb d_W_noteAt_15 (by decide) ?_
      exact W.iret (v := 1) hx hb hr (fun t ht hW => ⟨⟨1, (w, f0), rfl, ⟨ho, by rw [hcc.2]; rfl, fun _ => hcp, fun q8 => absurd q8 hC9⟩, by rw [ht]; exact hMk, va_K.moved hW.alike hK⟩, hS9.F ht⟩) hS9.2.2 d_W_noteAt_16
    · exact absurd hcc.1 (by decide)
    · exact absurd hcc.1 (by decide)
    · exact absurd hcc.1 (by decide)
  obtain ⟨hC0, hpo⟩ := hr_1
  refine lv_i2l hx hb d_W_noteAt_8 rfl ?_
  refine m_last hx hb hK hM hS 3 (va_up_self w o (some (aJ cJ 1 f0))) rfl (vp_in_nI (n := 0) (by decide) (by decide)) d_W_noteAt_9 (fun H locs hM hS => ?_)
  obtain ⟨w_2, hw_2⟩ : ∃ z9 : Nat → Option va_E, z9 = va_up (va_up w o (some (aJ cJ 1 f0))) o (some (.inl (cJ, 1, .inr (.inl (vp_updL f0 (0 : Int32).toNatClampNeg r_1.toInt64))))) := ⟨_, rfl⟩
  rw [← hw_2] at hM
  have k_3 : w_2 o = some (.inl (cJ, 1, .inr (.inl (vp_updL f0 (0 : Int32).toNatClampNeg r_1.toInt64)))) := by rw [hw_2, va_up_self]
  refine lv_goto (tgt := 17) hx hb d_W_noteAt_10 (by decide) ?_
  refine lv_iconst (v := 0) hx hb d_W_noteAt_17 (by decide) ?_
  have hM : mw G ncl A (va_up w o (some (aJ cJ 1 (vp_updL f0 (0 : Int32).toNatClampNeg r_1.toInt64)))) H := by rw [hw_2, va_up_up] at hM; exact hM
  refine W.widen (k := 2) (n := 12) (Nat.le_of_ble_eq_true rfl) (Nat.le_of_ble_eq_true rfl) ?_
  exact W.iret (v := 0) hx hb hr (fun t ht hW => ⟨⟨0, (w, (vp_updL f0 (0 : Int32).toNatClampNeg r_1.toInt64)), rfl, ⟨ho, by rw [hC0]; rfl, fun q8 => absurd hC0 q8, fun _ => ⟨r_1, updL_0 f0 _, hpo, hcp⟩⟩, by rw [ht]; exact hM, va_K.moved hW.alike hK⟩, hS.F ht⟩) hS.2.2 d_W_noteAt_18
set_option maxHeartbeats 4000000 in
set_option maxRecDepth 100000 in
theorem k_W_print (l : Launch) (hlt : l.stackTraces = false) (G : va_G) (cN cB cI cJ : ClassId) (ty3 : List (ClassId × FieldType)) (w : Nat → Option va_E) {α : Nat → Nat} (hα : ∀ i j, i < 8 → j < 8 → α i = α j → i = j) {v : Nat → nV} {od ro : Nat → Nat} {bs : Nat → Int32} {se wr ac : Int32} {n rn sn : Nat} {kn z : Int32} (hcp : cPic w α cN cB v od ro bs se wr ac n rn sn kn z) (hok : cOk v od ro n rn sn) {o : Nat} (ho : w o = none) (f0 : Nat → Int64) (hrg : ∀ i, i < rn → rowOk (v (ro i)) kn) (hlen : (shtC (fun i => v (ro i)) kn rn).length ≤ 2005) (sz : Nat) : Met l y_W_print (ww y_W_print c_W_print 3 (some .int) [(0, 8, 11, 27)]) ({ frames := 7, cells := 1, slots := 6, locals := 109 }) (pV G ((cN, .object nR_N) :: (cB, .byte) :: (cI, .int) :: (cJ, .long) :: ty3) (va_up w o (some (aJ cJ 1 f0))) sz [.ref (α 0), .ref o]) (va_Qi (fun (r0 : Int32) (u : (Nat → Option va_E) × (Nat → Int64)) => u.1 o = none ∧ r0 = nI (gT 4 (gC 1 1 (if z = 0 then 0 else 1) 1)) ∧ (¬ gC 1 1 (if z = 0 then 0 else 1) 1 = 0 → cPic u.1 α cN cB v od ro bs se wr ac n rn sn kn z) ∧ (gC 1 1 (if z = 0 then 0 else 1) 1 = 0 → ∃ r : Int32, u.2 0 = r.toInt64 ∧ r = nI (shtC (fun i => v (ro i)) kn rn).length ∧ cPic u.1 α cN cB v od ro (apF bs 0 (shtC (fun i => v (ro i)) kn rn)) se wr ac n rn ((shtC (fun i => v (ro i)) kn rn).length) kn z)) (fun u t => mw G ncl (mA (va_up w o (some (aJ cJ 1 f0))) sz) (va_up u.1 o (some (aJ cJ 1 u.2))) t.heap ∧ va_K G ncl ((cN, .object nR_N) :: (cB, .byte) :: (cI, .int) :: (cJ, .long) :: ty3) t) (mA (va_up w o (some (aJ cJ 1 f0))) sz)) 1 6 (mA (va_up w o (some (aJ cJ 1 f0))) sz) := by
  refine va_MetW (cc := c_W_print) (maxL := 3) (ret := (some .int)) (hh := [(0, 8, 11, 27)]) (by decide) rfl ?_
  intro p e s m args below meth c s₁ B hml hv
  obtain ⟨rfl, hsz, hM0, hK, hE, hN⟩ := hv
  have hx := B.exec
  have hb := B.bytes
  have hr := B.returns
  have hts := atoms_spec (ws := (ww y_W_print c_W_print 3 (some .int) [(0, 8, 11, 27)])) B.pre
  have hta : ∀ w ∈ AL, w.before _ s = true := fun w h => hts w (List.mem_cons_of_mem _ h)
  have htab : c.exceptionTable.toList = tableOf [(0, 8, 11, 27)] := vx_table (x := y_W_print) B (hts _ List.mem_cons_self)
  have hown : s.vm.findClass nR_W = some m.cls := findClass_of_methodNamed B.named
  have hlocks := B.notSynchronized
  have hl := lv_entry ([.ref (α 0), .ref o]) (n := 3) (Nat.le_of_ble_eq_true rfl)
  rw [lg_entry_eq]
  generalize (lg_sl ([.ref (α 0), .ref o]) ++ List.replicate (3 - (lg_sl ([.ref (α 0), .ref o])).length) Slot.unset).toArray = ls at hl ⊢
  have hl : lv_has ls 3 [(0, .ref (α 0)), (1, .ref o)] := hl
  subst hsz
  have hM := mw_self (sz := s.heap.size) hM0
  clear hM0
  generalize hAe : mA (va_up w o (some (aJ cJ 1 f0))) s.heap.size = A at hM ⊢
  have hA : ∀ q : Nat, s.heap.size ≤ q → A q := fun q h => by rw [← hAe]; exact Or.inr h
  have hS : va_S A s.heap s.heap [] := va_S.rf
  have hMw := mw_sub hM ho
  have hF := mw_free hMw hS hA
  obtain ⟨Cc, hCc⟩ : ∃ z9 : Nat, z9 = gC 1 1 (if z = 0 then 0 else 1) 1 := ⟨_, rfl⟩
  refine lv_aload_n hx hb d_W_print_0 rfl (lv_at hl 1 rfl) ?_
  refine lv_iconst (v := 0) hx hb d_W_print_1 (by decide) ?_
  refine lv_aload_n hx hb d_W_print_2 rfl (lv_at hl 0 rfl) ?_
  refine x_callWi (vx_runV (As := []) (rest := [.int 0, .ref o]) ⟨hx, hb, hml, hown, hta⟩ (k_X_print l hlt G cN cB ((cI, .int) :: (cJ, .long) :: ty3) w hα hcp hok  hrg hlen _) (cV 0 hta aw_481 aw_1 aw_478 aw_479 aw_480 rfl rfl (by decide +kernel) ⟨Nat.le_of_ble_eq_true rfl, Nat.le_of_ble_eq_true rfl⟩) (pY_V hK hMw hE rfl hcp.1) rfl rfl hl.1 rfl (lv_room (Nat.le_of_ble_eq_true rfl)) d_W_print_3 ⟨Nat.le_of_ble_eq_true rfl, Nat.le_of_ble_eq_true rfl⟩) hS (fun q _ h => hF q h) hF (fun E ce q9 H1 locs1 hp9 hz9 hk9 hS9 hce hcv hcl => ?_) (fun r_1 u9 t H locs ht hvm hr_1 hB hz1 hk1 hS => ?_)
  · obtain ⟨hC9, hE9⟩ := hp9
    have hMk : mw G ncl A (va_up w o (some (aJ cJ 1 f0))) H1 := mw_kept hM hk9
    rcases gC_cases 1 1 (if z = 0 then 0 else 1) 1 with hcc | hcc | hcc | hcc | hcc
    · exact absurd hcc hC9
    · exact absurd hcc.1 (by decide)
    · exact absurd hcc.1 (by decide)
    · rw [hcc.2] at hE9
      subst hE9
      refine vx_catch (name := "java/lang/IllegalStateException") (E := exN 3) hown [] ⟨0, 8, 11, 27⟩ [] (htab.trans rfl) (fun _ h => absurd h List.not_mem_nil) (by decide) (by decide) (hta _ aw_335) (va_Nw.use (nNG_t _ (ng_c 3 (by decide) (by decide))) (hE.2.2.2 _ (ng_c 3 (by decide) (by decide)))) hce hcv hcl ?_
      refine lv_astore_n (lv' := [(2, .ref q9), (0, .ref (α 0)), (1, .ref o)]) hx hb d_W_print_11 rfl hl (by decide) rfl (fun ls hl => ?_)
      refine lv_iconst (v := 1) hx hb d_W_print_12 (by decide) ?_
      exact W.iret (v := 1) hx hb hr (fun t ht hW => ⟨⟨1, (w, f0), rfl, ⟨ho, by rw [hcc.2]; rfl, fun _ => hcp, fun q8 => absurd q8 hC9⟩, by rw [ht]; exact hMk, va_K.moved hW.alike hK⟩, hS9.F ht⟩) hS9.2.2 d_W_print_13
    · exact absurd hcc.1 (by decide)
  obtain ⟨hM1, hK1⟩ := hB
  rw [ht] at hM1
  obtain ⟨hM, hu9⟩ := mw_two hM ho hM1 hk1 hF
  obtain ⟨hC0, hpo⟩ := hr_1
  refine lv_i2l hx hb d_W_print_6 rfl ?_
  refine m_last hx hb hK hM hS 3 (va_up_self u9 o (some (aJ cJ 1 f0))) rfl (vp_in_nI (n := 0) (by decide) (by decide)) d_W_print_7 (fun H locs hM hS => ?_)
  obtain ⟨w_2, hw_2⟩ : ∃ z9 : Nat → Option va_E, z9 = va_up (va_up u9 o (some (aJ cJ 1 f0))) o (some (.inl (cJ, 1, .inr (.inl (vp_updL f0 (0 : Int32).toNatClampNeg r_1.toInt64))))) := ⟨_, rfl⟩
  rw [← hw_2] at hM
  have k_3 : w_2 o = some (.inl (cJ, 1, .inr (.inl (vp_updL f0 (0 : Int32).toNatClampNeg r_1.toInt64)))) := by rw [hw_2, va_up_self]
  refine lv_goto (tgt := 14) hx hb d_W_print_8 (by decide) ?_
  refine lv_iconst (v := 0) hx hb d_W_print_14 (by decide) ?_
  have hM : mw G ncl A (va_up u9 o (some (aJ cJ 1 (vp_updL f0 (0 : Int32).toNatClampNeg r_1.toInt64)))) H := by rw [hw_2, va_up_up] at hM; exact hM
  refine W.widen (k := 1) (n := 6) (Nat.le_of_ble_eq_true rfl) (Nat.le_of_ble_eq_true rfl) ?_
  exact W.iret (v := 0) hx hb hr (fun t ht hW => ⟨⟨0, (u9, (vp_updL f0 (0 : Int32).toNatClampNeg r_1.toInt64)), rfl, ⟨hu9, by rw [hC0]; rfl, fun q8 => absurd hC0 q8, fun _ => ⟨r_1, updL_0 f0 _, hpo⟩⟩, by rw [ht]; exact hM, va_K.moved hW.alike hK⟩, hS.F ht⟩) hS.2.2 d_W_print_15
set_option maxHeartbeats 4000000 in
set_option maxRecDepth 100000 in
theorem k_W_at (l : Launch) (hlt : l.stackTraces = false) (G : va_G) (cN cB cI cJ : ClassId) (ty3 : List (ClassId × FieldType)) (w : Nat → Option va_E) {α : Nat → Nat} (hα : ∀ i j, i < 8 → j < 8 → α i = α j → i = j) {v : Nat → nV} {od ro : Nat → Nat} {bs : Nat → Int32} {se wr ac : Int32} {n rn sn : Nat} {kn z : Int32} (hcp : cPic w α cN cB v od ro bs se wr ac n rn sn kn z) (hok : cOk v od ro n rn sn) {o : Nat} (ho : w o = none) (f0 : Nat → Int64) (x1 : Int32) (sz : Nat) : Met l y_W_at (ww y_W_at c_W_at 4 (some .int) [(0, 9, 12, 21)]) ({ frames := 7, cells := 1, slots := 6, locals := 103 }) (pV G ((cN, .object nR_N) :: (cB, .byte) :: (cI, .int) :: (cJ, .long) :: ty3) (va_up w o (some (aJ cJ 1 f0))) sz [.ref (α 0), .int x1, .ref o]) (va_Qi (fun (r0 : Int32) (u : (Nat → Option va_E) × (Nat → Int64)) => u.1 o = none ∧ r0 = nI (gT 2 (gC 1 (if 0 ≤ x1 then 1 else 0) 1 1)) ∧ (¬ gC 1 (if 0 ≤ x1 then 1 else 0) 1 1 = 0 → cPic u.1 α cN cB v od ro bs se wr ac n rn sn kn z) ∧ (gC 1 (if 0 ≤ x1 then 1 else 0) 1 1 = 0 → ∃ r : Int32, u.2 0 = r.toInt64 ∧ r = (if nI sn ≤ x1 then (-1) else bs x1.toNatClampNeg) ∧ cPic u.1 α cN cB v od ro bs se wr ac n rn sn kn z)) (fun u t => mw G ncl (mA (va_up w o (some (aJ cJ 1 f0))) sz) (va_up u.1 o (some (aJ cJ 1 u.2))) t.heap ∧ va_K G ncl ((cN, .object nR_N) :: (cB, .byte) :: (cI, .int) :: (cJ, .long) :: ty3) t) (mA (va_up w o (some (aJ cJ 1 f0))) sz)) 1 6 (mA (va_up w o (some (aJ cJ 1 f0))) sz) := by
  refine va_MetW (cc := c_W_at) (maxL := 4) (ret := (some .int)) (hh := [(0, 9, 12, 21)]) (by decide) rfl ?_
  intro p e s m args below meth c s₁ B hml hv
  obtain ⟨rfl, hsz, hM0, hK, hE, hN⟩ := hv
  have hx := B.exec
  have hb := B.bytes
  have hr := B.returns
  have hts := atoms_spec (ws := (ww y_W_at c_W_at 4 (some .int) [(0, 9, 12, 21)])) B.pre
  have hta : ∀ w ∈ AL, w.before _ s = true := fun w h => hts w (List.mem_cons_of_mem _ h)
  have htab : c.exceptionTable.toList = tableOf [(0, 9, 12, 21)] := vx_table (x := y_W_at) B (hts _ List.mem_cons_self)
  have hown : s.vm.findClass nR_W = some m.cls := findClass_of_methodNamed B.named
  have hlocks := B.notSynchronized
  have hl := lv_entry ([.ref (α 0), .int x1, .ref o]) (n := 4) (Nat.le_of_ble_eq_true rfl)
  rw [lg_entry_eq]
  generalize (lg_sl ([.ref (α 0), .int x1, .ref o]) ++ List.replicate (4 - (lg_sl ([.ref (α 0), .int x1, .ref o])).length) Slot.unset).toArray = ls at hl ⊢
  have hl : lv_has ls 4 [(0, .ref (α 0)), (1, .int x1), (2, .ref o)] := hl
  subst hsz
  have hM := mw_self (sz := s.heap.size) hM0
  clear hM0
  generalize hAe : mA (va_up w o (some (aJ cJ 1 f0))) s.heap.size = A at hM ⊢
  have hA : ∀ q : Nat, s.heap.size ≤ q → A q := fun q h => by rw [← hAe]; exact Or.inr h
  have hS : va_S A s.heap s.heap [] := va_S.rf
  have hMw := mw_sub hM ho
  have hF := mw_free hMw hS hA
  obtain ⟨Cc, hCc⟩ : ∃ z9 : Nat, z9 = gC 1 (if 0 ≤ x1 then 1 else 0) 1 1 := ⟨_, rfl⟩
  refine lv_aload_n hx hb d_W_at_0 rfl (lv_at hl 2 rfl) ?_
  refine lv_iconst (v := 0) hx hb d_W_at_1 (by decide) ?_
  refine lv_aload_n hx hb d_W_at_2 rfl (lv_at hl 0 rfl) ?_
  refine lv_iload_n hx hb d_W_at_3 rfl (lv_at hl 1 rfl) ?_
  refine x_callSi (vx_runV (As := [.int x1]) (rest := [.int 0, .ref o]) ⟨hx, hb, hml, hown, hta⟩ (k_X_at l hlt G cN cB ((cI, .int) :: (cJ, .long) :: ty3) w hα hcp hok x1) (cV 1 hta aw_512 aw_1 aw_509 aw_510 aw_511 rfl rfl (by decide +kernel) ⟨Nat.le_of_ble_eq_true rfl, Nat.le_of_ble_eq_true rfl⟩) (pX_V hK hMw hE rfl hcp.1) rfl rfl hl.1 rfl (lv_room (Nat.le_of_ble_eq_true rfl)) d_W_at_4 ⟨Nat.le_of_ble_eq_true rfl, Nat.le_of_ble_eq_true rfl⟩) hS (fun q h => h.elim) (fun E ce q9 H1 locs1 hp9 hz9 hk9 hS9 hce hcv hcl => ?_) (fun r_1 locs hr_1 hS => ?_)
  · obtain ⟨hC9, hE9⟩ := hp9
    have hMk : mw G ncl A (va_up w o (some (aJ cJ 1 f0))) H1 := mw_kept hM hk9
    rcases gC_cases 1 (if 0 ≤ x1 then 1 else 0) 1 1 with hcc | hcc | hcc | hcc | hcc
    · exact absurd hcc hC9
    · exact absurd hcc.1 (by decide)
    · rw [hcc.2] at hE9
      subst hE9
      refine vx_catch (name := "java/lang/IndexOutOfBoundsException") (E := exN 2) hown [] ⟨0, 9, 12, 21⟩ [] (htab.trans rfl) (fun _ h => absurd h List.not_mem_nil) (by decide) (by decide) (hta _ aw_184) (va_Nw.use (nNG_t _ (ng_c 2 (by decide) (by decide))) (hE.2.2.2 _ (ng_c 2 (by decide) (by decide)))) hce hcv hcl ?_
      refine lv_astore_n (lv' := [(3, .ref q9), (0, .ref (α 0)), (1, .int x1), (2, .ref o)]) hx hb d_W_at_12 rfl hl (by decide) rfl (fun ls hl => ?_)
      refine lv_iconst (v := 1) hx hb d_W_at_13 (by decide) ?_
      exact W.iret (v := 1) hx hb hr (fun t ht hW => ⟨⟨1, (w, f0), rfl, ⟨ho, by rw [hcc.2]; rfl, fun _ => hcp, fun q8 => absurd q8 hC9⟩, by rw [ht]; exact hMk, va_K.moved hW.alike hK⟩, hS9.F ht⟩) hS9.2.2 d_W_at_14
    · exact absurd hcc.1 (by decide)
    · exact absurd hcc.1 (by decide)
  obtain ⟨hC0, hpo⟩ := hr_1
  refine lv_i2l hx hb d_W_at_7 rfl ?_
  refine m_last hx hb hK hM hS 3 (va_up_self w o (some (aJ cJ 1 f0))) rfl (vp_in_nI (n := 0) (by decide) (by decide)) d_W_at_8 (fun H locs hM hS => ?_)
  obtain ⟨w_2, hw_2⟩ : ∃ z9 : Nat → Option va_E, z9 = va_up (va_up w o (some (aJ cJ 1 f0))) o (some (.inl (cJ, 1, .inr (.inl (vp_updL f0 (0 : Int32).toNatClampNeg r_1.toInt64))))) := ⟨_, rfl⟩
  rw [← hw_2] at hM
  have k_3 : w_2 o = some (.inl (cJ, 1, .inr (.inl (vp_updL f0 (0 : Int32).toNatClampNeg r_1.toInt64)))) := by rw [hw_2, va_up_self]
  refine lv_goto (tgt := 15) hx hb d_W_at_9 (by decide) ?_
  refine lv_iconst (v := 0) hx hb d_W_at_15 (by decide) ?_
  have hM : mw G ncl A (va_up w o (some (aJ cJ 1 (vp_updL f0 (0 : Int32).toNatClampNeg r_1.toInt64)))) H := by rw [hw_2, va_up_up] at hM; exact hM
  refine W.widen (k := 1) (n := 6) (Nat.le_of_ble_eq_true rfl) (Nat.le_of_ble_eq_true rfl) ?_
  exact W.iret (v := 0) hx hb hr (fun t ht hW => ⟨⟨0, (w, (vp_updL f0 (0 : Int32).toNatClampNeg r_1.toInt64)), rfl, ⟨ho, by rw [hC0]; rfl, fun q8 => absurd hC0 q8, fun _ => ⟨r_1, updL_0 f0 _, hpo, hcp⟩⟩, by rw [ht]; exact hM, va_K.moved hW.alike hK⟩, hS.F ht⟩) hS.2.2 d_W_at_16
set_option maxHeartbeats 4000000 in
set_option maxRecDepth 100000 in
theorem k_W_tick (l : Launch) (hlt : l.stackTraces = false) (G : va_G) (cN cB cI cJ : ClassId) (ty3 : List (ClassId × FieldType)) (w : Nat → Option va_E) {α : Nat → Nat} (hα : ∀ i j, i < 8 → j < 8 → α i = α j → i = j) {v : Nat → nV} {od ro : Nat → Nat} {bs : Nat → Int32} {se wr ac : Int32} {n rn sn : Nat} {kn z : Int32} (hcp : cPic w α cN cB v od ro bs se wr ac n rn sn kn z) (hok : cOk v od ro n rn sn) {o : Nat} (ho : w o = none) (f0 : Nat → Int64) (x1 : Int32) (sz : Nat) : Met l y_W_tick (ww y_W_tick c_W_tick 4 (some .int) [(0, 9, 12, 21)]) ({ frames := 7, cells := 1, slots := 6, locals := 103 }) (pV G ((cN, .object nR_N) :: (cB, .byte) :: (cI, .int) :: (cJ, .long) :: ty3) (va_up w o (some (aJ cJ 1 f0))) sz [.ref (α 0), .int x1, .ref o]) (va_Qi (fun (r0 : Int32) (u : (Nat → Option va_E) × (Nat → Int64)) => u.1 o = none ∧ r0 = nI (gT 2 (gC 1 (if (¬ x1 < 1 ∧ ¬ 5000 < x1) ∧ x1 ≤ 99999 - se then 1 else 0) 1 1)) ∧ (¬ gC 1 (if (¬ x1 < 1 ∧ ¬ 5000 < x1) ∧ x1 ≤ 99999 - se then 1 else 0) 1 1 = 0 → cPic u.1 α cN cB v od ro bs se wr ac n rn sn kn z) ∧ (gC 1 (if (¬ x1 < 1 ∧ ¬ 5000 < x1) ∧ x1 ≤ 99999 - se then 1 else 0) 1 1 = 0 → ∃ r : Int32, u.2 0 = r.toInt64 ∧ r = se + x1 ∧ cPic u.1 α cN cB v od ro bs (se + x1) wr ac n rn sn kn z)) (fun u t => mw G ncl (mA (va_up w o (some (aJ cJ 1 f0))) sz) (va_up u.1 o (some (aJ cJ 1 u.2))) t.heap ∧ va_K G ncl ((cN, .object nR_N) :: (cB, .byte) :: (cI, .int) :: (cJ, .long) :: ty3) t) (mA (va_up w o (some (aJ cJ 1 f0))) sz)) 1 6 (mA (va_up w o (some (aJ cJ 1 f0))) sz) := by
  refine va_MetW (cc := c_W_tick) (maxL := 4) (ret := (some .int)) (hh := [(0, 9, 12, 21)]) (by decide) rfl ?_
  intro p e s m args below meth c s₁ B hml hv
  obtain ⟨rfl, hsz, hM0, hK, hE, hN⟩ := hv
  have hx := B.exec
  have hb := B.bytes
  have hr := B.returns
  have hts := atoms_spec (ws := (ww y_W_tick c_W_tick 4 (some .int) [(0, 9, 12, 21)])) B.pre
  have hta : ∀ w ∈ AL, w.before _ s = true := fun w h => hts w (List.mem_cons_of_mem _ h)
  have htab : c.exceptionTable.toList = tableOf [(0, 9, 12, 21)] := vx_table (x := y_W_tick) B (hts _ List.mem_cons_self)
  have hown : s.vm.findClass nR_W = some m.cls := findClass_of_methodNamed B.named
  have hlocks := B.notSynchronized
  have hl := lv_entry ([.ref (α 0), .int x1, .ref o]) (n := 4) (Nat.le_of_ble_eq_true rfl)
  rw [lg_entry_eq]
  generalize (lg_sl ([.ref (α 0), .int x1, .ref o]) ++ List.replicate (4 - (lg_sl ([.ref (α 0), .int x1, .ref o])).length) Slot.unset).toArray = ls at hl ⊢
  have hl : lv_has ls 4 [(0, .ref (α 0)), (1, .int x1), (2, .ref o)] := hl
  subst hsz
  have hM := mw_self (sz := s.heap.size) hM0
  clear hM0
  generalize hAe : mA (va_up w o (some (aJ cJ 1 f0))) s.heap.size = A at hM ⊢
  have hA : ∀ q : Nat, s.heap.size ≤ q → A q := fun q h => by rw [← hAe]; exact Or.inr h
  have hS : va_S A s.heap s.heap [] := va_S.rf
  have hMw := mw_sub hM ho
  have hF := mw_free hMw hS hA
  obtain ⟨Cc, hCc⟩ : ∃ z9 : Nat, z9 = gC 1 (if (¬ x1 < 1 ∧ ¬ 5000 < x1) ∧ x1 ≤ 99999 - se then 1 else 0) 1 1 := ⟨_, rfl⟩
  refine lv_aload_n hx hb d_W_tick_0 rfl (lv_at hl 2 rfl) ?_
  refine lv_iconst (v := 0) hx hb d_W_tick_1 (by decide) ?_
  refine lv_aload_n hx hb d_W_tick_2 rfl (lv_at hl 0 rfl) ?_
  refine lv_iload_n hx hb d_W_tick_3 rfl (lv_at hl 1 rfl) ?_
  refine x_callWi (vx_runV (As := [.int x1]) (rest := [.int 0, .ref o]) ⟨hx, hb, hml, hown, hta⟩ (k_X_tick l hlt G cN cB ((cI, .int) :: (cJ, .long) :: ty3) w hα hcp hok x1 _) (cV 1 hta aw_520 aw_1 aw_517 aw_518 aw_519 rfl rfl (by decide +kernel) ⟨Nat.le_of_ble_eq_true rfl, Nat.le_of_ble_eq_true rfl⟩) (pY_V hK hMw hE rfl hcp.1) rfl rfl hl.1 rfl (lv_room (Nat.le_of_ble_eq_true rfl)) d_W_tick_4 ⟨Nat.le_of_ble_eq_true rfl, Nat.le_of_ble_eq_true rfl⟩) hS (fun q _ h => hF q h) hF (fun E ce q9 H1 locs1 hp9 hz9 hk9 hS9 hce hcv hcl => ?_) (fun r_1 u9 t H locs ht hvm hr_1 hB hz1 hk1 hS => ?_)
  · obtain ⟨hC9, hE9⟩ := hp9
    have hMk : mw G ncl A (va_up w o (some (aJ cJ 1 f0))) H1 := mw_kept hM hk9
    rcases gC_cases 1 (if (¬ x1 < 1 ∧ ¬ 5000 < x1) ∧ x1 ≤ 99999 - se then 1 else 0) 1 1 with hcc | hcc | hcc | hcc | hcc
    · exact absurd hcc hC9
    · exact absurd hcc.1 (by decide)
    · rw [hcc.2] at hE9
      subst hE9
      refine vx_catch (name := "java/lang/IndexOutOfBoundsException") (E := exN 2) hown [] ⟨0, 9, 12, 21⟩ [] (htab.trans rfl) (fun _ h => absurd h List.not_mem_nil) (by decide) (by decide) (hta _ aw_184) (va_Nw.use (nNG_t _ (ng_c 2 (by decide) (by decide))) (hE.2.2.2 _ (ng_c 2 (by decide) (by decide)))) hce hcv hcl ?_
      refine lv_astore_n (lv' := [(3, .ref q9), (0, .ref (α 0)), (1, .int x1), (2, .ref o)]) hx hb d_W_tick_12 rfl hl (by decide) rfl (fun ls hl => ?_)
      refine lv_iconst (v := 1) hx hb d_W_tick_13 (by decide) ?_
      exact W.iret (v := 1) hx hb hr (fun t ht hW => ⟨⟨1, (w, f0), rfl, ⟨ho, by rw [hcc.2]; rfl, fun _ => hcp, fun q8 => absurd q8 hC9⟩, by rw [ht]; exact hMk, va_K.moved hW.alike hK⟩, hS9.F ht⟩) hS9.2.2 d_W_tick_14
    · exact absurd hcc.1 (by decide)
    · exact absurd hcc.1 (by decide)
  obtain ⟨hM1, hK1⟩ := hB
  rw [ht] at hM1
  obtain ⟨hM, hu9⟩ := mw_two hM ho hM1 hk1 hF
  obtain ⟨hC0, hpo⟩ := hr_1
  refine lv_i2l hx hb d_W_tick_7 rfl ?_
  refine m_last hx hb hK hM hS 3 (va_up_self u9 o (some (aJ cJ 1 f0))) rfl (vp_in_nI (n := 0) (by decide) (by decide)) d_W_tick_8 (fun H locs hM hS => ?_)
  obtain ⟨w_2, hw_2⟩ : ∃ z9 : Nat → Option va_E, z9 = va_up (va_up u9 o (some (aJ cJ 1 f0))) o (some (.inl (cJ, 1, .inr (.inl (vp_updL f0 (0 : Int32).toNatClampNeg r_1.toInt64))))) := ⟨_, rfl⟩
  rw [← hw_2] at hM
  have k_3 : w_2 o = some (.inl (cJ, 1, .inr (.inl (vp_updL f0 (0 : Int32).toNatClampNeg r_1.toInt64)))) := by rw [hw_2, va_up_self]
  refine lv_goto (tgt := 15) hx hb d_W_tick_9 (by decide) ?_
  refine lv_iconst (v := 0) hx hb d_W_tick_15 (by decide) ?_
  have hM : mw G ncl A (va_up u9 o (some (aJ cJ 1 (vp_updL f0 (0 : Int32).toNatClampNeg r_1.toInt64)))) H := by rw [hw_2, va_up_up] at hM; exact hM
  refine W.widen (k := 1) (n := 6) (Nat.le_of_ble_eq_true rfl) (Nat.le_of_ble_eq_true rfl) ?_
  exact W.iret (v := 0) hx hb hr (fun t ht hW => ⟨⟨0, (u9, (vp_updL f0 (0 : Int32).toNatClampNeg r_1.toInt64)), rfl, ⟨hu9, by rw [hC0]; rfl, fun q8 => absurd hC0 q8, fun _ => ⟨r_1, updL_0 f0 _, hpo⟩⟩, by rw [ht]; exact hM, va_K.moved hW.alike hK⟩, hS.F ht⟩) hS.2.2 d_W_tick_16
set_option maxHeartbeats 4000000 in
set_option maxRecDepth 100000 in
theorem k_W_count (l : Launch) (hlt : l.stackTraces = false) (G : va_G) (cN cB cI cJ : ClassId) (ty3 : List (ClassId × FieldType)) (w : Nat → Option va_E) {α : Nat → Nat} (hα : ∀ i j, i < 8 → j < 8 → α i = α j → i = j) {v : Nat → nV} {od ro : Nat → Nat} {bs : Nat → Int32} {se wr ac : Int32} {n rn sn : Nat} {kn z : Int32} (hcp : cPic w α cN cB v od ro bs se wr ac n rn sn kn z) (hok : cOk v od ro n rn sn) {o : Nat} (ho : w o = none) (f0 : Nat → Int64) (x1 : Int32) (sz : Nat) : Met l y_W_count (ww y_W_count c_W_count 4 (some .int) [(0, 9, 12, 19)]) ({ frames := 7, cells := 1, slots := 6, locals := 103 }) (pV G ((cN, .object nR_N) :: (cB, .byte) :: (cI, .int) :: (cJ, .long) :: ty3) (va_up w o (some (aJ cJ 1 f0))) sz [.ref (α 0), .int x1, .ref o]) (va_Qi (fun (r0 : Int32) (u : (Nat → Option va_E) × (Nat → Int64)) => u.1 o = none ∧ r0 = nI (gT 1 (gC (if ¬ x1 < 0 ∧ ¬ 4 < x1 then 1 else 0) 1 1 1)) ∧ (¬ gC (if ¬ x1 < 0 ∧ ¬ 4 < x1 then 1 else 0) 1 1 1 = 0 → cPic u.1 α cN cB v od ro bs se wr ac n rn sn kn z) ∧ (gC (if ¬ x1 < 0 ∧ ¬ 4 < x1 then 1 else 0) 1 1 1 = 0 → ∃ r : Int32, u.2 0 = r.toInt64 ∧ r = (if x1 = 0 then wr else if x1 = 1 then nI n else if x1 = 2 then ac else if x1 = 3 then nI (cntP (fun i => decide (¬ (hd (nC (v i))).2.2.2 = 0)) n) else nI (cntP (fun i => decide (¬ (la (v i)).2.1 ≤ nT (v i))) n)) ∧ cPic u.1 α cN cB v od ro bs se wr ac n rn sn kn z)) (fun u t => mw G ncl (mA (va_up w o (some (aJ cJ 1 f0))) sz) (va_up u.1 o (some (aJ cJ 1 u.2))) t.heap ∧ va_K G ncl ((cN, .object nR_N) :: (cB, .byte) :: (cI, .int) :: (cJ, .long) :: ty3) t) (mA (va_up w o (some (aJ cJ 1 f0))) sz)) 1 6 (mA (va_up w o (some (aJ cJ 1 f0))) sz) := by
  refine va_MetW (cc := c_W_count) (maxL := 4) (ret := (some .int)) (hh := [(0, 9, 12, 19)]) (by decide) rfl ?_
  intro p e s m args below meth c s₁ B hml hv
  obtain ⟨rfl, hsz, hM0, hK, hE, hN⟩ := hv
  have hx := B.exec
  have hb := B.bytes
  have hr := B.returns
  have hts := atoms_spec (ws := (ww y_W_count c_W_count 4 (some .int) [(0, 9, 12, 19)])) B.pre
  have hta : ∀ w ∈ AL, w.before _ s = true := fun w h => hts w (List.mem_cons_of_mem _ h)
  have htab : c.exceptionTable.toList = tableOf [(0, 9, 12, 19)] := vx_table (x := y_W_count) B (hts _ List.mem_cons_self)
  have hown : s.vm.findClass nR_W = some m.cls := findClass_of_methodNamed B.named
  have hlocks := B.notSynchronized
  have hl := lv_entry ([.ref (α 0), .int x1, .ref o]) (n := 4) (Nat.le_of_ble_eq_true rfl)
  rw [lg_entry_eq]
  generalize (lg_sl ([.ref (α 0), .int x1, .ref o]) ++ List.replicate (4 - (lg_sl ([.ref (α 0), .int x1, .ref o])).length) Slot.unset).toArray = ls at hl ⊢
  have hl : lv_has ls 4 [(0, .ref (α 0)), (1, .int x1), (2, .ref o)] := hl
  subst hsz
  have hM := mw_self (sz := s.heap.size) hM0
  clear hM0
  generalize hAe : mA (va_up w o (some (aJ cJ 1 f0))) s.heap.size = A at hM ⊢
  have hA : ∀ q : Nat, s.heap.size ≤ q → A q := fun q h => by rw [← hAe]; exact Or.inr h
  have hS : va_S A s.heap s.heap [] := va_S.rf
  have hMw := mw_sub hM ho
  have hF := mw_free hMw hS hA
  obtain ⟨Cc, hCc⟩ : ∃ z9 : Nat, z9 = gC (if ¬ x1 < 0 ∧ ¬ 4 < x1 then 1 else 0) 1 1 1 := ⟨_, rfl⟩
  refine lv_aload_n hx hb d_W_count_0 rfl (lv_at hl 2 rfl) ?_
  refine lv_iconst (v := 0) hx hb d_W_count_1 (by decide) ?_
  refine lv_aload_n hx hb d_W_count_2 rfl (lv_at hl 0 rfl) ?_
  refine lv_iload_n hx hb d_W_count_3 rfl (lv_at hl 1 rfl) ?_
  refine x_callSi (vx_runV (As := [.int x1]) (rest := [.int 0, .ref o]) ⟨hx, hb, hml, hown, hta⟩ (k_X_count l hlt G cN cB ((cI, .int) :: (cJ, .long) :: ty3) w hα hcp hok x1) (cV 1 hta aw_528 aw_1 aw_525 aw_526 aw_527 rfl rfl (by decide +kernel) ⟨Nat.le_of_ble_eq_true rfl, Nat.le_of_ble_eq_true rfl⟩) (pX_V hK hMw hE rfl hcp.1) rfl rfl hl.1 rfl (lv_room (Nat.le_of_ble_eq_true rfl)) d_W_count_4 ⟨Nat.le_of_ble_eq_true rfl, Nat.le_of_ble_eq_true rfl⟩) hS (fun q h => h.elim) (fun E ce q9 H1 locs1 hp9 hz9 hk9 hS9 hce hcv hcl => ?_) (fun r_1 locs hr_1 hS => ?_)
  · obtain ⟨hC9, hE9⟩ := hp9
    have hMk : mw G ncl A (va_up w o (some (aJ cJ 1 f0))) H1 := mw_kept hM hk9
    rcases gC_cases (if ¬ x1 < 0 ∧ ¬ 4 < x1 then 1 else 0) 1 1 1 with hcc | hcc | hcc | hcc | hcc
    · exact absurd hcc hC9
    · rw [hcc.2] at hE9
      subst hE9
      refine vx_catch (name := "java/lang/IllegalArgumentException") (E := exN 1) hown [] ⟨0, 9, 12, 19⟩ [] (htab.trans rfl) (fun _ h => absurd h List.not_mem_nil) (by decide) (by decide) (hta _ aw_183) (va_Nw.use (nNG_t _ (ng_c 1 (by decide) (by decide))) (hE.2.2.2 _ (ng_c 1 (by decide) (by decide)))) hce hcv hcl ?_
      refine lv_astore_n (lv' := [(3, .ref q9), (0, .ref (α 0)), (1, .int x1), (2, .ref o)]) hx hb d_W_count_12 rfl hl (by decide) rfl (fun ls hl => ?_)
      refine lv_iconst (v := 1) hx hb d_W_count_13 (by decide) ?_
      exact W.iret (v := 1) hx hb hr (fun t ht hW => ⟨⟨1, (w, f0), rfl, ⟨ho, by rw [hcc.2]; rfl, fun _ => hcp, fun q8 => absurd q8 hC9⟩, by rw [ht]; exact hMk, va_K.moved hW.alike hK⟩, hS9.F ht⟩) hS9.2.2 d_W_count_14
    · exact absurd hcc.1 (by decide)
    · exact absurd hcc.1 (by decide)
    · exact absurd hcc.1 (by decide)
  obtain ⟨hC0, hpo⟩ := hr_1
  refine lv_i2l hx hb d_W_count_7 rfl ?_
  refine m_last hx hb hK hM hS 3 (va_up_self w o (some (aJ cJ 1 f0))) rfl (vp_in_nI (n := 0) (by decide) (by decide)) d_W_count_8 (fun H locs hM hS => ?_)
  obtain ⟨w_2, hw_2⟩ : ∃ z9 : Nat → Option va_E, z9 = va_up (va_up w o (some (aJ cJ 1 f0))) o (some (.inl (cJ, 1, .inr (.inl (vp_updL f0 (0 : Int32).toNatClampNeg r_1.toInt64))))) := ⟨_, rfl⟩
  rw [← hw_2] at hM
  have k_3 : w_2 o = some (.inl (cJ, 1, .inr (.inl (vp_updL f0 (0 : Int32).toNatClampNeg r_1.toInt64)))) := by rw [hw_2, va_up_self]
  refine lv_goto (tgt := 15) hx hb d_W_count_9 (by decide) ?_
  refine lv_iconst (v := 0) hx hb d_W_count_15 (by decide) ?_
  have hM : mw G ncl A (va_up w o (some (aJ cJ 1 (vp_updL f0 (0 : Int32).toNatClampNeg r_1.toInt64)))) H := by rw [hw_2, va_up_up] at hM; exact hM
  refine W.widen (k := 1) (n := 6) (Nat.le_of_ble_eq_true rfl) (Nat.le_of_ble_eq_true rfl) ?_
  exact W.iret (v := 0) hx hb hr (fun t ht hW => ⟨⟨0, (w, (vp_updL f0 (0 : Int32).toNatClampNeg r_1.toInt64)), rfl, ⟨ho, by rw [hC0]; rfl, fun q8 => absurd hC0 q8, fun _ => ⟨r_1, updL_0 f0 _, hpo, hcp⟩⟩, by rw [ht]; exact hM, va_K.moved hW.alike hK⟩, hS.F ht⟩) hS.2.2 d_W_count_16
