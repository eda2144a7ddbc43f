/-! the class: writer, tick, correct, strike -/
theorem ch_k {w u : Nat → Option va_E} (h5 : ∀ b fs, w b = some (.inr (5, fs)) → u b = w b) : ∀ (c : List cS4), ch w c → ch u c := by
  intro c
  induction c with
  | nil => intro _; trivial
  | cons a r ih => intro h; exact ⟨(h5 _ _ h.1).trans h.1, ih h.2⟩
theorem okN_k {w u : Nat → Option va_E} {v : nV} (h : okN w v) (h4 : u (nA v) = w (nA v)) (h5 : ∀ b fs, w b = some (.inr (5, fs)) → u b = w b) : okN u v := ⟨h.1, h4.trans h.2.1, ch_k h5 _ h.2.2⟩
/-- numbers in the object itself change -/
theorem cp_obj {w : Nat → Option va_E} {α : Nat → Nat} {cN cB : ClassId} {v : Nat → nV} {od ro : Nat → Nat} {bs : Nat → Int32} {se wr ac : Int32} {n rn sn : Nat} {kn z : Int32} (hα : ∀ i j, i < 8 → j < 8 → α i = α j → i = j) (h : cPic w α cN cB v od ro bs se wr ac n rn sn kn z) (se2 wr2 ac2 : Int32) :
    cPic (va_up w (α 0) (some (eX (α 1) (α 2) (α 3) se2 wr2 ac2))) α cN cB v od ro bs se2 wr2 ac2 n rn sn kn z := by
  obtain ⟨h0, h1, h2, h3, h7, ⟨fb, h4, hfb⟩, ⟨fi, h5, hfi⟩, ⟨fr, h6, hfr⟩, hN⟩ := h
  have hd : ∀ i, i < 8 → i ≠ 0 → α i ≠ α 0 := fun i hi hz q => hz (hα i 0 hi (by decide) q)
  refine ⟨va_up_self _ _ _, ?_, ?_, ?_, ?_, ⟨fb, ?_, hfb⟩, ⟨fi, ?_, hfi⟩, ⟨fr, ?_, hfr⟩, fun i hi => okN_k (hN i hi) (va_up_ne _ _ (m_ne (hN i hi).2.1 h0 (by intro h; cases h))) (fun b fs hb => va_up_ne _ _ (m_ne hb h0 (by intro h; cases h)))⟩
  · rw [va_up_ne _ _ (hd 1 (by decide) (by decide))]; exact h1
  · rw [va_up_ne _ _ (hd 2 (by decide) (by decide))]; exact h2
  · rw [va_up_ne _ _ (hd 3 (by decide) (by decide))]; exact h3
  · rw [va_up_ne _ _ (hd 7 (by decide) (by decide))]; exact h7
  · rw [va_up_ne _ _ (hd 4 (by decide) (by decide))]; exact h4
  · rw [va_up_ne _ _ (hd 5 (by decide) (by decide))]; exact h5
  · rw [va_up_ne _ _ (hd 6 (by decide) (by decide))]; exact h6
/-- a note with one act more -/
def nCor (v : nV) (a : Nat) (now x : Int32) : nV := (nA v, v.2.1, nF v, (nAc v + 1, nCo v + 1, mixv (nMx v) x), (a, now, x, (hd (nC v)).2.2.2) :: nC v)
def nStr (v : nV) (a : Nat) (now x : Int32) : nV := (nA v, v.2.1, nF v, (nAc v + 1, nCo v, nMx v), (a, now, (hd (nC v)).2.2.1, x) :: nC v)
theorem hd_h {c : List cS4} (h : c ≠ []) : c.head?.map Prod.fst = some (hd c).1 := by
  cases c with
  | nil => exact absurd rfl h
  | cons a r => rfl
/-- the picture with another record of the note j: a new state at q, the note's own cell, the object's -/
theorem cp_act {w u : Nat → Option va_E} {α : Nat → Nat} {cN cB : ClassId} {v : Nat → nV} {od ro : Nat → Nat} {bs : Nat → Int32} {se wr ac : Int32} {n rn sn : Nat} {kn z : Int32} (hα : ∀ i j, i < 8 → j < 8 → α i = α j → i = j) (h : cPic w α cN cB v od ro bs se wr ac n rn sn kn z) (hok : cOk v od ro n rn sn) {j : Nat} (hj : j < n) {q : Nat} (hq : w q = none) {fs gs : List Value} {ac2 : Int32} (hu : u = va_up (va_up (va_up w q (some (.inr (5, fs)))) (nA (v j)) (some (.inr (4, gs)))) (α 0) (some (eX (α 1) (α 2) (α 3) se wr ac2))) {v2 : nV} (hA : nA v2 = nA (v j)) (hv2 : nC v2 ≠ [] ∧ gs = [.int (nN v2), .int (nW v2), .int (nK v2), .int (nS v2), .int (nT v2), .ref (nF v2), .ref (hd (nC v2)).1, .int (nAc v2), .int (nCo v2), .int (nMx v2)]) (hc2 : ∃ c2 : cS4, nC v2 = c2 :: nC (v j) ∧ c2.1 = q ∧ fs = [.int c2.2.1, .int c2.2.2.1, .int c2.2.2.2, .ref (hd (nC (v j))).1]) :
    cPic u α cN cB (va_up v j v2) od ro bs se wr ac2 n rn sn kn z := by
  obtain ⟨h0, h1, h2, h3, h7, ⟨fb, h4, hfb⟩, ⟨fi, h5, hfi⟩, ⟨fr, h6, hfr⟩, hN⟩ := h
  obtain ⟨ok1, ok2, ok3, ok4, ok5, ok6⟩ := hok
  have hd0 : ∀ i, i < 8 → i ≠ 0 → α i ≠ α 0 := fun i hi hz q => hz (hα i 0 hi (by decide) q)
  have hvj := (hN j hj)
  have hk : ∀ (b : Nat) (e : va_E), w b = some e → b ≠ α 0 → b ≠ nA (v j) → u b = some e := fun b e hb n1 n2 => by rw [hu, va_up_ne _ _ n1, va_up_ne _ _ n2, va_up_ne _ _ (m_newne hb hq)]; exact hb
  have hnA : ∀ i, nA (va_up v j v2 i) = nA (v i) := fun i => by
    unfold va_up
    split
    · rename_i e; rw [e]; exact hA
    · rfl
  have h5k : ∀ b fs, w b = some (.inr (5, fs)) → u b = w b := fun b fs hb => by rw [hb]; exact hk b _ hb (m_ne hb h0 (by intro h; cases h)) (m_ne hb hvj.2.1 (by intro h; cases h))
  refine ⟨by rw [hu, va_up_self], hk _ _ h1 (hd0 1 (by decide) (by decide)) (m_ne h1 hvj.2.1 (by intro h; cases h)), hk _ _ h2 (hd0 2 (by decide) (by decide)) (m_ne h2 hvj.2.1 (by intro h; cases h)), hk _ _ h3 (hd0 3 (by decide) (by decide)) (m_ne h3 hvj.2.1 (by intro h; cases h)), hk _ _ h7 (hd0 7 (by decide) (by decide)) (m_ne h7 hvj.2.1 (by intro h; cases h)),
    ⟨fb, hk _ _ h4 (hd0 4 (by decide) (by decide)) (m_ne h4 hvj.2.1 (by intro h; cases h)), fun i hi => by rw [hnA]; exact hfb i hi⟩, ⟨fi, hk _ _ h5 (hd0 5 (by decide) (by decide)) (m_ne h5 hvj.2.1 (by intro h; cases h)), fun i hi => by rw [hnA]; exact hfi i hi⟩, ⟨fr, hk _ _ h6 (hd0 6 (by decide) (by decide)) (m_ne h6 hvj.2.1 (by intro h; cases h)), fun i hi => by rw [hnA]; exact hfr i hi⟩, fun i hi => ?_⟩
  by_cases hij : i = j
  · subst hij
    rw [va_up_self]
    obtain ⟨c2, e1, e2, e3⟩ := hc2
    refine ⟨hv2.1, ?_, ?_⟩
    · rw [hA, hu, va_up_ne _ _ (m_ne hvj.2.1 h0 (by intro h; cases h)), va_up_self, hv2.2]
    · rw [e1]
      refine ⟨?_, ch_k h5k _ hvj.2.2⟩
      rw [e2, hu, va_up_ne _ _ (Ne.symm (m_newne h0 hq)), va_up_ne _ _ (Ne.symm (m_newne hvj.2.1 hq)), va_up_self, e3, hd_h hvj.1]
      rfl
  · rw [va_up_ne _ _ hij]
    have hvi := hN i hi
    refine okN_k hvi ?_ h5k
    rw [hvi.2.1]
    refine hk _ _ hvi.2.1 (m_ne hvi.2.1 h0 (by intro h; cases h)) (m_ne hvi.2.1 hvj.2.1 ?_)
    intro he
    have e9 : nN (v i) = nN (v j) := by
      have e8 := Sum.inr.inj he
      simp only [Prod.mk.injEq, List.cons.injEq, Value.int.injEq, true_and] at e8
      exact e8.1
    rw [(ok6 i hi).1, (ok6 j hj).1] at e9
    exact hij ((nI_eq (by omega) (by omega)).mp e9)
set_option maxHeartbeats 4000000 in
set_option maxRecDepth 100000 in
theorem k_X_writer (l : Launch) (hlt : l.stackTraces = false) (G : va_G) (cN cB : ClassId) (ty2 : List (ClassId × FieldType)) (w : Nat → Option va_E) {α : Nat → Nat} (hα : ∀ i j, i < 8 → j < 8 → α i = α j → i = j) {v : Nat → nV} {od ro : Nat → Nat} {bs : Nat → Int32} {se wr ac : Int32} {n rn sn : Nat} {kn z : Int32} (hcp : cPic w α cN cB v od ro bs se wr ac n rn sn kn z) (hok : cOk v od ro n rn sn) (sz : Nat) : vx_Met l y_X_writer (wm y_X_writer c_X_writer 1 (some .int)) ({ frames := 6, cells := 1, slots := 6, locals := 82 }) (va_Pc [.ref (α 0)] (fun U => U.heap.size = sz ∧ mw G ncl (fun _ => True) w U.heap ∧ va_K G ncl ((cN, .object nR_N) :: (cB, .byte) :: ty2) U ∧ xE U U.heap)) (va_Qi (fun (r0 : Int32) (u : Nat → Option va_E) => gC 1 1 1 (if wr < 10 then 1 else 0) = 0 ∧ r0 = wr + 1 - 1 ∧ cPic u α cN cB v od ro bs se (wr + 1) ac n rn sn kn z) (fun w2 t => mw G ncl (mA w sz) w2 t.heap ∧ va_K G ncl ((cN, .object nR_N) :: (cB, .byte) :: ty2) t) (mA w sz)) (x_K (fun E => ¬ gC 1 1 1 (if wr < 10 then 1 else 0) = 0 ∧ E = exN (gC 1 1 1 (if wr < 10 then 1 else 0)))) 1 6 (mA w sz) := by
  refine vx_ofW (cc := c_X_writer) (maxL := 1) (ret := (some .int)) (by decide) rfl ?_
  intro p e s m args below meth c s₁ B hml hnx hv
  obtain ⟨rfl, hsz, hM0, hK, hE⟩ := hv
  have hx := B.exec
  have hb := B.bytes
  have hr := B.returns
  have hts := atoms_spec (ws := (wm y_X_writer c_X_writer 1 (some .int))) B.pre
  have hta : ∀ w ∈ AL, w.before _ s = true := fun w h => hts w (List.mem_cons_of_mem _ h)
  have hown : s.vm.findClass nR_X = some m.cls := findClass_of_methodNamed B.named
  have hlocks := B.notSynchronized
  have hl := lv_entry ([.ref (α 0)]) (n := 1) (Nat.le_of_ble_eq_true rfl)
  rw [lg_entry_eq]
  generalize (lg_sl ([.ref (α 0)]) ++ List.replicate (1 - (lg_sl ([.ref (α 0)])).length) Slot.unset).toArray = ls at hl ⊢
  have hl : lv_has ls 1 [(0, .ref (α 0))] := hl
  subst hsz
  have hM := mw_self (sz := s.heap.size) hM0
  clear hM0
  generalize hAe : mA w s.heap.size = A at hM hE ⊢
  have hA : ∀ q : Nat, s.heap.size ≤ q → A q := fun q h => by rw [← hAe]; exact Or.inr h
  have hS : va_S A s.heap s.heap [] := va_S.rf
  have hcp2 := hcp
  obtain ⟨h0, h1, h2, h3, h7, ⟨fb, h4, hfb⟩, ⟨fi, h5, hfi⟩, ⟨fr, h6, hfr⟩, hN⟩ := hcp2
  obtain ⟨ok1, ok2, ok3, ok4, ok5, ok6⟩ := hok
  have hS0 : va_S (fun _ => False) s.heap s.heap [] := va_S.rf
  refine lv_aload_n hx hb d_X_writer_0 rfl (lv_at hl 0 rfl) ?_
  refine m_get (D := G) (ci := 0) (v := .int wr) (C := nR_X) (T := nT_X) (N := 6) hx hb hta in_X hown hK hM h0 rfl 4 (by decide) (hta _ aw_89) (fun _ h9 => h9) rfl d_X_writer_1 ?_
  refine lv_bipush (v := 10) hx hb d_X_writer_4 (by decide) ?_
  refine lv_icmp_lt (tgt := 19) hx hb d_X_writer_6 (by decide) (fun c_1 => ?_) (fun c_1 => ?_)
  · refine lv_aload_n hx hb d_X_writer_19 rfl (lv_at hl 0 rfl) ?_
    refine lv_dup hx hb d_X_writer_20 rfl ?_
    refine m_get (D := G) (ci := 0) (v := .int wr) (C := nR_X) (T := nT_X) (N := 6) hx hb hta in_X hown hK hM h0 rfl 4 (by decide) (hta _ aw_89) (fun _ h9 => h9) rfl d_X_writer_21 ?_
    refine lv_iconst (v := 1) hx hb d_X_writer_24 (by decide) ?_
    refine lv_iadd hx hb d_X_writer_25 ?_
    refine m_put (D := G) (ci := 0) (v := .int (wr + 1)) (ty := .int) (C := nR_X) (T := nT_X) (N := 6) hx hb hta in_X nt_X nt_X_ok nn_X hown hK hM hS h0 rfl 4 (by decide) (hta _ aw_89) (fun _ h9 => h9) rfl (by decide +kernel) rfl rfl (Nat.le_of_ble_eq_true rfl) d_X_writer_26 (fs' := [.ref (α 1), .ref (α 2), .ref (α 3), .int se, .int (wr + 1), .int ac]) rfl (fun H locs hM hS => ?_)
    obtain ⟨w_2, hw_2⟩ : ∃ z9 : Nat → Option va_E, z9 = va_up w (α 0) (some (.inr (0, [.ref (α 1), .ref (α 2), .ref (α 3), .int se, .int (wr + 1), .int ac]))) := ⟨_, rfl⟩
    rw [← hw_2] at hM
    have k_3 : w_2 (α 0) = some (.inr (0, [.ref (α 1), .ref (α 2), .ref (α 3), .int se, .int (wr + 1), .int ac])) := by rw [hw_2, va_up_self]
    have k_4 : w_2 (α 1) = some (.inr (1, [.ref (α 4), .ref (α 5), .int (nI n)])) := by rw [hw_2, va_up_ne _ _ (fun q9 => absurd (hα 1 0 (by decide) (by decide) q9) (by decide))]; exact h1
    have k_5 : w_2 (α 2) = some (.inr (2, [.ref (α 6), .int (nI rn), .int kn, .int z])) := by rw [hw_2, va_up_ne _ _ (fun q9 => absurd (hα 2 0 (by decide) (by decide) q9) (by decide))]; exact h2
    have k_6 : w_2 (α 3) = some (.inr (3, [.ref (α 7), .int (nI sn)])) := by rw [hw_2, va_up_ne _ _ (fun q9 => absurd (hα 3 0 (by decide) (by decide) q9) (by decide))]; exact h3
    have k_7 : w_2 (α 4) = some (.inl (cN, 100, .inr (.inr (.inr (.inr fb))))) := by rw [hw_2, va_up_ne _ _ (fun q9 => absurd (hα 4 0 (by decide) (by decide) q9) (by decide))]; exact h4
    have k_8 : w_2 (α 5) = some (.inl (cN, 100, .inr (.inr (.inr (.inr fi))))) := by rw [hw_2, va_up_ne _ _ (fun q9 => absurd (hα 5 0 (by decide) (by decide) q9) (by decide))]; exact h5
    have k_9 : w_2 (α 6) = some (.inl (cN, 100, .inr (.inr (.inr (.inr fr))))) := by rw [hw_2, va_up_ne _ _ (fun q9 => absurd (hα 6 0 (by decide) (by decide) q9) (by decide))]; exact h6
    have k_10 : w_2 (α 7) = some (.inl (cB, 2005, .inl bs)) := by rw [hw_2, va_up_ne _ _ (fun q9 => absurd (hα 7 0 (by decide) (by decide) q9) (by decide))]; exact h7
    refine lv_aload_n hx hb d_X_writer_29 rfl (lv_at hl 0 rfl) ?_
    refine m_get (D := G) (ci := 0) (v := .int (wr + 1)) (C := nR_X) (T := nT_X) (N := 6) hx hb hta in_X hown hK hM k_3 rfl 4 (by decide) (hta _ aw_89) (fun _ h9 => h9) rfl d_X_writer_30 ?_
    refine lv_iconst (v := 1) hx hb d_X_writer_33 (by decide) ?_
    refine lv_isub hx hb d_X_writer_34 ?_
    refine vx_ret ?_
    refine W.widen (k := 1) (n := 6) (Nat.le_of_ble_eq_true rfl) (Nat.le_of_ble_eq_true rfl) ?_
    exact W.iret (v := (wr + 1) - 1) hx hb hr (fun t ht hW => ⟨⟨(wr + 1) - 1, w_2, rfl, ⟨by simp only [c_1, not_true_eq_false, not_false_eq_true, and_true, and_false, true_and, false_and, and_self, or_self, or_true, true_or, or_false, false_or, ↓reduceIte, g_1, g_2, g_3, g_4, g_0], ⟨rfl, (by rw [hw_2]; exact cp_obj hα hcp se (wr + 1) ac)⟩⟩, by rw [ht]; exact hM, va_K.moved hW.alike hK⟩, hS.F ht⟩) hS.2.2 d_X_writer_35
  · have hC : gC 1 1 1 (if wr < 10 then 1 else 0) = 4 := by simp only [c_1, not_true_eq_false, not_false_eq_true, and_true, and_false, true_and, false_and, and_self, or_self, or_true, true_or, or_false, false_or, ↓reduceIte, g_1, g_2, g_3, g_4, g_0]
    exact xt_U hx hb hlt hown hta hE "no room for a writer" (by decide) hS0 (hl.1.trans hml.symm) d_X_writer_9 d_X_writer_12 d_X_writer_13 d_X_writer_15 d_X_writer_18 hnx (Nat.le_of_ble_eq_true rfl) (Nat.le_of_ble_eq_true rfl) (Nat.le_of_ble_eq_true rfl) (Nat.le_of_ble_eq_true rfl) hlocks ⟨by rw [hC]; decide, by rw [hC]; rfl⟩ (Nat.le_of_ble_eq_true rfl) (Nat.le_of_ble_eq_true rfl)
set_option maxHeartbeats 4000000 in
set_option maxRecDepth 100000 in
theorem k_X_tick (l : Launch) (hlt : l.stackTraces = false) (G : va_G) (cN cB : ClassId) (ty2 : List (ClassId × FieldType)) (w : Nat → Option va_E) {α : Nat → Nat} (hα : ∀ i j, i < 8 → j < 8 → α i = α j → i = j) {v : Nat → nV} {od ro : Nat → Nat} {bs : Nat → Int32} {se wr ac : Int32} {n rn sn : Nat} {kn z : Int32} (hcp : cPic w α cN cB v od ro bs se wr ac n rn sn kn z) (hok : cOk v od ro n rn sn) (x1 : Int32) (sz : Nat) : vx_Met l y_X_tick (wm y_X_tick c_X_tick 2 (some .int)) ({ frames := 6, cells := 1, slots := 6, locals := 82 }) (va_Pc [.ref (α 0), .int x1] (fun U => U.heap.size = sz ∧ mw G ncl (fun _ => True) w U.heap ∧ va_K G ncl ((cN, .object nR_N) :: (cB, .byte) :: ty2) U ∧ xE U U.heap)) (va_Qi (fun (r0 : Int32) (u : Nat → Option va_E) => gC 1 (if (¬ x1 < 1 ∧ ¬ 5000 < x1) ∧ x1 ≤ 99999 - se then 1 else 0) 1 1 = 0 ∧ r0 = se + x1 ∧ cPic u α cN cB v od ro bs (se + x1) wr ac n rn sn kn z) (fun w2 t => mw G ncl (mA w sz) w2 t.heap ∧ va_K G ncl ((cN, .object nR_N) :: (cB, .byte) :: ty2) t) (mA w sz)) (x_K (fun E => ¬ gC 1 (if (¬ x1 < 1 ∧ ¬ 5000 < x1) ∧ x1 ≤ 99999 - se then 1 else 0) 1 1 = 0 ∧ E = exN (gC 1 (if (¬ x1 < 1 ∧ ¬ 5000 < x1) ∧ x1 ≤ 99999 - se then 1 else 0) 1 1))) 1 6 (mA w sz) := by
  refine vx_ofW (cc := c_X_tick) (maxL := 2) (ret := (some .int)) (by decide) rfl ?_
  intro p e s m args below meth c s₁ B hml hnx hv
  obtain ⟨rfl, hsz, hM0, hK, hE⟩ := hv
  have hx := B.exec
  have hb := B.bytes
  have hr := B.returns
  have hts := atoms_spec (ws := (wm y_X_tick c_X_tick 2 (some .int))) B.pre
  have hta : ∀ w ∈ AL, w.before _ s = true := fun w h => hts w (List.mem_cons_of_mem _ h)
  have hown : s.vm.findClass nR_X = some m.cls := findClass_of_methodNamed B.named
  have hlocks := B.notSynchronized
  have hl := lv_entry ([.ref (α 0), .int x1]) (n := 2) (Nat.le_of_ble_eq_true rfl)
  rw [lg_entry_eq]
  generalize (lg_sl ([.ref (α 0), .int x1]) ++ List.replicate (2 - (lg_sl ([.ref (α 0), .int x1])).length) Slot.unset).toArray = ls at hl ⊢
  have hl : lv_has ls 2 [(0, .ref (α 0)), (1, .int x1)] := hl
  subst hsz
  have hM := mw_self (sz := s.heap.size) hM0
  clear hM0
  generalize hAe : mA w s.heap.size = A at hM hE ⊢
  have hA : ∀ q : Nat, s.heap.size ≤ q → A q := fun q h => by rw [← hAe]; exact Or.inr h
  have hS : va_S A s.heap s.heap [] := va_S.rf
  have hcp2 := hcp
  obtain ⟨h0, h1, h2, h3, h7, ⟨fb, h4, hfb⟩, ⟨fi, h5, hfi⟩, ⟨fr, h6, hfr⟩, hN⟩ := hcp2
  obtain ⟨ok1, ok2, ok3, ok4, ok5, ok6⟩ := hok
  have hS0 : va_S (fun _ => False) s.heap s.heap [] := va_S.rf
  refine lv_iload_n hx hb d_X_tick_0 rfl (lv_at hl 1 rfl) ?_
  refine lv_iconst (v := 1) hx hb d_X_tick_1 (by decide) ?_
  refine lv_icmp_lt (tgt := 23) hx hb d_X_tick_2 (by decide) (fun c_1 => ?_) (fun c_1 => ?_)
  · have hC : gC 1 (if (¬ x1 < 1 ∧ ¬ 5000 < x1) ∧ x1 ≤ 99999 - se then 1 else 0) 1 1 = 2 := by simp only [c_1, not_true_eq_false, not_false_eq_true, and_true, and_false, true_and, false_and, and_self, or_self, or_true, true_or, or_false, false_or, ↓reduceIte, g_1, g_2, g_3, g_4, g_0]
    exact xt_I hx hb hlt hown hta hE "the seconds" (by decide) hS0 (hl.1.trans hml.symm) d_X_tick_23 d_X_tick_26 d_X_tick_27 d_X_tick_29 d_X_tick_32 hnx (Nat.le_of_ble_eq_true rfl) (Nat.le_of_ble_eq_true rfl) (Nat.le_of_ble_eq_true rfl) (Nat.le_of_ble_eq_true rfl) hlocks ⟨by rw [hC]; decide, by rw [hC]; rfl⟩ (Nat.le_of_ble_eq_true rfl) (Nat.le_of_ble_eq_true rfl)
  · refine lv_iload_n hx hb d_X_tick_5 rfl (lv_at hl 1 rfl) ?_
    refine lv_sipush (v := 5000) hx hb d_X_tick_6 (by decide) ?_
    refine lv_icmp_gt (tgt := 23) hx hb d_X_tick_9 (by decide) (fun c_2 => ?_) (fun c_2 => ?_)
    · have hC : gC 1 (if (¬ x1 < 1 ∧ ¬ 5000 < x1) ∧ x1 ≤ 99999 - se then 1 else 0) 1 1 = 2 := by simp only [c_1, c_2, not_true_eq_false, not_false_eq_true, and_true, and_false, true_and, false_and, and_self, or_self, or_true, true_or, or_false, false_or, ↓reduceIte, g_1, g_2, g_3, g_4, g_0]
      exact xt_I hx hb hlt hown hta hE "the seconds" (by decide) hS0 (hl.1.trans hml.symm) d_X_tick_23 d_X_tick_26 d_X_tick_27 d_X_tick_29 d_X_tick_32 hnx (Nat.le_of_ble_eq_true rfl) (Nat.le_of_ble_eq_true rfl) (Nat.le_of_ble_eq_true rfl) (Nat.le_of_ble_eq_true rfl) hlocks ⟨by rw [hC]; decide, by rw [hC]; rfl⟩ (Nat.le_of_ble_eq_true rfl) (Nat.le_of_ble_eq_true rfl)
    · refine lv_iload_n hx hb d_X_tick_12 rfl (lv_at hl 1 rfl) ?_
      refine lv_ldc (v := 99999) hx hb hown (hta _ aw_459) d_X_tick_13 ?_
      refine lv_aload_n hx hb d_X_tick_15 rfl (lv_at hl 0 rfl) ?_
      refine m_get (D := G) (ci := 0) (v := .int se) (C := nR_X) (T := nT_X) (N := 6) hx hb hta in_X hown hK hM h0 rfl 3 (by decide) (hta _ aw_88) (fun _ h9 => h9) rfl d_X_tick_16 ?_
      refine lv_isub hx hb d_X_tick_19 ?_
      refine lv_icmp_le (tgt := 33) hx hb d_X_tick_20 (by decide) (fun c_3 => ?_) (fun c_3 => ?_)
      · refine lv_aload_n hx hb d_X_tick_33 rfl (lv_at hl 0 rfl) ?_
        refine lv_dup hx hb d_X_tick_34 rfl ?_
        refine m_get (D := G) (ci := 0) (v := .int se) (C := nR_X) (T := nT_X) (N := 6) hx hb hta in_X hown hK hM h0 rfl 3 (by decide) (hta _ aw_88) (fun _ h9 => h9) rfl d_X_tick_35 ?_
        refine lv_iload_n hx hb d_X_tick_38 rfl (lv_at hl 1 rfl) ?_
        refine lv_iadd hx hb d_X_tick_39 ?_
        refine m_put (D := G) (ci := 0) (v := .int (se + x1)) (ty := .int) (C := nR_X) (T := nT_X) (N := 6) hx hb hta in_X nt_X nt_X_ok nn_X hown hK hM hS h0 rfl 3 (by decide) (hta _ aw_88) (fun _ h9 => h9) rfl (by decide +kernel) rfl rfl (Nat.le_of_ble_eq_true rfl) d_X_tick_40 (fs' := [.ref (α 1), .ref (α 2), .ref (α 3), .int (se + x1), .int wr, .int ac]) rfl (fun H locs hM hS => ?_)
        obtain ⟨w_4, hw_4⟩ : ∃ z9 : Nat → Option va_E, z9 = va_up w (α 0) (some (.inr (0, [.ref (α 1), .ref (α 2), .ref (α 3), .int (se + x1), .int wr, .int ac]))) := ⟨_, rfl⟩
        rw [← hw_4] at hM
        have k_5 : w_4 (α 0) = some (.inr (0, [.ref (α 1), .ref (α 2), .ref (α 3), .int (se + x1), .int wr, .int ac])) := by rw [hw_4, va_up_self]
        have k_6 : w_4 (α 1) = some (.inr (1, [.ref (α 4), .ref (α 5), .int (nI n)])) := by rw [hw_4, va_up_ne _ _ (fun q9 => absurd (hα 1 0 (by decide) (by decide) q9) (by decide))]; exact h1
        have k_7 : w_4 (α 2) = some (.inr (2, [.ref (α 6), .int (nI rn), .int kn, .int z])) := by rw [hw_4, va_up_ne _ _ (fun q9 => absurd (hα 2 0 (by decide) (by decide) q9) (by decide))]; exact h2
        have k_8 : w_4 (α 3) = some (.inr (3, [.ref (α 7), .int (nI sn)])) := by rw [hw_4, va_up_ne _ _ (fun q9 => absurd (hα 3 0 (by decide) (by decide) q9) (by decide))]; exact h3
        have k_9 : w_4 (α 4) = some (.inl (cN, 100, .inr (.inr (.inr (.inr fb))))) := by rw [hw_4, va_up_ne _ _ (fun q9 => absurd (hα 4 0 (by decide) (by decide) q9) (by decide))]; exact h4
        have k_10 : w_4 (α 5) = some (.inl (cN, 100, .inr (.inr (.inr (.inr fi))))) := by rw [hw_4, va_up_ne _ _ (fun q9 => absurd (hα 5 0 (by decide) (by decide) q9) (by decide))]; exact h5
        have k_11 : w_4 (α 6) = some (.inl (cN, 100, .inr (.inr (.inr (.inr fr))))) := by rw [hw_4, va_up_ne _ _ (fun q9 => absurd (hα 6 0 (by decide) (by decide) q9) (by decide))]; exact h6
        have k_12 : w_4 (α 7) = some (.inl (cB, 2005, .inl bs)) := by rw [hw_4, va_up_ne _ _ (fun q9 => absurd (hα 7 0 (by decide) (by decide) q9) (by decide))]; exact h7
        refine lv_aload_n hx hb d_X_tick_43 rfl (lv_at hl 0 rfl) ?_
        refine m_get (D := G) (ci := 0) (v := .int (se + x1)) (C := nR_X) (T := nT_X) (N := 6) hx hb hta in_X hown hK hM k_5 rfl 3 (by decide) (hta _ aw_88) (fun _ h9 => h9) rfl d_X_tick_44 ?_
        refine vx_ret ?_
        refine W.widen (k := 1) (n := 6) (Nat.le_of_ble_eq_true rfl) (Nat.le_of_ble_eq_true rfl) ?_
        exact W.iret (v := se + x1) hx hb hr (fun t ht hW => ⟨⟨se + x1, w_4, rfl, ⟨by simp only [c_1, c_2, c_3, not_true_eq_false, not_false_eq_true, and_true, and_false, true_and, false_and, and_self, or_self, or_true, true_or, or_false, false_or, ↓reduceIte, g_1, g_2, g_3, g_4, g_0], ⟨rfl, (by rw [hw_4]; exact cp_obj hα hcp (se + x1) wr ac)⟩⟩, by rw [ht]; exact hM, va_K.moved hW.alike hK⟩, hS.F ht⟩) hS.2.2 d_X_tick_47
      · have hC : gC 1 (if (¬ x1 < 1 ∧ ¬ 5000 < x1) ∧ x1 ≤ 99999 - se then 1 else 0) 1 1 = 2 := by simp only [c_1, c_2, c_3, not_true_eq_false, not_false_eq_true, and_true, and_false, true_and, false_and, and_self, or_self, or_true, true_or, or_false, false_or, ↓reduceIte, g_1, g_2, g_3, g_4, g_0]
        exact xt_I hx hb hlt hown hta hE "the seconds" (by decide) hS0 (hl.1.trans hml.symm) d_X_tick_23 d_X_tick_26 d_X_tick_27 d_X_tick_29 d_X_tick_32 hnx (Nat.le_of_ble_eq_true rfl) (Nat.le_of_ble_eq_true rfl) (Nat.le_of_ble_eq_true rfl) (Nat.le_of_ble_eq_true rfl) hlocks ⟨by rw [hC]; decide, by rw [hC]; rfl⟩ (Nat.le_of_ble_eq_true rfl) (Nat.le_of_ble_eq_true rfl)
theorem gC_qd {a b c : Int32} {P : Prop} [Decidable P] (ha : a = 1) (hb : b = 1) (hc : c = 1) : gC a b c (if P then 1 else 0) = gC 1 1 1 (if P then 1 else 0) := by rw [ha, hb, hc]
set_option maxHeartbeats 4000000 in
set_option maxRecDepth 100000 in
theorem k_X_correct (l : Launch) (hlt : l.stackTraces = false) (G : va_G) (cN cB : ClassId) (ty2 : List (ClassId × FieldType)) (w : Nat → Option va_E) {α : Nat → Nat} (hα : ∀ i j, i < 8 → j < 8 → α i = α j → i = j) {v : Nat → nV} {od ro : Nat → Nat} {bs : Nat → Int32} {se wr ac : Int32} {n rn sn : Nat} {kn z : Int32} (hcp : cPic w α cN cB v od ro bs se wr ac n rn sn kn z) (hok : cOk v od ro n rn sn) (x1 x2 : Int32) (sz : Nat) : vx_Met l y_X_correct (wm y_X_correct c_X_correct 4 (some .int)) ({ frames := 7, cells := 4, slots := 22, locals := 103 }) (va_Pc [.ref (α 0), .int x1, .int x2] (fun U => U.heap.size = sz ∧ mw G ncl (fun _ => True) w U.heap ∧ va_K G ncl ((cN, .object nR_N) :: (cB, .byte) :: ty2) U ∧ xE U U.heap)) (va_Qi (fun (r0 : Int32) (u : Nat → Option va_E) => gC (if ¬ x1 < 0 ∧ x1 < nI n then 1 else 0) (if ¬ x2 < (-9999) ∧ ¬ 9999 < x2 then 1 else 0) (if (hd (nC (v x1.toNatClampNeg))).2.2.2 = 0 then 1 else 0) (if ac < 200 then 1 else 0) = 0 ∧ r0 = nCo (v x1.toNatClampNeg) + 1 ∧ ∃ q9 : Nat, cPic u α cN cB (va_up v x1.toNatClampNeg (nCor (v x1.toNatClampNeg) q9 se x2)) od ro bs se wr (ac + 1) n rn sn kn z) (fun w2 t => mw G ncl (mA w sz) w2 t.heap ∧ va_K G ncl ((cN, .object nR_N) :: (cB, .byte) :: ty2) t) (mA w sz)) (x_K (fun E => ¬ gC (if ¬ x1 < 0 ∧ x1 < nI n then 1 else 0) (if ¬ x2 < (-9999) ∧ ¬ 9999 < x2 then 1 else 0) (if (hd (nC (v x1.toNatClampNeg))).2.2.2 = 0 then 1 else 0) (if ac < 200 then 1 else 0) = 0 ∧ E = exN (gC (if ¬ x1 < 0 ∧ x1 < nI n then 1 else 0) (if ¬ x2 < (-9999) ∧ ¬ 9999 < x2 then 1 else 0) (if (hd (nC (v x1.toNatClampNeg))).2.2.2 = 0 then 1 else 0) (if ac < 200 then 1 else 0)))) 4 22 (mA w sz) := by
  refine vx_ofW (cc := c_X_correct) (maxL := 4) (ret := (some .int)) (by decide) rfl ?_
  intro p e s m args below meth c s₁ B hml hnx hv
  obtain ⟨rfl, hsz, hM0, hK, hE⟩ := hv
  have hx := B.exec
  have hb := B.bytes
  have hr := B.returns
  have hts := atoms_spec (ws := (wm y_X_correct c_X_correct 4 (some .int))) B.pre
  have hta : ∀ w ∈ AL, w.before _ s = true := fun w h => hts w (List.mem_cons_of_mem _ h)
  have hown : s.vm.findClass nR_X = some m.cls := findClass_of_methodNamed B.named
  have hlocks := B.notSynchronized
  have hl := lv_entry ([.ref (α 0), .int x1, .int x2]) (n := 4) (Nat.le_of_ble_eq_true rfl)
  rw [lg_entry_eq]
  generalize (lg_sl ([.ref (α 0), .int x1, .int x2]) ++ List.replicate (4 - (lg_sl ([.ref (α 0), .int x1, .int x2])).length) Slot.unset).toArray = ls at hl ⊢
  have hl : lv_has ls 4 [(0, .ref (α 0)), (1, .int x1), (2, .int x2)] := hl
  subst hsz
  have hM := mw_self (sz := s.heap.size) hM0
  clear hM0
  generalize hAe : mA w s.heap.size = A at hM hE ⊢
  have hA : ∀ q : Nat, s.heap.size ≤ q → A q := fun q h => by rw [← hAe]; exact Or.inr h
  have hS : va_S A s.heap s.heap [] := va_S.rf
  have hcp2 := hcp
  obtain ⟨h0, h1, h2, h3, h7, ⟨fb, h4, hfb⟩, ⟨fi, h5, hfi⟩, ⟨fr, h6, hfr⟩, hN⟩ := hcp2
  obtain ⟨ok1, ok2, ok3, ok4, ok5, ok6⟩ := hok
  have hS0 : va_S (fun _ => False) s.heap s.heap [] := va_S.rf
  refine lv_aload_n hx hb d_X_correct_0 rfl (lv_at hl 0 rfl) ?_
  refine lv_iload_n hx hb d_X_correct_1 rfl (lv_at hl 1 rfl) ?_
  refine x_callSq (vx_runV (As := [.int x1]) (rest := []) ⟨hx, hb, hml, hown, hta⟩ (k_X_noteOf l hlt G cN cB ty2 w hα hcp ⟨ok1, ok2, ok3, ok4, ok5, ok6⟩ x1) (cV 1 hta aw_343 aw_1 aw_340 aw_342 as_SceneTimes_noteOf rfl rfl (by decide +kernel) ⟨Nat.le_of_ble_eq_true rfl, Nat.le_of_ble_eq_true rfl⟩) (pX_V hK hM hE rfl h0) rfl rfl hl.1 rfl (lv_room (Nat.le_of_ble_eq_true rfl)) d_X_correct_2 ⟨Nat.le_of_ble_eq_true rfl, Nat.le_of_ble_eq_true rfl⟩) hS0 (fun q h => h) (fun E ce q9 H1 locs1 hp9 hz9 hk9 hS9 hce hcv hcl => vx_out (fun x hx => (hnx x hx).elim) hlocks hce hcv hcl (fun t ht _ => ⟨⟨fun q9 => hp9.1 ((gC_a _ _ _ hp9.1).symm.trans q9), hp9.2.trans (congrArg exN (gC_a _ _ _ hp9.1).symm)⟩, by rw [ht]; exact hz9, fun q hq => by rw [ht]; exact hk9 q hq⟩) (fun z9 hz => (hS9.2.2 z9 hz).elim) (Nat.le_of_ble_eq_true rfl) (Nat.le_of_ble_eq_true rfl)) (fun r_1 locs hr_1 hS0 => ?_)
  obtain ⟨hC0, rfl⟩ := hr_1
  have p_2 := gC_p hC0
  obtain ⟨j, hj, ej⟩ := nt_of (by omega) p_2
  rw [show x1.toNatClampNeg = j by rw [ej, nI_clamp (by omega)]]
  have hv := hN j hj
  have hS : va_S A s.heap s.heap locs := xS0 hS0
  refine lv_astore_n (lv' := [(3, .ref (nA (v j))), (0, .ref (α 0)), (1, .int x1), (2, .int x2)]) hx hb d_X_correct_5 rfl hl (by decide) rfl (fun ls hl => ?_)
  refine lv_iload_n hx hb d_X_correct_6 rfl (lv_at hl 3 rfl) ?_
  refine vp_callSi (W.runS (As := [.int x2]) (rest := []) ⟨hx, hb, hml, hown, hta⟩ (k_X_isValue l x2) (cS 1 hta aw_221 aw_1 aw_219 aw_220 rfl rfl (by decide +kernel) ⟨Nat.le_of_ble_eq_true rfl, Nat.le_of_ble_eq_true rfl⟩) ⟨fun a U g mk q => q, fun U hU hW => ⟨rfl, trivial⟩⟩ rfl rfl hl.1 rfl (lv_room (Nat.le_of_ble_eq_true rfl)) d_X_correct_7 ⟨Nat.le_of_ble_eq_true rfl, Nat.le_of_ble_eq_true rfl⟩) (fun r_3 hr_3 => ?_)
  refine lv_if_ne (tgt := 23) hx hb d_X_correct_10 (by decide) (fun c_4 => ?_) (fun c_4 => ?_)
  · have p_5 := b1_t hr_3 c_4
    refine lv_aload_n hx hb d_X_correct_23 rfl (lv_at hl 0 rfl) ?_
    refine m_get (D := G) (ci := 4) (v := .ref ((hd (nC (v j))).1)) (C := nR_N) (T := nT_N) (N := 10) hx hb hta in_N hown hK hM hv.2.1 rfl 6 (by decide) (hta _ aw_295) (fun _ h9 => h9) rfl d_X_correct_24 ?_
    refine m_get (D := G) (ci := 5) (v := .int ((hd (nC (v j))).2.2.2)) (C := nR_T) (T := nT_T) (N := 4) hx hb hta in_T hown hK hM (okN_s hv) rfl 2 (by decide) (hta _ aw_262) (fun _ h9 => h9) rfl d_X_correct_27 ?_
    refine lv_if_eq (tgt := 43) hx hb d_X_correct_30 (by decide) (fun c_6 => ?_) (fun c_6 => ?_)
    · refine lv_aload_n hx hb d_X_correct_43 rfl (lv_at hl 1 rfl) ?_
      refine x_callSv (vx_runV (As := []) (rest := []) ⟨hx, hb, hml, hown, hta⟩ (k_X_refuseActWithoutRoom l hlt G cN cB ty2 w hα hcp ⟨ok1, ok2, ok3, ok4, ok5, ok6⟩) (cV 0 hta aw_365 aw_1 aw_362 aw_364 as_SceneTimes_refuseActWithoutRoom rfl rfl (by decide +kernel) ⟨Nat.le_of_ble_eq_true rfl, Nat.le_of_ble_eq_true rfl⟩) (pX_V hK hM hE rfl h0) rfl rfl hl.1 rfl (lv_room (Nat.le_of_ble_eq_true rfl)) d_X_correct_44 ⟨Nat.le_of_ble_eq_true rfl, Nat.le_of_ble_eq_true rfl⟩) hS0 (fun q h => h) (fun E ce q9 H1 locs1 hp9 hz9 hk9 hS9 hce hcv hcl => vx_out (fun x hx => (hnx x hx).elim) hlocks hce hcv hcl (fun t ht _ => ⟨⟨fun q9 => hp9.1 (((show gC (if ¬ x1 < 0 ∧ x1 < nI n then 1 else 0) (if ¬ x2 < (-9999) ∧ ¬ 9999 < x2 then 1 else 0) (if (hd (nC (v j))).2.2.2 = 0 then 1 else 0) (if ac < 200 then 1 else 0) = gC 1 1 1 (if ac < 200 then 1 else 0) by simp only [p_2, p_5, c_6, not_true_eq_false, not_false_eq_true, and_true, and_false, true_and, false_and, and_self, or_self, or_true, true_or, or_false, false_or, ↓reduceIte])).symm.trans q9), hp9.2.trans (congrArg exN ((show gC (if ¬ x1 < 0 ∧ x1 < nI n then 1 else 0) (if ¬ x2 < (-9999) ∧ ¬ 9999 < x2 then 1 else 0) (if (hd (nC (v j))).2.2.2 = 0 then 1 else 0) (if ac < 200 then 1 else 0) = gC 1 1 1 (if ac < 200 then 1 else 0) by simp only [p_2, p_5, c_6, not_true_eq_false, not_false_eq_true, and_true, and_false, true_and, false_and, and_self, or_self, or_true, true_or, or_false, false_or, ↓reduceIte])).symm)⟩, by rw [ht]; exact hz9, fun q hq => by rw [ht]; exact hk9 q hq⟩) (fun z9 hz => (hS9.2.2 z9 hz).elim) (Nat.le_of_ble_eq_true rfl) (Nat.le_of_ble_eq_true rfl)) (fun locs hr_7 hS0 => ?_)
      have p_8 := gC_q hr_7.1
      have hS : va_S A s.heap s.heap locs := xS0 hS0
      refine lv_aload_n hx hb d_X_correct_47 rfl (lv_at hl 0 rfl) ?_
      refine lv_aload_n hx hb d_X_correct_48 rfl (lv_at hl 1 rfl) ?_
      refine m_get (D := G) (ci := 0) (v := .int se) (C := nR_X) (T := nT_X) (N := 6) hx hb hta in_X hown hK hM h0 rfl 3 (by decide) (hta _ aw_88) (fun _ h9 => h9) rfl d_X_correct_49 ?_
      refine lv_iload_n hx hb d_X_correct_52 rfl (lv_at hl 3 rfl) ?_
      have hF := mw_free hM hS hA
      refine va_callv (va_runV (As := [.int se, .int x2]) (rest := []) ⟨hx, hb, hml, hown, hta⟩ (k_N_takeValue l G _ w hv.2.1 (okN_s hv) ((ok6 j hj).2.2 _ (hd_in hv.1)) se x2 _) (cV 2 hta aw_370 aw_12 aw_367 aw_368 aw_369 rfl rfl (by decide +kernel) ⟨Nat.le_of_ble_eq_true rfl, Nat.le_of_ble_eq_true rfl⟩) (pZ_V hK hM rfl hv.2.1) rfl rfl hl.1 rfl (lv_room (Nat.le_of_ble_eq_true rfl)) d_X_correct_53 ⟨Nat.le_of_ble_eq_true rfl, Nat.le_of_ble_eq_true rfl⟩) hS (fun q _ h => hF q h) hF (fun u_r_9 t H locs ht hvm hr_9 hB hz1 hk1 hS => ?_)
      obtain ⟨hM1, hK1⟩ := hB
      rw [ht] at hM1
      have hM := mw_weaken hM1 hF
      clear hM1 hK1 hF hk1 hz1
      obtain ⟨w_10, hw_10⟩ : ∃ z9 : Nat → Option va_E, z9 = va_up (va_up w u_r_9 (some (.inr (5, [.int se, .int x2, .int ((hd (nC (v j))).2.2.2), .ref ((hd (nC (v j))).1)])))) (nA (v j)) (some (.inr (4, [.int (nN (v j)), .int (nW (v j)), .int (nK (v j)), .int (nS (v j)), .int (nT (v j)), .ref (nF (v j)), .ref u_r_9, .int (nAc (v j) + 1), .int (nCo (v j) + 1), .int (mixv (nMx (v j)) x2)]))) := ⟨_, rfl⟩
      have hM : mw G ncl A w_10 H := by rw [hw_10]; exact hM
      have k_11 : w_10 (α 0) = some (.inr (0, [.ref (α 1), .ref (α 2), .ref (α 3), .int se, .int wr, .int ac])) := by rw [hw_10, va_up_ne _ _ (m_ne h0 hv.2.1 (by intro h; cases h)), va_up_ne _ _ (m_newne h0 hr_9)]; exact h0
      have k_12 : w_10 (α 1) = some (.inr (1, [.ref (α 4), .ref (α 5), .int (nI n)])) := by rw [hw_10, va_up_ne _ _ (m_ne h1 hv.2.1 (by intro h; cases h)), va_up_ne _ _ (m_newne h1 hr_9)]; exact h1
      have k_13 : w_10 (α 2) = some (.inr (2, [.ref (α 6), .int (nI rn), .int kn, .int z])) := by rw [hw_10, va_up_ne _ _ (m_ne h2 hv.2.1 (by intro h; cases h)), va_up_ne _ _ (m_newne h2 hr_9)]; exact h2
      have k_14 : w_10 (α 3) = some (.inr (3, [.ref (α 7), .int (nI sn)])) := by rw [hw_10, va_up_ne _ _ (m_ne h3 hv.2.1 (by intro h; cases h)), va_up_ne _ _ (m_newne h3 hr_9)]; exact h3
      have k_15 : w_10 (α 4) = some (.inl (cN, 100, .inr (.inr (.inr (.inr fb))))) := by rw [hw_10, va_up_ne _ _ (m_ne h4 hv.2.1 (by intro h; cases h)), va_up_ne _ _ (m_newne h4 hr_9)]; exact h4
      have k_16 : w_10 (α 5) = some (.inl (cN, 100, .inr (.inr (.inr (.inr fi))))) := by rw [hw_10, va_up_ne _ _ (m_ne h5 hv.2.1 (by intro h; cases h)), va_up_ne _ _ (m_newne h5 hr_9)]; exact h5
      have k_17 : w_10 (α 6) = some (.inl (cN, 100, .inr (.inr (.inr (.inr fr))))) := by rw [hw_10, va_up_ne _ _ (m_ne h6 hv.2.1 (by intro h; cases h)), va_up_ne _ _ (m_newne h6 hr_9)]; exact h6
      have k_18 : w_10 (α 7) = some (.inl (cB, 2005, .inl bs)) := by rw [hw_10, va_up_ne _ _ (m_ne h7 hv.2.1 (by intro h; cases h)), va_up_ne _ _ (m_newne h7 hr_9)]; exact h7
      have k_20 : w_10 ((hd (nC (v j))).1) = some (.inr (5, [.int ((hd (nC (v j))).2.1), .int ((hd (nC (v j))).2.2.1), .int ((hd (nC (v j))).2.2.2), va_rf ((nC (v j)).tail.head?.map Prod.fst)])) := by rw [hw_10, va_up_ne _ _ (m_ne (okN_s hv) hv.2.1 (by intro h; cases h)), va_up_ne _ _ (m_newne (okN_s hv) hr_9)]; exact (okN_s hv)
      have k_21 : w_10 (nA (v j)) = some (.inr (4, [.int (nN (v j)), .int (nW (v j)), .int (nK (v j)), .int (nS (v j)), .int (nT (v j)), .ref (nF (v j)), .ref u_r_9, .int (nAc (v j) + 1), .int (nCo (v j) + 1), .int (mixv (nMx (v j)) x2)])) := by rw [hw_10, va_up_self]
      have k_22 : w_10 u_r_9 = some (.inr (5, [.int se, .int x2, .int ((hd (nC (v j))).2.2.2), .ref ((hd (nC (v j))).1)])) := by rw [hw_10, va_up_ne _ _ (Ne.symm (m_newne hv.2.1 hr_9)), va_up_self]
      refine lv_aload_n hx hb d_X_correct_56 rfl (lv_at hl 1 rfl) ?_
      refine lv_dup hx hb d_X_correct_57 rfl ?_
      refine m_get (D := G) (ci := 0) (v := .int ac) (C := nR_X) (T := nT_X) (N := 6) hx hb hta in_X hown hK hM k_11 rfl 5 (by decide) (hta _ aw_90) (fun _ h9 => h9) rfl d_X_correct_58 ?_
      refine lv_iconst (v := 1) hx hb d_X_correct_61 (by decide) ?_
      refine lv_iadd hx hb d_X_correct_62 ?_
      refine m_put (D := G) (ci := 0) (v := .int (ac + 1)) (ty := .int) (C := nR_X) (T := nT_X) (N := 6) hx hb hta in_X nt_X nt_X_ok nn_X hown hK hM hS k_11 rfl 5 (by decide) (hta _ aw_90) (fun _ h9 => h9) rfl (by decide +kernel) rfl rfl (Nat.le_of_ble_eq_true rfl) d_X_correct_63 (fs' := [.ref (α 1), .ref (α 2), .ref (α 3), .int se, .int wr, .int (ac + 1)]) rfl (fun H locs hM hS => ?_)
      obtain ⟨w_23, hw_23⟩ : ∃ z9 : Nat → Option va_E, z9 = va_up w_10 (α 0) (some (.inr (0, [.ref (α 1), .ref (α 2), .ref (α 3), .int se, .int wr, .int (ac + 1)]))) := ⟨_, rfl⟩
      rw [← hw_23] at hM
      have k_24 : w_23 (α 0) = some (.inr (0, [.ref (α 1), .ref (α 2), .ref (α 3), .int se, .int wr, .int (ac + 1)])) := by rw [hw_23, va_up_self]
      have k_25 : w_23 (α 1) = some (.inr (1, [.ref (α 4), .ref (α 5), .int (nI n)])) := by rw [hw_23, va_up_ne _ _ (fun q9 => absurd (hα 1 0 (by decide) (by decide) q9) (by decide))]; exact k_12
      have k_26 : w_23 (α 2) = some (.inr (2, [.ref (α 6), .int (nI rn), .int kn, .int z])) := by rw [hw_23, va_up_ne _ _ (fun q9 => absurd (hα 2 0 (by decide) (by decide) q9) (by decide))]; exact k_13
      have k_27 : w_23 (α 3) = some (.inr (3, [.ref (α 7), .int (nI sn)])) := by rw [hw_23, va_up_ne _ _ (fun q9 => absurd (hα 3 0 (by decide) (by decide) q9) (by decide))]; exact k_14
      have k_28 : w_23 (α 4) = some (.inl (cN, 100, .inr (.inr (.inr (.inr fb))))) := by rw [hw_23, va_up_ne _ _ (fun q9 => absurd (hα 4 0 (by decide) (by decide) q9) (by decide))]; exact k_15
      have k_29 : w_23 (α 5) = some (.inl (cN, 100, .inr (.inr (.inr (.inr fi))))) := by rw [hw_23, va_up_ne _ _ (fun q9 => absurd (hα 5 0 (by decide) (by decide) q9) (by decide))]; exact k_16
      have k_30 : w_23 (α 6) = some (.inl (cN, 100, .inr (.inr (.inr (.inr fr))))) := by rw [hw_23, va_up_ne _ _ (fun q9 => absurd (hα 6 0 (by decide) (by decide) q9) (by decide))]; exact k_17
      have k_31 : w_23 (α 7) = some (.inl (cB, 2005, .inl bs)) := by rw [hw_23, va_up_ne _ _ (fun q9 => absurd (hα 7 0 (by decide) (by decide) q9) (by decide))]; exact k_18
      have k_32 : w_23 (nA (v j)) = some (.inr (4, [.int (nN (v j)), .int (nW (v j)), .int (nK (v j)), .int (nS (v j)), .int (nT (v j)), .ref (nF (v j)), .ref u_r_9, .int (nAc (v j) + 1), .int (nCo (v j) + 1), .int (mixv (nMx (v j)) x2)])) := by rw [hw_23, va_up_ne _ _ (m_ne k_21 k_11 (by intro h; cases h))]; exact k_21
      have k_33 : w_23 ((hd (nC (v j))).1) = some (.inr (5, [.int ((hd (nC (v j))).2.1), .int ((hd (nC (v j))).2.2.1), .int ((hd (nC (v j))).2.2.2), va_rf ((nC (v j)).tail.head?.map Prod.fst)])) := by rw [hw_23, va_up_ne _ _ (m_ne k_20 k_11 (by intro h; cases h))]; exact k_20
      have k_34 : w_23 u_r_9 = some (.inr (5, [.int se, .int x2, .int ((hd (nC (v j))).2.2.2), .ref ((hd (nC (v j))).1)])) := by rw [hw_23, va_up_ne _ _ (Ne.symm (m_newne h0 hr_9))]; exact k_22
      refine lv_aload_n hx hb d_X_correct_66 rfl (lv_at hl 0 rfl) ?_
      refine m_get (D := G) (ci := 4) (v := .int (nCo (v j) + 1)) (C := nR_N) (T := nT_N) (N := 10) hx hb hta in_N hown hK hM k_32 rfl 8 (by decide) (hta _ aw_300) (fun _ h9 => h9) rfl d_X_correct_67 ?_
      refine vx_ret ?_
      refine W.widen (k := 4) (n := 22) (Nat.le_of_ble_eq_true rfl) (Nat.le_of_ble_eq_true rfl) ?_
      exact W.iret (v := nCo (v j) + 1) hx hb hr (fun t ht hW => ⟨⟨nCo (v j) + 1, w_23, rfl, ⟨by simp only [p_2, p_5, c_6, p_8, not_true_eq_false, not_false_eq_true, and_true, and_false, true_and, false_and, and_self, or_self, or_true, true_or, or_false, false_or, ↓reduceIte, g_1, g_2, g_3, g_4, g_0], ⟨rfl, u_r_9, cp_act hα hcp ⟨ok1, ok2, ok3, ok4, ok5, ok6⟩ hj hr_9 (by rw [hw_23, hw_10]; rfl) (v2 := nCor (v j) u_r_9 se x2) rfl ⟨(by intro q9; cases q9), rfl⟩ ⟨_, rfl, rfl, rfl⟩⟩⟩, by rw [ht]; exact hM, va_K.moved hW.alike hK⟩, hS.F ht⟩) hS.2.2 d_X_correct_70
    · have hC : gC (if ¬ x1 < 0 ∧ x1 < nI n then 1 else 0) (if ¬ x2 < (-9999) ∧ ¬ 9999 < x2 then 1 else 0) (if (hd (nC (v j))).2.2.2 = 0 then 1 else 0) (if ac < 200 then 1 else 0) = 3 := by simp only [p_2, p_5, c_6, not_true_eq_false, not_false_eq_true, and_true, and_false, true_and, false_and, and_self, or_self, or_true, true_or, or_false, false_or, ↓reduceIte, g_1, g_2, g_3, g_4, g_0]
      exact xt_S hx hb hlt hown hta hE "the note is struck" (by decide) hS0 (hl.1.trans hml.symm) d_X_correct_33 d_X_correct_36 d_X_correct_37 d_X_correct_39 d_X_correct_42 hnx (Nat.le_of_ble_eq_true rfl) (Nat.le_of_ble_eq_true rfl) (Nat.le_of_ble_eq_true rfl) (Nat.le_of_ble_eq_true rfl) hlocks ⟨by rw [hC]; decide, by rw [hC]; rfl⟩ (Nat.le_of_ble_eq_true rfl) (Nat.le_of_ble_eq_true rfl)
  · have p_35 := b1_f hr_3 c_4
    have hC : gC (if ¬ x1 < 0 ∧ x1 < nI n then 1 else 0) (if ¬ x2 < (-9999) ∧ ¬ 9999 < x2 then 1 else 0) (if (hd (nC (v j))).2.2.2 = 0 then 1 else 0) (if ac < 200 then 1 else 0) = 2 := by simp only [p_2, p_35, not_true_eq_false, not_false_eq_true, and_true, and_false, true_and, false_and, and_self, or_self, or_true, true_or, or_false, false_or, ↓reduceIte, g_1, g_2, g_3, g_4, g_0]
    exact xt_I hx hb hlt hown hta hE "the value" (by decide) hS0 (hl.1.trans hml.symm) d_X_correct_13 d_X_correct_16 d_X_correct_17 d_X_correct_19 d_X_correct_22 hnx (Nat.le_of_ble_eq_true rfl) (Nat.le_of_ble_eq_true rfl) (Nat.le_of_ble_eq_true rfl) (Nat.le_of_ble_eq_true rfl) hlocks ⟨by rw [hC]; decide, by rw [hC]; rfl⟩ (Nat.le_of_ble_eq_true rfl) (Nat.le_of_ble_eq_true rfl)
set_option maxHeartbeats 4000000 in
set_option maxRecDepth 100000 in
theorem k_X_strike (l : Launch) (hlt : l.stackTraces = false) (G : va_G) (cN cB : ClassId) (ty2 : List (ClassId × FieldType)) (w : Nat → Option va_E) {α : Nat → Nat} (hα : ∀ i j, i < 8 → j < 8 → α i = α j → i = j) {v : Nat → nV} {od ro : Nat → Nat} {bs : Nat → Int32} {se wr ac : Int32} {n rn sn : Nat} {kn z : Int32} (hcp : cPic w α cN cB v od ro bs se wr ac n rn sn kn z) (hok : cOk v od ro n rn sn) (x1 x2 : Int32) (hx2 : x2 = 0 ∨ x2 = 1) (sz : Nat) : vx_Met l y_X_strike (wm y_X_strike c_X_strike 4 none) ({ frames := 7, cells := 4, slots := 22, locals := 103 }) (va_Pc [.ref (α 0), .int x1, .int x2] (fun U => U.heap.size = sz ∧ mw G ncl (fun _ => True) w U.heap ∧ va_K G ncl ((cN, .object nR_N) :: (cB, .byte) :: ty2) U ∧ xE U U.heap)) (va_Qv (fun (u : Nat → Option va_E) => gC (if ¬ x1 < 0 ∧ x1 < nI n then 1 else 0) 1 (if ¬ (hd (nC (v x1.toNatClampNeg))).2.2.2 = x2 then 1 else 0) (if ac < 200 then 1 else 0) = 0 ∧ ∃ q9 : Nat, cPic u α cN cB (va_up v x1.toNatClampNeg (nStr (v x1.toNatClampNeg) q9 se x2)) od ro bs se wr (ac + 1) n rn sn kn z) (fun w2 t => mw G ncl (mA w sz) w2 t.heap ∧ va_K G ncl ((cN, .object nR_N) :: (cB, .byte) :: ty2) t) (mA w sz)) (x_K (fun E => ¬ gC (if ¬ x1 < 0 ∧ x1 < nI n then 1 else 0) 1 (if ¬ (hd (nC (v x1.toNatClampNeg))).2.2.2 = x2 then 1 else 0) (if ac < 200 then 1 else 0) = 0 ∧ E = exN (gC (if ¬ x1 < 0 ∧ x1 < nI n then 1 else 0) 1 (if ¬ (hd (nC (v x1.toNatClampNeg))).2.2.2 = x2 then 1 else 0) (if ac < 200 then 1 else 0)))) 4 22 (mA w sz) := by
  refine vx_ofW (cc := c_X_strike) (maxL := 4) (ret := none) (by decide) rfl ?_
  intro p e s m args below meth c s₁ B hml hnx hv
  obtain ⟨rfl, hsz, hM0, hK, hE⟩ := hv
  have hx := B.exec
  have hb := B.bytes
  have hr := B.returns
  have hts := atoms_spec (ws := (wm y_X_strike c_X_strike 4 none)) B.pre
  have hta : ∀ w ∈ AL, w.before _ s = true := fun w h => hts w (List.mem_cons_of_mem _ h)
  have hown : s.vm.findClass nR_X = some m.cls := findClass_of_methodNamed B.named
  have hlocks := B.notSynchronized
  have hl := lv_entry ([.ref (α 0), .int x1, .int x2]) (n := 4) (Nat.le_of_ble_eq_true rfl)
  rw [lg_entry_eq]
  generalize (lg_sl ([.ref (α 0), .int x1, .int x2]) ++ List.replicate (4 - (lg_sl ([.ref (α 0), .int x1, .int x2])).length) Slot.unset).toArray = ls at hl ⊢
  have hl : lv_has ls 4 [(0, .ref (α 0)), (1, .int x1), (2, .int x2)] := hl
  subst hsz
  have hM := mw_self (sz := s.heap.size) hM0
  clear hM0
  generalize hAe : mA w s.heap.size = A at hM hE ⊢
  have hA : ∀ q : Nat, s.heap.size ≤ q → A q := fun q h => by rw [← hAe]; exact Or.inr h
  have hS : va_S A s.heap s.heap [] := va_S.rf
  have hcp2 := hcp
  obtain ⟨h0, h1, h2, h3, h7, ⟨fb, h4, hfb⟩, ⟨fi, h5, hfi⟩, ⟨fr, h6, hfr⟩, hN⟩ := hcp2
  obtain ⟨ok1, ok2, ok3, ok4, ok5, ok6⟩ := hok
  have hS0 : va_S (fun _ => False) s.heap s.heap [] := va_S.rf
  refine lv_aload_n hx hb d_X_strike_0 rfl (lv_at hl 0 rfl) ?_
  refine lv_iload_n hx hb d_X_strike_1 rfl (lv_at hl 1 rfl) ?_
  refine x_callSq (vx_runV (As := [.int x1]) (rest := []) ⟨hx, hb, hml, hown, hta⟩ (k_X_noteOf l hlt G cN cB ty2 w hα hcp ⟨ok1, ok2, ok3, ok4, ok5, ok6⟩ x1) (cV 1 hta aw_343 aw_1 aw_340 aw_342 as_SceneTimes_noteOf rfl rfl (by decide +kernel) ⟨Nat.le_of_ble_eq_true rfl, Nat.le_of_ble_eq_true rfl⟩) (pX_V hK hM hE rfl h0) rfl rfl hl.1 rfl (lv_room (Nat.le_of_ble_eq_true rfl)) d_X_strike_2 ⟨Nat.le_of_ble_eq_true rfl, Nat.le_of_ble_eq_true rfl⟩) hS0 (fun q h => h) (fun E ce q9 H1 locs1 hp9 hz9 hk9 hS9 hce hcv hcl => vx_out (fun x hx => (hnx x hx).elim) hlocks hce hcv hcl (fun t ht _ => ⟨⟨fun q9 => hp9.1 ((gC_a _ _ _ hp9.1).symm.trans q9), hp9.2.trans (congrArg exN (gC_a _ _ _ hp9.1).symm)⟩, by rw [ht]; exact hz9, fun q hq => by rw [ht]; exact hk9 q hq⟩) (fun z9 hz => (hS9.2.2 z9 hz).elim) (Nat.le_of_ble_eq_true rfl) (Nat.le_of_ble_eq_true rfl)) (fun r_1 locs hr_1 hS0 => ?_)
  obtain ⟨hC0, rfl⟩ := hr_1
  have p_2 := gC_p hC0
  obtain ⟨j, hj, ej⟩ := nt_of (by omega) p_2
  rw [show x1.toNatClampNeg = j by rw [ej, nI_clamp (by omega)]]
  have hv := hN j hj
  have hS : va_S A s.heap s.heap locs := xS0 hS0
  refine lv_astore_n (lv' := [(3, .ref (nA (v j))), (0, .ref (α 0)), (1, .int x1), (2, .int x2)]) hx hb d_X_strike_5 rfl hl (by decide) rfl (fun ls hl => ?_)
  refine lv_aload_n hx hb d_X_strike_6 rfl (lv_at hl 0 rfl) ?_
  refine m_get (D := G) (ci := 4) (v := .ref ((hd (nC (v j))).1)) (C := nR_N) (T := nT_N) (N := 10) hx hb hta in_N hown hK hM hv.2.1 rfl 6 (by decide) (hta _ aw_295) (fun _ h9 => h9) rfl d_X_strike_7 ?_
  refine m_get (D := G) (ci := 5) (v := .int ((hd (nC (v j))).2.2.2)) (C := nR_T) (T := nT_T) (N := 4) hx hb hta in_T hown hK hM (okN_s hv) rfl 2 (by decide) (hta _ aw_262) (fun _ h9 => h9) rfl d_X_strike_10 ?_
  refine lv_iload_n hx hb d_X_strike_13 rfl (lv_at hl 3 rfl) ?_
  refine lv_icmp_ne (tgt := 27) hx hb d_X_strike_14 (by decide) (fun c_3 => ?_) (fun c_3 => ?_)
  · refine lv_aload_n hx hb d_X_strike_27 rfl (lv_at hl 1 rfl) ?_
    refine x_callSv (vx_runV (As := []) (rest := []) ⟨hx, hb, hml, hown, hta⟩ (k_X_refuseActWithoutRoom l hlt G cN cB ty2 w hα hcp ⟨ok1, ok2, ok3, ok4, ok5, ok6⟩) (cV 0 hta aw_365 aw_1 aw_362 aw_364 as_SceneTimes_refuseActWithoutRoom rfl rfl (by decide +kernel) ⟨Nat.le_of_ble_eq_true rfl, Nat.le_of_ble_eq_true rfl⟩) (pX_V hK hM hE rfl h0) rfl rfl hl.1 rfl (lv_room (Nat.le_of_ble_eq_true rfl)) d_X_strike_28 ⟨Nat.le_of_ble_eq_true rfl, Nat.le_of_ble_eq_true rfl⟩) hS0 (fun q h => h) (fun E ce q9 H1 locs1 hp9 hz9 hk9 hS9 hce hcv hcl => vx_out (fun x hx => (hnx x hx).elim) hlocks hce hcv hcl (fun t ht _ => ⟨⟨fun q9 => hp9.1 (((show gC (if ¬ x1 < 0 ∧ x1 < nI n then 1 else 0) 1 (if ¬ (hd (nC (v j))).2.2.2 = x2 then 1 else 0) (if ac < 200 then 1 else 0) = gC 1 1 1 (if ac < 200 then 1 else 0) by simp only [p_2, c_3, not_true_eq_false, not_false_eq_true, and_true, and_false, true_and, false_and, and_self, or_self, or_true, true_or, or_false, false_or, ↓reduceIte])).symm.trans q9), hp9.2.trans (congrArg exN ((show gC (if ¬ x1 < 0 ∧ x1 < nI n then 1 else 0) 1 (if ¬ (hd (nC (v j))).2.2.2 = x2 then 1 else 0) (if ac < 200 then 1 else 0) = gC 1 1 1 (if ac < 200 then 1 else 0) by simp only [p_2, c_3, not_true_eq_false, not_false_eq_true, and_true, and_false, true_and, false_and, and_self, or_self, or_true, true_or, or_false, false_or, ↓reduceIte])).symm)⟩, by rw [ht]; exact hz9, fun q hq => by rw [ht]; exact hk9 q hq⟩) (fun z9 hz => (hS9.2.2 z9 hz).elim) (Nat.le_of_ble_eq_true rfl) (Nat.le_of_ble_eq_true rfl)) (fun locs hr_4 hS0 => ?_)
    have p_5 := gC_q hr_4.1
    have hS : va_S A s.heap s.heap locs := xS0 hS0
    refine lv_aload_n hx hb d_X_strike_31 rfl (lv_at hl 0 rfl) ?_
    refine lv_aload_n hx hb d_X_strike_32 rfl (lv_at hl 1 rfl) ?_
    refine m_get (D := G) (ci := 0) (v := .int se) (C := nR_X) (T := nT_X) (N := 6) hx hb hta in_X hown hK hM h0 rfl 3 (by decide) (hta _ aw_88) (fun _ h9 => h9) rfl d_X_strike_33 ?_
    refine lv_iload_n hx hb d_X_strike_36 rfl (lv_at hl 3 rfl) ?_
    have hF := mw_free hM hS hA
    refine va_callv (va_runV (As := [.int se, .int x2]) (rest := []) ⟨hx, hb, hml, hown, hta⟩ (k_N_takeStrike l G _ w hv.2.1 (okN_s hv) se x2 hx2 _) (cV 2 hta aw_382 aw_12 aw_379 aw_380 aw_381 rfl rfl (by decide +kernel) ⟨Nat.le_of_ble_eq_true rfl, Nat.le_of_ble_eq_true rfl⟩) (pZ_V hK hM rfl hv.2.1) rfl rfl hl.1 rfl (lv_room (Nat.le_of_ble_eq_true rfl)) d_X_strike_37 ⟨Nat.le_of_ble_eq_true rfl, Nat.le_of_ble_eq_true rfl⟩) hS (fun q _ h => hF q h) hF (fun u_r_6 t H locs ht hvm hr_6 hB hz1 hk1 hS => ?_)
    obtain ⟨hM1, hK1⟩ := hB
    rw [ht] at hM1
    have hM := mw_weaken hM1 hF
    clear hM1 hK1 hF hk1 hz1
    obtain ⟨w_7, hw_7⟩ : ∃ z9 : Nat → Option va_E, z9 = va_up (va_up w u_r_6 (some (.inr (5, [.int se, .int ((hd (nC (v j))).2.2.1), .int x2, .ref ((hd (nC (v j))).1)])))) (nA (v j)) (some (.inr (4, [.int (nN (v j)), .int (nW (v j)), .int (nK (v j)), .int (nS (v j)), .int (nT (v j)), .ref (nF (v j)), .ref u_r_6, .int (nAc (v j) + 1), .int (nCo (v j)), .int (nMx (v j))]))) := ⟨_, rfl⟩
    have hM : mw G ncl A w_7 H := by rw [hw_7]; exact hM
    have k_8 : w_7 (α 0) = some (.inr (0, [.ref (α 1), .ref (α 2), .ref (α 3), .int se, .int wr, .int ac])) := by rw [hw_7, va_up_ne _ _ (m_ne h0 hv.2.1 (by intro h; cases h)), va_up_ne _ _ (m_newne h0 hr_6)]; exact h0
    have k_9 : w_7 (α 1) = some (.inr (1, [.ref (α 4), .ref (α 5), .int (nI n)])) := by rw [hw_7, va_up_ne _ _ (m_ne h1 hv.2.1 (by intro h; cases h)), va_up_ne _ _ (m_newne h1 hr_6)]; exact h1
    have k_10 : w_7 (α 2) = some (.inr (2, [.ref (α 6), .int (nI rn), .int kn, .int z])) := by rw [hw_7, va_up_ne _ _ (m_ne h2 hv.2.1 (by intro h; cases h)), va_up_ne _ _ (m_newne h2 hr_6)]; exact h2
    have k_11 : w_7 (α 3) = some (.inr (3, [.ref (α 7), .int (nI sn)])) := by rw [hw_7, va_up_ne _ _ (m_ne h3 hv.2.1 (by intro h; cases h)), va_up_ne _ _ (m_newne h3 hr_6)]; exact h3
    have k_12 : w_7 (α 4) = some (.inl (cN, 100, .inr (.inr (.inr (.inr fb))))) := by rw [hw_7, va_up_ne _ _ (m_ne h4 hv.2.1 (by intro h; cases h)), va_up_ne _ _ (m_newne h4 hr_6)]; exact h4
    have k_13 : w_7 (α 5) = some (.inl (cN, 100, .inr (.inr (.inr (.inr fi))))) := by rw [hw_7, va_up_ne _ _ (m_ne h5 hv.2.1 (by intro h; cases h)), va_up_ne _ _ (m_newne h5 hr_6)]; exact h5
    have k_14 : w_7 (α 6) = some (.inl (cN, 100, .inr (.inr (.inr (.inr fr))))) := by rw [hw_7, va_up_ne _ _ (m_ne h6 hv.2.1 (by intro h; cases h)), va_up_ne _ _ (m_newne h6 hr_6)]; exact h6
    have k_15 : w_7 (α 7) = some (.inl (cB, 2005, .inl bs)) := by rw [hw_7, va_up_ne _ _ (m_ne h7 hv.2.1 (by intro h; cases h)), va_up_ne _ _ (m_newne h7 hr_6)]; exact h7
    have k_17 : w_7 ((hd (nC (v j))).1) = some (.inr (5, [.int ((hd (nC (v j))).2.1), .int ((hd (nC (v j))).2.2.1), .int ((hd (nC (v j))).2.2.2), va_rf ((nC (v j)).tail.head?.map Prod.fst)])) := by rw [hw_7, va_up_ne _ _ (m_ne (okN_s hv) hv.2.1 (by intro h; cases h)), va_up_ne _ _ (m_newne (okN_s hv) hr_6)]; exact (okN_s hv)
    have k_18 : w_7 (nA (v j)) = some (.inr (4, [.int (nN (v j)), .int (nW (v j)), .int (nK (v j)), .int (nS (v j)), .int (nT (v j)), .ref (nF (v j)), .ref u_r_6, .int (nAc (v j) + 1), .int (nCo (v j)), .int (nMx (v j))])) := by rw [hw_7, va_up_self]
    have k_19 : w_7 u_r_6 = some (.inr (5, [.int se, .int ((hd (nC (v j))).2.2.1), .int x2, .ref ((hd (nC (v j))).1)])) := by rw [hw_7, va_up_ne _ _ (Ne.symm (m_newne hv.2.1 hr_6)), va_up_self]
    refine lv_aload_n hx hb d_X_strike_40 rfl (lv_at hl 1 rfl) ?_
    refine lv_dup hx hb d_X_strike_41 rfl ?_
    refine m_get (D := G) (ci := 0) (v := .int ac) (C := nR_X) (T := nT_X) (N := 6) hx hb hta in_X hown hK hM k_8 rfl 5 (by decide) (hta _ aw_90) (fun _ h9 => h9) rfl d_X_strike_42 ?_
    refine lv_iconst (v := 1) hx hb d_X_strike_45 (by decide) ?_
    refine lv_iadd hx hb d_X_strike_46 ?_
    refine m_put (D := G) (ci := 0) (v := .int (ac + 1)) (ty := .int) (C := nR_X) (T := nT_X) (N := 6) hx hb hta in_X nt_X nt_X_ok nn_X hown hK hM hS k_8 rfl 5 (by decide) (hta _ aw_90) (fun _ h9 => h9) rfl (by decide +kernel) rfl rfl (Nat.le_of_ble_eq_true rfl) d_X_strike_47 (fs' := [.ref (α 1), .ref (α 2), .ref (α 3), .int se, .int wr, .int (ac + 1)]) rfl (fun H locs hM hS => ?_)
    obtain ⟨w_20, hw_20⟩ : ∃ z9 : Nat → Option va_E, z9 = va_up w_7 (α 0) (some (.inr (0, [.ref (α 1), .ref (α 2), .ref (α 3), .int se, .int wr, .int (ac + 1)]))) := ⟨_, rfl⟩
    rw [← hw_20] at hM
    have k_21 : w_20 (α 0) = some (.inr (0, [.ref (α 1), .ref (α 2), .ref (α 3), .int se, .int wr, .int (ac + 1)])) := by rw [hw_20, va_up_self]
    have k_22 : w_20 (α 1) = some (.inr (1, [.ref (α 4), .ref (α 5), .int (nI n)])) := by rw [hw_20, va_up_ne _ _ (fun q9 => absurd (hα 1 0 (by decide) (by decide) q9) (by decide))]; exact k_9
    have k_23 : w_20 (α 2) = some (.inr (2, [.ref (α 6), .int (nI rn), .int kn, .int z])) := by rw [hw_20, va_up_ne _ _ (fun q9 => absurd (hα 2 0 (by decide) (by decide) q9) (by decide))]; exact k_10
    have k_24 : w_20 (α 3) = some (.inr (3, [.ref (α 7), .int (nI sn)])) := by rw [hw_20, va_up_ne _ _ (fun q9 => absurd (hα 3 0 (by decide) (by decide) q9) (by decide))]; exact k_11
    have k_25 : w_20 (α 4) = some (.inl (cN, 100, .inr (.inr (.inr (.inr fb))))) := by rw [hw_20, va_up_ne _ _ (fun q9 => absurd (hα 4 0 (by decide) (by decide) q9) (by decide))]; exact k_12
    have k_26 : w_20 (α 5) = some (.inl (cN, 100, .inr (.inr (.inr (.inr fi))))) := by rw [hw_20, va_up_ne _ _ (fun q9 => absurd (hα 5 0 (by decide) (by decide) q9) (by decide))]; exact k_13
    have k_27 : w_20 (α 6) = some (.inl (cN, 100, .inr (.inr (.inr (.inr fr))))) := by rw [hw_20, va_up_ne _ _ (fun q9 => absurd (hα 6 0 (by decide) (by decide) q9) (by decide))]; exact k_14
    have k_28 : w_20 (α 7) = some (.inl (cB, 2005, .inl bs)) := by rw [hw_20, va_up_ne _ _ (fun q9 => absurd (hα 7 0 (by decide) (by decide) q9) (by decide))]; exact k_15
    have k_29 : w_20 (nA (v j)) = some (.inr (4, [.int (nN (v j)), .int (nW (v j)), .int (nK (v j)), .int (nS (v j)), .int (nT (v j)), .ref (nF (v j)), .ref u_r_6, .int (nAc (v j) + 1), .int (nCo (v j)), .int (nMx (v j))])) := by rw [hw_20, va_up_ne _ _ (m_ne k_18 k_8 (by intro h; cases h))]; exact k_18
    have k_30 : w_20 ((hd (nC (v j))).1) = some (.inr (5, [.int ((hd (nC (v j))).2.1), .int ((hd (nC (v j))).2.2.1), .int ((hd (nC (v j))).2.2.2), va_rf ((nC (v j)).tail.head?.map Prod.fst)])) := by rw [hw_20, va_up_ne _ _ (m_ne k_17 k_8 (by intro h; cases h))]; exact k_17
    have k_31 : w_20 u_r_6 = some (.inr (5, [.int se, .int ((hd (nC (v j))).2.2.1), .int x2, .ref ((hd (nC (v j))).1)])) := by rw [hw_20, va_up_ne _ _ (Ne.symm (m_newne h0 hr_6))]; exact k_19
    refine vx_ret ?_
    refine W.widen (k := 4) (n := 22) (Nat.le_of_ble_eq_true rfl) (Nat.le_of_ble_eq_true rfl) ?_
    exact W.vret hx hb hr (fun t ht hW => ⟨⟨w_20, rfl, ⟨by simp only [p_2, c_3, p_5, not_true_eq_false, not_false_eq_true, and_true, and_false, true_and, false_and, and_self, or_self, or_true, true_or, or_false, false_or, ↓reduceIte, g_1, g_2, g_3, g_4, g_0], ⟨u_r_6, cp_act hα hcp ⟨ok1, ok2, ok3, ok4, ok5, ok6⟩ hj hr_6 (by rw [hw_20, hw_7]; rfl) (v2 := nStr (v j) u_r_6 se x2) rfl ⟨(by intro q9; cases q9), rfl⟩ ⟨_, rfl, rfl, rfl⟩⟩⟩, by rw [ht]; exact hM, va_K.moved hW.alike hK⟩, hS.F ht⟩) hS.2.2 d_X_strike_50
  · have hC : gC (if ¬ x1 < 0 ∧ x1 < nI n then 1 else 0) 1 (if ¬ (hd (nC (v j))).2.2.2 = x2 then 1 else 0) (if ac < 200 then 1 else 0) = 3 := by simp only [p_2, c_3, not_true_eq_false, not_false_eq_true, and_true, and_false, true_and, false_and, and_self, or_self, or_true, true_or, or_false, false_or, ↓reduceIte, g_1, g_2, g_3, g_4, g_0]
    exact xt_S hx hb hlt hown hta hE "the note is so already" (by decide) hS0 (hl.1.trans hml.symm) d_X_strike_17 d_X_strike_20 d_X_strike_21 d_X_strike_23 d_X_strike_26 hnx (Nat.le_of_ble_eq_true rfl) (Nat.le_of_ble_eq_true rfl) (Nat.le_of_ble_eq_true rfl) (Nat.le_of_ble_eq_true rfl) hlocks ⟨by rw [hC]; decide, by rw [hC]; rfl⟩ (Nat.le_of_ble_eq_true rfl) (Nat.le_of_ble_eq_true rfl)
