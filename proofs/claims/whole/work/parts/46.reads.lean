/-! the class: at, count, noteAt, row -/
set_option maxHeartbeats 4000000 in
set_option maxRecDepth 100000 in
theorem k_X_at (l : Launch) (hlt : l.stackTraces = false) (G : va_G) (cN cB : ClassId) (ty2 : List (ClassId × FieldType)) (w : Nat → Option va_E) {α : Nat → Nat} (hα : ∀ i j, i < 8 → j < 8 → α i = α j → i = j) {v : Nat → nV} {od ro : Nat → Nat} {bs : Nat → Int32} {se wr ac : Int32} {n rn sn : Nat} {kn z : Int32} (hcp : cPic w α cN cB v od ro bs se wr ac n rn sn kn z) (hok : cOk v od ro n rn sn) (x1 : Int32) : vx_Met l y_X_at (wm y_X_at c_X_at 2 (some .int)) ({ frames := 6, cells := 1, slots := 6, locals := 82 }) (pX G ((cN, .object nR_N) :: (cB, .byte) :: ty2) w [.ref (α 0), .int x1]) (vp_Si (fun r => gC 1 (if 0 ≤ x1 then 1 else 0) 1 1 = 0 ∧ r = (if nI sn ≤ x1 then (-1) else bs x1.toNatClampNeg))) (x_K (fun E => ¬ gC 1 (if 0 ≤ x1 then 1 else 0) 1 1 = 0 ∧ E = exN (gC 1 (if 0 ≤ x1 then 1 else 0) 1 1))) 1 6 (fun _ => False) := by
  refine vx_ofW (cc := c_X_at) (maxL := 2) (ret := (some .int)) (by decide) rfl ?_
  intro p e s m args below meth c s₁ B hml hnx hv
  obtain ⟨rfl, hM, hK, hE⟩ := hv
  have hx := B.exec
  have hb := B.bytes
  have hr := B.returns
  have hts := atoms_spec (ws := (wm y_X_at c_X_at 2 (some .int))) B.pre
  have hta : ∀ w ∈ AL, w.before _ s = true := fun w h => hts w (List.mem_cons_of_mem _ h)
  have hown : s.vm.findClass nR_X = some m.cls := findClass_of_methodNamed B.named
  have hlocks := B.notSynchronized
  have hl := lv_entry ([.ref (α 0), .int x1]) (n := 2) (Nat.le_of_ble_eq_true rfl)
  rw [lg_entry_eq]
  generalize (lg_sl ([.ref (α 0), .int x1]) ++ List.replicate (2 - (lg_sl ([.ref (α 0), .int x1])).length) Slot.unset).toArray = ls at hl ⊢
  have hl : lv_has ls 2 [(0, .ref (α 0)), (1, .int x1)] := hl
  have hcp2 := hcp
  obtain ⟨h0, h1, h2, h3, h7, ⟨fb, h4, hfb⟩, ⟨fi, h5, hfi⟩, ⟨fr, h6, hfr⟩, hN⟩ := hcp2
  obtain ⟨ok1, ok2, ok3, ok4, ok5, ok6⟩ := hok
  have hS0 : va_S (fun _ => False) s.heap s.heap [] := va_S.rf
  refine lv_iload_n hx hb d_X_at_0 rfl (lv_at hl 1 rfl) ?_
  refine lv_if_ge (tgt := 14) hx hb d_X_at_1 (by decide) (fun c_1 => ?_) (fun c_1 => ?_)
  · refine lv_iload_n hx hb d_X_at_14 rfl (lv_at hl 1 rfl) ?_
    refine lv_aload_n hx hb d_X_at_15 rfl (lv_at hl 0 rfl) ?_
    refine m_get (D := G) (ci := 0) (v := .ref (α 3)) (C := nR_X) (T := nT_X) (N := 6) hx hb hta in_X hown hK hM h0 rfl 2 (by decide) (hta _ aw_87) (fun _ h9 => h9) rfl d_X_at_16 ?_
    refine m_get (D := G) (ci := 3) (v := .int (nI sn)) (C := nR_S) (T := nT_S) (N := 2) hx hb hta in_S hown hK hM h3 rfl 1 (by decide) (hta _ aw_78) (fun _ h9 => h9) rfl d_X_at_19 ?_
    refine lv_icmp_ge (tgt := 37) hx hb d_X_at_22 (by decide) (fun c_2 => ?_) (fun c_2 => ?_)
    · refine lv_iconst (v := (-1)) hx hb d_X_at_37 (by decide) ?_
      refine vx_ret ?_
      refine W.widen (k := 1) (n := 6) (Nat.le_of_ble_eq_true rfl) (Nat.le_of_ble_eq_true rfl) ?_
      exact W.iret (v := (-1)) hx hb hr (fun t ht hW => ⟨(-1), rfl, ⟨by simp only [c_1, c_2, not_true_eq_false, not_false_eq_true, and_true, and_false, true_and, false_and, and_self, or_self, or_true, true_or, or_false, false_or, ↓reduceIte, g_1, g_2, g_3, g_4, g_0], by rw [if_pos c_2]⟩, ht⟩) (fun q h => hS0.2.2 q h) d_X_at_38
    · refine lv_aload_n hx hb d_X_at_25 rfl (lv_at hl 0 rfl) ?_
      refine m_get (D := G) (ci := 0) (v := .ref (α 3)) (C := nR_X) (T := nT_X) (N := 6) hx hb hta in_X hown hK hM h0 rfl 2 (by decide) (hta _ aw_87) (fun _ h9 => h9) rfl d_X_at_26 ?_
      refine m_get (D := G) (ci := 3) (v := .ref (α 7)) (C := nR_S) (T := nT_S) (N := 2) hx hb hta in_S hown hK hM h3 rfl 0 (by decide) (hta _ aw_76) (fun _ h9 => h9) rfl d_X_at_29 ?_
      refine lv_iload_n hx hb d_X_at_32 rfl (lv_at hl 1 rfl) ?_
      refine m_bald hx hb hK hM 1 h7 rfl (by obtain ⟨j, hj, ej⟩ := nt_of (x := x1) (n := sn) (by omega) ⟨Int32.not_lt.mpr c_1, Int32.not_le.mp c_2⟩; rw [ej]; exact vp_in_nI (by omega) (by omega)) d_X_at_33 ?_
      refine lv_goto (tgt := 38) hx hb d_X_at_34 (by decide) ?_
      refine vx_ret ?_
      refine W.widen (k := 1) (n := 6) (Nat.le_of_ble_eq_true rfl) (Nat.le_of_ble_eq_true rfl) ?_
      exact W.iret (v := bs x1.toNatClampNeg) hx hb hr (fun t ht hW => ⟨bs x1.toNatClampNeg, rfl, ⟨by simp only [c_1, c_2, not_true_eq_false, not_false_eq_true, and_true, and_false, true_and, false_and, and_self, or_self, or_true, true_or, or_false, false_or, ↓reduceIte, g_1, g_2, g_3, g_4, g_0], by rw [if_neg c_2]⟩, ht⟩) (fun q h => hS0.2.2 q h) d_X_at_38
  · have hC : gC 1 (if 0 ≤ x1 then 1 else 0) 1 1 = 2 := by simp only [c_1, not_true_eq_false, not_false_eq_true, and_true, and_false, true_and, false_and, and_self, or_self, or_true, true_or, or_false, false_or, ↓reduceIte, g_1, g_2, g_3, g_4, g_0]
    exact xt_I hx hb hlt hown hta hE "the byte's number" (by decide) hS0 (hl.1.trans hml.symm) d_X_at_4 d_X_at_7 d_X_at_8 d_X_at_10 d_X_at_13 hnx (Nat.le_of_ble_eq_true rfl) (Nat.le_of_ble_eq_true rfl) (Nat.le_of_ble_eq_true rfl) (Nat.le_of_ble_eq_true rfl) hlocks ⟨by rw [hC]; decide, by rw [hC]; rfl⟩ (Nat.le_of_ble_eq_true rfl) (Nat.le_of_ble_eq_true rfl)
set_option maxHeartbeats 4000000 in
set_option maxRecDepth 100000 in
theorem k_X_count (l : Launch) (hlt : l.stackTraces = false) (G : va_G) (cN cB : ClassId) (ty2 : List (ClassId × FieldType)) (w : Nat → Option va_E) {α : Nat → Nat} (hα : ∀ i j, i < 8 → j < 8 → α i = α j → i = j) {v : Nat → nV} {od ro : Nat → Nat} {bs : Nat → Int32} {se wr ac : Int32} {n rn sn : Nat} {kn z : Int32} (hcp : cPic w α cN cB v od ro bs se wr ac n rn sn kn z) (hok : cOk v od ro n rn sn) (x1 : Int32) : vx_Met l y_X_count (wm y_X_count c_X_count 2 (some .int)) ({ frames := 6, cells := 1, slots := 6, locals := 82 }) (pX G ((cN, .object nR_N) :: (cB, .byte) :: ty2) w [.ref (α 0), .int x1]) (vp_Si (fun r => gC (if ¬ x1 < 0 ∧ ¬ 4 < x1 then 1 else 0) 1 1 1 = 0 ∧ r = (if x1 = 0 then wr else if x1 = 1 then nI n else if x1 = 2 then ac else if x1 = 3 then nI (cntP (fun i => decide (¬ (hd (nC (v i))).2.2.2 = 0)) n) else nI (cntP (fun i => decide (¬ (la (v i)).2.1 ≤ nT (v i))) n)))) (x_K (fun E => ¬ gC (if ¬ x1 < 0 ∧ ¬ 4 < x1 then 1 else 0) 1 1 1 = 0 ∧ E = exN (gC (if ¬ x1 < 0 ∧ ¬ 4 < x1 then 1 else 0) 1 1 1))) 1 6 (fun _ => False) := by
  refine vx_ofW (cc := c_X_count) (maxL := 2) (ret := (some .int)) (by decide) rfl ?_
  intro p e s m args below meth c s₁ B hml hnx hv
  obtain ⟨rfl, hM, hK, hE⟩ := hv
  have hx := B.exec
  have hb := B.bytes
  have hr := B.returns
  have hts := atoms_spec (ws := (wm y_X_count c_X_count 2 (some .int))) B.pre
  have hta : ∀ w ∈ AL, w.before _ s = true := fun w h => hts w (List.mem_cons_of_mem _ h)
  have hown : s.vm.findClass nR_X = some m.cls := findClass_of_methodNamed B.named
  have hlocks := B.notSynchronized
  have hl := lv_entry ([.ref (α 0), .int x1]) (n := 2) (Nat.le_of_ble_eq_true rfl)
  rw [lg_entry_eq]
  generalize (lg_sl ([.ref (α 0), .int x1]) ++ List.replicate (2 - (lg_sl ([.ref (α 0), .int x1])).length) Slot.unset).toArray = ls at hl ⊢
  have hl : lv_has ls 2 [(0, .ref (α 0)), (1, .int x1)] := hl
  have hcp2 := hcp
  obtain ⟨h0, h1, h2, h3, h7, ⟨fb, h4, hfb⟩, ⟨fi, h5, hfi⟩, ⟨fr, h6, hfr⟩, hN⟩ := hcp2
  obtain ⟨ok1, ok2, ok3, ok4, ok5, ok6⟩ := hok
  have hS0 : va_S (fun _ => False) s.heap s.heap [] := va_S.rf
  refine lv_iload_n hx hb d_X_count_0 rfl (lv_at hl 1 rfl) ?_
  rcases sw_5 x1 with hs_1 | hs_1 | hs_1 | hs_1 | hs_1 | hs_1
  · subst hs_1
    have p_2 : ¬ (0 : Int32) < 0 ∧ ¬ 4 < (0 : Int32) := by decide
    refine lv_tableIn (tgt := 36) hx hb d_X_count_1 (by decide) (by decide) rfl (by decide) ?_
    refine lv_aload_n hx hb d_X_count_36 rfl (lv_at hl 0 rfl) ?_
    refine m_get (D := G) (ci := 0) (v := .int wr) (C := nR_X) (T := nT_X) (N := 6) hx hb hta in_X hown hK hM h0 rfl 4 (by decide) (hta _ aw_89) (fun _ h9 => h9) rfl d_X_count_37 ?_
    refine vx_ret ?_
    refine W.widen (k := 1) (n := 6) (Nat.le_of_ble_eq_true rfl) (Nat.le_of_ble_eq_true rfl) ?_
    exact W.iret (v := wr) hx hb hr (fun t ht hW => ⟨wr, rfl, ⟨by simp only [p_2, not_true_eq_false, not_false_eq_true, and_true, and_false, true_and, false_and, and_self, or_self, or_true, true_or, or_false, false_or, ↓reduceIte, g_1, g_2, g_3, g_4, g_0], rfl⟩, ht⟩) (fun q h => hS0.2.2 q h) d_X_count_40
  · subst hs_1
    have p_2 : ¬ (1 : Int32) < 0 ∧ ¬ 4 < (1 : Int32) := by decide
    refine lv_tableIn (tgt := 41) hx hb d_X_count_1 (by decide) (by decide) rfl (by decide) ?_
    refine lv_aload_n hx hb d_X_count_41 rfl (lv_at hl 0 rfl) ?_
    refine m_get (D := G) (ci := 0) (v := .ref (α 1)) (C := nR_X) (T := nT_X) (N := 6) hx hb hta in_X hown hK hM h0 rfl 0 (by decide) (hta _ aw_85) (fun _ h9 => h9) rfl d_X_count_42 ?_
    refine m_get (D := G) (ci := 1) (v := .int (nI n)) (C := nR_L) (T := nT_L) (N := 3) hx hb hta in_L hown hK hM h1 rfl 2 (by decide) (hta _ aw_37) (fun _ h9 => h9) rfl d_X_count_45 ?_
    refine vx_ret ?_
    refine W.widen (k := 1) (n := 6) (Nat.le_of_ble_eq_true rfl) (Nat.le_of_ble_eq_true rfl) ?_
    exact W.iret (v := nI n) hx hb hr (fun t ht hW => ⟨nI n, rfl, ⟨by simp only [p_2, not_true_eq_false, not_false_eq_true, and_true, and_false, true_and, false_and, and_self, or_self, or_true, true_or, or_false, false_or, ↓reduceIte, g_1, g_2, g_3, g_4, g_0], rfl⟩, ht⟩) (fun q h => hS0.2.2 q h) d_X_count_48
  · subst hs_1
    have p_2 : ¬ (2 : Int32) < 0 ∧ ¬ 4 < (2 : Int32) := by decide
    refine lv_tableIn (tgt := 49) hx hb d_X_count_1 (by decide) (by decide) rfl (by decide) ?_
    refine lv_aload_n hx hb d_X_count_49 rfl (lv_at hl 0 rfl) ?_
    refine m_get (D := G) (ci := 0) (v := .int ac) (C := nR_X) (T := nT_X) (N := 6) hx hb hta in_X hown hK hM h0 rfl 5 (by decide) (hta _ aw_90) (fun _ h9 => h9) rfl d_X_count_50 ?_
    refine vx_ret ?_
    refine W.widen (k := 1) (n := 6) (Nat.le_of_ble_eq_true rfl) (Nat.le_of_ble_eq_true rfl) ?_
    exact W.iret (v := ac) hx hb hr (fun t ht hW => ⟨ac, rfl, ⟨by simp only [p_2, not_true_eq_false, not_false_eq_true, and_true, and_false, true_and, false_and, and_self, or_self, or_true, true_or, or_false, false_or, ↓reduceIte, g_1, g_2, g_3, g_4, g_0], rfl⟩, ht⟩) (fun q h => hS0.2.2 q h) d_X_count_53
  · subst hs_1
    have p_2 : ¬ (3 : Int32) < 0 ∧ ¬ 4 < (3 : Int32) := by decide
    refine lv_tableIn (tgt := 54) hx hb d_X_count_1 (by decide) (by decide) rfl (by decide) ?_
    refine lv_aload_n hx hb d_X_count_54 rfl (lv_at hl 0 rfl) ?_
    refine m_get (D := G) (ci := 0) (v := .ref (α 1)) (C := nR_X) (T := nT_X) (N := 6) hx hb hta in_X hown hK hM h0 rfl 0 (by decide) (hta _ aw_85) (fun _ h9 => h9) rfl d_X_count_55 ?_
    refine vp_callSi (W.runV (As := []) (rest := []) ⟨hx, hb, hml, hown, hta⟩ (k_L_howManyStruck l G cN _ w ok1 h1 h4 hfb hN) (cV 0 hta aw_532 aw_2 aw_529 aw_530 aw_531 rfl rfl (by decide +kernel) ⟨Nat.le_of_ble_eq_true rfl, Nat.le_of_ble_eq_true rfl⟩) (pW_V hK hM rfl h1) rfl rfl hl.1 rfl (lv_room (Nat.le_of_ble_eq_true rfl)) d_X_count_58 ⟨Nat.le_of_ble_eq_true rfl, Nat.le_of_ble_eq_true rfl⟩) (fun r_3 hr_3 => ?_)
    refine vx_ret ?_
    refine W.widen (k := 1) (n := 6) (Nat.le_of_ble_eq_true rfl) (Nat.le_of_ble_eq_true rfl) ?_
    exact W.iret (v := r_3) hx hb hr (fun t ht hW => ⟨r_3, rfl, ⟨by simp only [p_2, not_true_eq_false, not_false_eq_true, and_true, and_false, true_and, false_and, and_self, or_self, or_true, true_or, or_false, false_or, ↓reduceIte, g_1, g_2, g_3, g_4, g_0], hr_3⟩, ht⟩) (fun q h => hS0.2.2 q h) d_X_count_61
  · subst hs_1
    have p_2 : ¬ (4 : Int32) < 0 ∧ ¬ 4 < (4 : Int32) := by decide
    refine lv_tableIn (tgt := 62) hx hb d_X_count_1 (by decide) (by decide) rfl (by decide) ?_
    refine lv_aload_n hx hb d_X_count_62 rfl (lv_at hl 0 rfl) ?_
    refine m_get (D := G) (ci := 0) (v := .ref (α 1)) (C := nR_X) (T := nT_X) (N := 6) hx hb hta in_X hown hK hM h0 rfl 0 (by decide) (hta _ aw_85) (fun _ h9 => h9) rfl d_X_count_63 ?_
    refine vp_callSi (W.runV (As := []) (rest := []) ⟨hx, hb, hml, hown, hta⟩ (k_L_howManyWrittenLater l G cN _ w ok1 h1 h4 hfb hN (fun i hi => nF_c (hN i hi) (ok6 i hi))) (cV 0 hta aw_536 aw_2 aw_533 aw_534 aw_535 rfl rfl (by decide +kernel) ⟨Nat.le_of_ble_eq_true rfl, Nat.le_of_ble_eq_true rfl⟩) (pW_V hK hM rfl h1) rfl rfl hl.1 rfl (lv_room (Nat.le_of_ble_eq_true rfl)) d_X_count_66 ⟨Nat.le_of_ble_eq_true rfl, Nat.le_of_ble_eq_true rfl⟩) (fun r_4 hr_4 => ?_)
    refine vx_ret ?_
    refine W.widen (k := 1) (n := 6) (Nat.le_of_ble_eq_true rfl) (Nat.le_of_ble_eq_true rfl) ?_
    exact W.iret (v := r_4) hx hb hr (fun t ht hW => ⟨r_4, rfl, ⟨by simp only [p_2, not_true_eq_false, not_false_eq_true, and_true, and_false, true_and, false_and, and_self, or_self, or_true, true_or, or_false, false_or, ↓reduceIte, g_1, g_2, g_3, g_4, g_0], hr_4⟩, ht⟩) (fun q h => hS0.2.2 q h) d_X_count_69
  · have p_2 : ¬ (¬ x1 < 0 ∧ ¬ 4 < x1) := sw_out hs_1
    refine lv_tableOut (tgt := 70) hx hb d_X_count_1 hs_1 (by decide) ?_
    have hC : gC (if ¬ x1 < 0 ∧ ¬ 4 < x1 then 1 else 0) 1 1 1 = 1 := by simp only [p_2, not_true_eq_false, not_false_eq_true, and_true, and_false, true_and, false_and, and_self, or_self, or_true, true_or, or_false, false_or, ↓reduceIte, g_1, g_2, g_3, g_4, g_0]
    exact xt_A hx hb hlt hown hta hE "no such what" (by decide) hS0 (hl.1.trans hml.symm) d_X_count_70 d_X_count_73 d_X_count_74 d_X_count_76 d_X_count_79 hnx (Nat.le_of_ble_eq_true rfl) (Nat.le_of_ble_eq_true rfl) (Nat.le_of_ble_eq_true rfl) (Nat.le_of_ble_eq_true rfl) hlocks ⟨by rw [hC]; decide, by rw [hC]; rfl⟩ (Nat.le_of_ble_eq_true rfl) (Nat.le_of_ble_eq_true rfl)
theorem gC_ab {P Q : Prop} [Decidable P] [Decidable Q] (b c d : Int32) (h : ¬ gC (if P then 1 else 0) 1 1 1 = 0) : gC (if P ∧ Q then 1 else 0) b c d = gC (if P then 1 else 0) 1 1 1 := by
  by_cases hp : P
  · rw [if_pos hp] at h; exact absurd rfl h
  · rw [if_neg hp, if_neg (fun q => hp q.1)]; rfl
set_option maxHeartbeats 4000000 in
set_option maxRecDepth 100000 in
theorem k_X_noteAt (l : Launch) (hlt : l.stackTraces = false) (G : va_G) (cN cB : ClassId) (ty2 : List (ClassId × FieldType)) (w : Nat → Option va_E) {α : Nat → Nat} (hα : ∀ i j, i < 8 → j < 8 → α i = α j → i = j) {v : Nat → nV} {od ro : Nat → Nat} {bs : Nat → Int32} {se wr ac : Int32} {n rn sn : Nat} {kn z : Int32} (hcp : cPic w α cN cB v od ro bs se wr ac n rn sn kn z) (hok : cOk v od ro n rn sn) (x1 x2 : Int32) : vx_Met l y_X_noteAt (wm y_X_noteAt c_X_noteAt 4 (some .int)) ({ frames := 7, cells := 2, slots := 12, locals := 103 }) (pX G ((cN, .object nR_N) :: (cB, .byte) :: ty2) w [.ref (α 0), .int x1, .int x2]) (vp_Si (fun r => gC (if (¬ x1 < 0 ∧ x1 < nI n) ∧ (¬ x2 < 0 ∧ ¬ 4 < x2) then 1 else 0) 1 1 1 = 0 ∧ r = (if x2 = 0 then (la (v x1.toNatClampNeg)).2.1 else if x2 = 1 then nAc (v x1.toNatClampNeg) else if x2 = 2 then (if (hd (nC (v x1.toNatClampNeg))).2.2.2 = 0 then 0 else 1) else if x2 = 3 then (hd (nC (v x1.toNatClampNeg))).2.2.1 else (la (v x1.toNatClampNeg)).2.2.1))) (x_K (fun E => ¬ gC (if (¬ x1 < 0 ∧ x1 < nI n) ∧ (¬ x2 < 0 ∧ ¬ 4 < x2) then 1 else 0) 1 1 1 = 0 ∧ E = exN (gC (if (¬ x1 < 0 ∧ x1 < nI n) ∧ (¬ x2 < 0 ∧ ¬ 4 < x2) then 1 else 0) 1 1 1))) 2 12 (fun _ => False) := by
  refine vx_ofW (cc := c_X_noteAt) (maxL := 4) (ret := (some .int)) (by decide) rfl ?_
  intro p e s m args below meth c s₁ B hml hnx hv
  obtain ⟨rfl, hM, hK, hE⟩ := hv
  have hx := B.exec
  have hb := B.bytes
  have hr := B.returns
  have hts := atoms_spec (ws := (wm y_X_noteAt c_X_noteAt 4 (some .int))) B.pre
  have hta : ∀ w ∈ AL, w.before _ s = true := fun w h => hts w (List.mem_cons_of_mem _ h)
  have hown : s.vm.findClass nR_X = some m.cls := findClass_of_methodNamed B.named
  have hlocks := B.notSynchronized
  have hl := lv_entry ([.ref (α 0), .int x1, .int x2]) (n := 4) (Nat.le_of_ble_eq_true rfl)
  rw [lg_entry_eq]
  generalize (lg_sl ([.ref (α 0), .int x1, .int x2]) ++ List.replicate (4 - (lg_sl ([.ref (α 0), .int x1, .int x2])).length) Slot.unset).toArray = ls at hl ⊢
  have hl : lv_has ls 4 [(0, .ref (α 0)), (1, .int x1), (2, .int x2)] := hl
  have hcp2 := hcp
  obtain ⟨h0, h1, h2, h3, h7, ⟨fb, h4, hfb⟩, ⟨fi, h5, hfi⟩, ⟨fr, h6, hfr⟩, hN⟩ := hcp2
  obtain ⟨ok1, ok2, ok3, ok4, ok5, ok6⟩ := hok
  have hS0 : va_S (fun _ => False) s.heap s.heap [] := va_S.rf
  refine lv_aload_n hx hb d_X_noteAt_0 rfl (lv_at hl 0 rfl) ?_
  refine lv_iload_n hx hb d_X_noteAt_1 rfl (lv_at hl 1 rfl) ?_
  refine x_callSq (vx_runV (As := [.int x1]) (rest := []) ⟨hx, hb, hml, hown, hta⟩ (k_X_noteOf l hlt G cN cB ty2 w hα hcp ⟨ok1, ok2, ok3, ok4, ok5, ok6⟩ x1) (cV 1 hta aw_343 aw_1 aw_340 aw_342 as_SceneTimes_noteOf rfl rfl (by decide +kernel) ⟨Nat.le_of_ble_eq_true rfl, Nat.le_of_ble_eq_true rfl⟩) (pX_V hK hM hE rfl h0) rfl rfl hl.1 rfl (lv_room (Nat.le_of_ble_eq_true rfl)) d_X_noteAt_2 ⟨Nat.le_of_ble_eq_true rfl, Nat.le_of_ble_eq_true rfl⟩) hS0 (fun q h => h) (fun E ce q9 H1 locs1 hp9 hz9 hk9 hS9 hce hcv hcl => vx_out (fun x hx => (hnx x hx).elim) hlocks hce hcv hcl (fun t ht _ => ⟨⟨fun q9 => hp9.1 ((gC_ab 1 1 1 hp9.1).symm.trans q9), hp9.2.trans (congrArg exN (gC_ab 1 1 1 hp9.1).symm)⟩, by rw [ht]; exact hz9, fun q hq => by rw [ht]; exact hk9 q hq⟩) (fun z9 hz => (hS9.2.2 z9 hz).elim) (Nat.le_of_ble_eq_true rfl) (Nat.le_of_ble_eq_true rfl)) (fun r_1 locs hr_1 hS0 => ?_)
  obtain ⟨hC0, rfl⟩ := hr_1
  have p_2 := gC_p hC0
  obtain ⟨j, hj, ej⟩ := nt_of (by omega) p_2
  rw [show x1.toNatClampNeg = j by rw [ej, nI_clamp (by omega)]]
  have hv := hN j hj
  refine lv_astore_n (lv' := [(3, .ref (nA (v j))), (0, .ref (α 0)), (1, .int x1), (2, .int x2)]) hx hb d_X_noteAt_5 rfl hl (by decide) rfl (fun ls hl => ?_)
  refine lv_iload_n hx hb d_X_noteAt_6 rfl (lv_at hl 3 rfl) ?_
  rcases sw_5 x2 with hs_3 | hs_3 | hs_3 | hs_3 | hs_3 | hs_3
  · subst hs_3
    have p_4 : ¬ (0 : Int32) < 0 ∧ ¬ 4 < (0 : Int32) := by decide
    refine lv_tableIn (tgt := 40) hx hb d_X_noteAt_7 (by decide) (by decide) rfl (by decide) ?_
    refine lv_aload_n hx hb d_X_noteAt_40 rfl (lv_at hl 0 rfl) ?_
    refine m_get (D := G) (ci := 4) (v := .ref (nF (v j))) (C := nR_N) (T := nT_N) (N := 10) hx hb hta in_N hown hK hM hv.2.1 rfl 5 (by decide) (hta _ aw_293) (fun _ h9 => h9) rfl d_X_noteAt_41 ?_
    refine m_get (D := G) (ci := 5) (v := .int ((la (v j)).2.1)) (C := nR_T) (T := nT_T) (N := 4) hx hb hta in_T hown hK hM (nF_c hv (ok6 j hj)) rfl 0 (by decide) (hta _ aw_254) (fun _ h9 => h9) rfl d_X_noteAt_44 ?_
    refine vx_ret ?_
    refine W.widen (k := 2) (n := 12) (Nat.le_of_ble_eq_true rfl) (Nat.le_of_ble_eq_true rfl) ?_
    exact W.iret (v := (la (v j)).2.1) hx hb hr (fun t ht hW => ⟨(la (v j)).2.1, rfl, ⟨by simp only [p_2, p_4, not_true_eq_false, not_false_eq_true, and_true, and_false, true_and, false_and, and_self, or_self, or_true, true_or, or_false, false_or, ↓reduceIte, g_1, g_2, g_3, g_4, g_0], rfl⟩, ht⟩) (fun q h => hS0.2.2 q h) d_X_noteAt_47
  · subst hs_3
    have p_4 : ¬ (1 : Int32) < 0 ∧ ¬ 4 < (1 : Int32) := by decide
    refine lv_tableIn (tgt := 48) hx hb d_X_noteAt_7 (by decide) (by decide) rfl (by decide) ?_
    refine lv_aload_n hx hb d_X_noteAt_48 rfl (lv_at hl 0 rfl) ?_
    refine m_get (D := G) (ci := 4) (v := .int (nAc (v j))) (C := nR_N) (T := nT_N) (N := 10) hx hb hta in_N hown hK hM hv.2.1 rfl 7 (by decide) (hta _ aw_298) (fun _ h9 => h9) rfl d_X_noteAt_49 ?_
    refine vx_ret ?_
    refine W.widen (k := 2) (n := 12) (Nat.le_of_ble_eq_true rfl) (Nat.le_of_ble_eq_true rfl) ?_
    exact W.iret (v := nAc (v j)) hx hb hr (fun t ht hW => ⟨nAc (v j), rfl, ⟨by simp only [p_2, p_4, not_true_eq_false, not_false_eq_true, and_true, and_false, true_and, false_and, and_self, or_self, or_true, true_or, or_false, false_or, ↓reduceIte, g_1, g_2, g_3, g_4, g_0], rfl⟩, ht⟩) (fun q h => hS0.2.2 q h) d_X_noteAt_52
  · subst hs_3
    have p_4 : ¬ (2 : Int32) < 0 ∧ ¬ 4 < (2 : Int32) := by decide
    refine lv_tableIn (tgt := 53) hx hb d_X_noteAt_7 (by decide) (by decide) rfl (by decide) ?_
    refine lv_aload_n hx hb d_X_noteAt_53 rfl (lv_at hl 0 rfl) ?_
    refine m_get (D := G) (ci := 4) (v := .ref ((hd (nC (v j))).1)) (C := nR_N) (T := nT_N) (N := 10) hx hb hta in_N hown hK hM hv.2.1 rfl 6 (by decide) (hta _ aw_295) (fun _ h9 => h9) rfl d_X_noteAt_54 ?_
    refine m_get (D := G) (ci := 5) (v := .int ((hd (nC (v j))).2.2.2)) (C := nR_T) (T := nT_T) (N := 4) hx hb hta in_T hown hK hM (okN_s hv) rfl 2 (by decide) (hta _ aw_262) (fun _ h9 => h9) rfl d_X_noteAt_57 ?_
    refine vp_callSi (W.runS (As := [.int ((hd (nC (v j))).2.2.2)]) (rest := []) ⟨hx, hb, hml, hown, hta⟩ (k_X_oneIf l ((hd (nC (v j))).2.2.2)) (cS 1 hta aw_422 aw_1 aw_420 aw_421 rfl rfl (by decide +kernel) ⟨Nat.le_of_ble_eq_true rfl, Nat.le_of_ble_eq_true rfl⟩) ⟨fun a U g mk q => q, fun U hU hW => ⟨rfl, trivial⟩⟩ rfl rfl hl.1 rfl (lv_room (Nat.le_of_ble_eq_true rfl)) d_X_noteAt_60 ⟨Nat.le_of_ble_eq_true rfl, Nat.le_of_ble_eq_true rfl⟩) (fun r_5 hr_5 => ?_)
    refine vx_ret ?_
    refine W.widen (k := 2) (n := 12) (Nat.le_of_ble_eq_true rfl) (Nat.le_of_ble_eq_true rfl) ?_
    exact W.iret (v := r_5) hx hb hr (fun t ht hW => ⟨r_5, rfl, ⟨by simp only [p_2, p_4, not_true_eq_false, not_false_eq_true, and_true, and_false, true_and, false_and, and_self, or_self, or_true, true_or, or_false, false_or, ↓reduceIte, g_1, g_2, g_3, g_4, g_0], hr_5⟩, ht⟩) (fun q h => hS0.2.2 q h) d_X_noteAt_63
  · subst hs_3
    have p_4 : ¬ (3 : Int32) < 0 ∧ ¬ 4 < (3 : Int32) := by decide
    refine lv_tableIn (tgt := 64) hx hb d_X_noteAt_7 (by decide) (by decide) rfl (by decide) ?_
    refine lv_aload_n hx hb d_X_noteAt_64 rfl (lv_at hl 0 rfl) ?_
    refine m_get (D := G) (ci := 4) (v := .ref ((hd (nC (v j))).1)) (C := nR_N) (T := nT_N) (N := 10) hx hb hta in_N hown hK hM hv.2.1 rfl 6 (by decide) (hta _ aw_295) (fun _ h9 => h9) rfl d_X_noteAt_65 ?_
    refine m_get (D := G) (ci := 5) (v := .int ((hd (nC (v j))).2.2.1)) (C := nR_T) (T := nT_T) (N := 4) hx hb hta in_T hown hK hM (okN_s hv) rfl 1 (by decide) (hta _ aw_258) (fun _ h9 => h9) rfl d_X_noteAt_68 ?_
    refine vx_ret ?_
    refine W.widen (k := 2) (n := 12) (Nat.le_of_ble_eq_true rfl) (Nat.le_of_ble_eq_true rfl) ?_
    exact W.iret (v := (hd (nC (v j))).2.2.1) hx hb hr (fun t ht hW => ⟨(hd (nC (v j))).2.2.1, rfl, ⟨by simp only [p_2, p_4, not_true_eq_false, not_false_eq_true, and_true, and_false, true_and, false_and, and_self, or_self, or_true, true_or, or_false, false_or, ↓reduceIte, g_1, g_2, g_3, g_4, g_0], rfl⟩, ht⟩) (fun q h => hS0.2.2 q h) d_X_noteAt_71
  · subst hs_3
    have p_4 : ¬ (4 : Int32) < 0 ∧ ¬ 4 < (4 : Int32) := by decide
    refine lv_tableIn (tgt := 72) hx hb d_X_noteAt_7 (by decide) (by decide) rfl (by decide) ?_
    refine lv_aload_n hx hb d_X_noteAt_72 rfl (lv_at hl 0 rfl) ?_
    refine m_get (D := G) (ci := 4) (v := .ref (nF (v j))) (C := nR_N) (T := nT_N) (N := 10) hx hb hta in_N hown hK hM hv.2.1 rfl 5 (by decide) (hta _ aw_293) (fun _ h9 => h9) rfl d_X_noteAt_73 ?_
    refine m_get (D := G) (ci := 5) (v := .int ((la (v j)).2.2.1)) (C := nR_T) (T := nT_T) (N := 4) hx hb hta in_T hown hK hM (nF_c hv (ok6 j hj)) rfl 1 (by decide) (hta _ aw_258) (fun _ h9 => h9) rfl d_X_noteAt_76 ?_
    refine vx_ret ?_
    refine W.widen (k := 2) (n := 12) (Nat.le_of_ble_eq_true rfl) (Nat.le_of_ble_eq_true rfl) ?_
    exact W.iret (v := (la (v j)).2.2.1) hx hb hr (fun t ht hW => ⟨(la (v j)).2.2.1, rfl, ⟨by simp only [p_2, p_4, not_true_eq_false, not_false_eq_true, and_true, and_false, true_and, false_and, and_self, or_self, or_true, true_or, or_false, false_or, ↓reduceIte, g_1, g_2, g_3, g_4, g_0], rfl⟩, ht⟩) (fun q h => hS0.2.2 q h) d_X_noteAt_79
  · have p_4 : ¬ (¬ x2 < 0 ∧ ¬ 4 < x2) := sw_out hs_3
    refine lv_tableOut (tgt := 80) hx hb d_X_noteAt_7 hs_3 (by decide) ?_
    have hC : gC (if (¬ x1 < 0 ∧ x1 < nI n) ∧ (¬ x2 < 0 ∧ ¬ 4 < x2) then 1 else 0) 1 1 1 = 1 := by simp only [p_2, p_4, not_true_eq_false, not_false_eq_true, and_true, and_false, true_and, false_and, and_self, or_self, or_true, true_or, or_false, false_or, ↓reduceIte, g_1, g_2, g_3, g_4, g_0]
    exact xt_A hx hb hlt hown hta hE "no such what" (by decide) hS0 (hl.1.trans hml.symm) d_X_noteAt_80 d_X_noteAt_83 d_X_noteAt_84 d_X_noteAt_86 d_X_noteAt_89 hnx (Nat.le_of_ble_eq_true rfl) (Nat.le_of_ble_eq_true rfl) (Nat.le_of_ble_eq_true rfl) (Nat.le_of_ble_eq_true rfl) hlocks ⟨by rw [hC]; decide, by rw [hC]; rfl⟩ (Nat.le_of_ble_eq_true rfl) (Nat.le_of_ble_eq_true rfl)
theorem stAt_c {w : Nat → Option va_E} (k : Int32) : ∀ (c : List cS4), c ≠ [] → ch w c → ∃ ea : Option Nat, w (stAt k c).1 = some (eT (stAt k c).2.1 (stAt k c).2.2.1 (stAt k c).2.2.2 ea) := by
  intro c
  induction c with
  | nil => intro h; exact absurd rfl h
  | cons a r ih =>
    intro _ hc
    cases r with
    | nil => exact ⟨_, hc.1⟩
    | cons b r =>
      unfold stAt
      split
      · exact ⟨_, hc.1⟩
      · exact ih (by simp) hc.2
set_option maxHeartbeats 4000000 in
set_option maxRecDepth 100000 in
theorem k_X_row (l : Launch) (hlt : l.stackTraces = false) (G : va_G) (cN cB : ClassId) (ty2 : List (ClassId × FieldType)) (w : Nat → Option va_E) {α : Nat → Nat} (hα : ∀ i j, i < 8 → j < 8 → α i = α j → i = j) {v : Nat → nV} {od ro : Nat → Nat} {bs : Nat → Int32} {se wr ac : Int32} {n rn sn : Nat} {kn z : Int32} (hcp : cPic w α cN cB v od ro bs se wr ac n rn sn kn z) (hok : cOk v od ro n rn sn) (x1 x2 : Int32) : vx_Met l y_X_row (wm y_X_row c_X_row 4 (some .int)) ({ frames := 6, cells := 1, slots := 6, locals := 82 }) (pX G ((cN, .object nR_N) :: (cB, .byte) :: ty2) w [.ref (α 0), .int x1, .int x2]) (vp_Si (fun r => gC (if (¬ x1 < 0 ∧ x1 < nI rn) ∧ (¬ x2 < 0 ∧ ¬ 4 < x2) then 1 else 0) 1 1 1 = 0 ∧ r = (if x2 = 0 then nN (v (ro x1.toNatClampNeg)) else if x2 = 1 then nT (v (ro x1.toNatClampNeg)) else if x2 = 2 then (stAt kn (nC (v (ro x1.toNatClampNeg)))).2.2.1 else if x2 = 3 then (if (stAt kn (nC (v (ro x1.toNatClampNeg)))).2.2.2 = 0 then 0 else 1) else nW (v (ro x1.toNatClampNeg))))) (x_K (fun E => ¬ gC (if (¬ x1 < 0 ∧ x1 < nI rn) ∧ (¬ x2 < 0 ∧ ¬ 4 < x2) then 1 else 0) 1 1 1 = 0 ∧ E = exN (gC (if (¬ x1 < 0 ∧ x1 < nI rn) ∧ (¬ x2 < 0 ∧ ¬ 4 < x2) then 1 else 0) 1 1 1))) 1 6 (fun _ => False) := by
  refine vx_ofW (cc := c_X_row) (maxL := 4) (ret := (some .int)) (by decide) rfl ?_
  intro p e s m args below meth c s₁ B hml hnx hv
  obtain ⟨rfl, hM, hK, hE⟩ := hv
  have hx := B.exec
  have hb := B.bytes
  have hr := B.returns
  have hts := atoms_spec (ws := (wm y_X_row c_X_row 4 (some .int))) B.pre
  have hta : ∀ w ∈ AL, w.before _ s = true := fun w h => hts w (List.mem_cons_of_mem _ h)
  have hown : s.vm.findClass nR_X = some m.cls := findClass_of_methodNamed B.named
  have hlocks := B.notSynchronized
  have hl := lv_entry ([.ref (α 0), .int x1, .int x2]) (n := 4) (Nat.le_of_ble_eq_true rfl)
  rw [lg_entry_eq]
  generalize (lg_sl ([.ref (α 0), .int x1, .int x2]) ++ List.replicate (4 - (lg_sl ([.ref (α 0), .int x1, .int x2])).length) Slot.unset).toArray = ls at hl ⊢
  have hl : lv_has ls 4 [(0, .ref (α 0)), (1, .int x1), (2, .int x2)] := hl
  have hcp2 := hcp
  obtain ⟨h0, h1, h2, h3, h7, ⟨fb, h4, hfb⟩, ⟨fi, h5, hfi⟩, ⟨fr, h6, hfr⟩, hN⟩ := hcp2
  obtain ⟨ok1, ok2, ok3, ok4, ok5, ok6⟩ := hok
  have hS0 : va_S (fun _ => False) s.heap s.heap [] := va_S.rf
  refine lv_iload_n hx hb d_X_row_0 rfl (lv_at hl 1 rfl) ?_
  refine lv_if_lt (tgt := 15) hx hb d_X_row_1 (by decide) (fun c_1 => ?_) (fun c_1 => ?_)
  · have hC : gC (if (¬ x1 < 0 ∧ x1 < nI rn) ∧ (¬ x2 < 0 ∧ ¬ 4 < x2) then 1 else 0) 1 1 1 = 1 := by simp only [c_1, not_true_eq_false, not_false_eq_true, and_true, and_false, true_and, false_and, and_self, or_self, or_true, true_or, or_false, false_or, ↓reduceIte, g_1, g_2, g_3, g_4, g_0]
    exact xt_A hx hb hlt hown hta hE "no such row" (by decide) hS0 (hl.1.trans hml.symm) d_X_row_15 d_X_row_18 d_X_row_19 d_X_row_21 d_X_row_24 hnx (Nat.le_of_ble_eq_true rfl) (Nat.le_of_ble_eq_true rfl) (Nat.le_of_ble_eq_true rfl) (Nat.le_of_ble_eq_true rfl) hlocks ⟨by rw [hC]; decide, by rw [hC]; rfl⟩ (Nat.le_of_ble_eq_true rfl) (Nat.le_of_ble_eq_true rfl)
  · refine lv_iload_n hx hb d_X_row_4 rfl (lv_at hl 1 rfl) ?_
    refine lv_aload_n hx hb d_X_row_5 rfl (lv_at hl 0 rfl) ?_
    refine m_get (D := G) (ci := 0) (v := .ref (α 2)) (C := nR_X) (T := nT_X) (N := 6) hx hb hta in_X hown hK hM h0 rfl 1 (by decide) (hta _ aw_86) (fun _ h9 => h9) rfl d_X_row_6 ?_
    refine m_get (D := G) (ci := 2) (v := .int (nI rn)) (C := nR_Q) (T := nT_Q) (N := 4) hx hb hta in_Q hown hK hM h2 rfl 1 (by decide) (hta _ aw_55) (fun _ h9 => h9) rfl d_X_row_9 ?_
    refine lv_icmp_lt (tgt := 25) hx hb d_X_row_12 (by decide) (fun c_2 => ?_) (fun c_2 => ?_)
    · have pp0 : ¬ x1 < 0 ∧ x1 < nI rn := ⟨c_1, c_2⟩
      obtain ⟨j, hj, ej⟩ := nt_of (by omega) pp0
      rw [show x1.toNatClampNeg = j by rw [ej, nI_clamp (by omega)]]
      have hv := hN (ro j) (ok5 j hj)
      refine lv_aload_n hx hb d_X_row_25 rfl (lv_at hl 0 rfl) ?_
      refine m_get (D := G) (ci := 0) (v := .ref (α 2)) (C := nR_X) (T := nT_X) (N := 6) hx hb hta in_X hown hK hM h0 rfl 1 (by decide) (hta _ aw_86) (fun _ h9 => h9) rfl d_X_row_26 ?_
      refine m_get (D := G) (ci := 2) (v := .ref (α 6)) (C := nR_Q) (T := nT_Q) (N := 4) hx hb hta in_Q hown hK hM h2 rfl 0 (by decide) (hta _ aw_53) (fun _ h9 => h9) rfl d_X_row_29 ?_
      refine lv_iload_n hx hb d_X_row_32 rfl (lv_at hl 1 rfl) ?_
      refine m_aald hx hb hK hM 0 h6 rfl (by rw [ej]; exact vp_in_nI (by omega) (by omega)) (v := .ref (nA (v (ro j)))) (by rw [ej, nI_clamp (by omega), hfr j hj]; rfl) d_X_row_33 ?_
      refine lv_astore_n (lv' := [(3, .ref (nA (v (ro j)))), (0, .ref (α 0)), (1, .int x1), (2, .int x2)]) hx hb d_X_row_34 rfl hl (by decide) rfl (fun ls hl => ?_)
      refine lv_iload_n hx hb d_X_row_35 rfl (lv_at hl 3 rfl) ?_
      rcases sw_5 x2 with hs_4 | hs_4 | hs_4 | hs_4 | hs_4 | hs_4
      · subst hs_4
        have p_5 : ¬ (0 : Int32) < 0 ∧ ¬ 4 < (0 : Int32) := by decide
        refine lv_tableIn (tgt := 72) hx hb d_X_row_36 (by decide) (by decide) rfl (by decide) ?_
        refine lv_aload_n hx hb d_X_row_72 rfl (lv_at hl 0 rfl) ?_
        refine m_get (D := G) (ci := 4) (v := .int (nN (v (ro j)))) (C := nR_N) (T := nT_N) (N := 10) hx hb hta in_N hown hK hM hv.2.1 rfl 0 (by decide) (hta _ aw_279) (fun _ h9 => h9) rfl d_X_row_73 ?_
        refine vx_ret ?_
        refine W.widen (k := 1) (n := 6) (Nat.le_of_ble_eq_true rfl) (Nat.le_of_ble_eq_true rfl) ?_
        exact W.iret (v := nN (v (ro j))) hx hb hr (fun t ht hW => ⟨nN (v (ro j)), rfl, ⟨by simp only [pp0, p_5, not_true_eq_false, not_false_eq_true, and_true, and_false, true_and, false_and, and_self, or_self, or_true, true_or, or_false, false_or, ↓reduceIte, g_1, g_2, g_3, g_4, g_0], rfl⟩, ht⟩) (fun q h => hS0.2.2 q h) d_X_row_76
      · subst hs_4
        have p_5 : ¬ (1 : Int32) < 0 ∧ ¬ 4 < (1 : Int32) := by decide
        refine lv_tableIn (tgt := 77) hx hb d_X_row_36 (by decide) (by decide) rfl (by decide) ?_
        refine lv_aload_n hx hb d_X_row_77 rfl (lv_at hl 0 rfl) ?_
        refine m_get (D := G) (ci := 4) (v := .int (nT (v (ro j)))) (C := nR_N) (T := nT_N) (N := 10) hx hb hta in_N hown hK hM hv.2.1 rfl 4 (by decide) (hta _ aw_290) (fun _ h9 => h9) rfl d_X_row_78 ?_
        refine vx_ret ?_
        refine W.widen (k := 1) (n := 6) (Nat.le_of_ble_eq_true rfl) (Nat.le_of_ble_eq_true rfl) ?_
        exact W.iret (v := nT (v (ro j))) hx hb hr (fun t ht hW => ⟨nT (v (ro j)), rfl, ⟨by simp only [pp0, p_5, not_true_eq_false, not_false_eq_true, and_true, and_false, true_and, false_and, and_self, or_self, or_true, true_or, or_false, false_or, ↓reduceIte, g_1, g_2, g_3, g_4, g_0], rfl⟩, ht⟩) (fun q h => hS0.2.2 q h) d_X_row_81
      · subst hs_4
        have p_5 : ¬ (2 : Int32) < 0 ∧ ¬ 4 < (2 : Int32) := by decide
        refine lv_tableIn (tgt := 82) hx hb d_X_row_36 (by decide) (by decide) rfl (by decide) ?_
        refine lv_aload_n hx hb d_X_row_82 rfl (lv_at hl 0 rfl) ?_
        refine lv_aload_n hx hb d_X_row_83 rfl (lv_at hl 1 rfl) ?_
        refine m_get (D := G) (ci := 0) (v := .ref (α 2)) (C := nR_X) (T := nT_X) (N := 6) hx hb hta in_X hown hK hM h0 rfl 1 (by decide) (hta _ aw_86) (fun _ h9 => h9) rfl d_X_row_84 ?_
        refine m_get (D := G) (ci := 2) (v := .int kn) (C := nR_Q) (T := nT_Q) (N := 4) hx hb hta in_Q hown hK hM h2 rfl 2 (by decide) (hta _ aw_57) (fun _ h9 => h9) rfl d_X_row_87 ?_
        refine va_csq (W.runV (As := [.int kn]) (rest := []) ⟨hx, hb, hml, hown, hta⟩ (k_N_stateAt l G _ w hv.2.1 kn (by have z9 := hv.2.2; rw [okN_c hv] at z9; exact z9)) (cV 1 hta aw_419 aw_12 aw_416 aw_417 aw_418 rfl rfl (by decide +kernel) ⟨Nat.le_of_ble_eq_true rfl, Nat.le_of_ble_eq_true rfl⟩) (pW_V hK hM rfl hv.2.1) rfl rfl hl.1 rfl (lv_room (Nat.le_of_ble_eq_true rfl)) d_X_row_90 ⟨Nat.le_of_ble_eq_true rfl, Nat.le_of_ble_eq_true rfl⟩) (fun r_6 hr_6 => ?_)
        rw [← okN_c hv] at hr_6
        subst hr_6
        obtain ⟨ea_r_6, hea_r_6⟩ := stAt_c kn (nC (v (ro j))) hv.1 hv.2.2
        refine m_get (D := G) (ci := 5) (v := .int ((stAt kn (nC (v (ro j)))).2.2.1)) (C := nR_T) (T := nT_T) (N := 4) hx hb hta in_T hown hK hM hea_r_6 rfl 1 (by decide) (hta _ aw_258) (fun _ h9 => h9) rfl d_X_row_93 ?_
        refine vx_ret ?_
        refine W.widen (k := 1) (n := 6) (Nat.le_of_ble_eq_true rfl) (Nat.le_of_ble_eq_true rfl) ?_
        exact W.iret (v := (stAt kn (nC (v (ro j)))).2.2.1) hx hb hr (fun t ht hW => ⟨(stAt kn (nC (v (ro j)))).2.2.1, rfl, ⟨by simp only [pp0, p_5, not_true_eq_false, not_false_eq_true, and_true, and_false, true_and, false_and, and_self, or_self, or_true, true_or, or_false, false_or, ↓reduceIte, g_1, g_2, g_3, g_4, g_0], rfl⟩, ht⟩) (fun q h => hS0.2.2 q h) d_X_row_96
      · subst hs_4
        have p_5 : ¬ (3 : Int32) < 0 ∧ ¬ 4 < (3 : Int32) := by decide
        refine lv_tableIn (tgt := 97) hx hb d_X_row_36 (by decide) (by decide) rfl (by decide) ?_
        refine lv_aload_n hx hb d_X_row_97 rfl (lv_at hl 0 rfl) ?_
        refine lv_aload_n hx hb d_X_row_98 rfl (lv_at hl 1 rfl) ?_
        refine m_get (D := G) (ci := 0) (v := .ref (α 2)) (C := nR_X) (T := nT_X) (N := 6) hx hb hta in_X hown hK hM h0 rfl 1 (by decide) (hta _ aw_86) (fun _ h9 => h9) rfl d_X_row_99 ?_
        refine m_get (D := G) (ci := 2) (v := .int kn) (C := nR_Q) (T := nT_Q) (N := 4) hx hb hta in_Q hown hK hM h2 rfl 2 (by decide) (hta _ aw_57) (fun _ h9 => h9) rfl d_X_row_102 ?_
        refine va_csq (W.runV (As := [.int kn]) (rest := []) ⟨hx, hb, hml, hown, hta⟩ (k_N_stateAt l G _ w hv.2.1 kn (by have z9 := hv.2.2; rw [okN_c hv] at z9; exact z9)) (cV 1 hta aw_419 aw_12 aw_416 aw_417 aw_418 rfl rfl (by decide +kernel) ⟨Nat.le_of_ble_eq_true rfl, Nat.le_of_ble_eq_true rfl⟩) (pW_V hK hM rfl hv.2.1) rfl rfl hl.1 rfl (lv_room (Nat.le_of_ble_eq_true rfl)) d_X_row_105 ⟨Nat.le_of_ble_eq_true rfl, Nat.le_of_ble_eq_true rfl⟩) (fun r_7 hr_7 => ?_)
        rw [← okN_c hv] at hr_7
        subst hr_7
        obtain ⟨ea_r_7, hea_r_7⟩ := stAt_c kn (nC (v (ro j))) hv.1 hv.2.2
        refine m_get (D := G) (ci := 5) (v := .int ((stAt kn (nC (v (ro j)))).2.2.2)) (C := nR_T) (T := nT_T) (N := 4) hx hb hta in_T hown hK hM hea_r_7 rfl 2 (by decide) (hta _ aw_262) (fun _ h9 => h9) rfl d_X_row_108 ?_
        refine vp_callSi (W.runS (As := [.int ((stAt kn (nC (v (ro j)))).2.2.2)]) (rest := []) ⟨hx, hb, hml, hown, hta⟩ (k_X_oneIf l ((stAt kn (nC (v (ro j)))).2.2.2)) (cS 1 hta aw_422 aw_1 aw_420 aw_421 rfl rfl (by decide +kernel) ⟨Nat.le_of_ble_eq_true rfl, Nat.le_of_ble_eq_true rfl⟩) ⟨fun a U g mk q => q, fun U hU hW => ⟨rfl, trivial⟩⟩ rfl rfl hl.1 rfl (lv_room (Nat.le_of_ble_eq_true rfl)) d_X_row_111 ⟨Nat.le_of_ble_eq_true rfl, Nat.le_of_ble_eq_true rfl⟩) (fun r_8 hr_8 => ?_)
        refine vx_ret ?_
        refine W.widen (k := 1) (n := 6) (Nat.le_of_ble_eq_true rfl) (Nat.le_of_ble_eq_true rfl) ?_
        exact W.iret (v := r_8) hx hb hr (fun t ht hW => ⟨r_8, rfl, ⟨by simp only [pp0, p_5, not_true_eq_false, not_false_eq_true, and_true, and_false, true_and, false_and, and_self, or_self, or_true, true_or, or_false, false_or, ↓reduceIte, g_1, g_2, g_3, g_4, g_0], hr_8⟩, ht⟩) (fun q h => hS0.2.2 q h) d_X_row_114
      · subst hs_4
        have p_5 : ¬ (4 : Int32) < 0 ∧ ¬ 4 < (4 : Int32) := by decide
        refine lv_tableIn (tgt := 115) hx hb d_X_row_36 (by decide) (by decide) rfl (by decide) ?_
        refine lv_aload_n hx hb d_X_row_115 rfl (lv_at hl 0 rfl) ?_
        refine m_get (D := G) (ci := 4) (v := .int (nW (v (ro j)))) (C := nR_N) (T := nT_N) (N := 10) hx hb hta in_N hown hK hM hv.2.1 rfl 1 (by decide) (hta _ aw_282) (fun _ h9 => h9) rfl d_X_row_116 ?_
        refine vx_ret ?_
        refine W.widen (k := 1) (n := 6) (Nat.le_of_ble_eq_true rfl) (Nat.le_of_ble_eq_true rfl) ?_
        exact W.iret (v := nW (v (ro j))) hx hb hr (fun t ht hW => ⟨nW (v (ro j)), rfl, ⟨by simp only [pp0, p_5, not_true_eq_false, not_false_eq_true, and_true, and_false, true_and, false_and, and_self, or_self, or_true, true_or, or_false, false_or, ↓reduceIte, g_1, g_2, g_3, g_4, g_0], rfl⟩, ht⟩) (fun q h => hS0.2.2 q h) d_X_row_119
      · have p_5 : ¬ (¬ x2 < 0 ∧ ¬ 4 < x2) := sw_out hs_4
        refine lv_tableOut (tgt := 120) hx hb d_X_row_36 hs_4 (by decide) ?_
        have hC : gC (if (¬ x1 < 0 ∧ x1 < nI rn) ∧ (¬ x2 < 0 ∧ ¬ 4 < x2) then 1 else 0) 1 1 1 = 1 := by simp only [pp0, p_5, not_true_eq_false, not_false_eq_true, and_true, and_false, true_and, false_and, and_self, or_self, or_true, true_or, or_false, false_or, ↓reduceIte, g_1, g_2, g_3, g_4, g_0]
        exact xt_A hx hb hlt hown hta hE "no such what" (by decide) hS0 (hl.1.trans hml.symm) d_X_row_120 d_X_row_123 d_X_row_124 d_X_row_126 d_X_row_129 hnx (Nat.le_of_ble_eq_true rfl) (Nat.le_of_ble_eq_true rfl) (Nat.le_of_ble_eq_true rfl) (Nat.le_of_ble_eq_true rfl) hlocks ⟨by rw [hC]; decide, by rw [hC]; rfl⟩ (Nat.le_of_ble_eq_true rfl) (Nat.le_of_ble_eq_true rfl)
    · have hC : gC (if (¬ x1 < 0 ∧ x1 < nI rn) ∧ (¬ x2 < 0 ∧ ¬ 4 < x2) then 1 else 0) 1 1 1 = 1 := by simp only [c_1, c_2, not_true_eq_false, not_false_eq_true, and_true, and_false, true_and, false_and, and_self, or_self, or_true, true_or, or_false, false_or, ↓reduceIte, g_1, g_2, g_3, g_4, g_0]
      exact xt_A hx hb hlt hown hta hE "no such row" (by decide) hS0 (hl.1.trans hml.symm) d_X_row_15 d_X_row_18 d_X_row_19 d_X_row_21 d_X_row_24 hnx (Nat.le_of_ble_eq_true rfl) (Nat.le_of_ble_eq_true rfl) (Nat.le_of_ble_eq_true rfl) (Nat.le_of_ble_eq_true rfl) hlocks ⟨by rw [hC]; decide, by rw [hC]; rfl⟩ (Nat.le_of_ble_eq_true rfl) (Nat.le_of_ble_eq_true rfl)
