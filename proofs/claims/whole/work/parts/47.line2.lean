/-! the class: reading, gap -/
def hv9 (v : nV) : Int32 := (hd (nC v)).2.2.1
def vbt (a b : nV) (t : Int32) : Int32 := if 0 < nT b - nT a then hv9 a + flrd ((hv9 b - hv9 a) * (t - nT a)) (nT b - nT a) else hv9 a
set_option maxHeartbeats 4000000 in
set_option maxRecDepth 100000 in
theorem k_X_valueBetween (l : Launch) (G : va_G) (tys : List (ClassId × FieldType)) (w : Nat → Option va_E) (v1 v2 : nV) (hv1 : okN w v1) (hv2 : okN w v2) (t9 : Int32) : Met l y_X_valueBetween (wm y_X_valueBetween c_X_valueBetween 5 (some .int)) ({ frames := 2, cells := 0, slots := 0, locals := 40 }) (pW G tys w [.ref (nA v1), .ref (nA v2), .int t9]) (vp_Si (fun r => r = vbt v1 v2 t9)) 0 0 (fun _ => False) := by
  refine Met.ofW (cc := c_X_valueBetween) (maxL := 5) (ret := (some .int)) (by decide) rfl ?_
  intro p e s m args below meth c s₁ B hml hv
  obtain ⟨rfl, hM, hK⟩ := hv
  have hx := B.exec
  have hb := B.bytes
  have hr := B.returns
  have hts := atoms_spec (ws := (wm y_X_valueBetween c_X_valueBetween 5 (some .int))) B.pre
  have hta : ∀ w ∈ AL, w.before _ s = true := fun w h => hts w (List.mem_cons_of_mem _ h)
  have hown : s.vm.findClass nR_X = some m.cls := findClass_of_methodNamed B.named
  have hlocks := B.notSynchronized
  have hl := lv_entry ([.ref (nA v1), .ref (nA v2), .int t9]) (n := 5) (Nat.le_of_ble_eq_true rfl)
  rw [lg_entry_eq]
  generalize (lg_sl ([.ref (nA v1), .ref (nA v2), .int t9]) ++ List.replicate (5 - (lg_sl ([.ref (nA v1), .ref (nA v2), .int t9])).length) Slot.unset).toArray = ls at hl ⊢
  have hl : lv_has ls 5 [(0, .ref (nA v1)), (1, .ref (nA v2)), (2, .int t9)] := hl
  refine lv_aload_n hx hb d_X_valueBetween_0 rfl (lv_at hl 1 rfl) ?_
  refine m_get (D := G) (ci := 4) (v := .int (nT v2)) (C := nR_N) (T := nT_N) (N := 10) hx hb hta in_N hown hK hM hv2.2.1 rfl 4 (by decide) (hta _ aw_290) (fun _ h9 => h9) rfl d_X_valueBetween_1 ?_
  refine lv_aload_n hx hb d_X_valueBetween_4 rfl (lv_at hl 0 rfl) ?_
  refine m_get (D := G) (ci := 4) (v := .int (nT v1)) (C := nR_N) (T := nT_N) (N := 10) hx hb hta in_N hown hK hM hv1.2.1 rfl 4 (by decide) (hta _ aw_290) (fun _ h9 => h9) rfl d_X_valueBetween_5 ?_
  refine lv_isub hx hb d_X_valueBetween_8 ?_
  refine lv_istore_n (lv' := [(3, .int ((nT v2) - (nT v1))), (0, .ref (nA v1)), (1, .ref (nA v2)), (2, .int t9)]) hx hb d_X_valueBetween_9 rfl hl (by decide) rfl (fun ls hl => ?_)
  refine lv_iload_n hx hb d_X_valueBetween_10 rfl (lv_at hl 0 rfl) ?_
  refine lv_if_gt (tgt := 22) hx hb d_X_valueBetween_11 (by decide) (fun c_1 => ?_) (fun c_1 => ?_)
  · refine lv_aload_n hx hb d_X_valueBetween_22 rfl (lv_at hl 2 rfl) ?_
    refine m_get (D := G) (ci := 4) (v := .ref ((hd (nC v2)).1)) (C := nR_N) (T := nT_N) (N := 10) hx hb hta in_N hown hK hM hv2.2.1 rfl 6 (by decide) (hta _ aw_295) (fun _ h9 => h9) rfl d_X_valueBetween_23 ?_
    refine m_get (D := G) (ci := 5) (v := .int ((hd (nC v2)).2.2.1)) (C := nR_T) (T := nT_T) (N := 4) hx hb hta in_T hown hK hM (okN_s hv2) rfl 1 (by decide) (hta _ aw_258) (fun _ h9 => h9) rfl d_X_valueBetween_26 ?_
    refine lv_aload_n hx hb d_X_valueBetween_29 rfl (lv_at hl 1 rfl) ?_
    refine m_get (D := G) (ci := 4) (v := .ref ((hd (nC v1)).1)) (C := nR_N) (T := nT_N) (N := 10) hx hb hta in_N hown hK hM hv1.2.1 rfl 6 (by decide) (hta _ aw_295) (fun _ h9 => h9) rfl d_X_valueBetween_30 ?_
    refine m_get (D := G) (ci := 5) (v := .int ((hd (nC v1)).2.2.1)) (C := nR_T) (T := nT_T) (N := 4) hx hb hta in_T hown hK hM (okN_s hv1) rfl 1 (by decide) (hta _ aw_258) (fun _ h9 => h9) rfl d_X_valueBetween_33 ?_
    refine lv_isub hx hb d_X_valueBetween_36 ?_
    refine lv_iload_n hx hb d_X_valueBetween_37 rfl (lv_at hl 3 rfl) ?_
    refine lv_aload_n hx hb d_X_valueBetween_38 rfl (lv_at hl 1 rfl) ?_
    refine m_get (D := G) (ci := 4) (v := .int (nT v1)) (C := nR_N) (T := nT_N) (N := 10) hx hb hta in_N hown hK hM hv1.2.1 rfl 4 (by decide) (hta _ aw_290) (fun _ h9 => h9) rfl d_X_valueBetween_39 ?_
    refine lv_isub hx hb d_X_valueBetween_42 ?_
    refine lv_imul hx hb d_X_valueBetween_43 ?_
    refine lv_istore (lv' := [(4, .int ((((hd (nC v2)).2.2.1) - ((hd (nC v1)).2.2.1)) * (t9 - (nT v1)))), (3, .int ((nT v2) - (nT v1))), (0, .ref (nA v1)), (1, .ref (nA v2)), (2, .int t9)]) hx hb d_X_valueBetween_44 hl (by decide) rfl (fun ls hl => ?_)
    refine lv_aload_n hx hb d_X_valueBetween_46 rfl (lv_at hl 2 rfl) ?_
    refine m_get (D := G) (ci := 4) (v := .ref ((hd (nC v1)).1)) (C := nR_N) (T := nT_N) (N := 10) hx hb hta in_N hown hK hM hv1.2.1 rfl 6 (by decide) (hta _ aw_295) (fun _ h9 => h9) rfl d_X_valueBetween_47 ?_
    refine m_get (D := G) (ci := 5) (v := .int ((hd (nC v1)).2.2.1)) (C := nR_T) (T := nT_T) (N := 4) hx hb hta in_T hown hK hM (okN_s hv1) rfl 1 (by decide) (hta _ aw_258) (fun _ h9 => h9) rfl d_X_valueBetween_50 ?_
    refine lv_iload hx hb d_X_valueBetween_53 (lv_at hl 0 rfl) ?_
    refine lv_iload_n hx hb d_X_valueBetween_55 rfl (lv_at hl 1 rfl) ?_
    refine vp_callSi (W.runS (As := [.int ((((hd (nC v2)).2.2.1) - ((hd (nC v1)).2.2.1)) * (t9 - (nT v1))), .int ((nT v2) - (nT v1))]) (rest := [.int ((hd (nC v1)).2.2.1)]) ⟨hx, hb, hml, hown, hta⟩ (k_J_floorDiv l ((((hd (nC v2)).2.2.1) - ((hd (nC v1)).2.2.1)) * (t9 - (nT v1))) ((nT v2) - (nT v1)) (fun q9 => absurd c_1 (by rw [q9]; decide))) (cS 2 hta aw_451 aw_15 aw_449 aw_450 rfl rfl (by decide +kernel) ⟨Nat.le_of_ble_eq_true rfl, Nat.le_of_ble_eq_true rfl⟩) ⟨fun a U g mk q => q, fun U hU hW => ⟨rfl, trivial⟩⟩ rfl rfl hl.1 rfl (lv_room (Nat.le_of_ble_eq_true rfl)) d_X_valueBetween_56 ⟨Nat.le_of_ble_eq_true rfl, Nat.le_of_ble_eq_true rfl⟩) (fun r_2 hr_2 => ?_)
    refine lv_iadd hx hb d_X_valueBetween_59 ?_
    exact W.iret (v := ((hd (nC v1)).2.2.1) + r_2) hx hb hr (fun t ht hW => ⟨((hd (nC v1)).2.2.1) + r_2, rfl, by unfold vbt; rw [if_pos c_1, hr_2]; rfl, ht⟩) (fun q h => nomatch h) d_X_valueBetween_60
  · refine lv_aload_n hx hb d_X_valueBetween_14 rfl (lv_at hl 1 rfl) ?_
    refine m_get (D := G) (ci := 4) (v := .ref ((hd (nC v1)).1)) (C := nR_N) (T := nT_N) (N := 10) hx hb hta in_N hown hK hM hv1.2.1 rfl 6 (by decide) (hta _ aw_295) (fun _ h9 => h9) rfl d_X_valueBetween_15 ?_
    refine m_get (D := G) (ci := 5) (v := .int ((hd (nC v1)).2.2.1)) (C := nR_T) (T := nT_T) (N := 4) hx hb hta in_T hown hK hM (okN_s hv1) rfl 1 (by decide) (hta _ aw_258) (fun _ h9 => h9) rfl d_X_valueBetween_18 ?_
    exact W.iret (v := (hd (nC v1)).2.2.1) hx hb hr (fun t ht hW => ⟨(hd (nC v1)).2.2.1, rfl, by unfold vbt; rw [if_neg c_1]; rfl, ht⟩) (fun q h => nomatch h) d_X_valueBetween_21
def rdC (u : Nat → nV) (t : Int32) (a b : Option Nat) : Int32 := match a, b with
  | some i, some j => vbt (u i) (u j) t
  | _, _ => 0
theorem lastP_lt {P : Nat → Bool} {n i : Nat} (h : lastP P n = some i) : i < n ∧ P i = true := by
  induction n with
  | zero => cases h
  | succ n ih =>
    unfold lastP at h
    split at h
    · cases h; exact ⟨Nat.lt_succ_self _, by assumption⟩
    · exact ⟨Nat.lt_succ_of_lt (ih h).1, (ih h).2⟩
theorem firstP_lt {P : Nat → Bool} {i : Nat} : ∀ (n k : Nat), firstP P n k = some i → k ≤ i ∧ i < k + n ∧ P i = true := by
  intro n
  induction n with
  | zero => intro k h; cases h
  | succ n ih =>
    intro k h
    unfold firstP at h
    split at h
    · cases h; exact ⟨Nat.le_refl _, by omega, by assumption⟩
    · have := ih (k + 1) h; exact ⟨by omega, by omega, this.2.2⟩
set_option maxHeartbeats 4000000 in
set_option maxRecDepth 100000 in
theorem k_X_reading (l : Launch) (hlt : l.stackTraces = false) (G : va_G) (cN cB : ClassId) (ty2 : List (ClassId × FieldType)) (w : Nat → Option va_E) {α : Nat → Nat} (hα : ∀ i j, i < 8 → j < 8 → α i = α j → i = j) {v : Nat → nV} {od ro : Nat → Nat} {bs : Nat → Int32} {se wr ac : Int32} {n rn sn : Nat} {kn z : Int32} (hcp : cPic w α cN cB v od ro bs se wr ac n rn sn kn z) (hok : cOk v od ro n rn sn) (x1 x2 : Int32) : vx_Met l y_X_reading (wm y_X_reading c_X_reading 5 (some .int)) ({ frames := 6, cells := 1, slots := 6, locals := 82 }) (pX G ((cN, .object nR_N) :: (cB, .byte) :: ty2) w [.ref (α 0), .int x1, .int x2]) (vp_Si (fun r => gC (if ¬ x1 < 0 ∧ ¬ 10 ≤ x1 then 1 else 0) (if ¬ x2 < 0 ∧ ¬ se < x2 then 1 else 0) (if (lastP (fun i => decide (¬ x2 < nT (v (od i))) && isRd x1 (v (od i))) n).isSome = true ∧ (firstP (fun i => decide (¬ nT (v (od i)) < x2) && isRd x1 (v (od i))) n 0).isSome = true then 1 else 0) 1 = 0 ∧ r = rdC (fun i => v (od i)) x2 (lastP (fun i => decide (¬ x2 < nT (v (od i))) && isRd x1 (v (od i))) n) (firstP (fun i => decide (¬ nT (v (od i)) < x2) && isRd x1 (v (od i))) n 0))) (x_K (fun E => ¬ gC (if ¬ x1 < 0 ∧ ¬ 10 ≤ x1 then 1 else 0) (if ¬ x2 < 0 ∧ ¬ se < x2 then 1 else 0) (if (lastP (fun i => decide (¬ x2 < nT (v (od i))) && isRd x1 (v (od i))) n).isSome = true ∧ (firstP (fun i => decide (¬ nT (v (od i)) < x2) && isRd x1 (v (od i))) n 0).isSome = true then 1 else 0) 1 = 0 ∧ E = exN (gC (if ¬ x1 < 0 ∧ ¬ 10 ≤ x1 then 1 else 0) (if ¬ x2 < 0 ∧ ¬ se < x2 then 1 else 0) (if (lastP (fun i => decide (¬ x2 < nT (v (od i))) && isRd x1 (v (od i))) n).isSome = true ∧ (firstP (fun i => decide (¬ nT (v (od i)) < x2) && isRd x1 (v (od i))) n 0).isSome = true then 1 else 0) 1))) 1 6 (fun _ => False) := by
  refine vx_ofW (cc := c_X_reading) (maxL := 5) (ret := (some .int)) (by decide) rfl ?_
  intro p e s m args below meth c s₁ B hml hnx hv
  obtain ⟨rfl, hM, hK, hE⟩ := hv
  have hx := B.exec
  have hb := B.bytes
  have hr := B.returns
  have hts := atoms_spec (ws := (wm y_X_reading c_X_reading 5 (some .int))) B.pre
  have hta : ∀ w ∈ AL, w.before _ s = true := fun w h => hts w (List.mem_cons_of_mem _ h)
  have hown : s.vm.findClass nR_X = some m.cls := findClass_of_methodNamed B.named
  have hlocks := B.notSynchronized
  have hl := lv_entry ([.ref (α 0), .int x1, .int x2]) (n := 5) (Nat.le_of_ble_eq_true rfl)
  rw [lg_entry_eq]
  generalize (lg_sl ([.ref (α 0), .int x1, .int x2]) ++ List.replicate (5 - (lg_sl ([.ref (α 0), .int x1, .int x2])).length) Slot.unset).toArray = ls at hl ⊢
  have hl : lv_has ls 5 [(0, .ref (α 0)), (1, .int x1), (2, .int x2)] := hl
  have hcp2 := hcp
  obtain ⟨h0, h1, h2, h3, h7, ⟨fb, h4, hfb⟩, ⟨fi, h5, hfi⟩, ⟨fr, h6, hfr⟩, hN⟩ := hcp2
  obtain ⟨ok1, ok2, ok3, ok4, ok5, ok6⟩ := hok
  have hS0 : va_S (fun _ => False) s.heap s.heap [] := va_S.rf
  have hNo : ∀ i, i < n → okN w (v (od i)) := fun i hi => hN (od i) (ok4 i hi)
  refine lv_iload_n hx hb d_X_reading_0 rfl (lv_at hl 1 rfl) ?_
  refine vp_callSi (W.runS (As := [.int x1]) (rest := []) ⟨hx, hb, hml, hown, hta⟩ (k_X_isSector l x1) (cS 1 hta aw_198 aw_1 aw_196 aw_197 rfl rfl (by decide +kernel) ⟨Nat.le_of_ble_eq_true rfl, Nat.le_of_ble_eq_true rfl⟩) ⟨fun a U g mk q => q, fun U hU hW => ⟨rfl, trivial⟩⟩ rfl rfl hl.1 rfl (lv_room (Nat.le_of_ble_eq_true rfl)) d_X_reading_1 ⟨Nat.le_of_ble_eq_true rfl, Nat.le_of_ble_eq_true rfl⟩) (fun r_1 hr_1 => ?_)
  refine lv_if_ne (tgt := 17) hx hb d_X_reading_4 (by decide) (fun c_2 => ?_) (fun c_2 => ?_)
  · have p_3 := b1_t hr_1 c_2
    refine lv_aload_n hx hb d_X_reading_17 rfl (lv_at hl 0 rfl) ?_
    refine lv_iload_n hx hb d_X_reading_18 rfl (lv_at hl 2 rfl) ?_
    refine vp_callSi (W.runV (As := [.int x2]) (rest := []) ⟨hx, hb, hml, hown, hta⟩ (k_X_hasCome l G _ w h0 x2) (cV 1 hta aw_218 aw_1 aw_215 aw_217 as_SceneTimes_hasCome rfl rfl (by decide +kernel) ⟨Nat.le_of_ble_eq_true rfl, Nat.le_of_ble_eq_true rfl⟩) (pW_V hK hM rfl h0) rfl rfl hl.1 rfl (lv_room (Nat.le_of_ble_eq_true rfl)) d_X_reading_19 ⟨Nat.le_of_ble_eq_true rfl, Nat.le_of_ble_eq_true rfl⟩) (fun r_4 hr_4 => ?_)
    refine lv_if_ne (tgt := 35) hx hb d_X_reading_22 (by decide) (fun c_5 => ?_) (fun c_5 => ?_)
    · have p_6 := b1_t hr_4 c_5
      refine lv_aload_n hx hb d_X_reading_35 rfl (lv_at hl 0 rfl) ?_
      refine m_get (D := G) (ci := 0) (v := .ref (α 1)) (C := nR_X) (T := nT_X) (N := 6) hx hb hta in_X hown hK hM h0 rfl 0 (by decide) (hta _ aw_85) (fun _ h9 => h9) rfl d_X_reading_36 ?_
      refine lv_iload_n hx hb d_X_reading_39 rfl (lv_at hl 1 rfl) ?_
      refine lv_iload_n hx hb d_X_reading_40 rfl (lv_at hl 2 rfl) ?_
      refine va_csq (W.runV (As := [.int x1, .int x2]) (rest := []) ⟨hx, hb, hml, hown, hta⟩ (k_L_lastReadingUpTo l G cN _ w (v := fun i => v (od i)) ok1 h1 h5 hfi hNo x1 x2) (cV 2 hta aw_436 aw_2 aw_433 aw_434 aw_435 rfl rfl (by decide +kernel) ⟨Nat.le_of_ble_eq_true rfl, Nat.le_of_ble_eq_true rfl⟩) (pW_V hK hM rfl h1) rfl rfl hl.1 rfl (lv_room (Nat.le_of_ble_eq_true rfl)) d_X_reading_41 ⟨Nat.le_of_ble_eq_true rfl, Nat.le_of_ble_eq_true rfl⟩) (fun r_7 hr_7 => ?_)
      obtain ⟨o_i1, hi1⟩ : ∃ z9 : Option Nat, lastP (fun i => decide (¬ x2 < nT (v (od i))) && isRd x1 (v (od i))) n = z9 := ⟨_, rfl⟩
      cases o_i1 with
      | none =>
        rw [hi1] at hr_7
        have hr_7 : r_7 = none := hr_7
        subst hr_7
        refine lv_astore_nN (lv' := [(3, .null), (0, .ref (α 0)), (1, .int x1), (2, .int x2)]) hx hb d_X_reading_44 rfl hl (by decide) rfl (fun ls hl => ?_)
        refine lv_aload_n hx hb d_X_reading_45 rfl (lv_at hl 1 rfl) ?_
        refine m_get (D := G) (ci := 0) (v := .ref (α 1)) (C := nR_X) (T := nT_X) (N := 6) hx hb hta in_X hown hK hM h0 rfl 0 (by decide) (hta _ aw_85) (fun _ h9 => h9) rfl d_X_reading_46 ?_
        refine lv_iload_n hx hb d_X_reading_49 rfl (lv_at hl 2 rfl) ?_
        refine lv_iload_n hx hb d_X_reading_50 rfl (lv_at hl 3 rfl) ?_
        refine va_csq (W.runV (As := [.int x1, .int x2]) (rest := []) ⟨hx, hb, hml, hown, hta⟩ (k_L_firstReadingFrom l G cN _ w (v := fun i => v (od i)) ok1 h1 h5 hfi hNo x1 x2) (cV 2 hta aw_444 aw_2 aw_441 aw_442 aw_443 rfl rfl (by decide +kernel) ⟨Nat.le_of_ble_eq_true rfl, Nat.le_of_ble_eq_true rfl⟩) (pW_V hK hM rfl h1) rfl rfl hl.1 rfl (lv_room (Nat.le_of_ble_eq_true rfl)) d_X_reading_51 ⟨Nat.le_of_ble_eq_true rfl, Nat.le_of_ble_eq_true rfl⟩) (fun r_9 hr_9 => ?_)
        obtain ⟨o_i2, hi2⟩ : ∃ z9 : Option Nat, firstP (fun i => decide (¬ nT (v (od i)) < x2) && isRd x1 (v (od i))) n 0 = z9 := ⟨_, rfl⟩
        cases o_i2 with
        | none =>
          rw [hi2] at hr_9
          have hr_9 : r_9 = none := hr_9
          subst hr_9
          refine lv_astoreN (lv' := [(4, .null), (3, .null), (0, .ref (α 0)), (1, .int x1), (2, .int x2)]) hx hb d_X_reading_54 hl (by decide) rfl (fun ls hl => ?_)
          refine lv_aload_nN hx hb d_X_reading_56 rfl (lv_at hl 1 rfl) ?_
          refine lv_ifnullN (tgt := 65) hx hb d_X_reading_57 (by decide) ?_
          have hC : gC (if ¬ x1 < 0 ∧ ¬ 10 ≤ x1 then 1 else 0) (if ¬ x2 < 0 ∧ ¬ se < x2 then 1 else 0) (if (lastP (fun i => decide (¬ x2 < nT (v (od i))) && isRd x1 (v (od i))) n).isSome = true ∧ (firstP (fun i => decide (¬ nT (v (od i)) < x2) && isRd x1 (v (od i))) n 0).isSome = true then 1 else 0) 1 = 3 := by simp only [p_3, p_6, hi1, Option.isSome_none, Option.isSome_some, Bool.false_eq_true, hi2, not_true_eq_false, not_false_eq_true, and_true, and_false, true_and, false_and, and_self, or_self, or_true, true_or, or_false, false_or, ↓reduceIte, g_1, g_2, g_3, g_4, g_0]
          exact xt_S hx hb hlt hown hta hE "no reading there" (by decide) hS0 (hl.1.trans hml.symm) d_X_reading_65 d_X_reading_68 d_X_reading_69 d_X_reading_71 d_X_reading_74 hnx (Nat.le_of_ble_eq_true rfl) (Nat.le_of_ble_eq_true rfl) (Nat.le_of_ble_eq_true rfl) (Nat.le_of_ble_eq_true rfl) hlocks ⟨by rw [hC]; decide, by rw [hC]; rfl⟩ (Nat.le_of_ble_eq_true rfl) (Nat.le_of_ble_eq_true rfl)
        | some i2 =>
          rw [hi2] at hr_9
          have hr_9 : r_9 = some (nA (v (od i2))) := hr_9
          subst hr_9
          have li2 : i2 < n := (by have := (firstP_lt _ _ hi2).2.1; omega)
          refine lv_astore (lv' := [(4, .ref (nA (v (od i2)))), (3, .null), (0, .ref (α 0)), (1, .int x1), (2, .int x2)]) hx hb d_X_reading_54 hl (by decide) rfl (fun ls hl => ?_)
          refine lv_aload_nN hx hb d_X_reading_56 rfl (lv_at hl 1 rfl) ?_
          refine lv_ifnullN (tgt := 65) hx hb d_X_reading_57 (by decide) ?_
          have hC : gC (if ¬ x1 < 0 ∧ ¬ 10 ≤ x1 then 1 else 0) (if ¬ x2 < 0 ∧ ¬ se < x2 then 1 else 0) (if (lastP (fun i => decide (¬ x2 < nT (v (od i))) && isRd x1 (v (od i))) n).isSome = true ∧ (firstP (fun i => decide (¬ nT (v (od i)) < x2) && isRd x1 (v (od i))) n 0).isSome = true then 1 else 0) 1 = 3 := by simp only [p_3, p_6, hi1, Option.isSome_none, Option.isSome_some, Bool.false_eq_true, hi2, not_true_eq_false, not_false_eq_true, and_true, and_false, true_and, false_and, and_self, or_self, or_true, true_or, or_false, false_or, ↓reduceIte, g_1, g_2, g_3, g_4, g_0]
          exact xt_S hx hb hlt hown hta hE "no reading there" (by decide) hS0 (hl.1.trans hml.symm) d_X_reading_65 d_X_reading_68 d_X_reading_69 d_X_reading_71 d_X_reading_74 hnx (Nat.le_of_ble_eq_true rfl) (Nat.le_of_ble_eq_true rfl) (Nat.le_of_ble_eq_true rfl) (Nat.le_of_ble_eq_true rfl) hlocks ⟨by rw [hC]; decide, by rw [hC]; rfl⟩ (Nat.le_of_ble_eq_true rfl) (Nat.le_of_ble_eq_true rfl)
      | some i1 =>
        rw [hi1] at hr_7
        have hr_7 : r_7 = some (nA (v (od i1))) := hr_7
        subst hr_7
        have li1 : i1 < n := (lastP_lt hi1).1
        refine lv_astore_n (lv' := [(3, .ref (nA (v (od i1)))), (0, .ref (α 0)), (1, .int x1), (2, .int x2)]) hx hb d_X_reading_44 rfl hl (by decide) rfl (fun ls hl => ?_)
        refine lv_aload_n hx hb d_X_reading_45 rfl (lv_at hl 1 rfl) ?_
        refine m_get (D := G) (ci := 0) (v := .ref (α 1)) (C := nR_X) (T := nT_X) (N := 6) hx hb hta in_X hown hK hM h0 rfl 0 (by decide) (hta _ aw_85) (fun _ h9 => h9) rfl d_X_reading_46 ?_
        refine lv_iload_n hx hb d_X_reading_49 rfl (lv_at hl 2 rfl) ?_
        refine lv_iload_n hx hb d_X_reading_50 rfl (lv_at hl 3 rfl) ?_
        refine va_csq (W.runV (As := [.int x1, .int x2]) (rest := []) ⟨hx, hb, hml, hown, hta⟩ (k_L_firstReadingFrom l G cN _ w (v := fun i => v (od i)) ok1 h1 h5 hfi hNo x1 x2) (cV 2 hta aw_444 aw_2 aw_441 aw_442 aw_443 rfl rfl (by decide +kernel) ⟨Nat.le_of_ble_eq_true rfl, Nat.le_of_ble_eq_true rfl⟩) (pW_V hK hM rfl h1) rfl rfl hl.1 rfl (lv_room (Nat.le_of_ble_eq_true rfl)) d_X_reading_51 ⟨Nat.le_of_ble_eq_true rfl, Nat.le_of_ble_eq_true rfl⟩) (fun r_13 hr_13 => ?_)
        obtain ⟨o_i2, hi2⟩ : ∃ z9 : Option Nat, firstP (fun i => decide (¬ nT (v (od i)) < x2) && isRd x1 (v (od i))) n 0 = z9 := ⟨_, rfl⟩
        cases o_i2 with
        | none =>
          rw [hi2] at hr_13
          have hr_13 : r_13 = none := hr_13
          subst hr_13
          refine lv_astoreN (lv' := [(4, .null), (3, .ref (nA (v (od i1)))), (0, .ref (α 0)), (1, .int x1), (2, .int x2)]) hx hb d_X_reading_54 hl (by decide) rfl (fun ls hl => ?_)
          refine lv_aload_n hx hb d_X_reading_56 rfl (lv_at hl 1 rfl) ?_
          refine lv_ifnull hx hb d_X_reading_57 ?_
          refine lv_aloadN hx hb d_X_reading_60 (lv_at hl 0 rfl) ?_
          refine lv_ifnonnullN hx hb d_X_reading_62 ?_
          have hC : gC (if ¬ x1 < 0 ∧ ¬ 10 ≤ x1 then 1 else 0) (if ¬ x2 < 0 ∧ ¬ se < x2 then 1 else 0) (if (lastP (fun i => decide (¬ x2 < nT (v (od i))) && isRd x1 (v (od i))) n).isSome = true ∧ (firstP (fun i => decide (¬ nT (v (od i)) < x2) && isRd x1 (v (od i))) n 0).isSome = true then 1 else 0) 1 = 3 := by simp only [p_3, p_6, hi1, Option.isSome_none, Option.isSome_some, Bool.false_eq_true, hi2, not_true_eq_false, not_false_eq_true, and_true, and_false, true_and, false_and, and_self, or_self, or_true, true_or, or_false, false_or, ↓reduceIte, g_1, g_2, g_3, g_4, g_0]
          exact xt_S hx hb hlt hown hta hE "no reading there" (by decide) hS0 (hl.1.trans hml.symm) d_X_reading_65 d_X_reading_68 d_X_reading_69 d_X_reading_71 d_X_reading_74 hnx (Nat.le_of_ble_eq_true rfl) (Nat.le_of_ble_eq_true rfl) (Nat.le_of_ble_eq_true rfl) (Nat.le_of_ble_eq_true rfl) hlocks ⟨by rw [hC]; decide, by rw [hC]; rfl⟩ (Nat.le_of_ble_eq_true rfl) (Nat.le_of_ble_eq_true rfl)
        | some i2 =>
          rw [hi2] at hr_13
          have hr_13 : r_13 = some (nA (v (od i2))) := hr_13
          subst hr_13
          have li2 : i2 < n := (by have := (firstP_lt _ _ hi2).2.1; omega)
          refine lv_astore (lv' := [(4, .ref (nA (v (od i2)))), (3, .ref (nA (v (od i1)))), (0, .ref (α 0)), (1, .int x1), (2, .int x2)]) hx hb d_X_reading_54 hl (by decide) rfl (fun ls hl => ?_)
          refine lv_aload_n hx hb d_X_reading_56 rfl (lv_at hl 1 rfl) ?_
          refine lv_ifnull hx hb d_X_reading_57 ?_
          refine lv_aload hx hb d_X_reading_60 (lv_at hl 0 rfl) ?_
          refine lv_ifnonnull (tgt := 75) hx hb d_X_reading_62 (by decide) ?_
          refine lv_aload_n hx hb d_X_reading_75 rfl (lv_at hl 1 rfl) ?_
          refine lv_aload hx hb d_X_reading_76 (lv_at hl 0 rfl) ?_
          refine lv_iload_n hx hb d_X_reading_78 rfl (lv_at hl 4 rfl) ?_
          refine vp_callSi (W.runS (As := [.ref (nA (v (od i1))), .ref (nA (v (od i2))), .int x2]) (rest := []) ⟨hx, hb, hml, hown, hta⟩ (k_X_valueBetween l G _ w (v (od i1)) (v (od i2)) (hNo i1 li1) (hNo i2 li2) x2) (cS 3 hta aw_448 aw_1 aw_446 aw_447 rfl rfl (by decide +kernel) ⟨Nat.le_of_ble_eq_true rfl, Nat.le_of_ble_eq_true rfl⟩) (pW_S hK hM) rfl rfl hl.1 rfl (lv_room (Nat.le_of_ble_eq_true rfl)) d_X_reading_79 ⟨Nat.le_of_ble_eq_true rfl, Nat.le_of_ble_eq_true rfl⟩) (fun r_16 hr_16 => ?_)
          refine vx_ret ?_
          refine W.widen (k := 1) (n := 6) (Nat.le_of_ble_eq_true rfl) (Nat.le_of_ble_eq_true rfl) ?_
          exact W.iret (v := r_16) hx hb hr (fun t ht hW => ⟨r_16, rfl, ⟨by simp only [p_3, p_6, hi1, hi2, Option.isSome_some, not_true_eq_false, not_false_eq_true, and_true, and_false, true_and, false_and, and_self, or_self, or_true, true_or, or_false, false_or, ↓reduceIte, g_1, g_2, g_3, g_4, g_0], by rw [hr_16, hi1, hi2]; rfl⟩, ht⟩) (fun q h => hS0.2.2 q h) d_X_reading_82
    · have p_17 := b1_f hr_4 c_5
      have hC : gC (if ¬ x1 < 0 ∧ ¬ 10 ≤ x1 then 1 else 0) (if ¬ x2 < 0 ∧ ¬ se < x2 then 1 else 0) (if (lastP (fun i => decide (¬ x2 < nT (v (od i))) && isRd x1 (v (od i))) n).isSome = true ∧ (firstP (fun i => decide (¬ nT (v (od i)) < x2) && isRd x1 (v (od i))) n 0).isSome = true then 1 else 0) 1 = 2 := by simp only [p_3, p_17, not_true_eq_false, not_false_eq_true, and_true, and_false, true_and, false_and, and_self, or_self, or_true, true_or, or_false, false_or, ↓reduceIte, g_1, g_2, g_3, g_4, g_0]
      exact xt_I hx hb hlt hown hta hE "the second" (by decide) hS0 (hl.1.trans hml.symm) d_X_reading_25 d_X_reading_28 d_X_reading_29 d_X_reading_31 d_X_reading_34 hnx (Nat.le_of_ble_eq_true rfl) (Nat.le_of_ble_eq_true rfl) (Nat.le_of_ble_eq_true rfl) (Nat.le_of_ble_eq_true rfl) hlocks ⟨by rw [hC]; decide, by rw [hC]; rfl⟩ (Nat.le_of_ble_eq_true rfl) (Nat.le_of_ble_eq_true rfl)
  · have p_18 := b1_f hr_1 c_2
    have hC : gC (if ¬ x1 < 0 ∧ ¬ 10 ≤ x1 then 1 else 0) (if ¬ x2 < 0 ∧ ¬ se < x2 then 1 else 0) (if (lastP (fun i => decide (¬ x2 < nT (v (od i))) && isRd x1 (v (od i))) n).isSome = true ∧ (firstP (fun i => decide (¬ nT (v (od i)) < x2) && isRd x1 (v (od i))) n 0).isSome = true then 1 else 0) 1 = 1 := by simp only [p_18, not_true_eq_false, not_false_eq_true, and_true, and_false, true_and, false_and, and_self, or_self, or_true, true_or, or_false, false_or, ↓reduceIte, g_1, g_2, g_3, g_4, g_0]
    exact xt_A hx hb hlt hown hta hE "no such sector" (by decide) hS0 (hl.1.trans hml.symm) d_X_reading_7 d_X_reading_10 d_X_reading_11 d_X_reading_13 d_X_reading_16 hnx (Nat.le_of_ble_eq_true rfl) (Nat.le_of_ble_eq_true rfl) (Nat.le_of_ble_eq_true rfl) (Nat.le_of_ble_eq_true rfl) hlocks ⟨by rw [hC]; decide, by rw [hC]; rfl⟩ (Nat.le_of_ble_eq_true rfl) (Nat.le_of_ble_eq_true rfl)
def gapN (u : Nat → nV) (len : Int32) : Nat → Nat → Option Nat → Int32 → Int32
  | 0, _, _, _ => -1
  | m + 1, i, e, k => if (hd (nC (u i))).2.2.2 = 0 then (match e with
      | none => gapN u len m (i + 1) (some i) k
      | some p => if nT (u i) - nT (u p) ≤ len then gapN u len m (i + 1) (some i) k else if k = 0 then nN (u p) else gapN u len m (i + 1) (some i) (k + (-1)))
    else gapN u len m (i + 1) e k
set_option maxHeartbeats 4000000 in
set_option maxRecDepth 100000 in
theorem k_X_gap (l : Launch) (hlt : l.stackTraces = false) (G : va_G) (cN cB : ClassId) (ty2 : List (ClassId × FieldType)) (w : Nat → Option va_E) {α : Nat → Nat} (hα : ∀ i j, i < 8 → j < 8 → α i = α j → i = j) {v : Nat → nV} {od ro : Nat → Nat} {bs : Nat → Int32} {se wr ac : Int32} {n rn sn : Nat} {kn z : Int32} (hcp : cPic w α cN cB v od ro bs se wr ac n rn sn kn z) (hok : cOk v od ro n rn sn) (x1 x2 : Int32) : vx_Met l y_X_gap (wm y_X_gap c_X_gap 7 (some .int)) ({ frames := 6, cells := 1, slots := 6, locals := 82 }) (pX G ((cN, .object nR_N) :: (cB, .byte) :: ty2) w [.ref (α 0), .int x1, .int x2]) (vp_Si (fun r => gC 1 (if (¬ x1 < 0 ∧ ¬ 99999 < x1) ∧ 0 ≤ x2 then 1 else 0) 1 1 = 0 ∧ r = gapN (fun i => v (od i)) x1 n 0 none x2)) (x_K (fun E => ¬ gC 1 (if (¬ x1 < 0 ∧ ¬ 99999 < x1) ∧ 0 ≤ x2 then 1 else 0) 1 1 = 0 ∧ E = exN (gC 1 (if (¬ x1 < 0 ∧ ¬ 99999 < x1) ∧ 0 ≤ x2 then 1 else 0) 1 1))) 1 6 (fun _ => False) := by
  refine vx_ofW (cc := c_X_gap) (maxL := 7) (ret := (some .int)) (by decide) rfl ?_
  intro p e s m args below meth c s₁ B hml hnx hv
  obtain ⟨rfl, hM, hK, hE⟩ := hv
  have hx := B.exec
  have hb := B.bytes
  have hr := B.returns
  have hts := atoms_spec (ws := (wm y_X_gap c_X_gap 7 (some .int))) B.pre
  have hta : ∀ w ∈ AL, w.before _ s = true := fun w h => hts w (List.mem_cons_of_mem _ h)
  have hown : s.vm.findClass nR_X = some m.cls := findClass_of_methodNamed B.named
  have hlocks := B.notSynchronized
  have hl := lv_entry ([.ref (α 0), .int x1, .int x2]) (n := 7) (Nat.le_of_ble_eq_true rfl)
  rw [lg_entry_eq]
  generalize (lg_sl ([.ref (α 0), .int x1, .int x2]) ++ List.replicate (7 - (lg_sl ([.ref (α 0), .int x1, .int x2])).length) Slot.unset).toArray = ls at hl ⊢
  have hl : lv_has ls 7 [(0, .ref (α 0)), (1, .int x1), (2, .int x2)] := hl
  have hcp2 := hcp
  obtain ⟨h0, h1, h2, h3, h7, ⟨fb, h4, hfb⟩, ⟨fi, h5, hfi⟩, ⟨fr, h6, hfr⟩, hN⟩ := hcp2
  obtain ⟨ok1, ok2, ok3, ok4, ok5, ok6⟩ := hok
  have hS0 : va_S (fun _ => False) s.heap s.heap [] := va_S.rf
  have hNo : ∀ i, i < n → okN w (v (od i)) := fun i hi => hN (od i) (ok4 i hi)
  have loop : gC 1 (if (¬ x1 < 0 ∧ ¬ 99999 < x1) ∧ 0 ≤ x2 then 1 else 0) 1 1 = 0 → ∀ (m9 i : Nat) (k x5 : Int32) (ls : Array Slot), i + m9 = n → x5 = nI i → (gapN (fun i => v (od i)) x1 m9 i none k = gapN (fun i => v (od i)) x1 n 0 none x2 → lv_has ls 7 [(0, .ref (α 0)), (1, .int x1), (2, .int x2), (3, .null), (4, .int k), (5, .int x5)] → W p l e (headSpec (wm y_X_gap c_X_gap 7 (some .int)) ({ frames := 6, cells := 1, slots := 6, locals := 82 })).room s m ([.ref (α 0), .int x1, .int x2] : List Value).toArray below meth c s.heap [] 0 0 (vx_MQ below (vp_Si (fun r => gC 1 (if (¬ x1 < 0 ∧ ¬ 99999 < x1) ∧ 0 ≤ x2 then 1 else 0) 1 1 = 0 ∧ r = gapN (fun i => v (od i)) x1 n 0 none x2)) (x_K (fun E => ¬ gC 1 (if (¬ x1 < 0 ∧ ¬ 99999 < x1) ∧ 0 ≤ x2 then 1 else 0) 1 1 = 0 ∧ E = exN (gC 1 (if (¬ x1 < 0 ∧ ¬ 99999 < x1) ∧ 0 ≤ x2 then 1 else 0) 1 1))) ([.ref (α 0), .int x1, .int x2] : List Value).toArray s 1 6 (fun _ => False)) (F0 m 32 ls [])) ∧ (∀ p9, p9 < n → gapN (fun i => v (od i)) x1 m9 i (some p9) k = gapN (fun i => v (od i)) x1 n 0 none x2 → lv_has ls 7 [(0, .ref (α 0)), (1, .int x1), (2, .int x2), (3, .ref (nA (v (od p9)))), (4, .int k), (5, .int x5)] → W p l e (headSpec (wm y_X_gap c_X_gap 7 (some .int)) ({ frames := 6, cells := 1, slots := 6, locals := 82 })).room s m ([.ref (α 0), .int x1, .int x2] : List Value).toArray below meth c s.heap [] 0 0 (vx_MQ below (vp_Si (fun r => gC 1 (if (¬ x1 < 0 ∧ ¬ 99999 < x1) ∧ 0 ≤ x2 then 1 else 0) 1 1 = 0 ∧ r = gapN (fun i => v (od i)) x1 n 0 none x2)) (x_K (fun E => ¬ gC 1 (if (¬ x1 < 0 ∧ ¬ 99999 < x1) ∧ 0 ≤ x2 then 1 else 0) 1 1 = 0 ∧ E = exN (gC 1 (if (¬ x1 < 0 ∧ ¬ 99999 < x1) ∧ 0 ≤ x2 then 1 else 0) 1 1))) ([.ref (α 0), .int x1, .int x2] : List Value).toArray s 1 6 (fun _ => False)) (F0 m 32 ls [])) := by
    intro hC9 m9
    induction m9 with
    | zero =>
      intro i k x5 ls hi e5
      refine ⟨fun hg hl => ?_, fun p9 hp9 hg hl => ?_⟩
      · refine lv_iload hx hb d_X_gap_32 (lv_at hl 5 rfl) ?_
        refine lv_aload_n hx hb d_X_gap_34 rfl (lv_at hl 0 rfl) ?_
        refine m_get (D := G) (ci := 0) (v := .ref (α 1)) (C := nR_X) (T := nT_X) (N := 6) hx hb hta in_X hown hK hM h0 rfl 0 (by decide) (hta _ aw_85) (fun _ h9 => h9) rfl d_X_gap_35 ?_
        refine m_get (D := G) (ci := 1) (v := .int (nI n)) (C := nR_L) (T := nT_L) (N := 3) hx hb hta in_L hown hK hM h1 rfl 2 (by decide) (hta _ aw_37) (fun _ h9 => h9) rfl d_X_gap_38 ?_
        refine lv_icmp_ge (tgt := 110) hx hb d_X_gap_41 (by decide) (fun c_1 => ?_) (fun c_1 => absurd (by rw [e5]; exact nI_le (by omega) (by omega)) c_1)
        refine lv_iconst (v := (-1)) hx hb d_X_gap_110 (by decide) ?_
        refine vx_ret ?_
        refine W.widen (k := 1) (n := 6) (Nat.le_of_ble_eq_true rfl) (Nat.le_of_ble_eq_true rfl) ?_
        exact W.iret (v := (-1)) hx hb hr (fun t ht hW => ⟨(-1), rfl, ⟨hC9, hg⟩, ht⟩) (fun q h => hS0.2.2 q h) d_X_gap_111
      · refine lv_iload hx hb d_X_gap_32 (lv_at hl 5 rfl) ?_
        refine lv_aload_n hx hb d_X_gap_34 rfl (lv_at hl 0 rfl) ?_
        refine m_get (D := G) (ci := 0) (v := .ref (α 1)) (C := nR_X) (T := nT_X) (N := 6) hx hb hta in_X hown hK hM h0 rfl 0 (by decide) (hta _ aw_85) (fun _ h9 => h9) rfl d_X_gap_35 ?_
        refine m_get (D := G) (ci := 1) (v := .int (nI n)) (C := nR_L) (T := nT_L) (N := 3) hx hb hta in_L hown hK hM h1 rfl 2 (by decide) (hta _ aw_37) (fun _ h9 => h9) rfl d_X_gap_38 ?_
        refine lv_icmp_ge (tgt := 110) hx hb d_X_gap_41 (by decide) (fun c_2 => ?_) (fun c_2 => absurd (by rw [e5]; exact nI_le (by omega) (by omega)) c_2)
        refine lv_iconst (v := (-1)) hx hb d_X_gap_110 (by decide) ?_
        refine vx_ret ?_
        refine W.widen (k := 1) (n := 6) (Nat.le_of_ble_eq_true rfl) (Nat.le_of_ble_eq_true rfl) ?_
        exact W.iret (v := (-1)) hx hb hr (fun t ht hW => ⟨(-1), rfl, ⟨hC9, hg⟩, ht⟩) (fun q h => hS0.2.2 q h) d_X_gap_111
    | succ m9 ih =>
      intro i k x5 ls hi e5
      have hv := hNo i (by omega)
      refine ⟨fun hg hl => ?_, fun p9 hp9 hg hl => ?_⟩
      · refine lv_iload hx hb d_X_gap_32 (lv_at hl 5 rfl) ?_
        refine lv_aload_n hx hb d_X_gap_34 rfl (lv_at hl 0 rfl) ?_
        refine m_get (D := G) (ci := 0) (v := .ref (α 1)) (C := nR_X) (T := nT_X) (N := 6) hx hb hta in_X hown hK hM h0 rfl 0 (by decide) (hta _ aw_85) (fun _ h9 => h9) rfl d_X_gap_35 ?_
        refine m_get (D := G) (ci := 1) (v := .int (nI n)) (C := nR_L) (T := nT_L) (N := 3) hx hb hta in_L hown hK hM h1 rfl 2 (by decide) (hta _ aw_37) (fun _ h9 => h9) rfl d_X_gap_38 ?_
        refine lv_icmp_ge (tgt := 110) hx hb d_X_gap_41 (by decide) (fun c_3 => absurd c_3 (by rw [e5]; exact nI_ge (by omega) (by omega))) (fun c_3 => ?_)
        refine lv_aload_n hx hb d_X_gap_44 rfl (lv_at hl 0 rfl) ?_
        refine m_get (D := G) (ci := 0) (v := .ref (α 1)) (C := nR_X) (T := nT_X) (N := 6) hx hb hta in_X hown hK hM h0 rfl 0 (by decide) (hta _ aw_85) (fun _ h9 => h9) rfl d_X_gap_45 ?_
        refine m_get (D := G) (ci := 1) (v := .ref (α 5)) (C := nR_L) (T := nT_L) (N := 3) hx hb hta in_L hown hK hM h1 rfl 1 (by decide) (hta _ aw_35) (fun _ h9 => h9) rfl d_X_gap_48 ?_
        refine lv_iload hx hb d_X_gap_51 (lv_at hl 5 rfl) ?_
        refine m_aald hx hb hK hM 0 h5 rfl (by rw [e5]; exact vp_in_nI (by omega) (by omega)) (v := .ref (nA (v (od i)))) (by rw [e5, nI_clamp (by omega), hfi i (by omega)]; rfl) d_X_gap_53 ?_
        refine lv_astore (lv' := [(6, .ref (nA (v (od i)))), (0, .ref (α 0)), (1, .int x1), (2, .int x2), (3, .null), (4, .int k), (5, .int x5)]) hx hb d_X_gap_54 hl (by decide) rfl (fun ls hl => ?_)
        refine lv_aload hx hb d_X_gap_56 (lv_at hl 0 rfl) ?_
        refine m_get (D := G) (ci := 4) (v := .ref ((hd (nC (v (od i)))).1)) (C := nR_N) (T := nT_N) (N := 10) hx hb hta in_N hown hK hM hv.2.1 rfl 6 (by decide) (hta _ aw_295) (fun _ h9 => h9) rfl d_X_gap_58 ?_
        refine m_get (D := G) (ci := 5) (v := .int ((hd (nC (v (od i)))).2.2.2)) (C := nR_T) (T := nT_T) (N := 4) hx hb hta in_T hown hK hM (okN_s hv) rfl 2 (by decide) (hta _ aw_262) (fun _ h9 => h9) rfl d_X_gap_61 ?_
        refine lv_if_eq (tgt := 70) hx hb d_X_gap_64 (by decide) (fun c_4 => ?_) (fun c_4 => ?_)
        · refine lv_aload_nN hx hb d_X_gap_70 rfl (lv_at hl 4 rfl) ?_
          refine lv_ifnullN (tgt := 101) hx hb d_X_gap_71 (by decide) ?_
          refine lv_aload hx hb d_X_gap_101 (lv_at hl 0 rfl) ?_
          refine lv_astore_n (lv' := [(3, .ref (nA (v (od i)))), (6, .ref (nA (v (od i)))), (0, .ref (α 0)), (1, .int x1), (2, .int x2), (4, .int k), (5, .int x5)]) hx hb d_X_gap_103 rfl hl (by decide) rfl (fun ls hl => ?_)
          obtain ⟨x_5, ex_5⟩ : ∃ y : Int32, y = x5 + 1 := ⟨_, rfl⟩
          refine lv_iinc (v := x_5) (lv' := [(5, .int x_5), (3, .ref (nA (v (od i)))), (6, .ref (nA (v (od i)))), (0, .ref (α 0)), (1, .int x1), (2, .int x2), (4, .int k)]) hx hb d_X_gap_104 hl (k := 6) rfl (by rw [ex_5]; rfl) (by decide) rfl (fun ls hl => ?_)
          refine lv_goto (tgt := 32) hx hb d_X_gap_107 (by decide) ?_
          exact (ih (i + 1) k x_5 ls (by omega) (by rw [ex_5, e5, nI_1])).2 i (by omega) (by rw [← hg, gapN, if_pos c_4]) (lv_sub hl [3, 4, 5, 1, 6, 0] rfl)
        · refine lv_goto (tgt := 104) hx hb d_X_gap_67 (by decide) ?_
          obtain ⟨x_6, ex_6⟩ : ∃ y : Int32, y = x5 + 1 := ⟨_, rfl⟩
          refine lv_iinc (v := x_6) (lv' := [(5, .int x_6), (6, .ref (nA (v (od i)))), (0, .ref (α 0)), (1, .int x1), (2, .int x2), (3, .null), (4, .int k)]) hx hb d_X_gap_104 hl (k := 6) rfl (by rw [ex_6]; rfl) (by decide) rfl (fun ls hl => ?_)
          refine lv_goto (tgt := 32) hx hb d_X_gap_107 (by decide) ?_
          exact (ih (i + 1) k x_6 ls (by omega) (by rw [ex_6, e5, nI_1])).1 (by rw [← hg, gapN, if_neg c_4]) (lv_sub hl [2, 3, 4, 5, 6, 0] rfl)
      · refine lv_iload hx hb d_X_gap_32 (lv_at hl 5 rfl) ?_
        refine lv_aload_n hx hb d_X_gap_34 rfl (lv_at hl 0 rfl) ?_
        refine m_get (D := G) (ci := 0) (v := .ref (α 1)) (C := nR_X) (T := nT_X) (N := 6) hx hb hta in_X hown hK hM h0 rfl 0 (by decide) (hta _ aw_85) (fun _ h9 => h9) rfl d_X_gap_35 ?_
        refine m_get (D := G) (ci := 1) (v := .int (nI n)) (C := nR_L) (T := nT_L) (N := 3) hx hb hta in_L hown hK hM h1 rfl 2 (by decide) (hta _ aw_37) (fun _ h9 => h9) rfl d_X_gap_38 ?_
        refine lv_icmp_ge (tgt := 110) hx hb d_X_gap_41 (by decide) (fun c_7 => absurd c_7 (by rw [e5]; exact nI_ge (by omega) (by omega))) (fun c_7 => ?_)
        refine lv_aload_n hx hb d_X_gap_44 rfl (lv_at hl 0 rfl) ?_
        refine m_get (D := G) (ci := 0) (v := .ref (α 1)) (C := nR_X) (T := nT_X) (N := 6) hx hb hta in_X hown hK hM h0 rfl 0 (by decide) (hta _ aw_85) (fun _ h9 => h9) rfl d_X_gap_45 ?_
        refine m_get (D := G) (ci := 1) (v := .ref (α 5)) (C := nR_L) (T := nT_L) (N := 3) hx hb hta in_L hown hK hM h1 rfl 1 (by decide) (hta _ aw_35) (fun _ h9 => h9) rfl d_X_gap_48 ?_
        refine lv_iload hx hb d_X_gap_51 (lv_at hl 5 rfl) ?_
        refine m_aald hx hb hK hM 0 h5 rfl (by rw [e5]; exact vp_in_nI (by omega) (by omega)) (v := .ref (nA (v (od i)))) (by rw [e5, nI_clamp (by omega), hfi i (by omega)]; rfl) d_X_gap_53 ?_
        refine lv_astore (lv' := [(6, .ref (nA (v (od i)))), (0, .ref (α 0)), (1, .int x1), (2, .int x2), (3, .ref (nA (v (od p9)))), (4, .int k), (5, .int x5)]) hx hb d_X_gap_54 hl (by decide) rfl (fun ls hl => ?_)
        refine lv_aload hx hb d_X_gap_56 (lv_at hl 0 rfl) ?_
        refine m_get (D := G) (ci := 4) (v := .ref ((hd (nC (v (od i)))).1)) (C := nR_N) (T := nT_N) (N := 10) hx hb hta in_N hown hK hM hv.2.1 rfl 6 (by decide) (hta _ aw_295) (fun _ h9 => h9) rfl d_X_gap_58 ?_
        refine m_get (D := G) (ci := 5) (v := .int ((hd (nC (v (od i)))).2.2.2)) (C := nR_T) (T := nT_T) (N := 4) hx hb hta in_T hown hK hM (okN_s hv) rfl 2 (by decide) (hta _ aw_262) (fun _ h9 => h9) rfl d_X_gap_61 ?_
        refine lv_if_eq (tgt := 70) hx hb d_X_gap_64 (by decide) (fun c_8 => ?_) (fun c_8 => ?_)
        · refine lv_aload_n hx hb d_X_gap_70 rfl (lv_at hl 4 rfl) ?_
          refine lv_ifnull hx hb d_X_gap_71 ?_
          refine lv_aload hx hb d_X_gap_74 (lv_at hl 0 rfl) ?_
          refine m_get (D := G) (ci := 4) (v := .int (nT (v (od i)))) (C := nR_N) (T := nT_N) (N := 10) hx hb hta in_N hown hK hM hv.2.1 rfl 4 (by decide) (hta _ aw_290) (fun _ h9 => h9) rfl d_X_gap_76 ?_
          refine lv_aload_n hx hb d_X_gap_79 rfl (lv_at hl 4 rfl) ?_
          refine m_get (D := G) (ci := 4) (v := .int (nT (v (od p9)))) (C := nR_N) (T := nT_N) (N := 10) hx hb hta in_N hown hK hM (hNo p9 hp9).2.1 rfl 4 (by decide) (hta _ aw_290) (fun _ h9 => h9) rfl d_X_gap_80 ?_
          refine lv_isub hx hb d_X_gap_83 ?_
          refine lv_iload_n hx hb d_X_gap_84 rfl (lv_at hl 2 rfl) ?_
          refine lv_icmp_le (tgt := 101) hx hb d_X_gap_85 (by decide) (fun c_9 => ?_) (fun c_9 => ?_)
          · refine lv_aload hx hb d_X_gap_101 (lv_at hl 0 rfl) ?_
            refine lv_astore_n (lv' := [(3, .ref (nA (v (od i)))), (6, .ref (nA (v (od i)))), (0, .ref (α 0)), (1, .int x1), (2, .int x2), (4, .int k), (5, .int x5)]) hx hb d_X_gap_103 rfl hl (by decide) rfl (fun ls hl => ?_)
            obtain ⟨x_10, ex_10⟩ : ∃ y : Int32, y = x5 + 1 := ⟨_, rfl⟩
            refine lv_iinc (v := x_10) (lv' := [(5, .int x_10), (3, .ref (nA (v (od i)))), (6, .ref (nA (v (od i)))), (0, .ref (α 0)), (1, .int x1), (2, .int x2), (4, .int k)]) hx hb d_X_gap_104 hl (k := 6) rfl (by rw [ex_10]; rfl) (by decide) rfl (fun ls hl => ?_)
            refine lv_goto (tgt := 32) hx hb d_X_gap_107 (by decide) ?_
            exact (ih (i + 1) k x_10 ls (by omega) (by rw [ex_10, e5, nI_1])).2 i (by omega) (by rw [← hg, gapN, if_pos c_8]; exact (if_pos c_9).symm) (lv_sub hl [3, 4, 5, 1, 6, 0] rfl)
          · refine lv_iload hx hb d_X_gap_88 (lv_at hl 5 rfl) ?_
            refine lv_if_ne (tgt := 98) hx hb d_X_gap_90 (by decide) (fun c_11 => ?_) (fun c_11 => ?_)
            · obtain ⟨x_12, ex_12⟩ : ∃ y : Int32, y = k + (-1) := ⟨_, rfl⟩
              refine lv_iinc (v := x_12) (lv' := [(4, .int x_12), (6, .ref (nA (v (od i)))), (0, .ref (α 0)), (1, .int x1), (2, .int x2), (3, .ref (nA (v (od p9)))), (5, .int x5)]) hx hb d_X_gap_98 hl (k := 5) rfl (by rw [ex_12]; rfl) (by decide) rfl (fun ls hl => ?_)
              refine lv_aload hx hb d_X_gap_101 (lv_at hl 1 rfl) ?_
              refine lv_astore_n (lv' := [(3, .ref (nA (v (od i)))), (4, .int x_12), (6, .ref (nA (v (od i)))), (0, .ref (α 0)), (1, .int x1), (2, .int x2), (5, .int x5)]) hx hb d_X_gap_103 rfl hl (by decide) rfl (fun ls hl => ?_)
              obtain ⟨x_13, ex_13⟩ : ∃ y : Int32, y = x5 + 1 := ⟨_, rfl⟩
              refine lv_iinc (v := x_13) (lv' := [(5, .int x_13), (3, .ref (nA (v (od i)))), (4, .int x_12), (6, .ref (nA (v (od i)))), (0, .ref (α 0)), (1, .int x1), (2, .int x2)]) hx hb d_X_gap_104 hl (k := 6) rfl (by rw [ex_13]; rfl) (by decide) rfl (fun ls hl => ?_)
              refine lv_goto (tgt := 32) hx hb d_X_gap_107 (by decide) ?_
              exact (ih (i + 1) x_12 x_13 ls (by omega) (by rw [ex_13, e5, nI_1])).2 i (by omega) (by rw [← hg, gapN, if_pos c_8, ex_12]; exact ((if_neg c_9).trans (if_neg c_11)).symm) (lv_sub hl [4, 5, 6, 1, 2, 0] rfl)
            · refine lv_aload_n hx hb d_X_gap_93 rfl (lv_at hl 4 rfl) ?_
              refine m_get (D := G) (ci := 4) (v := .int (nN (v (od p9)))) (C := nR_N) (T := nT_N) (N := 10) hx hb hta in_N hown hK hM (hNo p9 hp9).2.1 rfl 0 (by decide) (hta _ aw_279) (fun _ h9 => h9) rfl d_X_gap_94 ?_
              refine vx_ret ?_
              refine W.widen (k := 1) (n := 6) (Nat.le_of_ble_eq_true rfl) (Nat.le_of_ble_eq_true rfl) ?_
              exact W.iret (v := nN (v (od p9))) hx hb hr (fun t ht hW => ⟨nN (v (od p9)), rfl, ⟨hC9, (by rw [← hg, gapN, if_pos c_8]; exact ((if_neg c_9).trans (if_pos c_11)).symm)⟩, ht⟩) (fun q h => hS0.2.2 q h) d_X_gap_97
        · refine lv_goto (tgt := 104) hx hb d_X_gap_67 (by decide) ?_
          obtain ⟨x_14, ex_14⟩ : ∃ y : Int32, y = x5 + 1 := ⟨_, rfl⟩
          refine lv_iinc (v := x_14) (lv' := [(5, .int x_14), (6, .ref (nA (v (od i)))), (0, .ref (α 0)), (1, .int x1), (2, .int x2), (3, .ref (nA (v (od p9)))), (4, .int k)]) hx hb d_X_gap_104 hl (k := 6) rfl (by rw [ex_14]; rfl) (by decide) rfl (fun ls hl => ?_)
          refine lv_goto (tgt := 32) hx hb d_X_gap_107 (by decide) ?_
          exact (ih (i + 1) k x_14 ls (by omega) (by rw [ex_14, e5, nI_1])).2 p9 hp9 (by rw [← hg, gapN, if_neg c_8]) (lv_sub hl [2, 3, 4, 5, 6, 0] rfl)
  refine lv_iload_n hx hb d_X_gap_0 rfl (lv_at hl 1 rfl) ?_
  refine lv_if_lt (tgt := 14) hx hb d_X_gap_1 (by decide) (fun c_15 => ?_) (fun c_15 => ?_)
  · have hC : gC 1 (if (¬ x1 < 0 ∧ ¬ 99999 < x1) ∧ 0 ≤ x2 then 1 else 0) 1 1 = 2 := by simp only [c_15, not_true_eq_false, not_false_eq_true, and_true, and_false, true_and, false_and, and_self, or_self, or_true, true_or, or_false, false_or, ↓reduceIte, g_1, g_2, g_3, g_4, g_0]
    exact xt_I hx hb hlt hown hta hE "the length or the gap's number" (by decide) hS0 (hl.1.trans hml.symm) d_X_gap_14 d_X_gap_17 d_X_gap_18 d_X_gap_20 d_X_gap_23 hnx (Nat.le_of_ble_eq_true rfl) (Nat.le_of_ble_eq_true rfl) (Nat.le_of_ble_eq_true rfl) (Nat.le_of_ble_eq_true rfl) hlocks ⟨by rw [hC]; decide, by rw [hC]; rfl⟩ (Nat.le_of_ble_eq_true rfl) (Nat.le_of_ble_eq_true rfl)
  · refine lv_iload_n hx hb d_X_gap_4 rfl (lv_at hl 1 rfl) ?_
    refine lv_ldc (v := 99999) hx hb hown (hta _ aw_459) d_X_gap_5 ?_
    refine lv_icmp_gt (tgt := 14) hx hb d_X_gap_7 (by decide) (fun c_16 => ?_) (fun c_16 => ?_)
    · have hC : gC 1 (if (¬ x1 < 0 ∧ ¬ 99999 < x1) ∧ 0 ≤ x2 then 1 else 0) 1 1 = 2 := by simp only [c_15, c_16, not_true_eq_false, not_false_eq_true, and_true, and_false, true_and, false_and, and_self, or_self, or_true, true_or, or_false, false_or, ↓reduceIte, g_1, g_2, g_3, g_4, g_0]
      exact xt_I hx hb hlt hown hta hE "the length or the gap's number" (by decide) hS0 (hl.1.trans hml.symm) d_X_gap_14 d_X_gap_17 d_X_gap_18 d_X_gap_20 d_X_gap_23 hnx (Nat.le_of_ble_eq_true rfl) (Nat.le_of_ble_eq_true rfl) (Nat.le_of_ble_eq_true rfl) (Nat.le_of_ble_eq_true rfl) hlocks ⟨by rw [hC]; decide, by rw [hC]; rfl⟩ (Nat.le_of_ble_eq_true rfl) (Nat.le_of_ble_eq_true rfl)
    · refine lv_iload_n hx hb d_X_gap_10 rfl (lv_at hl 2 rfl) ?_
      refine lv_if_ge (tgt := 24) hx hb d_X_gap_11 (by decide) (fun c_17 => ?_) (fun c_17 => ?_)
      · refine lv_null hx hb d_X_gap_24 ?_
        refine lv_astore_nN (lv' := [(3, .null), (0, .ref (α 0)), (1, .int x1), (2, .int x2)]) hx hb d_X_gap_25 rfl hl (by decide) rfl (fun ls hl => ?_)
        refine lv_iload_n hx hb d_X_gap_26 rfl (lv_at hl 3 rfl) ?_
        refine lv_istore (lv' := [(4, .int x2), (3, .null), (0, .ref (α 0)), (1, .int x1), (2, .int x2)]) hx hb d_X_gap_27 hl (by decide) rfl (fun ls hl => ?_)
        refine lv_iconst (v := 0) hx hb d_X_gap_29 (by decide) ?_
        refine lv_istore (lv' := [(5, .int 0), (4, .int x2), (3, .null), (0, .ref (α 0)), (1, .int x1), (2, .int x2)]) hx hb d_X_gap_30 hl (by decide) rfl (fun ls hl => ?_)
        exact (loop (by simp only [c_15, c_16, c_17, not_true_eq_false, not_false_eq_true, and_true, and_false, true_and, false_and, and_self, or_self, or_true, true_or, or_false, false_or, ↓reduceIte, g_1, g_2, g_3, g_4, g_0]) n 0 x2 0 ls (by omega) rfl).1 rfl (lv_sub hl [3, 4, 5, 2, 1, 0] rfl)
      · have hC : gC 1 (if (¬ x1 < 0 ∧ ¬ 99999 < x1) ∧ 0 ≤ x2 then 1 else 0) 1 1 = 2 := by simp only [c_15, c_16, c_17, not_true_eq_false, not_false_eq_true, and_true, and_false, true_and, false_and, and_self, or_self, or_true, true_or, or_false, false_or, ↓reduceIte, g_1, g_2, g_3, g_4, g_0]
        exact xt_I hx hb hlt hown hta hE "the length or the gap's number" (by decide) hS0 (hl.1.trans hml.symm) d_X_gap_14 d_X_gap_17 d_X_gap_18 d_X_gap_20 d_X_gap_23 hnx (Nat.le_of_ble_eq_true rfl) (Nat.le_of_ble_eq_true rfl) (Nat.le_of_ble_eq_true rfl) (Nat.le_of_ble_eq_true rfl) hlocks ⟨by rw [hC]; decide, by rw [hC]; rfl⟩ (Nat.le_of_ble_eq_true rfl) (Nat.le_of_ble_eq_true rfl)
