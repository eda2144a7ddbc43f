/-! the class as a whole: its picture; what it reads and refuses -/
/-- the class's things in the map: addresses by number (object, line, question, sheet, the line's two arrays, the question's rows, the sheet's bytes) -/
def cPic (w : Nat → Option va_E) (α : Nat → Nat) (cN cB : ClassId) (v : Nat → nV) (od ro : Nat → Nat) (bs : Nat → Int32) (se wr ac : Int32) (n rn sn : Nat) (kn z : Int32) : Prop :=
  w (α 0) = some (eX (α 1) (α 2) (α 3) se wr ac) ∧ w (α 1) = some (eL (α 4) (α 5) (nI n)) ∧ w (α 2) = some (eQ (α 6) (nI rn) kn z) ∧ w (α 3) = some (eS (α 7) (nI sn)) ∧ w (α 7) = some (aI cB 2005 bs) ∧
  (∃ f, w (α 4) = some (aQ cN 100 f) ∧ ∀ i, i < n → f i = some (nA (v i))) ∧ (∃ f, w (α 5) = some (aQ cN 100 f) ∧ ∀ i, i < n → f i = some (nA (v (od i)))) ∧ (∃ f, w (α 6) = some (aQ cN 100 f) ∧ ∀ i, i < rn → f i = some (nA (v (ro i)))) ∧ ∀ i, i < n → okN w (v i)
/-- what holds of a note -/
def nOk (v : nV) (i : Nat) : Prop := nN v = nI i ∧ nF v = (la v).1 ∧ ∀ c ∈ nC v, c.2.2.2 = 0 ∨ c.2.2.2 = 1
def cOk (v : Nat → nV) (od ro : Nat → Nat) (n rn sn : Nat) : Prop := n ≤ 100 ∧ rn ≤ 100 ∧ sn ≤ 2005 ∧ (∀ i, i < n → od i < n) ∧ (∀ i, i < rn → ro i < n) ∧ ∀ i, i < n → nOk (v i) i
theorem hd_in {v : nV} (h : nC v ≠ []) : hd (nC v) ∈ nC v := by
  cases hc : nC v with
  | nil => exact absurd hc h
  | cons c r => exact List.mem_cons_self
theorem ch_last {w : Nat → Option va_E} : ∀ (c : List cS4), c ≠ [] → ch w c → w (c.getLastD (0, 0, 0, 0)).1 = some (eT (c.getLastD (0, 0, 0, 0)).2.1 (c.getLastD (0, 0, 0, 0)).2.2.1 (c.getLastD (0, 0, 0, 0)).2.2.2 none) := by
  intro c
  induction c with
  | nil => intro h; exact absurd rfl h
  | cons a r ih =>
    intro _ hc
    cases r with
    | nil => exact hc.1
    | cons b r => exact ih (by simp) hc.2
theorem nF_c {w : Nat → Option va_E} {v : nV} {i : Nat} (h : okN w v) (h2 : nOk v i) : w (nF v) = some (eT (la v).2.1 (la v).2.2.1 (la v).2.2.2 none) := by
  rw [h2.2.1]; exact ch_last _ h.1 h.2.2
theorem g_1 (b c d : Int32) : gC 0 b c d = 1 := rfl
theorem g_2 (c d : Int32) : gC 1 0 c d = 2 := rfl
theorem g_3 (d : Int32) : gC 1 1 0 d = 3 := rfl
theorem g_4 : gC 1 1 1 0 = 4 := rfl
theorem g_0 : gC 1 1 1 1 = 0 := rfl
theorem gC_a {P : Prop} [Decidable P] (b c d : Int32) (h : ¬ gC (if P then 1 else 0) 1 1 1 = 0) : gC (if P then 1 else 0) b c d = gC (if P then 1 else 0) 1 1 1 := by
  by_cases hp : P
  · rw [if_pos hp] at h; exact absurd rfl h
  · rw [if_neg hp]; rfl
theorem gC_p {P : Prop} [Decidable P] (h : gC (if P then 1 else 0) 1 1 1 = 0) : P := by
  by_cases hp : P
  · exact hp
  · rw [if_neg hp] at h; cases h
theorem gC_q {P : Prop} [Decidable P] (h : gC 1 1 1 (if P then 1 else 0) = 0) : P := by
  by_cases hp : P
  · exact hp
  · rw [if_neg hp] at h; cases h
theorem nt_of {x : Int32} {n : Nat} (hn : n ≤ 2005) (h : ¬ x < 0 ∧ x < nI n) : ∃ j : Nat, j < n ∧ x = nI j := by
  obtain ⟨j, hj, e⟩ := nI_of h.1
  refine ⟨j, ?_, e⟩
  have h2 := h.2
  rw [e] at h2
  exact (nI_ltI hj (by omega)).mp h2
set_option maxHeartbeats 4000000 in
set_option maxRecDepth 100000 in
theorem k_X_noteOf (l : Launch) (hlt : l.stackTraces = false) (G : va_G) (cN cB : ClassId) (ty2 : List (ClassId × FieldType)) (w : Nat → Option va_E) {α : Nat → Nat} (hα : ∀ i j, i < 8 → j < 8 → α i = α j → i = j) {v : Nat → nV} {od ro : Nat → Nat} {bs : Nat → Int32} {se wr ac : Int32} {n rn sn : Nat} {kn z : Int32} (hcp : cPic w α cN cB v od ro bs se wr ac n rn sn kn z) (hok : cOk v od ro n rn sn) (x1 : Int32) : vx_Met l y_X_noteOf (wm y_X_noteOf c_X_noteOf 2 (some (.object "SceneTimes$Note"))) ({ frames := 6, cells := 1, slots := 6, locals := 82 }) (pX G ((cN, .object nR_N) :: (cB, .byte) :: ty2) w [.ref (α 0), .int x1]) (va_Sq (fun r => gC (if ¬ x1 < 0 ∧ x1 < nI n then 1 else 0) 1 1 1 = 0 ∧ r = some (nA (v x1.toNatClampNeg)))) (x_K (fun E => ¬ gC (if ¬ x1 < 0 ∧ x1 < nI n then 1 else 0) 1 1 1 = 0 ∧ E = exN (gC (if ¬ x1 < 0 ∧ x1 < nI n then 1 else 0) 1 1 1))) 1 6 (fun _ => False) := by
  refine vx_ofW (cc := c_X_noteOf) (maxL := 2) (ret := (some (.object "SceneTimes$Note"))) (by decide) rfl ?_
  intro p e s m args below meth c s₁ B hml hnx hv
  obtain ⟨rfl, hM, hK, hE⟩ := hv
  have hx := B.exec
  have hb := B.bytes
  have hr := B.returns
  have hts := atoms_spec (ws := (wm y_X_noteOf c_X_noteOf 2 (some (.object "SceneTimes$Note")))) B.pre
  have hta : ∀ w ∈ AL, w.before _ s = true := fun w h => hts w (List.mem_cons_of_mem _ h)
  have hown : s.vm.findClass nR_X = some m.cls := findClass_of_methodNamed B.named
  have hlocks := B.notSynchronized
  have hl := lv_entry ([.ref (α 0), .int x1]) (n := 2) (Nat.le_of_ble_eq_true rfl)
  rw [lg_entry_eq]
  generalize (lg_sl ([.ref (α 0), .int x1]) ++ List.replicate (2 - (lg_sl ([.ref (α 0), .int x1])).length) Slot.unset).toArray = ls at hl ⊢
  have hl : lv_has ls 2 [(0, .ref (α 0)), (1, .int x1)] := hl
  have hcp2 := hcp
  obtain ⟨h0, h1, h2, h3, h7, ⟨fb, h4, hfb⟩, ⟨fi, h5, hfi⟩, ⟨fr, h6, hfr⟩, hN⟩ := hcp2
  obtain ⟨ok1, ok2, ok3, ok4, ok5, ok6⟩ := hok
  have hS0 : va_S (fun _ => False) s.heap s.heap [] := va_S.rf
  refine lv_iload_n hx hb d_X_noteOf_0 rfl (lv_at hl 1 rfl) ?_
  refine lv_if_lt (tgt := 15) hx hb d_X_noteOf_1 (by decide) (fun c_1 => ?_) (fun c_1 => ?_)
  · have hC : gC (if ¬ x1 < 0 ∧ x1 < nI n then 1 else 0) 1 1 1 = 1 := by simp only [c_1, not_true_eq_false, not_false_eq_true, and_true, and_false, true_and, false_and, and_self, or_self, or_true, true_or, or_false, false_or, ↓reduceIte, g_1, g_2, g_3, g_4, g_0]
    exact xt_A hx hb hlt hown hta hE "no such note" (by decide) hS0 (hl.1.trans hml.symm) d_X_noteOf_15 d_X_noteOf_18 d_X_noteOf_19 d_X_noteOf_21 d_X_noteOf_24 hnx (Nat.le_of_ble_eq_true rfl) (Nat.le_of_ble_eq_true rfl) (Nat.le_of_ble_eq_true rfl) (Nat.le_of_ble_eq_true rfl) hlocks ⟨by rw [hC]; decide, by rw [hC]; rfl⟩ (Nat.le_of_ble_eq_true rfl) (Nat.le_of_ble_eq_true rfl)
  · refine lv_iload_n hx hb d_X_noteOf_4 rfl (lv_at hl 1 rfl) ?_
    refine lv_aload_n hx hb d_X_noteOf_5 rfl (lv_at hl 0 rfl) ?_
    refine m_get (D := G) (ci := 0) (v := .ref (α 1)) (C := nR_X) (T := nT_X) (N := 6) hx hb hta in_X hown hK hM h0 rfl 0 (by decide) (hta _ aw_85) (fun _ h9 => h9) rfl d_X_noteOf_6 ?_
    refine m_get (D := G) (ci := 1) (v := .int (nI n)) (C := nR_L) (T := nT_L) (N := 3) hx hb hta in_L hown hK hM h1 rfl 2 (by decide) (hta _ aw_37) (fun _ h9 => h9) rfl d_X_noteOf_9 ?_
    refine lv_icmp_lt (tgt := 25) hx hb d_X_noteOf_12 (by decide) (fun c_2 => ?_) (fun c_2 => ?_)
    · obtain ⟨j, hj, ej⟩ := nt_of (by omega) (show ¬ x1 < 0 ∧ x1 < nI n from ⟨c_1, c_2⟩)
      refine lv_aload_n hx hb d_X_noteOf_25 rfl (lv_at hl 0 rfl) ?_
      refine m_get (D := G) (ci := 0) (v := .ref (α 1)) (C := nR_X) (T := nT_X) (N := 6) hx hb hta in_X hown hK hM h0 rfl 0 (by decide) (hta _ aw_85) (fun _ h9 => h9) rfl d_X_noteOf_26 ?_
      refine m_get (D := G) (ci := 1) (v := .ref (α 4)) (C := nR_L) (T := nT_L) (N := 3) hx hb hta in_L hown hK hM h1 rfl 0 (by decide) (hta _ aw_33) (fun _ h9 => h9) rfl d_X_noteOf_29 ?_
      refine lv_iload_n hx hb d_X_noteOf_32 rfl (lv_at hl 1 rfl) ?_
      refine m_aald hx hb hK hM 0 h4 rfl (by rw [ej]; exact vp_in_nI (by omega) (by omega)) (v := .ref (nA (v j))) (by rw [ej, nI_clamp (by omega), hfb j hj]; rfl) d_X_noteOf_33 ?_
      refine vx_ret ?_
      refine W.widen (k := 1) (n := 6) (Nat.le_of_ble_eq_true rfl) (Nat.le_of_ble_eq_true rfl) ?_
      exact W.aret (v := .ref (nA (v j))) (rt := .object "SceneTimes$Note") hx hb hr (Or.inl ⟨_, rfl⟩) (Or.inr ⟨_, rfl⟩) (fun t ht hW => ⟨some (nA (v j)), rfl, ⟨by simp only [c_1, c_2, not_true_eq_false, not_false_eq_true, and_true, and_false, true_and, false_and, and_self, or_self, or_true, true_or, or_false, false_or, ↓reduceIte, g_1, g_2, g_3, g_4, g_0], by rw [ej, nI_clamp (by omega)]⟩, ht⟩) (fun q h => hS0.2.2 q h) d_X_noteOf_34
    · have hC : gC (if ¬ x1 < 0 ∧ x1 < nI n then 1 else 0) 1 1 1 = 1 := by simp only [c_1, c_2, not_true_eq_false, not_false_eq_true, and_true, and_false, true_and, false_and, and_self, or_self, or_true, true_or, or_false, false_or, ↓reduceIte, g_1, g_2, g_3, g_4, g_0]
      exact xt_A hx hb hlt hown hta hE "no such note" (by decide) hS0 (hl.1.trans hml.symm) d_X_noteOf_15 d_X_noteOf_18 d_X_noteOf_19 d_X_noteOf_21 d_X_noteOf_24 hnx (Nat.le_of_ble_eq_true rfl) (Nat.le_of_ble_eq_true rfl) (Nat.le_of_ble_eq_true rfl) (Nat.le_of_ble_eq_true rfl) hlocks ⟨by rw [hC]; decide, by rw [hC]; rfl⟩ (Nat.le_of_ble_eq_true rfl) (Nat.le_of_ble_eq_true rfl)
set_option maxHeartbeats 4000000 in
set_option maxRecDepth 100000 in
theorem k_X_refuseActWithoutRoom (l : Launch) (hlt : l.stackTraces = false) (G : va_G) (cN cB : ClassId) (ty2 : List (ClassId × FieldType)) (w : Nat → Option va_E) {α : Nat → Nat} (hα : ∀ i j, i < 8 → j < 8 → α i = α j → i = j) {v : Nat → nV} {od ro : Nat → Nat} {bs : Nat → Int32} {se wr ac : Int32} {n rn sn : Nat} {kn z : Int32} (hcp : cPic w α cN cB v od ro bs se wr ac n rn sn kn z) (hok : cOk v od ro n rn sn) : vx_Met l y_X_refuseActWithoutRoom (wm y_X_refuseActWithoutRoom c_X_refuseActWithoutRoom 1 none) ({ frames := 6, cells := 1, slots := 6, locals := 82 }) (pX G ((cN, .object nR_N) :: (cB, .byte) :: ty2) w [.ref (α 0)]) (va_Sv (fun _ => gC 1 1 1 (if ac < 200 then 1 else 0) = 0 ∧ True)) (x_K (fun E => ¬ gC 1 1 1 (if ac < 200 then 1 else 0) = 0 ∧ E = exN (gC 1 1 1 (if ac < 200 then 1 else 0)))) 1 6 (fun _ => False) := by
  refine vx_ofW (cc := c_X_refuseActWithoutRoom) (maxL := 1) (ret := none) (by decide) rfl ?_
  intro p e s m args below meth c s₁ B hml hnx hv
  obtain ⟨rfl, hM, hK, hE⟩ := hv
  have hx := B.exec
  have hb := B.bytes
  have hr := B.returns
  have hts := atoms_spec (ws := (wm y_X_refuseActWithoutRoom c_X_refuseActWithoutRoom 1 none)) B.pre
  have hta : ∀ w ∈ AL, w.before _ s = true := fun w h => hts w (List.mem_cons_of_mem _ h)
  have hown : s.vm.findClass nR_X = some m.cls := findClass_of_methodNamed B.named
  have hlocks := B.notSynchronized
  have hl := lv_entry ([.ref (α 0)]) (n := 1) (Nat.le_of_ble_eq_true rfl)
  rw [lg_entry_eq]
  generalize (lg_sl ([.ref (α 0)]) ++ List.replicate (1 - (lg_sl ([.ref (α 0)])).length) Slot.unset).toArray = ls at hl ⊢
  have hl : lv_has ls 1 [(0, .ref (α 0))] := hl
  have hcp2 := hcp
  obtain ⟨h0, h1, h2, h3, h7, ⟨fb, h4, hfb⟩, ⟨fi, h5, hfi⟩, ⟨fr, h6, hfr⟩, hN⟩ := hcp2
  obtain ⟨ok1, ok2, ok3, ok4, ok5, ok6⟩ := hok
  have hS0 : va_S (fun _ => False) s.heap s.heap [] := va_S.rf
  refine lv_aload_n hx hb d_X_refuseActWithoutRoom_0 rfl (lv_at hl 0 rfl) ?_
  refine m_get (D := G) (ci := 0) (v := .int ac) (C := nR_X) (T := nT_X) (N := 6) hx hb hta in_X hown hK hM h0 rfl 5 (by decide) (hta _ aw_90) (fun _ h9 => h9) rfl d_X_refuseActWithoutRoom_1 ?_
  refine lv_sipush (v := 200) hx hb d_X_refuseActWithoutRoom_4 (by decide) ?_
  refine lv_icmp_lt (tgt := 20) hx hb d_X_refuseActWithoutRoom_7 (by decide) (fun c_1 => ?_) (fun c_1 => ?_)
  · refine vx_ret ?_
    refine W.widen (k := 1) (n := 6) (Nat.le_of_ble_eq_true rfl) (Nat.le_of_ble_eq_true rfl) ?_
    exact W.vret hx hb hr (fun t ht hW => ⟨rfl, ⟨by simp only [c_1, not_true_eq_false, not_false_eq_true, and_true, and_false, true_and, false_and, and_self, or_self, or_true, true_or, or_false, false_or, ↓reduceIte, g_1, g_2, g_3, g_4, g_0], trivial⟩, ht⟩) (fun q h => hS0.2.2 q h) d_X_refuseActWithoutRoom_20
  · have hC : gC 1 1 1 (if ac < 200 then 1 else 0) = 4 := by simp only [c_1, not_true_eq_false, not_false_eq_true, and_true, and_false, true_and, false_and, and_self, or_self, or_true, true_or, or_false, false_or, ↓reduceIte, g_1, g_2, g_3, g_4, g_0]
    exact xt_U hx hb hlt hown hta hE "no room for an act" (by decide) hS0 (hl.1.trans hml.symm) d_X_refuseActWithoutRoom_10 d_X_refuseActWithoutRoom_13 d_X_refuseActWithoutRoom_14 d_X_refuseActWithoutRoom_16 d_X_refuseActWithoutRoom_19 hnx (Nat.le_of_ble_eq_true rfl) (Nat.le_of_ble_eq_true rfl) (Nat.le_of_ble_eq_true rfl) (Nat.le_of_ble_eq_true rfl) hlocks ⟨by rw [hC]; decide, by rw [hC]; rfl⟩ (Nat.le_of_ble_eq_true rfl) (Nat.le_of_ble_eq_true rfl)
set_option maxHeartbeats 4000000 in
set_option maxRecDepth 100000 in
theorem k_X_digest (l : Launch) (hlt : l.stackTraces = false) (G : va_G) (cN cB : ClassId) (ty2 : List (ClassId × FieldType)) (w : Nat → Option va_E) {α : Nat → Nat} (hα : ∀ i j, i < 8 → j < 8 → α i = α j → i = j) {v : Nat → nV} {od ro : Nat → Nat} {bs : Nat → Int32} {se wr ac : Int32} {n rn sn : Nat} {kn z : Int32} (hcp : cPic w α cN cB v od ro bs se wr ac n rn sn kn z) (hok : cOk v od ro n rn sn) (x1 : Int32) : vx_Met l y_X_digest (wm y_X_digest c_X_digest 2 (some .int)) ({ frames := 7, cells := 1, slots := 6, locals := 103 }) (pX G ((cN, .object nR_N) :: (cB, .byte) :: ty2) w [.ref (α 0), .int x1]) (vp_Si (fun r => gC (if ¬ x1 < 0 ∧ x1 < nI n then 1 else 0) 1 1 1 = 0 ∧ r = nMx (v x1.toNatClampNeg))) (x_K (fun E => ¬ gC (if ¬ x1 < 0 ∧ x1 < nI n then 1 else 0) 1 1 1 = 0 ∧ E = exN (gC (if ¬ x1 < 0 ∧ x1 < nI n then 1 else 0) 1 1 1))) 1 6 (fun _ => False) := by
  refine vx_ofW (cc := c_X_digest) (maxL := 2) (ret := (some .int)) (by decide) rfl ?_
  intro p e s m args below meth c s₁ B hml hnx hv
  obtain ⟨rfl, hM, hK, hE⟩ := hv
  have hx := B.exec
  have hb := B.bytes
  have hr := B.returns
  have hts := atoms_spec (ws := (wm y_X_digest c_X_digest 2 (some .int))) B.pre
  have hta : ∀ w ∈ AL, w.before _ s = true := fun w h => hts w (List.mem_cons_of_mem _ h)
  have hown : s.vm.findClass nR_X = some m.cls := findClass_of_methodNamed B.named
  have hlocks := B.notSynchronized
  have hl := lv_entry ([.ref (α 0), .int x1]) (n := 2) (Nat.le_of_ble_eq_true rfl)
  rw [lg_entry_eq]
  generalize (lg_sl ([.ref (α 0), .int x1]) ++ List.replicate (2 - (lg_sl ([.ref (α 0), .int x1])).length) Slot.unset).toArray = ls at hl ⊢
  have hl : lv_has ls 2 [(0, .ref (α 0)), (1, .int x1)] := hl
  have hcp2 := hcp
  obtain ⟨h0, h1, h2, h3, h7, ⟨fb, h4, hfb⟩, ⟨fi, h5, hfi⟩, ⟨fr, h6, hfr⟩, hN⟩ := hcp2
  obtain ⟨ok1, ok2, ok3, ok4, ok5, ok6⟩ := hok
  have hS0 : va_S (fun _ => False) s.heap s.heap [] := va_S.rf
  refine lv_aload_n hx hb d_X_digest_0 rfl (lv_at hl 0 rfl) ?_
  refine lv_iload_n hx hb d_X_digest_1 rfl (lv_at hl 1 rfl) ?_
  refine x_callSq (vx_runV (As := [.int x1]) (rest := []) ⟨hx, hb, hml, hown, hta⟩ (k_X_noteOf l hlt G cN cB ty2 w hα hcp ⟨ok1, ok2, ok3, ok4, ok5, ok6⟩ x1) (cV 1 hta aw_343 aw_1 aw_340 aw_342 as_SceneTimes_noteOf rfl rfl (by decide +kernel) ⟨Nat.le_of_ble_eq_true rfl, Nat.le_of_ble_eq_true rfl⟩) (pX_V hK hM hE rfl h0) rfl rfl hl.1 rfl (lv_room (Nat.le_of_ble_eq_true rfl)) d_X_digest_2 ⟨Nat.le_of_ble_eq_true rfl, Nat.le_of_ble_eq_true rfl⟩) hS0 (fun q h => h) (fun E ce q9 H1 locs1 hp9 hz9 hk9 hS9 hce hcv hcl => vx_out (fun x hx => (hnx x hx).elim) hlocks hce hcv hcl (fun t ht _ => ⟨⟨fun q9 => hp9.1 ((gC_a 1 1 1 hp9.1).symm.trans q9), hp9.2.trans (congrArg exN (gC_a 1 1 1 hp9.1).symm)⟩, by rw [ht]; exact hz9, fun q hq => by rw [ht]; exact hk9 q hq⟩) (fun z9 hz => (hS9.2.2 z9 hz).elim) (Nat.le_of_ble_eq_true rfl) (Nat.le_of_ble_eq_true rfl)) (fun r_1 locs hr_1 hS0 => ?_)
  obtain ⟨hC0, rfl⟩ := hr_1
  have p_2 := gC_p hC0
  obtain ⟨j, hj, ej⟩ := nt_of (by omega) p_2
  rw [show x1.toNatClampNeg = j by rw [ej, nI_clamp (by omega)]]
  have hv := hN j hj
  refine m_get (D := G) (ci := 4) (v := .int (nMx (v j))) (C := nR_N) (T := nT_N) (N := 10) hx hb hta in_N hown hK hM hv.2.1 rfl 9 (by decide) (hta _ aw_302) (fun _ h9 => h9) rfl d_X_digest_5 ?_
  refine vx_ret ?_
  refine W.widen (k := 1) (n := 6) (Nat.le_of_ble_eq_true rfl) (Nat.le_of_ble_eq_true rfl) ?_
  exact W.iret (v := nMx (v j)) hx hb hr (fun t ht hW => ⟨nMx (v j), rfl, ⟨by simp only [p_2, not_true_eq_false, not_false_eq_true, and_true, and_false, true_and, false_and, and_self, or_self, or_true, true_or, or_false, false_or, ↓reduceIte, g_1, g_2, g_3, g_4, g_0], rfl⟩, ht⟩) (fun q h => hS0.2.2 q h) d_X_digest_8
theorem sw_out {x : Int32} (h : x.toInt < 0 ∨ 4 < x.toInt) : ¬ (¬ x < 0 ∧ ¬ 4 < x) := by
  rw [Int32.lt_iff_toInt_lt, Int32.lt_iff_toInt_lt]
  have e1 : (0 : Int32).toInt = 0 := rfl
  have e2 : (4 : Int32).toInt = 4 := rfl
  rw [e1, e2]
  omega
