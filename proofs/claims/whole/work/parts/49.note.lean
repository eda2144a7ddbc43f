/-! the class: note -/
/-- a new note -/
def nNew (q1 q2 n : Nat) (wr kd sc t va kn : Int32) : nV := (q1, (nI n, wr, kd, sc, t), q2, (0, 0, mixv (mixv (mixv (mixv (mixv 7 wr) kd) sc) t) va), [(q2, kn, va, 0)])
/-- the line's order with n at place p -/
def odI (od : Nat → Nat) (p n : Nat) : Nat → Nat := fun i => if i < p then od i else if i = p then n else od (i - 1)
theorem cp_note {w u : Nat → Option va_E} {α : Nat → Nat} {cN cB : ClassId} {v : Nat → nV} {od ro : Nat → Nat} {bs : Nat → Int32} {se wr ac : Int32} {n rn sn : Nat} {kn z : Int32} (hα : ∀ i j, i < 8 → j < 8 → α i = α j → i = j) (h : cPic w α cN cB v od ro bs se wr ac n rn sn kn z) (hok : cOk v od ro n rn sn) {q1 q2 : Nat} (hq1 : w q1 = none) (hq2 : w q2 = none) (hq : q1 ≠ q2) {x1 x2 x3 x4 x5 : Int32} {fb fi : Nat → Option Nat} (hfb : w (α 4) = some (aQ cN 100 fb)) (hfi : w (α 5) = some (aQ cN 100 fi)) {p : Nat} (hp : p ≤ n) {d : va_E}
    (hu : u = va_up (va_up (va_up (va_up (va_up (va_up w q1 (some d)) q2 (some (eT se x5 0 none))) q1 (some (eN (nI n) x1 x2 x3 x4 q2 q2 0 0 (mixv (mixv (mixv (mixv (mixv 7 x1) x2) x3) x4) x5)))) (α 4) (some (aQ cN 100 (va_up fb n (some q1))))) (α 5) (some (aQ cN 100 (va_up (shF fi p n) p (some q1))))) (α 1) (some (eL (α 4) (α 5) (nI (n + 1))))) :
    cPic u α cN cB (va_up v n (nNew q1 q2 n x1 x2 x3 x4 x5 se)) (odI od p n) ro bs se wr ac (n + 1) rn sn kn z := by
  obtain ⟨h0, h1, h2, h3, h7, ⟨fb9, h4, hfb9⟩, ⟨fi9, h5, hfi9⟩, ⟨fr, h6, hfr⟩, hN⟩ := h
  obtain ⟨ok1, ok2, ok3, ok4, ok5, ok6⟩ := hok
  have e4 : fb9 = fb := by rw [h4] at hfb; simp only [Option.some.injEq, Sum.inl.injEq, Prod.mk.injEq, Sum.inr.injEq, true_and] at hfb; exact hfb
  have e5 : fi9 = fi := by rw [h5] at hfi; simp only [Option.some.injEq, Sum.inl.injEq, Prod.mk.injEq, Sum.inr.injEq, true_and] at hfi; exact hfi
  subst e4; subst e5
  have hd0 : ∀ i j, i < 8 → j < 8 → i ≠ j → α i ≠ α j := fun i j hi hj hz q => hz (hα i j hi hj q)
  have hk : ∀ (b : Nat) (e : va_E), w b = some e → b ≠ α 1 → b ≠ α 4 → b ≠ α 5 → u b = some e := fun b e hb n1 n2 n3 => by rw [hu, va_up_ne _ _ n1, va_up_ne _ _ n3, va_up_ne _ _ n2, va_up_ne _ _ (m_newne hb hq1), va_up_ne _ _ (m_newne hb hq2), va_up_ne _ _ (m_newne hb hq1)]; exact hb
  have h5k : ∀ b fs, w b = some (.inr (5, fs)) → u b = w b := fun b fs hb => by rw [hb]; exact hk b _ hb (m_ne hb h1 (by intro h; cases h)) (m_ne hb h4 (by intro h; cases h)) (m_ne hb h5 (by intro h; cases h))
  have hv : ∀ i, i < n → va_up v n (nNew q1 q2 n x1 x2 x3 x4 x5 se) i = v i := fun i hi => va_up_ne _ _ (by omega)
  have hvn : va_up v n (nNew q1 q2 n x1 x2 x3 x4 x5 se) n = nNew q1 q2 n x1 x2 x3 x4 x5 se := va_up_self _ _ _
  have a1 : u q1 = some (eN (nI n) x1 x2 x3 x4 q2 q2 0 0 (mixv (mixv (mixv (mixv (mixv 7 x1) x2) x3) x4) x5)) := by rw [hu, va_up_ne _ _ (Ne.symm (m_newne h1 hq1)), va_up_ne _ _ (Ne.symm (m_newne h5 hq1)), va_up_ne _ _ (Ne.symm (m_newne h4 hq1)), va_up_self]
  have a2 : u q2 = some (eT se x5 0 none) := by rw [hu, va_up_ne _ _ (Ne.symm (m_newne h1 hq2)), va_up_ne _ _ (Ne.symm (m_newne h5 hq2)), va_up_ne _ _ (Ne.symm (m_newne h4 hq2)), va_up_ne _ _ (Ne.symm hq), va_up_self]
  refine ⟨hk _ _ h0 (hd0 0 1 (by decide) (by decide) (by decide)) (hd0 0 4 (by decide) (by decide) (by decide)) (hd0 0 5 (by decide) (by decide) (by decide)), by rw [hu, va_up_self], hk _ _ h2 (hd0 2 1 (by decide) (by decide) (by decide)) (hd0 2 4 (by decide) (by decide) (by decide)) (hd0 2 5 (by decide) (by decide) (by decide)), hk _ _ h3 (hd0 3 1 (by decide) (by decide) (by decide)) (hd0 3 4 (by decide) (by decide) (by decide)) (hd0 3 5 (by decide) (by decide) (by decide)), hk _ _ h7 (hd0 7 1 (by decide) (by decide) (by decide)) (hd0 7 4 (by decide) (by decide) (by decide)) (hd0 7 5 (by decide) (by decide) (by decide)),
    ⟨va_up fb9 n (some q1), by rw [hu, va_up_ne _ _ (hd0 4 1 (by decide) (by decide) (by decide)), va_up_ne _ _ (hd0 4 5 (by decide) (by decide) (by decide)), va_up_self], fun i hi => ?_⟩, ⟨va_up (shF fi9 p n) p (some q1), by rw [hu, va_up_ne _ _ (hd0 5 1 (by decide) (by decide) (by decide)), va_up_self], fun i hi => ?_⟩, ⟨fr, hk _ _ h6 (hd0 6 1 (by decide) (by decide) (by decide)) (hd0 6 4 (by decide) (by decide) (by decide)) (hd0 6 5 (by decide) (by decide) (by decide)), fun i hi => by rw [hv _ (ok5 i hi)]; exact hfr i hi⟩, fun i hi => ?_⟩
  · by_cases hin : i = n
    · rw [hin, va_up_self, hvn]; rfl
    · rw [va_up_ne _ _ hin, hv i (by omega)]; exact hfb9 i (by omega)
  · unfold odI
    by_cases c1 : i < p
    · rw [if_pos c1, va_up_ne _ _ (by omega), hv _ (ok4 i (by omega))]
      unfold shF
      rw [if_pos (by omega)]
      exact hfi9 i (by omega)
    · rw [if_neg c1]
      by_cases c2 : i = p
      · rw [if_pos c2, c2, va_up_self, hvn]; rfl
      · rw [if_neg c2, va_up_ne _ _ c2, hv _ (ok4 (i - 1) (by omega))]
        unfold shF
        rw [if_neg (by omega), if_pos (by omega)]
        exact hfi9 (i - 1) (by omega)
  · by_cases hin : i = n
    · rw [hin, hvn]
      exact ⟨(by intro q9; cases q9), a1, a2, trivial⟩
    · rw [hv i (by omega)]
      have hvi := hN i (by omega)
      refine okN_k hvi ?_ h5k
      rw [hvi.2.1]
      exact hk _ _ hvi.2.1 (m_ne hvi.2.1 h1 (by intro h; cases h)) (m_ne hvi.2.1 h4 (by intro h; cases h)) (m_ne hvi.2.1 h5 (by intro h; cases h))
set_option maxHeartbeats 4000000 in
set_option maxRecDepth 100000 in
theorem k_X_note (l : Launch) (hlt : l.stackTraces = false) (G : va_G) (cN cB : ClassId) (ty2 : List (ClassId × FieldType)) (w : Nat → Option va_E) {α : Nat → Nat} (hα : ∀ i j, i < 8 → j < 8 → α i = α j → i = j) {v : Nat → nV} {od ro : Nat → Nat} {bs : Nat → Int32} {se wr ac : Int32} {n rn sn : Nat} {kn z : Int32} (hcp : cPic w α cN cB v od ro bs se wr ac n rn sn kn z) (hok : cOk v od ro n rn sn) (x1 x2 x3 x4 x5 : Int32) (sz : Nat) : vx_Met l y_X_note (wm y_X_note c_X_note 7 (some .int)) ({ frames := 6, cells := 3, slots := 20, locals := 82 }) (va_Pc [.ref (α 0), .int x1, .int x2, .int x3, .int x4, .int x5] (fun U => U.heap.size = sz ∧ mw G ncl (fun _ => True) w U.heap ∧ va_K G ncl ((cN, .object nR_N) :: (cB, .byte) :: ty2) U ∧ xE U U.heap)) (va_Qi (fun (r0 : Int32) (u : Nat → Option va_E) => gC (if (¬ x1 < 0 ∧ ¬ wr ≤ x1) ∧ (¬ x2 < 0 ∧ ¬ 6 ≤ x2) ∧ (¬ x3 < 0 ∧ ¬ 10 ≤ x3) then 1 else 0) (if (¬ x4 < 0 ∧ ¬ se < x4) ∧ (¬ x5 < (-9999) ∧ ¬ 9999 < x5) then 1 else 0) 1 (if nI n < 100 then 1 else 0) = 0 ∧ r0 = nI n ∧ ∃ q1 q2 : Nat, cPic u α cN cB (va_up v n (nNew q1 q2 n x1 x2 x3 x4 x5 se)) (odI od (insP (fun i => behB (nT (v (od i))) (nW (v (od i))) (nN (v (od i))) x4 x1 (nI n)) n) n) ro bs se wr ac (n + 1) rn sn kn z) (fun w2 t => mw G ncl (mA w sz) w2 t.heap ∧ va_K G ncl ((cN, .object nR_N) :: (cB, .byte) :: ty2) t) (mA w sz)) (x_K (fun E => ¬ gC (if (¬ x1 < 0 ∧ ¬ wr ≤ x1) ∧ (¬ x2 < 0 ∧ ¬ 6 ≤ x2) ∧ (¬ x3 < 0 ∧ ¬ 10 ≤ x3) then 1 else 0) (if (¬ x4 < 0 ∧ ¬ se < x4) ∧ (¬ x5 < (-9999) ∧ ¬ 9999 < x5) then 1 else 0) 1 (if nI n < 100 then 1 else 0) = 0 ∧ E = exN (gC (if (¬ x1 < 0 ∧ ¬ wr ≤ x1) ∧ (¬ x2 < 0 ∧ ¬ 6 ≤ x2) ∧ (¬ x3 < 0 ∧ ¬ 10 ≤ x3) then 1 else 0) (if (¬ x4 < 0 ∧ ¬ se < x4) ∧ (¬ x5 < (-9999) ∧ ¬ 9999 < x5) then 1 else 0) 1 (if nI n < 100 then 1 else 0)))) 3 20 (mA w sz) := by
  refine vx_ofW (cc := c_X_note) (maxL := 7) (ret := (some .int)) (by decide) rfl ?_
  intro p e s m args below meth c s₁ B hml hnx hv
  obtain ⟨rfl, hsz, hM0, hK, hE⟩ := hv
  have hx := B.exec
  have hb := B.bytes
  have hr := B.returns
  have hts := atoms_spec (ws := (wm y_X_note c_X_note 7 (some .int))) B.pre
  have hta : ∀ w ∈ AL, w.before _ s = true := fun w h => hts w (List.mem_cons_of_mem _ h)
  have hown : s.vm.findClass nR_X = some m.cls := findClass_of_methodNamed B.named
  have hlocks := B.notSynchronized
  have hl := lv_entry ([.ref (α 0), .int x1, .int x2, .int x3, .int x4, .int x5]) (n := 7) (Nat.le_of_ble_eq_true rfl)
  rw [lg_entry_eq]
  generalize (lg_sl ([.ref (α 0), .int x1, .int x2, .int x3, .int x4, .int x5]) ++ List.replicate (7 - (lg_sl ([.ref (α 0), .int x1, .int x2, .int x3, .int x4, .int x5])).length) Slot.unset).toArray = ls at hl ⊢
  have hl : lv_has ls 7 [(0, .ref (α 0)), (1, .int x1), (2, .int x2), (3, .int x3), (4, .int x4), (5, .int x5)] := hl
  subst hsz
  have hM := mw_self (sz := s.heap.size) hM0
  clear hM0
  generalize hAe : mA w s.heap.size = A at hM hE ⊢
  have hA : ∀ q : Nat, s.heap.size ≤ q → A q := fun q h => by rw [← hAe]; exact Or.inr h
  have hS : va_S A s.heap s.heap [] := va_S.rf
  have hcp2 := hcp
  obtain ⟨h0, h1, h2, h3, h7, ⟨fb, h4, hfb⟩, ⟨fi, h5, hfi⟩, ⟨fr, h6, hfr⟩, hN⟩ := hcp2
  obtain ⟨ok1, ok2, ok3, ok4, ok5, ok6⟩ := hok
  have hS0 : va_S (fun _ => False) s.heap s.heap [] := va_S.rf
  refine lv_aload_n hx hb d_X_note_0 rfl (lv_at hl 0 rfl) ?_
  refine lv_iload_n hx hb d_X_note_1 rfl (lv_at hl 1 rfl) ?_
  refine vp_callSi (W.runV (As := [.int x1]) (rest := []) ⟨hx, hb, hml, hown, hta⟩ (k_X_isWriter l G _ w h0 x1) (cV 1 hta aw_192 aw_1 aw_189 aw_191 as_SceneTimes_isWriter rfl rfl (by decide +kernel) ⟨Nat.le_of_ble_eq_true rfl, Nat.le_of_ble_eq_true rfl⟩) (pW_V hK hM rfl h0) rfl rfl hl.1 rfl (lv_room (Nat.le_of_ble_eq_true rfl)) d_X_note_2 ⟨Nat.le_of_ble_eq_true rfl, Nat.le_of_ble_eq_true rfl⟩) (fun r_1 hr_1 => ?_)
  refine lv_if_eq (tgt := 22) hx hb d_X_note_5 (by decide) (fun c_2 => ?_) (fun c_2 => ?_)
  · have p_3 := b1_f hr_1 c_2
    have hC : gC (if (¬ x1 < 0 ∧ ¬ wr ≤ x1) ∧ (¬ x2 < 0 ∧ ¬ 6 ≤ x2) ∧ (¬ x3 < 0 ∧ ¬ 10 ≤ x3) then 1 else 0) (if (¬ x4 < 0 ∧ ¬ se < x4) ∧ (¬ x5 < (-9999) ∧ ¬ 9999 < x5) then 1 else 0) 1 (if nI n < 100 then 1 else 0) = 1 := by simp only [p_3, not_true_eq_false, not_false_eq_true, and_true, and_false, true_and, false_and, and_self, or_self, or_true, true_or, or_false, false_or, ↓reduceIte, g_1, g_2, g_3, g_4, g_0]
    exact xt_A hx hb hlt hown hta hE "no such writer, kind or sector" (by decide) hS0 (hl.1.trans hml.symm) d_X_note_22 d_X_note_25 d_X_note_26 d_X_note_28 d_X_note_31 hnx (Nat.le_of_ble_eq_true rfl) (Nat.le_of_ble_eq_true rfl) (Nat.le_of_ble_eq_true rfl) (Nat.le_of_ble_eq_true rfl) hlocks ⟨by rw [hC]; decide, by rw [hC]; rfl⟩ (Nat.le_of_ble_eq_true rfl) (Nat.le_of_ble_eq_true rfl)
  · have p_4 := b1_t hr_1 c_2
    refine lv_iload_n hx hb d_X_note_8 rfl (lv_at hl 2 rfl) ?_
    refine vp_callSi (W.runS (As := [.int x2]) (rest := []) ⟨hx, hb, hml, hown, hta⟩ (k_X_isKind l x2) (cS 1 hta aw_195 aw_1 aw_193 aw_194 rfl rfl (by decide +kernel) ⟨Nat.le_of_ble_eq_true rfl, Nat.le_of_ble_eq_true rfl⟩) ⟨fun a U g mk q => q, fun U hU hW => ⟨rfl, trivial⟩⟩ rfl rfl hl.1 rfl (lv_room (Nat.le_of_ble_eq_true rfl)) d_X_note_9 ⟨Nat.le_of_ble_eq_true rfl, Nat.le_of_ble_eq_true rfl⟩) (fun r_5 hr_5 => ?_)
    refine lv_if_eq (tgt := 22) hx hb d_X_note_12 (by decide) (fun c_6 => ?_) (fun c_6 => ?_)
    · have p_7 := b1_f hr_5 c_6
      have hC : gC (if (¬ x1 < 0 ∧ ¬ wr ≤ x1) ∧ (¬ x2 < 0 ∧ ¬ 6 ≤ x2) ∧ (¬ x3 < 0 ∧ ¬ 10 ≤ x3) then 1 else 0) (if (¬ x4 < 0 ∧ ¬ se < x4) ∧ (¬ x5 < (-9999) ∧ ¬ 9999 < x5) then 1 else 0) 1 (if nI n < 100 then 1 else 0) = 1 := by simp only [p_4, p_7, not_true_eq_false, not_false_eq_true, and_true, and_false, true_and, false_and, and_self, or_self, or_true, true_or, or_false, false_or, ↓reduceIte, g_1, g_2, g_3, g_4, g_0]
      exact xt_A hx hb hlt hown hta hE "no such writer, kind or sector" (by decide) hS0 (hl.1.trans hml.symm) d_X_note_22 d_X_note_25 d_X_note_26 d_X_note_28 d_X_note_31 hnx (Nat.le_of_ble_eq_true rfl) (Nat.le_of_ble_eq_true rfl) (Nat.le_of_ble_eq_true rfl) (Nat.le_of_ble_eq_true rfl) hlocks ⟨by rw [hC]; decide, by rw [hC]; rfl⟩ (Nat.le_of_ble_eq_true rfl) (Nat.le_of_ble_eq_true rfl)
    · have p_8 := b1_t hr_5 c_6
      refine lv_iload_n hx hb d_X_note_15 rfl (lv_at hl 3 rfl) ?_
      refine vp_callSi (W.runS (As := [.int x3]) (rest := []) ⟨hx, hb, hml, hown, hta⟩ (k_X_isSector l x3) (cS 1 hta aw_198 aw_1 aw_196 aw_197 rfl rfl (by decide +kernel) ⟨Nat.le_of_ble_eq_true rfl, Nat.le_of_ble_eq_true rfl⟩) ⟨fun a U g mk q => q, fun U hU hW => ⟨rfl, trivial⟩⟩ rfl rfl hl.1 rfl (lv_room (Nat.le_of_ble_eq_true rfl)) d_X_note_16 ⟨Nat.le_of_ble_eq_true rfl, Nat.le_of_ble_eq_true rfl⟩) (fun r_9 hr_9 => ?_)
      refine lv_if_ne (tgt := 32) hx hb d_X_note_19 (by decide) (fun c_10 => ?_) (fun c_10 => ?_)
      · have p_11 := b1_t hr_9 c_10
        refine lv_aload_n hx hb d_X_note_32 rfl (lv_at hl 0 rfl) ?_
        refine lv_iload hx hb d_X_note_33 (lv_at hl 4 rfl) ?_
        refine vp_callSi (W.runV (As := [.int x4]) (rest := []) ⟨hx, hb, hml, hown, hta⟩ (k_X_hasCome l G _ w h0 x4) (cV 1 hta aw_218 aw_1 aw_215 aw_217 as_SceneTimes_hasCome rfl rfl (by decide +kernel) ⟨Nat.le_of_ble_eq_true rfl, Nat.le_of_ble_eq_true rfl⟩) (pW_V hK hM rfl h0) rfl rfl hl.1 rfl (lv_room (Nat.le_of_ble_eq_true rfl)) d_X_note_35 ⟨Nat.le_of_ble_eq_true rfl, Nat.le_of_ble_eq_true rfl⟩) (fun r_12 hr_12 => ?_)
        refine lv_if_eq (tgt := 49) hx hb d_X_note_38 (by decide) (fun c_13 => ?_) (fun c_13 => ?_)
        · have p_14 := b1_f hr_12 c_13
          have hC : gC (if (¬ x1 < 0 ∧ ¬ wr ≤ x1) ∧ (¬ x2 < 0 ∧ ¬ 6 ≤ x2) ∧ (¬ x3 < 0 ∧ ¬ 10 ≤ x3) then 1 else 0) (if (¬ x4 < 0 ∧ ¬ se < x4) ∧ (¬ x5 < (-9999) ∧ ¬ 9999 < x5) then 1 else 0) 1 (if nI n < 100 then 1 else 0) = 2 := by simp only [p_4, p_8, p_11, p_14, not_true_eq_false, not_false_eq_true, and_true, and_false, true_and, false_and, and_self, or_self, or_true, true_or, or_false, false_or, ↓reduceIte, g_1, g_2, g_3, g_4, g_0]
          exact xt_I hx hb hlt hown hta hE "the second or the value" (by decide) hS0 (hl.1.trans hml.symm) d_X_note_49 d_X_note_52 d_X_note_53 d_X_note_55 d_X_note_58 hnx (Nat.le_of_ble_eq_true rfl) (Nat.le_of_ble_eq_true rfl) (Nat.le_of_ble_eq_true rfl) (Nat.le_of_ble_eq_true rfl) hlocks ⟨by rw [hC]; decide, by rw [hC]; rfl⟩ (Nat.le_of_ble_eq_true rfl) (Nat.le_of_ble_eq_true rfl)
        · have p_15 := b1_t hr_12 c_13
          refine lv_iload hx hb d_X_note_41 (lv_at hl 5 rfl) ?_
          refine vp_callSi (W.runS (As := [.int x5]) (rest := []) ⟨hx, hb, hml, hown, hta⟩ (k_X_isValue l x5) (cS 1 hta aw_221 aw_1 aw_219 aw_220 rfl rfl (by decide +kernel) ⟨Nat.le_of_ble_eq_true rfl, Nat.le_of_ble_eq_true rfl⟩) ⟨fun a U g mk q => q, fun U hU hW => ⟨rfl, trivial⟩⟩ rfl rfl hl.1 rfl (lv_room (Nat.le_of_ble_eq_true rfl)) d_X_note_43 ⟨Nat.le_of_ble_eq_true rfl, Nat.le_of_ble_eq_true rfl⟩) (fun r_16 hr_16 => ?_)
          refine lv_if_ne (tgt := 59) hx hb d_X_note_46 (by decide) (fun c_17 => ?_) (fun c_17 => ?_)
          · have p_18 := b1_t hr_16 c_17
            refine lv_aload_n hx hb d_X_note_59 rfl (lv_at hl 0 rfl) ?_
            refine m_get (D := G) (ci := 0) (v := .ref (α 1)) (C := nR_X) (T := nT_X) (N := 6) hx hb hta in_X hown hK hM h0 rfl 0 (by decide) (hta _ aw_85) (fun _ h9 => h9) rfl d_X_note_60 ?_
            refine m_get (D := G) (ci := 1) (v := .int (nI n)) (C := nR_L) (T := nT_L) (N := 3) hx hb hta in_L hown hK hM h1 rfl 2 (by decide) (hta _ aw_37) (fun _ h9 => h9) rfl d_X_note_63 ?_
            refine lv_bipush (v := 100) hx hb d_X_note_66 (by decide) ?_
            refine lv_icmp_lt (tgt := 81) hx hb d_X_note_68 (by decide) (fun c_19 => ?_) (fun c_19 => ?_)
            · refine m_new (D := G) (ci := 4) (fs := [.int 0, .int 0, .int 0, .int 0, .int 0, .null, .null, .int 0, .int 0, .int 0]) (C := nR_N) (T := nT_N) (N := 10) hx hb hta in_N nt_N nt_N_ok hown (hta _ aw_239) (hta _ aw_240) (hta _ aw_12) hK hM hS hA rfl (fun j hj => by rcases (show j = 0 ∨ j = 1 ∨ j = 2 ∨ j = 3 ∨ j = 4 ∨ j = 5 ∨ j = 6 ∨ j = 7 ∨ j = 8 ∨ j = 9 by omega) with rfl | rfl | rfl | rfl | rfl | rfl | rfl | rfl | rfl | rfl <;> rfl) (Nat.le_of_ble_eq_true rfl) (Nat.le_of_ble_eq_true rfl) d_X_note_81 (fun q_n H nq_n hM hS => ?_)
              obtain ⟨w_20, hw_20⟩ : ∃ z9 : Nat → Option va_E, z9 = va_up w q_n (some (.inr (4, [.int 0, .int 0, .int 0, .int 0, .int 0, .null, .null, .int 0, .int 0, .int 0]))) := ⟨_, rfl⟩
              rw [← hw_20] at hM
              have k_21 : w_20 (α 0) = some (.inr (0, [.ref (α 1), .ref (α 2), .ref (α 3), .int se, .int wr, .int ac])) := by rw [hw_20, va_up_ne _ _ (m_newne h0 nq_n)]; exact h0
              have k_22 : w_20 (α 1) = some (.inr (1, [.ref (α 4), .ref (α 5), .int (nI n)])) := by rw [hw_20, va_up_ne _ _ (m_newne h1 nq_n)]; exact h1
              have k_23 : w_20 (α 2) = some (.inr (2, [.ref (α 6), .int (nI rn), .int kn, .int z])) := by rw [hw_20, va_up_ne _ _ (m_newne h2 nq_n)]; exact h2
              have k_24 : w_20 (α 3) = some (.inr (3, [.ref (α 7), .int (nI sn)])) := by rw [hw_20, va_up_ne _ _ (m_newne h3 nq_n)]; exact h3
              have k_25 : w_20 (α 4) = some (.inl (cN, 100, .inr (.inr (.inr (.inr fb))))) := by rw [hw_20, va_up_ne _ _ (m_newne h4 nq_n)]; exact h4
              have k_26 : w_20 (α 5) = some (.inl (cN, 100, .inr (.inr (.inr (.inr fi))))) := by rw [hw_20, va_up_ne _ _ (m_newne h5 nq_n)]; exact h5
              have k_27 : w_20 (α 6) = some (.inl (cN, 100, .inr (.inr (.inr (.inr fr))))) := by rw [hw_20, va_up_ne _ _ (m_newne h6 nq_n)]; exact h6
              have k_28 : w_20 (α 7) = some (.inl (cB, 2005, .inl bs)) := by rw [hw_20, va_up_ne _ _ (m_newne h7 nq_n)]; exact h7
              have k_29 : w_20 q_n = some (.inr (4, [.int 0, .int 0, .int 0, .int 0, .int 0, .null, .null, .int 0, .int 0, .int 0])) := by rw [hw_20, va_up_self]
              refine lv_dup hx hb d_X_note_84 rfl ?_
              refine lv_aload_n hx hb d_X_note_85 rfl (lv_at hl 0 rfl) ?_
              refine m_get (D := G) (ci := 0) (v := .ref (α 1)) (C := nR_X) (T := nT_X) (N := 6) hx hb hta in_X hown hK hM k_21 rfl 0 (by decide) (hta _ aw_85) (fun _ h9 => h9) rfl d_X_note_86 ?_
              refine m_get (D := G) (ci := 1) (v := .int (nI n)) (C := nR_L) (T := nT_L) (N := 3) hx hb hta in_L hown hK hM k_22 rfl 2 (by decide) (hta _ aw_37) (fun _ h9 => h9) rfl d_X_note_89 ?_
              refine lv_iload_n hx hb d_X_note_92 rfl (lv_at hl 1 rfl) ?_
              refine lv_iload_n hx hb d_X_note_93 rfl (lv_at hl 2 rfl) ?_
              refine lv_iload_n hx hb d_X_note_94 rfl (lv_at hl 3 rfl) ?_
              refine lv_iload hx hb d_X_note_95 (lv_at hl 4 rfl) ?_
              refine lv_iload hx hb d_X_note_97 (lv_at hl 5 rfl) ?_
              refine lv_aload_n hx hb d_X_note_99 rfl (lv_at hl 0 rfl) ?_
              refine m_get (D := G) (ci := 0) (v := .int se) (C := nR_X) (T := nT_X) (N := 6) hx hb hta in_X hown hK hM k_21 rfl 3 (by decide) (hta _ aw_88) (fun _ h9 => h9) rfl d_X_note_100 ?_
              have hF := mw_free hM hS hA
              refine va_callv (va_runI (As := [.int (nI n), .int x1, .int x2, .int x3, .int x4, .int x5, .int se]) (rest := [.ref q_n]) ⟨hx, hb, hml, hown, hta⟩ (k_N_init l G _ w_20 k_29 (nI n) x1 x2 x3 x4 x5 se _) (cI 7 hta aw_243 aw_12 aw_241 aw_242 rfl rfl rfl (by decide +kernel) ⟨Nat.le_of_ble_eq_true rfl, Nat.le_of_ble_eq_true rfl⟩) (pZ_S hK hM) rfl rfl hl.1 rfl (lv_room (Nat.le_of_ble_eq_true rfl)) d_X_note_103 ⟨Nat.le_of_ble_eq_true rfl, Nat.le_of_ble_eq_true rfl⟩) hS (fun q _ h => hF q h) hF (fun u_r_30 t H locs ht hvm hr_30 hB hz1 hk1 hS => ?_)
              obtain ⟨hM1, hK1⟩ := hB
              rw [ht] at hM1
              have hM := mw_weaken hM1 hF
              clear hM1 hK1 hF hk1 hz1
              obtain ⟨w_31, hw_31⟩ : ∃ z9 : Nat → Option va_E, z9 = va_up (va_up w_20 u_r_30 (some (.inr (5, [.int se, .int x5, .int 0, .null])))) q_n (some (.inr (4, [.int (nI n), .int x1, .int x2, .int x3, .int x4, .ref u_r_30, .ref u_r_30, .int 0, .int 0, .int (mixv (mixv (mixv (mixv (mixv 7 x1) x2) x3) x4) x5)]))) := ⟨_, rfl⟩
              have hM : mw G ncl A w_31 H := by rw [hw_31]; exact hM
              have k_32 : w_31 (α 0) = some (.inr (0, [.ref (α 1), .ref (α 2), .ref (α 3), .int se, .int wr, .int ac])) := by rw [hw_31, va_up_ne _ _ (m_newne h0 nq_n), va_up_ne _ _ (m_newne k_21 hr_30)]; exact k_21
              have k_33 : w_31 (α 1) = some (.inr (1, [.ref (α 4), .ref (α 5), .int (nI n)])) := by rw [hw_31, va_up_ne _ _ (m_newne h1 nq_n), va_up_ne _ _ (m_newne k_22 hr_30)]; exact k_22
              have k_34 : w_31 (α 2) = some (.inr (2, [.ref (α 6), .int (nI rn), .int kn, .int z])) := by rw [hw_31, va_up_ne _ _ (m_newne h2 nq_n), va_up_ne _ _ (m_newne k_23 hr_30)]; exact k_23
              have k_35 : w_31 (α 3) = some (.inr (3, [.ref (α 7), .int (nI sn)])) := by rw [hw_31, va_up_ne _ _ (m_newne h3 nq_n), va_up_ne _ _ (m_newne k_24 hr_30)]; exact k_24
              have k_36 : w_31 (α 4) = some (.inl (cN, 100, .inr (.inr (.inr (.inr fb))))) := by rw [hw_31, va_up_ne _ _ (m_newne h4 nq_n), va_up_ne _ _ (m_newne k_25 hr_30)]; exact k_25
              have k_37 : w_31 (α 5) = some (.inl (cN, 100, .inr (.inr (.inr (.inr fi))))) := by rw [hw_31, va_up_ne _ _ (m_newne h5 nq_n), va_up_ne _ _ (m_newne k_26 hr_30)]; exact k_26
              have k_38 : w_31 (α 6) = some (.inl (cN, 100, .inr (.inr (.inr (.inr fr))))) := by rw [hw_31, va_up_ne _ _ (m_newne h6 nq_n), va_up_ne _ _ (m_newne k_27 hr_30)]; exact k_27
              have k_39 : w_31 (α 7) = some (.inl (cB, 2005, .inl bs)) := by rw [hw_31, va_up_ne _ _ (m_newne h7 nq_n), va_up_ne _ _ (m_newne k_28 hr_30)]; exact k_28
              have k_41 : w_31 q_n = some (.inr (4, [.int (nI n), .int x1, .int x2, .int x3, .int x4, .ref u_r_30, .ref u_r_30, .int 0, .int 0, .int (mixv (mixv (mixv (mixv (mixv 7 x1) x2) x3) x4) x5)])) := by rw [hw_31, va_up_self]
              have k_42 : w_31 u_r_30 = some (.inr (5, [.int se, .int x5, .int 0, .null])) := by rw [hw_31, va_up_ne _ _ (Ne.symm (m_newne k_29 hr_30)), va_up_self]
              refine lv_astore (lv' := [(6, .ref q_n), (0, .ref (α 0)), (1, .int x1), (2, .int x2), (3, .int x3), (4, .int x4), (5, .int x5)]) hx hb d_X_note_106 hl (by decide) rfl (fun ls hl => ?_)
              refine lv_aload_n hx hb d_X_note_108 rfl (lv_at hl 1 rfl) ?_
              refine m_get (D := G) (ci := 0) (v := .ref (α 1)) (C := nR_X) (T := nT_X) (N := 6) hx hb hta in_X hown hK hM k_32 rfl 0 (by decide) (hta _ aw_85) (fun _ h9 => h9) rfl d_X_note_109 ?_
              refine lv_aload hx hb d_X_note_112 (lv_at hl 0 rfl) ?_
              have hok9 : ∀ i, i < n → w_31 (nA (v (od i))) = some (eN (nN (v (od i))) (nW (v (od i))) (nK (v (od i))) (nS (v (od i))) (nT (v (od i))) (nF (v (od i))) (hd (nC (v (od i)))).1 (nAc (v (od i))) (nCo (v (od i))) (nMx (v (od i)))) := fun i hi => by
                have z9 := (hN (od i) (ok4 i hi)).2.1
                have z8 : w_20 (nA (v (od i))) = w (nA (v (od i))) := by rw [hw_20, va_up_ne _ _ (m_newne z9 nq_n)]
                rw [hw_31, va_up_ne _ _ (m_newne z9 nq_n), va_up_ne _ _ (m_newne (z8.trans z9) hr_30)]
                exact z8.trans z9
              have hF := mw_free hM hS hA
              refine va_callv (va_runV (As := [.ref q_n]) (rest := []) ⟨hx, hb, hml, hown, hta⟩ (k_L_take l G cN _ w_31 ((nI_ltI (by omega) (by decide)).mp (show nI n < nI 100 from c_19)) k_33 k_36 k_37 (fun q9 => absurd (hα 4 5 (by decide) (by decide) q9) (by decide)) (v := fun i => v (od i)) hfi hok9 k_41 _) (cV 1 hta aw_327 aw_2 aw_324 aw_325 aw_326 rfl rfl (by decide +kernel) ⟨Nat.le_of_ble_eq_true rfl, Nat.le_of_ble_eq_true rfl⟩) (pZ_V hK hM rfl k_33) rfl rfl hl.1 rfl (lv_room (Nat.le_of_ble_eq_true rfl)) d_X_note_114 ⟨Nat.le_of_ble_eq_true rfl, Nat.le_of_ble_eq_true rfl⟩) hS (fun q _ h => hF q h) hF (fun u_r_43 t H locs ht hvm hr_43 hB hz1 hk1 hS => ?_)
              obtain ⟨hM1, hK1⟩ := hB
              rw [ht] at hM1
              have hM := mw_weaken hM1 hF
              clear hM1 hK1 hF hk1 hz1
              obtain ⟨w_44, hw_44⟩ : ∃ z9 : Nat → Option va_E, z9 = va_up (va_up (va_up w_31 (α 4) (some (aQ cN 100 (va_up fb n (some q_n))))) (α 5) (some (aQ cN 100 (va_up (shF fi (insP (fun i => behB (nT (v (od i))) (nW (v (od i))) (nN (v (od i))) x4 x1 (nI n)) n) n) (insP (fun i => behB (nT (v (od i))) (nW (v (od i))) (nN (v (od i))) x4 x1 (nI n)) n) (some q_n))))) (α 1) (some (eL (α 4) (α 5) (nI (n + 1)))) := ⟨_, rfl⟩
              have hM : mw G ncl A w_44 H := by rw [hw_44]; exact hM
              have k_45 : w_44 q_n = some (.inr (4, [.int (nI n), .int x1, .int x2, .int x3, .int x4, .ref u_r_30, .ref u_r_30, .int 0, .int 0, .int (mixv (mixv (mixv (mixv (mixv 7 x1) x2) x3) x4) x5)])) := by rw [hw_44, va_up_ne _ _ (Ne.symm (m_newne h1 nq_n)), va_up_ne _ _ (Ne.symm (m_newne h5 nq_n)), va_up_ne _ _ (Ne.symm (m_newne h4 nq_n))]; exact k_41
              refine lv_aload hx hb d_X_note_117 (lv_at hl 0 rfl) ?_
              refine m_get (D := G) (ci := 4) (v := .int (nI n)) (C := nR_N) (T := nT_N) (N := 10) hx hb hta in_N hown hK hM k_45 rfl 0 (by decide) (hta _ aw_279) (fun _ h9 => h9) rfl d_X_note_119 ?_
              have hq12 : u_r_30 ≠ q_n := fun q9 => by have z9 := hr_30; rw [q9, hw_20, va_up_self] at z9; cases z9
              have hq2w : w u_r_30 = none := by have z9 := hr_30; rw [hw_20, va_up_ne _ _ hq12] at z9; exact z9
              refine vx_ret ?_
              refine W.widen (k := 3) (n := 20) (Nat.le_of_ble_eq_true rfl) (Nat.le_of_ble_eq_true rfl) ?_
              exact W.iret (v := nI n) hx hb hr (fun t ht hW => ⟨⟨nI n, w_44, rfl, ⟨by simp only [p_4, p_8, p_11, p_15, p_18, c_19, not_true_eq_false, not_false_eq_true, and_true, and_false, true_and, false_and, and_self, or_self, or_true, true_or, or_false, false_or, ↓reduceIte, g_1, g_2, g_3, g_4, g_0], ⟨rfl, q_n, u_r_30, cp_note hα hcp ⟨ok1, ok2, ok3, ok4, ok5, ok6⟩ nq_n hq2w (Ne.symm hq12) h4 h5 (insP_le _ _) (by rw [hw_44, hw_31, hw_20]; rfl)⟩⟩, by rw [ht]; exact hM, va_K.moved hW.alike hK⟩, hS.F ht⟩) hS.2.2 d_X_note_122
            · have hC : gC (if (¬ x1 < 0 ∧ ¬ wr ≤ x1) ∧ (¬ x2 < 0 ∧ ¬ 6 ≤ x2) ∧ (¬ x3 < 0 ∧ ¬ 10 ≤ x3) then 1 else 0) (if (¬ x4 < 0 ∧ ¬ se < x4) ∧ (¬ x5 < (-9999) ∧ ¬ 9999 < x5) then 1 else 0) 1 (if nI n < 100 then 1 else 0) = 4 := by simp only [p_4, p_8, p_11, p_15, p_18, c_19, not_true_eq_false, not_false_eq_true, and_true, and_false, true_and, false_and, and_self, or_self, or_true, true_or, or_false, false_or, ↓reduceIte, g_1, g_2, g_3, g_4, g_0]
              exact xt_U hx hb hlt hown hta hE "no room for a note" (by decide) hS0 (hl.1.trans hml.symm) d_X_note_71 d_X_note_74 d_X_note_75 d_X_note_77 d_X_note_80 hnx (Nat.le_of_ble_eq_true rfl) (Nat.le_of_ble_eq_true rfl) (Nat.le_of_ble_eq_true rfl) (Nat.le_of_ble_eq_true rfl) hlocks ⟨by rw [hC]; decide, by rw [hC]; rfl⟩ (Nat.le_of_ble_eq_true rfl) (Nat.le_of_ble_eq_true rfl)
          · have p_46 := b1_f hr_16 c_17
            have hC : gC (if (¬ x1 < 0 ∧ ¬ wr ≤ x1) ∧ (¬ x2 < 0 ∧ ¬ 6 ≤ x2) ∧ (¬ x3 < 0 ∧ ¬ 10 ≤ x3) then 1 else 0) (if (¬ x4 < 0 ∧ ¬ se < x4) ∧ (¬ x5 < (-9999) ∧ ¬ 9999 < x5) then 1 else 0) 1 (if nI n < 100 then 1 else 0) = 2 := by simp only [p_4, p_8, p_11, p_15, p_46, not_true_eq_false, not_false_eq_true, and_true, and_false, true_and, false_and, and_self, or_self, or_true, true_or, or_false, false_or, ↓reduceIte, g_1, g_2, g_3, g_4, g_0]
            exact xt_I hx hb hlt hown hta hE "the second or the value" (by decide) hS0 (hl.1.trans hml.symm) d_X_note_49 d_X_note_52 d_X_note_53 d_X_note_55 d_X_note_58 hnx (Nat.le_of_ble_eq_true rfl) (Nat.le_of_ble_eq_true rfl) (Nat.le_of_ble_eq_true rfl) (Nat.le_of_ble_eq_true rfl) hlocks ⟨by rw [hC]; decide, by rw [hC]; rfl⟩ (Nat.le_of_ble_eq_true rfl) (Nat.le_of_ble_eq_true rfl)
      · have p_47 := b1_f hr_9 c_10
        have hC : gC (if (¬ x1 < 0 ∧ ¬ wr ≤ x1) ∧ (¬ x2 < 0 ∧ ¬ 6 ≤ x2) ∧ (¬ x3 < 0 ∧ ¬ 10 ≤ x3) then 1 else 0) (if (¬ x4 < 0 ∧ ¬ se < x4) ∧ (¬ x5 < (-9999) ∧ ¬ 9999 < x5) then 1 else 0) 1 (if nI n < 100 then 1 else 0) = 1 := by simp only [p_4, p_8, p_47, not_true_eq_false, not_false_eq_true, and_true, and_false, true_and, false_and, and_self, or_self, or_true, true_or, or_false, false_or, ↓reduceIte, g_1, g_2, g_3, g_4, g_0]
        exact xt_A hx hb hlt hown hta hE "no such writer, kind or sector" (by decide) hS0 (hl.1.trans hml.symm) d_X_note_22 d_X_note_25 d_X_note_26 d_X_note_28 d_X_note_31 hnx (Nat.le_of_ble_eq_true rfl) (Nat.le_of_ble_eq_true rfl) (Nat.le_of_ble_eq_true rfl) (Nat.le_of_ble_eq_true rfl) hlocks ⟨by rw [hC]; decide, by rw [hC]; rfl⟩ (Nat.le_of_ble_eq_true rfl) (Nat.le_of_ble_eq_true rfl)
