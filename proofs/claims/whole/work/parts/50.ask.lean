/-! the class: ask, print -/
def quW (w : Nat → Option va_E) (α : Nat → Nat) (cN : ClassId) (f : Nat → Option Nat) (k : Nat) (kn : Int32) : Nat → Option va_E := va_up (va_up w (α 6) (some (aQ cN 100 f))) (α 2) (some (eQ (α 6) (nI k) kn 1))
section QU
variable {w : Nat → Option va_E} {α : Nat → Nat} {cN cB : ClassId} {f f2 : Nat → Option Nat} {k k2 : Nat} {kn : Int32}
theorem quW_q : quW w α cN f k kn (α 2) = some (eQ (α 6) (nI k) kn 1) := by unfold quW; rw [va_up_self]
theorem quW_r (h : α 6 ≠ α 2) : quW w α cN f k kn (α 6) = some (aQ cN 100 f) := by unfold quW; rw [va_up_ne _ _ h, va_up_self]
theorem quW_o {a : Nat} (h1 : a ≠ α 2) (h2 : a ≠ α 6) : quW w α cN f k kn a = w a := by unfold quW; rw [va_up_ne _ _ h1, va_up_ne _ _ h2]
theorem quW_s (h : α 6 ≠ α 2) : va_up (va_up (quW w α cN f k kn) (α 6) (some (aQ cN 100 f2))) (α 2) (some (eQ (α 6) (nI k2) kn 1)) = quW w α cN f2 k2 kn := by
  unfold quW
  funext i
  unfold va_up
  by_cases e1 : i = α 2
  · rw [if_pos e1, if_pos e1]
  · by_cases e2 : i = α 6
    · simp only [if_neg e1, if_pos e2]
    · simp only [if_neg e1, if_neg e2]
theorem quW_b {n0 : Int32} {kn0 z0 : Int32} (h6 : w (α 6) = some (aQ cN 100 f)) : va_up w (α 2) (some (eQ (α 6) 0 kn 1)) = quW w α cN f 0 kn := by
  unfold quW
  rw [show va_up w (α 6) (some (aQ cN 100 f)) = w from by funext i; unfold va_up; split; (rename_i e; rw [e]; exact h6.symm); rfl]
  rfl
end QU
section PT
variable {w : Nat → Option va_E} {α : Nat → Nat} {cN cB : ClassId} {v : Nat → nV} {od ro : Nat → Nat} {bs : Nat → Int32} {se wr ac : Int32} {n rn sn : Nat} {kn z : Int32}
theorem cp_q (hα : ∀ i j, i < 8 → j < 8 → α i = α j → i = j) (h : cPic w α cN cB v od ro bs se wr ac n rn sn kn z) {f : Nat → Option Nat} {ro2 : Nat → Nat} {k : Nat} (hf : ∀ i, i < k → f i = some (nA (v (ro2 i)))) (kn2 : Int32) : cPic (quW w α cN f k kn2) α cN cB v od ro2 bs se wr ac n k sn kn2 1 := by
  obtain ⟨h0, h1, h2, h3, h7, ⟨fb, h4, hfb⟩, ⟨fi, h5, hfi⟩, ⟨fr, h6, hfr⟩, hN⟩ := h
  have hd0 : ∀ i j, i < 8 → j < 8 → i ≠ j → α i ≠ α j := fun i j hi hj hz q => hz (hα i j hi hj q)
  have hk : ∀ i, i < 8 → i ≠ 2 → i ≠ 6 → quW w α cN f k kn2 (α i) = w (α i) := fun i hi a b => quW_o (hd0 i 2 hi (by decide) a) (hd0 i 6 hi (by decide) b)
  have hc : ∀ b c fs, c ≠ 2 → w b = some (.inr (c, fs)) → quW w α cN f k kn2 b = w b := fun b c fs hc hb => quW_o (m_ne hb h2 (by intro q; cases q; exact hc rfl)) (m_ne hb h6 (by intro q; cases q))
  exact ⟨(hk 0 (by decide) (by decide) (by decide)).trans h0, (hk 1 (by decide) (by decide) (by decide)).trans h1, quW_q, (hk 3 (by decide) (by decide) (by decide)).trans h3, (hk 7 (by decide) (by decide) (by decide)).trans h7, ⟨fb, (hk 4 (by decide) (by decide) (by decide)).trans h4, hfb⟩, ⟨fi, (hk 5 (by decide) (by decide) (by decide)).trans h5, hfi⟩, ⟨f, quW_r (hd0 6 2 (by decide) (by decide) (by decide)), hf⟩, fun i hi => okN_k (hN i hi) (hc _ 4 _ (by decide) (hN i hi).2.1) (fun b fs hb => hc b 5 fs (by decide) hb)⟩
theorem cp_sh (hα : ∀ i j, i < 8 → j < 8 → α i = α j → i = j) (h : cPic w α cN cB v od ro bs se wr ac n rn sn kn z) (g : Nat → Int32) (k : Nat) : cPic (shW w cB (α 3) (α 7) g k) α cN cB v od ro g se wr ac n rn k kn z := by
  obtain ⟨h0, h1, h2, h3, h7, ⟨fb, h4, hfb⟩, ⟨fi, h5, hfi⟩, ⟨fr, h6, hfr⟩, hN⟩ := h
  have hd0 : ∀ i j, i < 8 → j < 8 → i ≠ j → α i ≠ α j := fun i j hi hj hz q => hz (hα i j hi hj q)
  have hk : ∀ i, i < 8 → i ≠ 3 → i ≠ 7 → shW w cB (α 3) (α 7) g k (α i) = w (α i) := fun i hi a b => shW_o (hd0 i 3 hi (by decide) a) (hd0 i 7 hi (by decide) b)
  have hc : ∀ b c fs, c ≠ 3 → w b = some (.inr (c, fs)) → shW w cB (α 3) (α 7) g k b = w b := fun b c fs hc hb => shW_o (m_ne hb h3 (by intro q; cases q; exact hc rfl)) (m_ne hb h7 (by intro q; cases q))
  exact ⟨(hk 0 (by decide) (by decide) (by decide)).trans h0, (hk 1 (by decide) (by decide) (by decide)).trans h1, (hk 2 (by decide) (by decide) (by decide)).trans h2, shW_s, shW_b (hd0 7 3 (by decide) (by decide) (by decide)), ⟨fb, (hk 4 (by decide) (by decide) (by decide)).trans h4, hfb⟩, ⟨fi, (hk 5 (by decide) (by decide) (by decide)).trans h5, hfi⟩, ⟨fr, (hk 6 (by decide) (by decide) (by decide)).trans h6, hfr⟩, fun i hi => okN_k (hN i hi) (hc _ 4 _ (by decide) (hN i hi).2.1) (fun b fs hb => hc b 5 fs (by decide) hb)⟩
end PT
/-- which notes a question takes -/
def askW (v : Nat → nV) (x1 x2 x3 x4 x5 : Int32) (j : Nat) : Bool := decide (¬ x5 < (la (v j)).2.1) && (decide (¬ nT (v j) < x1 ∧ ¬ x2 ≤ nT (v j)) && decide ((x3 = (-1) ∨ x3 = nK (v j)) ∧ (x4 = (-1) ∨ x4 = nS (v j))))
def askR (W : Nat → Bool) (od : Nat → Nat) : Nat → Nat → List Nat
  | 0, _ => []
  | m + 1, i => if W (od i) = true then od i :: askR W od m (i + 1) else askR W od m (i + 1)
theorem ask_f {f : Nat → Option Nat} {v : Nat → nV} {L1 : List Nat} {a : Nat} (hf : ∀ i, i < L1.length → f i = some (nA (v (L1.getD i 0)))) : ∀ i, i < (L1 ++ [a]).length → va_up f L1.length (some (nA (v a))) i = some (nA (v ((L1 ++ [a]).getD i 0))) := by
  intro i hi
  rw [List.length_append, List.length_singleton] at hi
  by_cases h : i = L1.length
  · rw [h, va_up_self, List.getD_eq_getElem?_getD, List.getElem?_append_right (Nat.le_refl _), Nat.sub_self]; rfl
  · rw [va_up_ne _ _ h, hf i (by omega), List.getD_eq_getElem?_getD, List.getD_eq_getElem?_getD, List.getElem?_append_left (by omega)]
set_option maxHeartbeats 4000000 in
set_option maxRecDepth 100000 in
theorem k_X_ask (l : Launch) (hlt : l.stackTraces = false) (G : va_G) (cN cB : ClassId) (ty2 : List (ClassId × FieldType)) (w : Nat → Option va_E) {α : Nat → Nat} (hα : ∀ i j, i < 8 → j < 8 → α i = α j → i = j) {v : Nat → nV} {od ro : Nat → Nat} {bs : Nat → Int32} {se wr ac : Int32} {n rn sn : Nat} {kn z : Int32} (hcp : cPic w α cN cB v od ro bs se wr ac n rn sn kn z) (hok : cOk v od ro n rn sn) (x1 x2 x3 x4 x5 : Int32) (sz : Nat) : vx_Met l y_X_ask (wm y_X_ask c_X_ask 8 (some .int)) ({ frames := 6, cells := 1, slots := 6, locals := 82 }) (va_Pc [.ref (α 0), .int x1, .int x2, .int x3, .int x4, .int x5] (fun U => U.heap.size = sz ∧ mw G ncl (fun _ => True) w U.heap ∧ va_K G ncl ((cN, .object nR_N) :: (cB, .byte) :: ty2) U ∧ xE U U.heap)) (va_Qi (fun (r0 : Int32) (u : Nat → Option va_E) => gC (if (x3 = (-1) ∨ (¬ x3 < 0 ∧ ¬ 6 ≤ x3)) ∧ (x4 = (-1) ∨ (¬ x4 < 0 ∧ ¬ 10 ≤ x4)) then 1 else 0) (if ¬ x5 < 0 ∧ ¬ se < x5 then 1 else 0) 1 1 = 0 ∧ r0 = nI (askR (askW v x1 x2 x3 x4 x5) od n 0).length ∧ cPic u α cN cB v od (fun i => (askR (askW v x1 x2 x3 x4 x5) od n 0).getD i 0) bs se wr ac n ((askR (askW v x1 x2 x3 x4 x5) od n 0).length) sn x5 1) (fun w2 t => mw G ncl (mA w sz) w2 t.heap ∧ va_K G ncl ((cN, .object nR_N) :: (cB, .byte) :: ty2) t) (mA w sz)) (x_K (fun E => ¬ gC (if (x3 = (-1) ∨ (¬ x3 < 0 ∧ ¬ 6 ≤ x3)) ∧ (x4 = (-1) ∨ (¬ x4 < 0 ∧ ¬ 10 ≤ x4)) then 1 else 0) (if ¬ x5 < 0 ∧ ¬ se < x5 then 1 else 0) 1 1 = 0 ∧ E = exN (gC (if (x3 = (-1) ∨ (¬ x3 < 0 ∧ ¬ 6 ≤ x3)) ∧ (x4 = (-1) ∨ (¬ x4 < 0 ∧ ¬ 10 ≤ x4)) then 1 else 0) (if ¬ x5 < 0 ∧ ¬ se < x5 then 1 else 0) 1 1))) 1 6 (mA w sz) := by
  refine vx_ofW (cc := c_X_ask) (maxL := 8) (ret := (some .int)) (by decide) rfl ?_
  intro p e s m args below meth c s₁ B hml hnx hv
  obtain ⟨rfl, hsz, hM0, hK, hE⟩ := hv
  have hx := B.exec
  have hb := B.bytes
  have hr := B.returns
  have hts := atoms_spec (ws := (wm y_X_ask c_X_ask 8 (some .int))) B.pre
  have hta : ∀ w ∈ AL, w.before _ s = true := fun w h => hts w (List.mem_cons_of_mem _ h)
  have hown : s.vm.findClass nR_X = some m.cls := findClass_of_methodNamed B.named
  have hlocks := B.notSynchronized
  have hl := lv_entry ([.ref (α 0), .int x1, .int x2, .int x3, .int x4, .int x5]) (n := 8) (Nat.le_of_ble_eq_true rfl)
  rw [lg_entry_eq]
  generalize (lg_sl ([.ref (α 0), .int x1, .int x2, .int x3, .int x4, .int x5]) ++ List.replicate (8 - (lg_sl ([.ref (α 0), .int x1, .int x2, .int x3, .int x4, .int x5])).length) Slot.unset).toArray = ls at hl ⊢
  have hl : lv_has ls 8 [(0, .ref (α 0)), (1, .int x1), (2, .int x2), (3, .int x3), (4, .int x4), (5, .int x5)] := hl
  subst hsz
  have hM := mw_self (sz := s.heap.size) hM0
  clear hM0
  generalize hAe : mA w s.heap.size = A at hM hE ⊢
  have hA : ∀ q : Nat, s.heap.size ≤ q → A q := fun q h => by rw [← hAe]; exact Or.inr h
  have hS : va_S A s.heap s.heap [] := va_S.rf
  have hcp2 := hcp
  obtain ⟨h0, h1, h2, h3, h7, ⟨fb, h4, hfb⟩, ⟨fi, h5, hfi⟩, ⟨fr, h6, hfr⟩, hN⟩ := hcp2
  obtain ⟨ok1, ok2, ok3, ok4, ok5, ok6⟩ := hok
  have hS0 : va_S (fun _ => False) s.heap s.heap [] := va_S.rf
  have n62 : α 6 ≠ α 2 := fun q9 => absurd (hα 6 2 (by decide) (by decide) q9) (by decide)
  have loop : gC (if (x3 = (-1) ∨ (¬ x3 < 0 ∧ ¬ 6 ≤ x3)) ∧ (x4 = (-1) ∨ (¬ x4 < 0 ∧ ¬ 10 ≤ x4)) then 1 else 0) (if ¬ x5 < 0 ∧ ¬ se < x5 then 1 else 0) 1 1 = 0 → ∀ (m9 i : Nat) (L1 : List Nat) (f : Nat → Option Nat) (x6 : Int32) (H : Heap) (locs : List Loc) (ls : Array Slot), i + m9 = n → x6 = nI i → L1.length ≤ i → L1 ++ askR (askW v x1 x2 x3 x4 x5) od m9 i = (askR (askW v x1 x2 x3 x4 x5) od n 0) → (∀ i, i < L1.length → f i = some (nA (v (L1.getD i 0)))) → mw G ncl A (quW w α cN f L1.length x5) H → va_S A s.heap H locs → lv_has ls 8 [(0, .ref (α 0)), (1, .int x1), (2, .int x2), (3, .int x3), (4, .int x4), (5, .int x5), (6, .int x6)] → W p l e (headSpec (wm y_X_ask c_X_ask 8 (some .int)) ({ frames := 6, cells := 1, slots := 6, locals := 82 })).room s m ([.ref (α 0), .int x1, .int x2, .int x3, .int x4, .int x5] : List Value).toArray below meth c H locs 0 0 (vx_MQ below (va_Qi (fun (r0 : Int32) (u : Nat → Option va_E) => gC (if (x3 = (-1) ∨ (¬ x3 < 0 ∧ ¬ 6 ≤ x3)) ∧ (x4 = (-1) ∨ (¬ x4 < 0 ∧ ¬ 10 ≤ x4)) then 1 else 0) (if ¬ x5 < 0 ∧ ¬ se < x5 then 1 else 0) 1 1 = 0 ∧ r0 = nI (askR (askW v x1 x2 x3 x4 x5) od n 0).length ∧ cPic u α cN cB v od (fun i => (askR (askW v x1 x2 x3 x4 x5) od n 0).getD i 0) bs se wr ac n ((askR (askW v x1 x2 x3 x4 x5) od n 0).length) sn x5 1) (fun w2 t => mw G ncl A w2 t.heap ∧ va_K G ncl ((cN, .object nR_N) :: (cB, .byte) :: ty2) t) A) (x_K (fun E => ¬ gC (if (x3 = (-1) ∨ (¬ x3 < 0 ∧ ¬ 6 ≤ x3)) ∧ (x4 = (-1) ∨ (¬ x4 < 0 ∧ ¬ 10 ≤ x4)) then 1 else 0) (if ¬ x5 < 0 ∧ ¬ se < x5 then 1 else 0) 1 1 = 0 ∧ E = exN (gC (if (x3 = (-1) ∨ (¬ x3 < 0 ∧ ¬ 6 ≤ x3)) ∧ (x4 = (-1) ∨ (¬ x4 < 0 ∧ ¬ 10 ≤ x4)) then 1 else 0) (if ¬ x5 < 0 ∧ ¬ se < x5 then 1 else 0) 1 1))) ([.ref (α 0), .int x1, .int x2, .int x3, .int x4, .int x5] : List Value).toArray s 1 6 A) (F0 m 67 ls []) := by
    intro hC9 m9
    induction m9 with
    | zero =>
      intro i L1 f x6 H locs ls hi e6 hL hR hf hM hS hl
      have hR : L1 = askR (askW v x1 x2 x3 x4 x5) od n 0 := by rw [← hR]; exact (List.append_nil L1).symm
      refine lv_iload hx hb d_X_ask_67 (lv_at hl 6 rfl) ?_
      refine lv_aload_n hx hb d_X_ask_69 rfl (lv_at hl 0 rfl) ?_
      refine m_get (D := G) (ci := 0) (v := .ref (α 1)) (C := nR_X) (T := nT_X) (N := 6) hx hb hta in_X hown hK hM (by rw [quW_o (fun q9 => absurd (hα 0 2 (by decide) (by decide) q9) (by decide)) (fun q9 => absurd (hα 0 6 (by decide) (by decide) q9) (by decide))]; exact h0) rfl 0 (by decide) (hta _ aw_85) (fun _ h9 => h9) rfl d_X_ask_70 ?_
      refine m_get (D := G) (ci := 1) (v := .int (nI n)) (C := nR_L) (T := nT_L) (N := 3) hx hb hta in_L hown hK hM (by rw [quW_o (fun q9 => absurd (hα 1 2 (by decide) (by decide) q9) (by decide)) (fun q9 => absurd (hα 1 6 (by decide) (by decide) q9) (by decide))]; exact h1) rfl 2 (by decide) (hta _ aw_37) (fun _ h9 => h9) rfl d_X_ask_73 ?_
      refine lv_icmp_ge (tgt := 140) hx hb d_X_ask_76 (by decide) (fun c_1 => ?_) (fun c_1 => absurd (by rw [e6]; exact nI_le (by omega) (by omega)) c_1)
      refine lv_aload_n hx hb d_X_ask_140 rfl (lv_at hl 0 rfl) ?_
      refine m_get (D := G) (ci := 0) (v := .ref (α 2)) (C := nR_X) (T := nT_X) (N := 6) hx hb hta in_X hown hK hM (by rw [quW_o (fun q9 => absurd (hα 0 2 (by decide) (by decide) q9) (by decide)) (fun q9 => absurd (hα 0 6 (by decide) (by decide) q9) (by decide))]; exact h0) rfl 1 (by decide) (hta _ aw_86) (fun _ h9 => h9) rfl d_X_ask_141 ?_
      refine m_get (D := G) (ci := 2) (v := .int (nI L1.length)) (C := nR_Q) (T := nT_Q) (N := 4) hx hb hta in_Q hown hK hM (quW_q (w := w) (α := α) (cN := cN) (f := f) (k := L1.length) (kn := x5)) rfl 1 (by decide) (hta _ aw_55) (fun _ h9 => h9) rfl d_X_ask_144 ?_
      refine vx_ret ?_
      refine W.widen (k := 1) (n := 6) (Nat.le_of_ble_eq_true rfl) (Nat.le_of_ble_eq_true rfl) ?_
      exact W.iret (v := nI L1.length) hx hb hr (fun t ht hW => ⟨⟨nI L1.length, (quW w α cN f L1.length x5), rfl, ⟨hC9, by rw [hR], by have z9 := cp_q hα hcp (ro2 := fun i => L1.getD i 0) hf x5; rw [← hR]; exact z9⟩, by rw [ht]; exact hM, va_K.moved hW.alike hK⟩, hS.F ht⟩) hS.2.2 d_X_ask_147
    | succ m9 ih =>
      intro i L1 f x6 H locs ls hi e6 hL hR hf hM hS hl
      have hi2 : i < n := by omega
      have hvQ : okN (quW w α cN f L1.length x5) (v (od i)) := (cp_q hα hcp (ro2 := fun i => L1.getD i 0) hf x5).2.2.2.2.2.2.2.2 (od i) (ok4 i hi2)
      refine lv_iload hx hb d_X_ask_67 (lv_at hl 6 rfl) ?_
      refine lv_aload_n hx hb d_X_ask_69 rfl (lv_at hl 0 rfl) ?_
      refine m_get (D := G) (ci := 0) (v := .ref (α 1)) (C := nR_X) (T := nT_X) (N := 6) hx hb hta in_X hown hK hM (by rw [quW_o (fun q9 => absurd (hα 0 2 (by decide) (by decide) q9) (by decide)) (fun q9 => absurd (hα 0 6 (by decide) (by decide) q9) (by decide))]; exact h0) rfl 0 (by decide) (hta _ aw_85) (fun _ h9 => h9) rfl d_X_ask_70 ?_
      refine m_get (D := G) (ci := 1) (v := .int (nI n)) (C := nR_L) (T := nT_L) (N := 3) hx hb hta in_L hown hK hM (by rw [quW_o (fun q9 => absurd (hα 1 2 (by decide) (by decide) q9) (by decide)) (fun q9 => absurd (hα 1 6 (by decide) (by decide) q9) (by decide))]; exact h1) rfl 2 (by decide) (hta _ aw_37) (fun _ h9 => h9) rfl d_X_ask_73 ?_
      refine lv_icmp_ge (tgt := 140) hx hb d_X_ask_76 (by decide) (fun c_2 => absurd c_2 (by rw [e6]; exact nI_ge (by omega) (by omega))) (fun c_2 => ?_)
      refine lv_aload_n hx hb d_X_ask_79 rfl (lv_at hl 0 rfl) ?_
      refine m_get (D := G) (ci := 0) (v := .ref (α 1)) (C := nR_X) (T := nT_X) (N := 6) hx hb hta in_X hown hK hM (by rw [quW_o (fun q9 => absurd (hα 0 2 (by decide) (by decide) q9) (by decide)) (fun q9 => absurd (hα 0 6 (by decide) (by decide) q9) (by decide))]; exact h0) rfl 0 (by decide) (hta _ aw_85) (fun _ h9 => h9) rfl d_X_ask_80 ?_
      refine m_get (D := G) (ci := 1) (v := .ref (α 5)) (C := nR_L) (T := nT_L) (N := 3) hx hb hta in_L hown hK hM (by rw [quW_o (fun q9 => absurd (hα 1 2 (by decide) (by decide) q9) (by decide)) (fun q9 => absurd (hα 1 6 (by decide) (by decide) q9) (by decide))]; exact h1) rfl 1 (by decide) (hta _ aw_35) (fun _ h9 => h9) rfl d_X_ask_83 ?_
      refine lv_iload hx hb d_X_ask_86 (lv_at hl 6 rfl) ?_
      refine m_aald hx hb hK hM 0 (by rw [quW_o (fun q9 => absurd (hα 5 2 (by decide) (by decide) q9) (by decide)) (fun q9 => absurd (hα 5 6 (by decide) (by decide) q9) (by decide))]; exact h5) rfl (by rw [e6]; exact vp_in_nI (by omega) (by omega)) (v := .ref (nA (v (od i)))) (by rw [e6, nI_clamp (by omega), hfi i (by omega)]; rfl) d_X_ask_88 ?_
      refine lv_astore (lv' := [(7, .ref (nA (v (od i)))), (0, .ref (α 0)), (1, .int x1), (2, .int x2), (3, .int x3), (4, .int x4), (5, .int x5), (6, .int x6)]) hx hb d_X_ask_89 hl (by decide) rfl (fun ls hl => ?_)
      refine lv_aload hx hb d_X_ask_91 (lv_at hl 0 rfl) ?_
      refine m_get (D := G) (ci := 4) (v := .ref (nF (v (od i)))) (C := nR_N) (T := nT_N) (N := 10) hx hb hta in_N hown hK hM hvQ.2.1 rfl 5 (by decide) (hta _ aw_293) (fun _ h9 => h9) rfl d_X_ask_93 ?_
      refine m_get (D := G) (ci := 5) (v := .int ((la (v (od i))).2.1)) (C := nR_T) (T := nT_T) (N := 4) hx hb hta in_T hown hK hM (nF_c hvQ (ok6 (od i) (ok4 i hi2))) rfl 0 (by decide) (hta _ aw_254) (fun _ h9 => h9) rfl d_X_ask_96 ?_
      refine lv_iload hx hb d_X_ask_99 (lv_at hl 6 rfl) ?_
      refine lv_icmp_gt (tgt := 134) hx hb d_X_ask_101 (by decide) (fun c_3 => ?_) (fun c_3 => ?_)
      · obtain ⟨x_4, ex_4⟩ : ∃ y : Int32, y = x6 + 1 := ⟨_, rfl⟩
        refine lv_iinc (v := x_4) (lv' := [(6, .int x_4), (7, .ref (nA (v (od i)))), (0, .ref (α 0)), (1, .int x1), (2, .int x2), (3, .int x3), (4, .int x4), (5, .int x5)]) hx hb d_X_ask_134 hl (k := 7) rfl (by rw [ex_4]; rfl) (by decide) rfl (fun ls hl => ?_)
        refine lv_goto (tgt := 67) hx hb d_X_ask_137 (by decide) ?_
        have hW1 : askW v x1 x2 x3 x4 x5 (od i) = false := by unfold askW; rw [decide_eq_false (fun q9 => q9 c_3)]; rfl
        have hR2 : L1 ++ askR (askW v x1 x2 x3 x4 x5) od m9 (i + 1) = (askR (askW v x1 x2 x3 x4 x5) od n 0) := by rw [← hR, askR, if_neg (by rw [hW1]; decide)]
        exact ih (i + 1) L1 f x_4 H locs ls (by omega) (by rw [ex_4, e6, nI_1]) (by omega) hR2 hf hM hS (lv_sub hl [2, 3, 4, 5, 6, 7, 0] rfl)
      · refine lv_aload hx hb d_X_ask_104 (lv_at hl 0 rfl) ?_
        refine lv_iload_n hx hb d_X_ask_106 rfl (lv_at hl 2 rfl) ?_
        refine lv_iload_n hx hb d_X_ask_107 rfl (lv_at hl 3 rfl) ?_
        refine vp_callSi (W.runV (As := [.int x1, .int x2]) (rest := []) ⟨hx, hb, hml, hown, hta⟩ (k_N_isWithin l G _ (quW w α cN f L1.length x5) hvQ.2.1 x1 x2) (cV 2 hta aw_399 aw_12 aw_396 aw_397 aw_398 rfl rfl (by decide +kernel) ⟨Nat.le_of_ble_eq_true rfl, Nat.le_of_ble_eq_true rfl⟩) (pW_V hK hM rfl hvQ.2.1) rfl rfl hl.1 rfl (lv_room (Nat.le_of_ble_eq_true rfl)) d_X_ask_108 ⟨Nat.le_of_ble_eq_true rfl, Nat.le_of_ble_eq_true rfl⟩) (fun r_5 hr_5 => ?_)
        refine lv_if_eq (tgt := 134) hx hb d_X_ask_111 (by decide) (fun c_6 => ?_) (fun c_6 => ?_)
        · have p_7 := b1_f hr_5 c_6
          obtain ⟨x_8, ex_8⟩ : ∃ y : Int32, y = x6 + 1 := ⟨_, rfl⟩
          refine lv_iinc (v := x_8) (lv' := [(6, .int x_8), (7, .ref (nA (v (od i)))), (0, .ref (α 0)), (1, .int x1), (2, .int x2), (3, .int x3), (4, .int x4), (5, .int x5)]) hx hb d_X_ask_134 hl (k := 7) rfl (by rw [ex_8]; rfl) (by decide) rfl (fun ls hl => ?_)
          refine lv_goto (tgt := 67) hx hb d_X_ask_137 (by decide) ?_
          have hW1 : askW v x1 x2 x3 x4 x5 (od i) = false := by unfold askW; rw [decide_eq_false p_7, Bool.false_and, Bool.and_false]
          have hR2 : L1 ++ askR (askW v x1 x2 x3 x4 x5) od m9 (i + 1) = (askR (askW v x1 x2 x3 x4 x5) od n 0) := by rw [← hR, askR, if_neg (by rw [hW1]; decide)]
          exact ih (i + 1) L1 f x_8 H locs ls (by omega) (by rw [ex_8, e6, nI_1]) (by omega) hR2 hf hM hS (lv_sub hl [2, 3, 4, 5, 6, 7, 0] rfl)
        · have p_9 := b1_t hr_5 c_6
          refine lv_aload hx hb d_X_ask_114 (lv_at hl 0 rfl) ?_
          refine lv_iload_n hx hb d_X_ask_116 rfl (lv_at hl 4 rfl) ?_
          refine lv_iload hx hb d_X_ask_117 (lv_at hl 5 rfl) ?_
          refine vp_callSi (W.runV (As := [.int x3, .int x4]) (rest := []) ⟨hx, hb, hml, hown, hta⟩ (k_N_isOf l G _ (quW w α cN f L1.length x5) hvQ.2.1 x3 x4) (cV 2 hta aw_403 aw_12 aw_400 aw_401 aw_402 rfl rfl (by decide +kernel) ⟨Nat.le_of_ble_eq_true rfl, Nat.le_of_ble_eq_true rfl⟩) (pW_V hK hM rfl hvQ.2.1) rfl rfl hl.1 rfl (lv_room (Nat.le_of_ble_eq_true rfl)) d_X_ask_119 ⟨Nat.le_of_ble_eq_true rfl, Nat.le_of_ble_eq_true rfl⟩) (fun r_10 hr_10 => ?_)
          refine lv_if_eq (tgt := 134) hx hb d_X_ask_122 (by decide) (fun c_11 => ?_) (fun c_11 => ?_)
          · have p_12 := b1_f hr_10 c_11
            obtain ⟨x_13, ex_13⟩ : ∃ y : Int32, y = x6 + 1 := ⟨_, rfl⟩
            refine lv_iinc (v := x_13) (lv' := [(6, .int x_13), (7, .ref (nA (v (od i)))), (0, .ref (α 0)), (1, .int x1), (2, .int x2), (3, .int x3), (4, .int x4), (5, .int x5)]) hx hb d_X_ask_134 hl (k := 7) rfl (by rw [ex_13]; rfl) (by decide) rfl (fun ls hl => ?_)
            refine lv_goto (tgt := 67) hx hb d_X_ask_137 (by decide) ?_
            have hW1 : askW v x1 x2 x3 x4 x5 (od i) = false := by unfold askW; rw [decide_eq_false p_12, Bool.and_false, Bool.and_false]
            have hR2 : L1 ++ askR (askW v x1 x2 x3 x4 x5) od m9 (i + 1) = (askR (askW v x1 x2 x3 x4 x5) od n 0) := by rw [← hR, askR, if_neg (by rw [hW1]; decide)]
            exact ih (i + 1) L1 f x_13 H locs ls (by omega) (by rw [ex_13, e6, nI_1]) (by omega) hR2 hf hM hS (lv_sub hl [2, 3, 4, 5, 6, 7, 0] rfl)
          · have p_14 := b1_t hr_10 c_11
            refine lv_aload_n hx hb d_X_ask_125 rfl (lv_at hl 1 rfl) ?_
            refine m_get (D := G) (ci := 0) (v := .ref (α 2)) (C := nR_X) (T := nT_X) (N := 6) hx hb hta in_X hown hK hM (by rw [quW_o (fun q9 => absurd (hα 0 2 (by decide) (by decide) q9) (by decide)) (fun q9 => absurd (hα 0 6 (by decide) (by decide) q9) (by decide))]; exact h0) rfl 1 (by decide) (hta _ aw_86) (fun _ h9 => h9) rfl d_X_ask_126 ?_
            refine lv_aload hx hb d_X_ask_129 (lv_at hl 0 rfl) ?_
            have hF := mw_free hM hS hA
            refine va_callv (va_runV (As := [.ref (nA (v (od i)))]) (rest := []) ⟨hx, hb, hml, hown, hta⟩ (k_Q_take l G cN _ (quW w α cN f L1.length x5) (show L1.length < 100 by omega) (quW_q (w := w) (α := α) (cN := cN) (f := f) (k := L1.length) (kn := x5)) (quW_r (w := w) (α := α) (cN := cN) (f := f) (k := L1.length) (kn := x5) n62) hvQ.2.1 _) (cV 1 hta aw_407 aw_3 aw_404 aw_405 aw_406 rfl rfl (by decide +kernel) ⟨Nat.le_of_ble_eq_true rfl, Nat.le_of_ble_eq_true rfl⟩) (pZ_V hK hM rfl (quW_q (w := w) (α := α) (cN := cN) (f := f) (k := L1.length) (kn := x5))) rfl rfl hl.1 rfl (lv_room (Nat.le_of_ble_eq_true rfl)) d_X_ask_131 ⟨Nat.le_of_ble_eq_true rfl, Nat.le_of_ble_eq_true rfl⟩) hS (fun q _ h => hF q h) hF (fun u_r_15 t H locs ht hvm hr_15 hB hz1 hk1 hS => ?_)
            obtain ⟨hM1, hK1⟩ := hB
            rw [ht] at hM1
            have hM := mw_weaken hM1 hF
            clear hM1 hK1 hF hk1 hz1
            rw [quW_s n62] at hM
            obtain ⟨x_16, ex_16⟩ : ∃ y : Int32, y = x6 + 1 := ⟨_, rfl⟩
            refine lv_iinc (v := x_16) (lv' := [(6, .int x_16), (7, .ref (nA (v (od i)))), (0, .ref (α 0)), (1, .int x1), (2, .int x2), (3, .int x3), (4, .int x4), (5, .int x5)]) hx hb d_X_ask_134 hl (k := 7) rfl (by rw [ex_16]; rfl) (by decide) rfl (fun ls hl => ?_)
            refine lv_goto (tgt := 67) hx hb d_X_ask_137 (by decide) ?_
            have hW1 : askW v x1 x2 x3 x4 x5 (od i) = true := by unfold askW; rw [decide_eq_true c_3, decide_eq_true p_9, decide_eq_true p_14]; rfl
            have hR2 : (L1 ++ [od i]) ++ askR (askW v x1 x2 x3 x4 x5) od m9 (i + 1) = (askR (askW v x1 x2 x3 x4 x5) od n 0) := by rw [← hR, askR, if_pos hW1, List.append_assoc]; rfl
            have hM : mw G ncl A (quW w α cN (va_up f L1.length (some (nA (v (od i))))) (L1 ++ [od i]).length x5) H := by rw [List.length_append]; exact hM
            exact ih (i + 1) (L1 ++ [od i]) (va_up f L1.length (some (nA (v (od i))))) x_16 H locs ls (by omega) (by rw [ex_16, e6, nI_1]) (by rw [List.length_append]; exact Nat.succ_le_succ hL) hR2 (ask_f hf) hM hS (lv_sub hl [2, 3, 4, 5, 6, 7, 0] rfl)
  refine lv_iload_n hx hb d_X_ask_0 rfl (lv_at hl 3 rfl) ?_
  refine lv_iconst (v := (-1)) hx hb d_X_ask_1 (by decide) ?_
  refine lv_icmp_eq (tgt := 12) hx hb d_X_ask_2 (by decide) (fun c_17 => ?_) (fun c_17 => ?_)
  · refine lv_iload hx hb d_X_ask_12 (lv_at hl 4 rfl) ?_
    refine lv_iconst (v := (-1)) hx hb d_X_ask_14 (by decide) ?_
    refine lv_icmp_eq (tgt := 36) hx hb d_X_ask_15 (by decide) (fun c_18 => ?_) (fun c_18 => ?_)
    · refine lv_aload_n hx hb d_X_ask_36 rfl (lv_at hl 0 rfl) ?_
      refine lv_iload hx hb d_X_ask_37 (lv_at hl 5 rfl) ?_
      refine vp_callSi (W.runV (As := [.int x5]) (rest := []) ⟨hx, hb, hml, hown, hta⟩ (k_X_hasCome l G _ w h0 x5) (cV 1 hta aw_218 aw_1 aw_215 aw_217 as_SceneTimes_hasCome rfl rfl (by decide +kernel) ⟨Nat.le_of_ble_eq_true rfl, Nat.le_of_ble_eq_true rfl⟩) (pW_V hK hM rfl h0) rfl rfl hl.1 rfl (lv_room (Nat.le_of_ble_eq_true rfl)) d_X_ask_39 ⟨Nat.le_of_ble_eq_true rfl, Nat.le_of_ble_eq_true rfl⟩) (fun r_19 hr_19 => ?_)
      refine lv_if_ne (tgt := 55) hx hb d_X_ask_42 (by decide) (fun c_20 => ?_) (fun c_20 => ?_)
      · have p_21 := b1_t hr_19 c_20
        refine lv_aload_n hx hb d_X_ask_55 rfl (lv_at hl 0 rfl) ?_
        refine m_get (D := G) (ci := 0) (v := .ref (α 2)) (C := nR_X) (T := nT_X) (N := 6) hx hb hta in_X hown hK hM h0 rfl 1 (by decide) (hta _ aw_86) (fun _ h9 => h9) rfl d_X_ask_56 ?_
        refine lv_iload hx hb d_X_ask_59 (lv_at hl 5 rfl) ?_
        have hF := mw_free hM hS hA
        refine va_callv (va_runV (As := [.int x5]) (rest := []) ⟨hx, hb, hml, hown, hta⟩ (k_Q_begin l G _ w h2 x5 _) (cV 1 hta aw_395 aw_3 aw_392 aw_393 aw_394 rfl rfl (by decide +kernel) ⟨Nat.le_of_ble_eq_true rfl, Nat.le_of_ble_eq_true rfl⟩) (pZ_V hK hM rfl h2) rfl rfl hl.1 rfl (lv_room (Nat.le_of_ble_eq_true rfl)) d_X_ask_61 ⟨Nat.le_of_ble_eq_true rfl, Nat.le_of_ble_eq_true rfl⟩) hS (fun q _ h => hF q h) hF (fun u_r_22 t H locs ht hvm hr_22 hB hz1 hk1 hS => ?_)
        obtain ⟨hM1, hK1⟩ := hB
        rw [ht] at hM1
        have hM := mw_weaken hM1 hF
        clear hM1 hK1 hF hk1 hz1
        rw [quW_b (n0 := 0) (kn0 := 0) (z0 := 0) h6] at hM
        refine lv_iconst (v := 0) hx hb d_X_ask_64 (by decide) ?_
        refine lv_istore (lv' := [(6, .int 0), (0, .ref (α 0)), (1, .int x1), (2, .int x2), (3, .int x3), (4, .int x4), (5, .int x5)]) hx hb d_X_ask_65 hl (by decide) rfl (fun ls hl => ?_)
        exact loop (by simp only [c_17, c_18, p_21, not_true_eq_false, not_false_eq_true, and_true, and_false, true_and, false_and, and_self, or_self, or_true, true_or, or_false, false_or, ↓reduceIte, g_1, g_2, g_3, g_4, g_0]) n 0 [] fr 0 H locs ls (by omega) rfl (Nat.le_refl 0) rfl (fun i hi => absurd hi (Nat.not_lt_zero i)) hM hS (lv_sub hl [1, 2, 3, 4, 5, 6, 0] rfl)
      · have p_23 := b1_f hr_19 c_20
        have hC : gC (if (x3 = (-1) ∨ (¬ x3 < 0 ∧ ¬ 6 ≤ x3)) ∧ (x4 = (-1) ∨ (¬ x4 < 0 ∧ ¬ 10 ≤ x4)) then 1 else 0) (if ¬ x5 < 0 ∧ ¬ se < x5 then 1 else 0) 1 1 = 2 := by simp only [c_17, c_18, p_23, not_true_eq_false, not_false_eq_true, and_true, and_false, true_and, false_and, and_self, or_self, or_true, true_or, or_false, false_or, ↓reduceIte, g_1, g_2, g_3, g_4, g_0]
        exact xt_I hx hb hlt hown hta hE "the second of knowing" (by decide) hS0 (hl.1.trans hml.symm) d_X_ask_45 d_X_ask_48 d_X_ask_49 d_X_ask_51 d_X_ask_54 hnx (Nat.le_of_ble_eq_true rfl) (Nat.le_of_ble_eq_true rfl) (Nat.le_of_ble_eq_true rfl) (Nat.le_of_ble_eq_true rfl) hlocks ⟨by rw [hC]; decide, by rw [hC]; rfl⟩ (Nat.le_of_ble_eq_true rfl) (Nat.le_of_ble_eq_true rfl)
    · refine lv_iload hx hb d_X_ask_18 (lv_at hl 4 rfl) ?_
      refine vp_callSi (W.runS (As := [.int x4]) (rest := []) ⟨hx, hb, hml, hown, hta⟩ (k_X_isSector l x4) (cS 1 hta aw_198 aw_1 aw_196 aw_197 rfl rfl (by decide +kernel) ⟨Nat.le_of_ble_eq_true rfl, Nat.le_of_ble_eq_true rfl⟩) ⟨fun a U g mk q => q, fun U hU hW => ⟨rfl, trivial⟩⟩ rfl rfl hl.1 rfl (lv_room (Nat.le_of_ble_eq_true rfl)) d_X_ask_20 ⟨Nat.le_of_ble_eq_true rfl, Nat.le_of_ble_eq_true rfl⟩) (fun r_24 hr_24 => ?_)
      refine lv_if_ne (tgt := 36) hx hb d_X_ask_23 (by decide) (fun c_25 => ?_) (fun c_25 => ?_)
      · have p_26 := b1_t hr_24 c_25
        refine lv_aload_n hx hb d_X_ask_36 rfl (lv_at hl 0 rfl) ?_
        refine lv_iload hx hb d_X_ask_37 (lv_at hl 5 rfl) ?_
        refine vp_callSi (W.runV (As := [.int x5]) (rest := []) ⟨hx, hb, hml, hown, hta⟩ (k_X_hasCome l G _ w h0 x5) (cV 1 hta aw_218 aw_1 aw_215 aw_217 as_SceneTimes_hasCome rfl rfl (by decide +kernel) ⟨Nat.le_of_ble_eq_true rfl, Nat.le_of_ble_eq_true rfl⟩) (pW_V hK hM rfl h0) rfl rfl hl.1 rfl (lv_room (Nat.le_of_ble_eq_true rfl)) d_X_ask_39 ⟨Nat.le_of_ble_eq_true rfl, Nat.le_of_ble_eq_true rfl⟩) (fun r_27 hr_27 => ?_)
        refine lv_if_ne (tgt := 55) hx hb d_X_ask_42 (by decide) (fun c_28 => ?_) (fun c_28 => ?_)
        · have p_29 := b1_t hr_27 c_28
          refine lv_aload_n hx hb d_X_ask_55 rfl (lv_at hl 0 rfl) ?_
          refine m_get (D := G) (ci := 0) (v := .ref (α 2)) (C := nR_X) (T := nT_X) (N := 6) hx hb hta in_X hown hK hM h0 rfl 1 (by decide) (hta _ aw_86) (fun _ h9 => h9) rfl d_X_ask_56 ?_
          refine lv_iload hx hb d_X_ask_59 (lv_at hl 5 rfl) ?_
          have hF := mw_free hM hS hA
          refine va_callv (va_runV (As := [.int x5]) (rest := []) ⟨hx, hb, hml, hown, hta⟩ (k_Q_begin l G _ w h2 x5 _) (cV 1 hta aw_395 aw_3 aw_392 aw_393 aw_394 rfl rfl (by decide +kernel) ⟨Nat.le_of_ble_eq_true rfl, Nat.le_of_ble_eq_true rfl⟩) (pZ_V hK hM rfl h2) rfl rfl hl.1 rfl (lv_room (Nat.le_of_ble_eq_true rfl)) d_X_ask_61 ⟨Nat.le_of_ble_eq_true rfl, Nat.le_of_ble_eq_true rfl⟩) hS (fun q _ h => hF q h) hF (fun u_r_30 t H locs ht hvm hr_30 hB hz1 hk1 hS => ?_)
          obtain ⟨hM1, hK1⟩ := hB
          rw [ht] at hM1
          have hM := mw_weaken hM1 hF
          clear hM1 hK1 hF hk1 hz1
          rw [quW_b (n0 := 0) (kn0 := 0) (z0 := 0) h6] at hM
          refine lv_iconst (v := 0) hx hb d_X_ask_64 (by decide) ?_
          refine lv_istore (lv' := [(6, .int 0), (0, .ref (α 0)), (1, .int x1), (2, .int x2), (3, .int x3), (4, .int x4), (5, .int x5)]) hx hb d_X_ask_65 hl (by decide) rfl (fun ls hl => ?_)
          exact loop (by simp only [c_17, c_18, p_26, p_29, not_true_eq_false, not_false_eq_true, and_true, and_false, true_and, false_and, and_self, or_self, or_true, true_or, or_false, false_or, ↓reduceIte, g_1, g_2, g_3, g_4, g_0]) n 0 [] fr 0 H locs ls (by omega) rfl (Nat.le_refl 0) rfl (fun i hi => absurd hi (Nat.not_lt_zero i)) hM hS (lv_sub hl [1, 2, 3, 4, 5, 6, 0] rfl)
        · have p_31 := b1_f hr_27 c_28
          have hC : gC (if (x3 = (-1) ∨ (¬ x3 < 0 ∧ ¬ 6 ≤ x3)) ∧ (x4 = (-1) ∨ (¬ x4 < 0 ∧ ¬ 10 ≤ x4)) then 1 else 0) (if ¬ x5 < 0 ∧ ¬ se < x5 then 1 else 0) 1 1 = 2 := by simp only [c_17, c_18, p_26, p_31, not_true_eq_false, not_false_eq_true, and_true, and_false, true_and, false_and, and_self, or_self, or_true, true_or, or_false, false_or, ↓reduceIte, g_1, g_2, g_3, g_4, g_0]
          exact xt_I hx hb hlt hown hta hE "the second of knowing" (by decide) hS0 (hl.1.trans hml.symm) d_X_ask_45 d_X_ask_48 d_X_ask_49 d_X_ask_51 d_X_ask_54 hnx (Nat.le_of_ble_eq_true rfl) (Nat.le_of_ble_eq_true rfl) (Nat.le_of_ble_eq_true rfl) (Nat.le_of_ble_eq_true rfl) hlocks ⟨by rw [hC]; decide, by rw [hC]; rfl⟩ (Nat.le_of_ble_eq_true rfl) (Nat.le_of_ble_eq_true rfl)
      · have p_32 := b1_f hr_24 c_25
        have hC : gC (if (x3 = (-1) ∨ (¬ x3 < 0 ∧ ¬ 6 ≤ x3)) ∧ (x4 = (-1) ∨ (¬ x4 < 0 ∧ ¬ 10 ≤ x4)) then 1 else 0) (if ¬ x5 < 0 ∧ ¬ se < x5 then 1 else 0) 1 1 = 1 := by simp only [c_17, c_18, p_32, not_true_eq_false, not_false_eq_true, and_true, and_false, true_and, false_and, and_self, or_self, or_true, true_or, or_false, false_or, ↓reduceIte, g_1, g_2, g_3, g_4, g_0]
        exact xt_A hx hb hlt hown hta hE "no such kind or sector" (by decide) hS0 (hl.1.trans hml.symm) d_X_ask_26 d_X_ask_29 d_X_ask_30 d_X_ask_32 d_X_ask_35 hnx (Nat.le_of_ble_eq_true rfl) (Nat.le_of_ble_eq_true rfl) (Nat.le_of_ble_eq_true rfl) (Nat.le_of_ble_eq_true rfl) hlocks ⟨by rw [hC]; decide, by rw [hC]; rfl⟩ (Nat.le_of_ble_eq_true rfl) (Nat.le_of_ble_eq_true rfl)
  · refine lv_iload_n hx hb d_X_ask_5 rfl (lv_at hl 3 rfl) ?_
    refine vp_callSi (W.runS (As := [.int x3]) (rest := []) ⟨hx, hb, hml, hown, hta⟩ (k_X_isKind l x3) (cS 1 hta aw_195 aw_1 aw_193 aw_194 rfl rfl (by decide +kernel) ⟨Nat.le_of_ble_eq_true rfl, Nat.le_of_ble_eq_true rfl⟩) ⟨fun a U g mk q => q, fun U hU hW => ⟨rfl, trivial⟩⟩ rfl rfl hl.1 rfl (lv_room (Nat.le_of_ble_eq_true rfl)) d_X_ask_6 ⟨Nat.le_of_ble_eq_true rfl, Nat.le_of_ble_eq_true rfl⟩) (fun r_33 hr_33 => ?_)
    refine lv_if_eq (tgt := 26) hx hb d_X_ask_9 (by decide) (fun c_34 => ?_) (fun c_34 => ?_)
    · have p_35 := b1_f hr_33 c_34
      have hC : gC (if (x3 = (-1) ∨ (¬ x3 < 0 ∧ ¬ 6 ≤ x3)) ∧ (x4 = (-1) ∨ (¬ x4 < 0 ∧ ¬ 10 ≤ x4)) then 1 else 0) (if ¬ x5 < 0 ∧ ¬ se < x5 then 1 else 0) 1 1 = 1 := by simp only [c_17, p_35, not_true_eq_false, not_false_eq_true, and_true, and_false, true_and, false_and, and_self, or_self, or_true, true_or, or_false, false_or, ↓reduceIte, g_1, g_2, g_3, g_4, g_0]
      exact xt_A hx hb hlt hown hta hE "no such kind or sector" (by decide) hS0 (hl.1.trans hml.symm) d_X_ask_26 d_X_ask_29 d_X_ask_30 d_X_ask_32 d_X_ask_35 hnx (Nat.le_of_ble_eq_true rfl) (Nat.le_of_ble_eq_true rfl) (Nat.le_of_ble_eq_true rfl) (Nat.le_of_ble_eq_true rfl) hlocks ⟨by rw [hC]; decide, by rw [hC]; rfl⟩ (Nat.le_of_ble_eq_true rfl) (Nat.le_of_ble_eq_true rfl)
    · have p_36 := b1_t hr_33 c_34
      refine lv_iload hx hb d_X_ask_12 (lv_at hl 4 rfl) ?_
      refine lv_iconst (v := (-1)) hx hb d_X_ask_14 (by decide) ?_
      refine lv_icmp_eq (tgt := 36) hx hb d_X_ask_15 (by decide) (fun c_37 => ?_) (fun c_37 => ?_)
      · refine lv_aload_n hx hb d_X_ask_36 rfl (lv_at hl 0 rfl) ?_
        refine lv_iload hx hb d_X_ask_37 (lv_at hl 5 rfl) ?_
        refine vp_callSi (W.runV (As := [.int x5]) (rest := []) ⟨hx, hb, hml, hown, hta⟩ (k_X_hasCome l G _ w h0 x5) (cV 1 hta aw_218 aw_1 aw_215 aw_217 as_SceneTimes_hasCome rfl rfl (by decide +kernel) ⟨Nat.le_of_ble_eq_true rfl, Nat.le_of_ble_eq_true rfl⟩) (pW_V hK hM rfl h0) rfl rfl hl.1 rfl (lv_room (Nat.le_of_ble_eq_true rfl)) d_X_ask_39 ⟨Nat.le_of_ble_eq_true rfl, Nat.le_of_ble_eq_true rfl⟩) (fun r_38 hr_38 => ?_)
        refine lv_if_ne (tgt := 55) hx hb d_X_ask_42 (by decide) (fun c_39 => ?_) (fun c_39 => ?_)
        · have p_40 := b1_t hr_38 c_39
          refine lv_aload_n hx hb d_X_ask_55 rfl (lv_at hl 0 rfl) ?_
          refine m_get (D := G) (ci := 0) (v := .ref (α 2)) (C := nR_X) (T := nT_X) (N := 6) hx hb hta in_X hown hK hM h0 rfl 1 (by decide) (hta _ aw_86) (fun _ h9 => h9) rfl d_X_ask_56 ?_
          refine lv_iload hx hb d_X_ask_59 (lv_at hl 5 rfl) ?_
          have hF := mw_free hM hS hA
          refine va_callv (va_runV (As := [.int x5]) (rest := []) ⟨hx, hb, hml, hown, hta⟩ (k_Q_begin l G _ w h2 x5 _) (cV 1 hta aw_395 aw_3 aw_392 aw_393 aw_394 rfl rfl (by decide +kernel) ⟨Nat.le_of_ble_eq_true rfl, Nat.le_of_ble_eq_true rfl⟩) (pZ_V hK hM rfl h2) rfl rfl hl.1 rfl (lv_room (Nat.le_of_ble_eq_true rfl)) d_X_ask_61 ⟨Nat.le_of_ble_eq_true rfl, Nat.le_of_ble_eq_true rfl⟩) hS (fun q _ h => hF q h) hF (fun u_r_41 t H locs ht hvm hr_41 hB hz1 hk1 hS => ?_)
          obtain ⟨hM1, hK1⟩ := hB
          rw [ht] at hM1
          have hM := mw_weaken hM1 hF
          clear hM1 hK1 hF hk1 hz1
          rw [quW_b (n0 := 0) (kn0 := 0) (z0 := 0) h6] at hM
          refine lv_iconst (v := 0) hx hb d_X_ask_64 (by decide) ?_
          refine lv_istore (lv' := [(6, .int 0), (0, .ref (α 0)), (1, .int x1), (2, .int x2), (3, .int x3), (4, .int x4), (5, .int x5)]) hx hb d_X_ask_65 hl (by decide) rfl (fun ls hl => ?_)
          exact loop (by simp only [c_17, p_36, c_37, p_40, not_true_eq_false, not_false_eq_true, and_true, and_false, true_and, false_and, and_self, or_self, or_true, true_or, or_false, false_or, ↓reduceIte, g_1, g_2, g_3, g_4, g_0]) n 0 [] fr 0 H locs ls (by omega) rfl (Nat.le_refl 0) rfl (fun i hi => absurd hi (Nat.not_lt_zero i)) hM hS (lv_sub hl [1, 2, 3, 4, 5, 6, 0] rfl)
        · have p_42 := b1_f hr_38 c_39
          have hC : gC (if (x3 = (-1) ∨ (¬ x3 < 0 ∧ ¬ 6 ≤ x3)) ∧ (x4 = (-1) ∨ (¬ x4 < 0 ∧ ¬ 10 ≤ x4)) then 1 else 0) (if ¬ x5 < 0 ∧ ¬ se < x5 then 1 else 0) 1 1 = 2 := by simp only [c_17, p_36, c_37, p_42, not_true_eq_false, not_false_eq_true, and_true, and_false, true_and, false_and, and_self, or_self, or_true, true_or, or_false, false_or, ↓reduceIte, g_1, g_2, g_3, g_4, g_0]
          exact xt_I hx hb hlt hown hta hE "the second of knowing" (by decide) hS0 (hl.1.trans hml.symm) d_X_ask_45 d_X_ask_48 d_X_ask_49 d_X_ask_51 d_X_ask_54 hnx (Nat.le_of_ble_eq_true rfl) (Nat.le_of_ble_eq_true rfl) (Nat.le_of_ble_eq_true rfl) (Nat.le_of_ble_eq_true rfl) hlocks ⟨by rw [hC]; decide, by rw [hC]; rfl⟩ (Nat.le_of_ble_eq_true rfl) (Nat.le_of_ble_eq_true rfl)
      · refine lv_iload hx hb d_X_ask_18 (lv_at hl 4 rfl) ?_
        refine vp_callSi (W.runS (As := [.int x4]) (rest := []) ⟨hx, hb, hml, hown, hta⟩ (k_X_isSector l x4) (cS 1 hta aw_198 aw_1 aw_196 aw_197 rfl rfl (by decide +kernel) ⟨Nat.le_of_ble_eq_true rfl, Nat.le_of_ble_eq_true rfl⟩) ⟨fun a U g mk q => q, fun U hU hW => ⟨rfl, trivial⟩⟩ rfl rfl hl.1 rfl (lv_room (Nat.le_of_ble_eq_true rfl)) d_X_ask_20 ⟨Nat.le_of_ble_eq_true rfl, Nat.le_of_ble_eq_true rfl⟩) (fun r_43 hr_43 => ?_)
        refine lv_if_ne (tgt := 36) hx hb d_X_ask_23 (by decide) (fun c_44 => ?_) (fun c_44 => ?_)
        · have p_45 := b1_t hr_43 c_44
          refine lv_aload_n hx hb d_X_ask_36 rfl (lv_at hl 0 rfl) ?_
          refine lv_iload hx hb d_X_ask_37 (lv_at hl 5 rfl) ?_
          refine vp_callSi (W.runV (As := [.int x5]) (rest := []) ⟨hx, hb, hml, hown, hta⟩ (k_X_hasCome l G _ w h0 x5) (cV 1 hta aw_218 aw_1 aw_215 aw_217 as_SceneTimes_hasCome rfl rfl (by decide +kernel) ⟨Nat.le_of_ble_eq_true rfl, Nat.le_of_ble_eq_true rfl⟩) (pW_V hK hM rfl h0) rfl rfl hl.1 rfl (lv_room (Nat.le_of_ble_eq_true rfl)) d_X_ask_39 ⟨Nat.le_of_ble_eq_true rfl, Nat.le_of_ble_eq_true rfl⟩) (fun r_46 hr_46 => ?_)
          refine lv_if_ne (tgt := 55) hx hb d_X_ask_42 (by decide) (fun c_47 => ?_) (fun c_47 => ?_)
          · have p_48 := b1_t hr_46 c_47
            refine lv_aload_n hx hb d_X_ask_55 rfl (lv_at hl 0 rfl) ?_
            refine m_get (D := G) (ci := 0) (v := .ref (α 2)) (C := nR_X) (T := nT_X) (N := 6) hx hb hta in_X hown hK hM h0 rfl 1 (by decide) (hta _ aw_86) (fun _ h9 => h9) rfl d_X_ask_56 ?_
            refine lv_iload hx hb d_X_ask_59 (lv_at hl 5 rfl) ?_
            have hF := mw_free hM hS hA
            refine va_callv (va_runV (As := [.int x5]) (rest := []) ⟨hx, hb, hml, hown, hta⟩ (k_Q_begin l G _ w h2 x5 _) (cV 1 hta aw_395 aw_3 aw_392 aw_393 aw_394 rfl rfl (by decide +kernel) ⟨Nat.le_of_ble_eq_true rfl, Nat.le_of_ble_eq_true rfl⟩) (pZ_V hK hM rfl h2) rfl rfl hl.1 rfl (lv_room (Nat.le_of_ble_eq_true rfl)) d_X_ask_61 ⟨Nat.le_of_ble_eq_true rfl, Nat.le_of_ble_eq_true rfl⟩) hS (fun q _ h => hF q h) hF (fun u_r_49 t H locs ht hvm hr_49 hB hz1 hk1 hS => ?_)
            obtain ⟨hM1, hK1⟩ := hB
            rw [ht] at hM1
            have hM := mw_weaken hM1 hF
            clear hM1 hK1 hF hk1 hz1
            rw [quW_b (n0 := 0) (kn0 := 0) (z0 := 0) h6] at hM
            refine lv_iconst (v := 0) hx hb d_X_ask_64 (by decide) ?_
            refine lv_istore (lv' := [(6, .int 0), (0, .ref (α 0)), (1, .int x1), (2, .int x2), (3, .int x3), (4, .int x4), (5, .int x5)]) hx hb d_X_ask_65 hl (by decide) rfl (fun ls hl => ?_)
            exact loop (by simp only [c_17, p_36, c_37, p_45, p_48, not_true_eq_false, not_false_eq_true, and_true, and_false, true_and, false_and, and_self, or_self, or_true, true_or, or_false, false_or, ↓reduceIte, g_1, g_2, g_3, g_4, g_0]) n 0 [] fr 0 H locs ls (by omega) rfl (Nat.le_refl 0) rfl (fun i hi => absurd hi (Nat.not_lt_zero i)) hM hS (lv_sub hl [1, 2, 3, 4, 5, 6, 0] rfl)
          · have p_50 := b1_f hr_46 c_47
            have hC : gC (if (x3 = (-1) ∨ (¬ x3 < 0 ∧ ¬ 6 ≤ x3)) ∧ (x4 = (-1) ∨ (¬ x4 < 0 ∧ ¬ 10 ≤ x4)) then 1 else 0) (if ¬ x5 < 0 ∧ ¬ se < x5 then 1 else 0) 1 1 = 2 := by simp only [c_17, p_36, c_37, p_45, p_50, not_true_eq_false, not_false_eq_true, and_true, and_false, true_and, false_and, and_self, or_self, or_true, true_or, or_false, false_or, ↓reduceIte, g_1, g_2, g_3, g_4, g_0]
            exact xt_I hx hb hlt hown hta hE "the second of knowing" (by decide) hS0 (hl.1.trans hml.symm) d_X_ask_45 d_X_ask_48 d_X_ask_49 d_X_ask_51 d_X_ask_54 hnx (Nat.le_of_ble_eq_true rfl) (Nat.le_of_ble_eq_true rfl) (Nat.le_of_ble_eq_true rfl) (Nat.le_of_ble_eq_true rfl) hlocks ⟨by rw [hC]; decide, by rw [hC]; rfl⟩ (Nat.le_of_ble_eq_true rfl) (Nat.le_of_ble_eq_true rfl)
        · have p_51 := b1_f hr_43 c_44
          have hC : gC (if (x3 = (-1) ∨ (¬ x3 < 0 ∧ ¬ 6 ≤ x3)) ∧ (x4 = (-1) ∨ (¬ x4 < 0 ∧ ¬ 10 ≤ x4)) then 1 else 0) (if ¬ x5 < 0 ∧ ¬ se < x5 then 1 else 0) 1 1 = 1 := by simp only [c_17, p_36, c_37, p_51, not_true_eq_false, not_false_eq_true, and_true, and_false, true_and, false_and, and_self, or_self, or_true, true_or, or_false, false_or, ↓reduceIte, g_1, g_2, g_3, g_4, g_0]
          exact xt_A hx hb hlt hown hta hE "no such kind or sector" (by decide) hS0 (hl.1.trans hml.symm) d_X_ask_26 d_X_ask_29 d_X_ask_30 d_X_ask_32 d_X_ask_35 hnx (Nat.le_of_ble_eq_true rfl) (Nat.le_of_ble_eq_true rfl) (Nat.le_of_ble_eq_true rfl) (Nat.le_of_ble_eq_true rfl) hlocks ⟨by rw [hC]; decide, by rw [hC]; rfl⟩ (Nat.le_of_ble_eq_true rfl) (Nat.le_of_ble_eq_true rfl)
