/-! the class: print -/
/-- a row of the class's sheet -/
def rowC (u : nV) (kn : Int32) : List Int32 := rowL (nT u) (nW u) (nK u) (nS u) (stAt kn (nC u)).2.2.1 (stAt kn (nC u)).2.2.2
def rowsC (u : Nat → nV) (kn : Int32) : Nat → Nat → List Int32
  | 0, _ => []
  | m + 1, i => rowC (u i) kn ++ rowsC u kn m (i + 1)
def shtC (u : Nat → nV) (kn : Int32) (rn : Nat) : List Int32 := (84 :: numB (nI rn)) ++ (59 :: rowsC u kn rn 0)
/-- what a row's numbers must keep to -/
def rowOk (u : nV) (kn : Int32) : Prop := (¬ nT u < 0 ∧ (nT u).toInt.natAbs < 100000) ∧ (¬ nW u < 0 ∧ (nW u).toInt.natAbs < 100000) ∧ (¬ nK u < 0 ∧ (nK u).toInt.natAbs < 100000) ∧ (¬ nS u < 0 ∧ (nS u).toInt.natAbs < 100000) ∧ (stAt kn (nC u)).2.2.1.toInt.natAbs < 100000
set_option maxHeartbeats 4000000 in
set_option maxRecDepth 100000 in
theorem k_X_print (l : Launch) (hlt : l.stackTraces = false) (G : va_G) (cN cB : ClassId) (ty2 : List (ClassId × FieldType)) (w : Nat → Option va_E) {α : Nat → Nat} (hα : ∀ i j, i < 8 → j < 8 → α i = α j → i = j) {v : Nat → nV} {od ro : Nat → Nat} {bs : Nat → Int32} {se wr ac : Int32} {n rn sn : Nat} {kn z : Int32} (hcp : cPic w α cN cB v od ro bs se wr ac n rn sn kn z) (hok : cOk v od ro n rn sn) (hrg : ∀ i, i < rn → rowOk (v (ro i)) kn) (hlen : (shtC (fun i => v (ro i)) kn rn).length ≤ 2005) (sz : Nat) : vx_Met l y_X_print (wm y_X_print c_X_print 3 (some .int)) ({ frames := 6, cells := 1, slots := 6, locals := 87 }) (va_Pc [.ref (α 0)] (fun U => U.heap.size = sz ∧ mw G ncl (fun _ => True) w U.heap ∧ va_K G ncl ((cN, .object nR_N) :: (cB, .byte) :: ty2) U ∧ xE U U.heap)) (va_Qi (fun (r0 : Int32) (u : Nat → Option va_E) => gC 1 1 (if z = 0 then 0 else 1) 1 = 0 ∧ r0 = nI (shtC (fun i => v (ro i)) kn rn).length ∧ cPic u α cN cB v od ro (apF bs 0 (shtC (fun i => v (ro i)) kn rn)) se wr ac n rn ((shtC (fun i => v (ro i)) kn rn).length) kn z) (fun w2 t => mw G ncl (mA w sz) w2 t.heap ∧ va_K G ncl ((cN, .object nR_N) :: (cB, .byte) :: ty2) t) (mA w sz)) (x_K (fun E => ¬ gC 1 1 (if z = 0 then 0 else 1) 1 = 0 ∧ E = exN (gC 1 1 (if z = 0 then 0 else 1) 1))) 1 6 (mA w sz) := by
  refine vx_ofW (cc := c_X_print) (maxL := 3) (ret := (some .int)) (by decide) rfl ?_
  intro p e s m args below meth c s₁ B hml hnx hv
  obtain ⟨rfl, hsz, hM0, hK, hE⟩ := hv
  have hx := B.exec
  have hb := B.bytes
  have hr := B.returns
  have hts := atoms_spec (ws := (wm y_X_print c_X_print 3 (some .int))) B.pre
  have hta : ∀ w ∈ AL, w.before _ s = true := fun w h => hts w (List.mem_cons_of_mem _ h)
  have hown : s.vm.findClass nR_X = some m.cls := findClass_of_methodNamed B.named
  have hlocks := B.notSynchronized
  have hl := lv_entry ([.ref (α 0)]) (n := 3) (Nat.le_of_ble_eq_true rfl)
  rw [lg_entry_eq]
  generalize (lg_sl ([.ref (α 0)]) ++ List.replicate (3 - (lg_sl ([.ref (α 0)])).length) Slot.unset).toArray = ls at hl ⊢
  have hl : lv_has ls 3 [(0, .ref (α 0))] := hl
  subst hsz
  have hM := mw_self (sz := s.heap.size) hM0
  clear hM0
  generalize hAe : mA w s.heap.size = A at hM hE ⊢
  have hA : ∀ q : Nat, s.heap.size ≤ q → A q := fun q h => by rw [← hAe]; exact Or.inr h
  have hS : va_S A s.heap s.heap [] := va_S.rf
  have hcp2 := hcp
  obtain ⟨h0, h1, h2, h3, h7, ⟨fb, h4, hfb⟩, ⟨fi, h5, hfi⟩, ⟨fr, h6, hfr⟩, hN⟩ := hcp2
  obtain ⟨ok1, ok2, ok3, ok4, ok5, ok6⟩ := hok
  have hS0 : va_S (fun _ => False) s.heap s.heap [] := va_S.rf
  have n73 : α 7 ≠ α 3 := fun q9 => absurd (hα 7 3 (by decide) (by decide) q9) (by decide)
  have hS9 : shtC (fun i => v (ro i)) kn rn = (84 :: numB (nI rn)) ++ (59 :: rowsC (fun i => v (ro i)) kn rn 0) := rfl
  have hlen2 := hlen
  rw [hS9] at hlen2
  simp only [List.length_append, List.length_cons] at hlen2
  have loop : gC 1 1 (if z = 0 then 0 else 1) 1 = 0 → ∀ (m9 i : Nat) (g : Nat → Int32) (q : Nat) (x1 : Int32) (H : Heap) (locs : List Loc) (ls : Array Slot), i + m9 = rn → x1 = nI i → apF g q (rowsC (fun i => v (ro i)) kn m9 i) = (apF bs 0 (shtC (fun i => v (ro i)) kn rn)) → q + (rowsC (fun i => v (ro i)) kn m9 i).length = (shtC (fun i => v (ro i)) kn rn).length → mw G ncl A (shW w cB (α 3) (α 7) g q) H → va_S A s.heap H locs → lv_has ls 3 [(0, .ref (α 0)), (1, .int x1)] → W p l e (headSpec (wm y_X_print c_X_print 3 (some .int)) ({ frames := 6, cells := 1, slots := 6, locals := 87 })).room s m ([.ref (α 0)] : List Value).toArray below meth c H locs 0 0 (vx_MQ below (va_Qi (fun (r0 : Int32) (u : Nat → Option va_E) => gC 1 1 (if z = 0 then 0 else 1) 1 = 0 ∧ r0 = nI (shtC (fun i => v (ro i)) kn rn).length ∧ cPic u α cN cB v od ro (apF bs 0 (shtC (fun i => v (ro i)) kn rn)) se wr ac n rn ((shtC (fun i => v (ro i)) kn rn).length) kn z) (fun w2 t => mw G ncl A w2 t.heap ∧ va_K G ncl ((cN, .object nR_N) :: (cB, .byte) :: ty2) t) A) (x_K (fun E => ¬ gC 1 1 (if z = 0 then 0 else 1) 1 = 0 ∧ E = exN (gC 1 1 (if z = 0 then 0 else 1) 1))) ([.ref (α 0)] : List Value).toArray s 1 6 A) (F0 m 36 ls []) := by
    intro hC9 m9
    induction m9 with
    | zero =>
      intro i g q x1 H locs ls hi e1 hfin hq hM hS hl
      have hfin : g = (apF bs 0 (shtC (fun i => v (ro i)) kn rn)) := hfin
      have hq : q = (shtC (fun i => v (ro i)) kn rn).length := hq
      refine lv_iload_n hx hb d_X_print_36 rfl (lv_at hl 1 rfl) ?_
      refine lv_aload_n hx hb d_X_print_37 rfl (lv_at hl 0 rfl) ?_
      refine m_get (D := G) (ci := 0) (v := .ref (α 2)) (C := nR_X) (T := nT_X) (N := 6) hx hb hta in_X hown hK hM (by rw [shW_o (fun q9 => absurd (hα 0 3 (by decide) (by decide) q9) (by decide)) (fun q9 => absurd (hα 0 7 (by decide) (by decide) q9) (by decide))]; exact h0) rfl 1 (by decide) (hta _ aw_86) (fun _ h9 => h9) rfl d_X_print_38 ?_
      refine m_get (D := G) (ci := 2) (v := .int (nI rn)) (C := nR_Q) (T := nT_Q) (N := 4) hx hb hta in_Q hown hK hM (by rw [shW_o (fun q9 => absurd (hα 2 3 (by decide) (by decide) q9) (by decide)) (fun q9 => absurd (hα 2 7 (by decide) (by decide) q9) (by decide))]; exact h2) rfl 1 (by decide) (hta _ aw_55) (fun _ h9 => h9) rfl d_X_print_41 ?_
      refine lv_icmp_ge (tgt := 82) hx hb d_X_print_44 (by decide) (fun c_1 => ?_) (fun c_1 => absurd (by rw [e1]; exact nI_le (by omega) (by omega)) c_1)
      refine lv_aload_n hx hb d_X_print_82 rfl (lv_at hl 0 rfl) ?_
      refine m_get (D := G) (ci := 0) (v := .ref (α 3)) (C := nR_X) (T := nT_X) (N := 6) hx hb hta in_X hown hK hM (by rw [shW_o (fun q9 => absurd (hα 0 3 (by decide) (by decide) q9) (by decide)) (fun q9 => absurd (hα 0 7 (by decide) (by decide) q9) (by decide))]; exact h0) rfl 2 (by decide) (hta _ aw_87) (fun _ h9 => h9) rfl d_X_print_83 ?_
      refine m_get (D := G) (ci := 3) (v := .int (nI q)) (C := nR_S) (T := nT_S) (N := 2) hx hb hta in_S hown hK hM (shW_s (w := w) (cB := cB) (sh := α 3) (by_ := α 7) (g := g) (n := q)) rfl 1 (by decide) (hta _ aw_78) (fun _ h9 => h9) rfl d_X_print_86 ?_
      refine vx_ret ?_
      refine W.widen (k := 1) (n := 6) (Nat.le_of_ble_eq_true rfl) (Nat.le_of_ble_eq_true rfl) ?_
      exact W.iret (v := nI q) hx hb hr (fun t ht hW => ⟨⟨nI q, (shW w cB (α 3) (α 7) g q), rfl, ⟨hC9, by rw [hq], by have z9 := cp_sh hα hcp g q; rw [← hfin, ← hq]; exact z9⟩, by rw [ht]; exact hM, va_K.moved hW.alike hK⟩, hS.F ht⟩) hS.2.2 d_X_print_89
    | succ m9 ih =>
      intro i g q x1 H locs ls hi e1 hfin hq hM hS hl
      have hi2 : i < rn := by omega
      have hvS : okN (shW w cB (α 3) (α 7) g q) (v (ro i)) := (cp_sh hα hcp g q).2.2.2.2.2.2.2.2 (ro i) (ok5 i hi2)
      have hrv := hrg i hi2
      have hfin : apF g q (rowC (v (ro i)) kn ++ (rowsC (fun i => v (ro i)) kn m9 (i + 1))) = (apF bs 0 (shtC (fun i => v (ro i)) kn rn)) := hfin
      have hq : q + (rowC (v (ro i)) kn ++ (rowsC (fun i => v (ro i)) kn m9 (i + 1))).length = (shtC (fun i => v (ro i)) kn rn).length := hq
      rw [apF_app] at hfin
      rw [List.length_append] at hq
      refine lv_iload_n hx hb d_X_print_36 rfl (lv_at hl 1 rfl) ?_
      refine lv_aload_n hx hb d_X_print_37 rfl (lv_at hl 0 rfl) ?_
      refine m_get (D := G) (ci := 0) (v := .ref (α 2)) (C := nR_X) (T := nT_X) (N := 6) hx hb hta in_X hown hK hM (by rw [shW_o (fun q9 => absurd (hα 0 3 (by decide) (by decide) q9) (by decide)) (fun q9 => absurd (hα 0 7 (by decide) (by decide) q9) (by decide))]; exact h0) rfl 1 (by decide) (hta _ aw_86) (fun _ h9 => h9) rfl d_X_print_38 ?_
      refine m_get (D := G) (ci := 2) (v := .int (nI rn)) (C := nR_Q) (T := nT_Q) (N := 4) hx hb hta in_Q hown hK hM (by rw [shW_o (fun q9 => absurd (hα 2 3 (by decide) (by decide) q9) (by decide)) (fun q9 => absurd (hα 2 7 (by decide) (by decide) q9) (by decide))]; exact h2) rfl 1 (by decide) (hta _ aw_55) (fun _ h9 => h9) rfl d_X_print_41 ?_
      refine lv_icmp_ge (tgt := 82) hx hb d_X_print_44 (by decide) (fun c_2 => absurd c_2 (by rw [e1]; exact nI_ge (by omega) (by omega))) (fun c_2 => ?_)
      refine lv_aload_n hx hb d_X_print_47 rfl (lv_at hl 0 rfl) ?_
      refine m_get (D := G) (ci := 0) (v := .ref (α 2)) (C := nR_X) (T := nT_X) (N := 6) hx hb hta in_X hown hK hM (by rw [shW_o (fun q9 => absurd (hα 0 3 (by decide) (by decide) q9) (by decide)) (fun q9 => absurd (hα 0 7 (by decide) (by decide) q9) (by decide))]; exact h0) rfl 1 (by decide) (hta _ aw_86) (fun _ h9 => h9) rfl d_X_print_48 ?_
      refine m_get (D := G) (ci := 2) (v := .ref (α 6)) (C := nR_Q) (T := nT_Q) (N := 4) hx hb hta in_Q hown hK hM (by rw [shW_o (fun q9 => absurd (hα 2 3 (by decide) (by decide) q9) (by decide)) (fun q9 => absurd (hα 2 7 (by decide) (by decide) q9) (by decide))]; exact h2) rfl 0 (by decide) (hta _ aw_53) (fun _ h9 => h9) rfl d_X_print_51 ?_
      refine lv_iload_n hx hb d_X_print_54 rfl (lv_at hl 1 rfl) ?_
      refine m_aald hx hb hK hM 0 (by rw [shW_o (fun q9 => absurd (hα 6 3 (by decide) (by decide) q9) (by decide)) (fun q9 => absurd (hα 6 7 (by decide) (by decide) q9) (by decide))]; exact h6) rfl (by rw [e1]; exact vp_in_nI (by omega) (by omega)) (v := .ref (nA (v (ro i)))) (by rw [e1, nI_clamp (by omega), hfr i (by omega)]; rfl) d_X_print_55 ?_
      refine lv_astore_n (lv' := [(2, .ref (nA (v (ro i)))), (0, .ref (α 0)), (1, .int x1)]) hx hb d_X_print_56 rfl hl (by decide) rfl (fun ls hl => ?_)
      refine lv_aload_n hx hb d_X_print_57 rfl (lv_at hl 1 rfl) ?_
      refine m_get (D := G) (ci := 0) (v := .ref (α 3)) (C := nR_X) (T := nT_X) (N := 6) hx hb hta in_X hown hK hM (by rw [shW_o (fun q9 => absurd (hα 0 3 (by decide) (by decide) q9) (by decide)) (fun q9 => absurd (hα 0 7 (by decide) (by decide) q9) (by decide))]; exact h0) rfl 2 (by decide) (hta _ aw_87) (fun _ h9 => h9) rfl d_X_print_58 ?_
      refine lv_aload_n hx hb d_X_print_61 rfl (lv_at hl 0 rfl) ?_
      refine lv_aload_n hx hb d_X_print_62 rfl (lv_at hl 0 rfl) ?_
      refine lv_aload_n hx hb d_X_print_63 rfl (lv_at hl 1 rfl) ?_
      refine m_get (D := G) (ci := 0) (v := .ref (α 2)) (C := nR_X) (T := nT_X) (N := 6) hx hb hta in_X hown hK hM (by rw [shW_o (fun q9 => absurd (hα 0 3 (by decide) (by decide) q9) (by decide)) (fun q9 => absurd (hα 0 7 (by decide) (by decide) q9) (by decide))]; exact h0) rfl 1 (by decide) (hta _ aw_86) (fun _ h9 => h9) rfl d_X_print_64 ?_
      refine m_get (D := G) (ci := 2) (v := .int kn) (C := nR_Q) (T := nT_Q) (N := 4) hx hb hta in_Q hown hK hM (by rw [shW_o (fun q9 => absurd (hα 2 3 (by decide) (by decide) q9) (by decide)) (fun q9 => absurd (hα 2 7 (by decide) (by decide) q9) (by decide))]; exact h2) rfl 2 (by decide) (hta _ aw_57) (fun _ h9 => h9) rfl d_X_print_67 ?_
      refine va_csq (W.runV (As := [.int kn]) (rest := [.ref (nA (v (ro i))), .ref (α 3)]) ⟨hx, hb, hml, hown, hta⟩ (k_N_stateAt l G _ (shW w cB (α 3) (α 7) g q) hvS.2.1 kn (by have z9 := hvS.2.2; rw [okN_c hvS] at z9; exact z9)) (cV 1 hta aw_419 aw_12 aw_416 aw_417 aw_418 rfl rfl (by decide +kernel) ⟨Nat.le_of_ble_eq_true rfl, Nat.le_of_ble_eq_true rfl⟩) (pW_V hK hM rfl hvS.2.1) rfl rfl hl.1 rfl (lv_room (Nat.le_of_ble_eq_true rfl)) d_X_print_70 ⟨Nat.le_of_ble_eq_true rfl, Nat.le_of_ble_eq_true rfl⟩) (fun r_3 hr_3 => ?_)
      rw [← okN_c hvS] at hr_3
      subst hr_3
      obtain ⟨ea_r_3, hea_r_3⟩ := stAt_c kn (nC (v (ro i))) hvS.1 hvS.2.2
      have hF := mw_free hM hS hA
      refine va_callv (va_runV (As := [.ref (nA (v (ro i))), .ref ((stAt kn (nC (v (ro i)))).1)]) (rest := []) ⟨hx, hb, hml, hown, hta⟩ (k_S_putRow l G _ cB _ (shW w cB (α 3) (α 7) g q) (shW_s (w := w) (cB := cB) (sh := α 3) (by_ := α 7) (g := g) (n := q)) (shW_b (w := w) (cB := cB) (g := g) (n := q) n73) hvS.2.1 hea_r_3 hrv.1 hrv.2.1 hrv.2.2.1 hrv.2.2.2.1 hrv.2.2.2.2 (show q + (rowC (v (ro i)) kn).length ≤ 2005 by omega) _) (cV 2 hta aw_502 aw_4 aw_499 aw_500 aw_501 rfl rfl (by decide +kernel) ⟨Nat.le_of_ble_eq_true rfl, Nat.le_of_ble_eq_true rfl⟩) (pZ_V hK hM rfl (shW_s (w := w) (cB := cB) (sh := α 3) (by_ := α 7) (g := g) (n := q))) rfl rfl hl.1 rfl (lv_room (Nat.le_of_ble_eq_true rfl)) d_X_print_73 ⟨Nat.le_of_ble_eq_true rfl, Nat.le_of_ble_eq_true rfl⟩) hS (fun q _ h => hF q h) hF (fun u_r_4 t H locs ht hvm hr_4 hB hz1 hk1 hS => ?_)
      obtain ⟨hM1, hK1⟩ := hB
      rw [ht] at hM1
      have hM := mw_weaken hM1 hF
      clear hM1 hK1 hF hk1 hz1
      rw [shW_shW] at hM
      obtain ⟨x_5, ex_5⟩ : ∃ y : Int32, y = x1 + 1 := ⟨_, rfl⟩
      refine lv_iinc (v := x_5) (lv' := [(1, .int x_5), (2, .ref (nA (v (ro i)))), (0, .ref (α 0))]) hx hb d_X_print_76 hl (k := 2) rfl (by rw [ex_5]; rfl) (by decide) rfl (fun ls hl => ?_)
      refine lv_goto (tgt := 36) hx hb d_X_print_79 (by decide) ?_
      exact ih (i + 1) (apF g q (rowC (v (ro i)) kn)) (q + (rowC (v (ro i)) kn).length) x_5 H locs ls (by omega) (by rw [ex_5, e1, nI_1]) hfin (by omega) hM hS (lv_sub hl [2, 0] rfl)
  refine lv_aload_n hx hb d_X_print_0 rfl (lv_at hl 0 rfl) ?_
  refine m_get (D := G) (ci := 0) (v := .ref (α 2)) (C := nR_X) (T := nT_X) (N := 6) hx hb hta in_X hown hK hM h0 rfl 1 (by decide) (hta _ aw_86) (fun _ h9 => h9) rfl d_X_print_1 ?_
  refine m_get (D := G) (ci := 2) (v := .int z) (C := nR_Q) (T := nT_Q) (N := 4) hx hb hta in_Q hown hK hM h2 rfl 3 (by decide) (hta _ aw_59) (fun _ h9 => h9) rfl d_X_print_4 ?_
  refine lv_if_ne (tgt := 20) hx hb d_X_print_7 (by decide) (fun c_6 => ?_) (fun c_6 => ?_)
  · refine lv_aload_n hx hb d_X_print_20 rfl (lv_at hl 0 rfl) ?_
    refine m_get (D := G) (ci := 0) (v := .ref (α 3)) (C := nR_X) (T := nT_X) (N := 6) hx hb hta in_X hown hK hM h0 rfl 2 (by decide) (hta _ aw_87) (fun _ h9 => h9) rfl d_X_print_21 ?_
    refine lv_aload_n hx hb d_X_print_24 rfl (lv_at hl 0 rfl) ?_
    refine m_get (D := G) (ci := 0) (v := .ref (α 2)) (C := nR_X) (T := nT_X) (N := 6) hx hb hta in_X hown hK hM h0 rfl 1 (by decide) (hta _ aw_86) (fun _ h9 => h9) rfl d_X_print_25 ?_
    refine m_get (D := G) (ci := 2) (v := .int (nI rn)) (C := nR_Q) (T := nT_Q) (N := 4) hx hb hta in_Q hown hK hM h2 rfl 1 (by decide) (hta _ aw_55) (fun _ h9 => h9) rfl d_X_print_28 ?_
    have hF := mw_free hM hS hA
    refine va_callv (va_runV (As := [.int (nI rn)]) (rest := []) ⟨hx, hb, hml, hown, hta⟩ (k_S_begin l G _ cB _ w h3 h7 (nI rn) (nI_pos (by omega)) (numB_len rn ok2) _) (cV 1 hta aw_486 aw_4 aw_483 aw_484 aw_485 rfl rfl (by decide +kernel) ⟨Nat.le_of_ble_eq_true rfl, Nat.le_of_ble_eq_true rfl⟩) (pZ_V hK hM rfl h3) rfl rfl hl.1 rfl (lv_room (Nat.le_of_ble_eq_true rfl)) d_X_print_31 ⟨Nat.le_of_ble_eq_true rfl, Nat.le_of_ble_eq_true rfl⟩) hS (fun q _ h => hF q h) hF (fun u_r_7 t H locs ht hvm hr_7 hB hz1 hk1 hS => ?_)
    obtain ⟨hM1, hK1⟩ := hB
    rw [ht] at hM1
    have hM := mw_weaken hM1 hF
    clear hM1 hK1 hF hk1 hz1
    refine lv_iconst (v := 0) hx hb d_X_print_34 (by decide) ?_
    refine lv_istore_n (lv' := [(1, .int 0), (0, .ref (α 0))]) hx hb d_X_print_35 rfl hl (by decide) rfl (fun ls hl => ?_)
    exact loop (by simp only [c_6, not_true_eq_false, not_false_eq_true, and_true, and_false, true_and, false_and, and_self, or_self, or_true, true_or, or_false, false_or, ↓reduceIte, g_1, g_2, g_3, g_4, g_0]) rn 0 (apF bs 0 ((84 :: numB (nI rn)) ++ [59])) ((numB (nI rn)).length + 1 + 1) 0 H locs ls (by omega) rfl (by rw [hS9, show (84 :: numB (nI rn)) ++ (59 :: rowsC (fun i => v (ro i)) kn rn 0) = ((84 :: numB (nI rn)) ++ [59]) ++ rowsC (fun i => v (ro i)) kn rn 0 by simp, apF_app ((84 :: numB (nI rn)) ++ [59]) (rowsC (fun i => v (ro i)) kn rn 0) bs 0, List.length_append, Nat.zero_add]; rfl) (by rw [hS9]; simp only [List.length_append, List.length_cons]; omega) hM hS (lv_sub hl [1, 0] rfl)
  · have hC : gC 1 1 (if z = 0 then 0 else 1) 1 = 3 := by simp only [c_6, not_true_eq_false, not_false_eq_true, and_true, and_false, true_and, false_and, and_self, or_self, or_true, true_or, or_false, false_or, ↓reduceIte, g_1, g_2, g_3, g_4, g_0]
    exact xt_S hx hb hlt hown hta hE "no question was asked" (by decide) hS0 (hl.1.trans hml.symm) d_X_print_10 d_X_print_13 d_X_print_14 d_X_print_16 d_X_print_19 hnx (Nat.le_of_ble_eq_true rfl) (Nat.le_of_ble_eq_true rfl) (Nat.le_of_ble_eq_true rfl) (Nat.le_of_ble_eq_true rfl) hlocks ⟨by rw [hC]; decide, by rw [hC]; rfl⟩ (Nat.le_of_ble_eq_true rfl) (Nat.le_of_ble_eq_true rfl)
