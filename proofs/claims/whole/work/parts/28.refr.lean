/-! the reference: at, row, noteAt, digest, count -/
theorem ds : ¬ (1 : Int32) = 0 ∧ ¬ (2 : Int32) = 0 ∧ ¬ (2 : Int32) = 1 ∧ ¬ (3 : Int32) = 0 ∧ ¬ (3 : Int32) = 1 ∧ ¬ (3 : Int32) = 2 := by decide
theorem idx {x pr : Int32} {pp N : Nat} (ep : pr = nI pp) (hp : pp ≤ N) (hN : N < 2 ^ 30) (h0 : ¬ x < 0) (h : ¬ pr ≤ x) : vp_in x N := by
  obtain ⟨j, hj, rfl⟩ := nI_of h0
  refine vp_in_nI ?_ (by omega)
  rw [ep] at h
  exact Nat.lt_of_lt_of_le (Nat.lt_of_not_le (fun q => h (nI_le q hj))) hp
set_option maxHeartbeats 4000000 in
set_option maxRecDepth 100000 in
theorem k_M_at (l : Launch) (G : va_G) (q0 q1 : ClassId × FieldType) (cI : ClassId) (ty2 : List (ClassId × FieldType)) (w : Nat → Option va_E) {mm : Nat} {ad : Nat → Nat} (had : ∀ i j, i < 12 → j < 12 → ad i = ad j → i = j) {f : Nat → Nat → Int32} {th no wr n k z r so pr : Int32} (hmp : mPic w mm cI ad f th no wr n k z r so pr) {pp : Nat} (hpp : pp ≤ 2400) (ep : pr = nI pp) (x1 : Int32) (sz : Nat) : Met l y_M_at (wm y_M_at c_M_at 2 (some .int)) ({ frames := 1, cells := 0, slots := 0, locals := 27 }) (pZ G (q0 :: q1 :: (cI, .int) :: ty2) w sz [.ref mm, .int x1]) (va_Qi (fun (r0 : Int32) (u : Nat → Option va_E) => (¬ gC 1 (if x1 < 0 then 0 else 1) 1 1 = 0 → mPic u mm cI ad f (nI (gT 2 (gC 1 (if x1 < 0 then 0 else 1) 1 1))) no wr n k z r so pr) ∧ (gC 1 (if x1 < 0 then 0 else 1) 1 1 = 0 → r0 = (if pr ≤ x1 then (-1) else f 11 x1.toNatClampNeg) ∧ mPic u mm cI ad f 0 no wr n k z r so pr)) (fun w2 t => mw G ncl (mA w sz) w2 t.heap ∧ va_K G ncl (q0 :: q1 :: (cI, .int) :: ty2) t) (mA w sz)) 0 0 (mA w sz) := by
  refine Met.ofW (cc := c_M_at) (maxL := 2) (ret := (some .int)) (by decide) rfl ?_
  intro p e s m args below meth c s₁ B hml hv
  obtain ⟨rfl, hsz, hM0, hK⟩ := hv
  have hx := B.exec
  have hb := B.bytes
  have hr := B.returns
  have hts := atoms_spec (ws := (wm y_M_at c_M_at 2 (some .int))) B.pre
  have hta : ∀ w ∈ AL, w.before _ s = true := fun w h => hts w (List.mem_cons_of_mem _ h)
  have hown : s.vm.findClass nR_M = some m.cls := findClass_of_methodNamed B.named
  have hlocks := B.notSynchronized
  have hl := lv_entry ([.ref mm, .int x1]) (n := 2) (Nat.le_of_ble_eq_true rfl)
  rw [lg_entry_eq]
  generalize (lg_sl ([.ref mm, .int x1]) ++ List.replicate (2 - (lg_sl ([.ref mm, .int x1])).length) Slot.unset).toArray = ls at hl ⊢
  have hl : lv_has ls 2 [(0, .ref mm), (1, .int x1)] := hl
  subst hsz
  have hM := mw_self (sz := s.heap.size) hM0
  clear hM0
  generalize hAe : mA w s.heap.size = A at hM ⊢
  have hA : ∀ q : Nat, s.heap.size ≤ q → A q := fun q h => by rw [← hAe]; exact Or.inr h
  have hS : va_S A s.heap s.heap [] := va_S.rf
  have j12 : ∀ (b2 : Int32) (ls : Array Slot), b2 = (if x1 < 0 then 0 else 1) → lv_has ls 2 [(0, .ref mm), (1, .int x1)] → W p l e (headSpec (wm y_M_at c_M_at 2 (some .int)) ({ frames := 1, cells := 0, slots := 0, locals := 27 })).room s m ([.ref mm, .int x1] : List Value).toArray below meth c s.heap [] 0 0 (MQ below (va_Qi (fun (r0 : Int32) (u : Nat → Option va_E) => (¬ gC 1 (if x1 < 0 then 0 else 1) 1 1 = 0 → mPic u mm cI ad f (nI (gT 2 (gC 1 (if x1 < 0 then 0 else 1) 1 1))) no wr n k z r so pr) ∧ (gC 1 (if x1 < 0 then 0 else 1) 1 1 = 0 → r0 = (if pr ≤ x1 then (-1) else f 11 x1.toNatClampNeg) ∧ mPic u mm cI ad f 0 no wr n k z r so pr)) (fun w2 t => mw G ncl A w2 t.heap ∧ va_K G ncl (q0 :: q1 :: (cI, .int) :: ty2) t) A) ([.ref mm, .int x1] : List Value).toArray s 0 0 A) (F0 m 12 ls [.int b2, .int 1, .int 2, .ref mm]) := by
    intro b2 ls eb2 hl
    refine lv_iconst (v := 1) hx hb d_M_at_12 (by decide) ?_
    refine lv_iconst (v := 1) hx hb d_M_at_13 (by decide) ?_
    have hF := mw_free hM hS hA
    refine va_calli (va_runV (As := [.int 2, .int 1, .int b2, .int 1, .int 1]) (rest := []) ⟨hx, hb, hml, hown, hta⟩ (k_M_goes_2 l G q0 q1 cI ty2 w hmp.1 hmp.2 1 b2 1 1 _) (cV 5 hta aw_619 aw_5 aw_616 aw_618 as_SceneTimesModel_goes rfl rfl (by decide +kernel) ⟨Nat.le_of_ble_eq_true rfl, Nat.le_of_ble_eq_true rfl⟩) (pZ_V hK hM rfl hmp.1) rfl rfl hl.1 rfl (lv_room (Nat.le_of_ble_eq_true rfl)) d_M_at_14 ⟨Nat.le_of_ble_eq_true rfl, Nat.le_of_ble_eq_true rfl⟩) hS (fun q _ h => hF q h) hF (fun r_2 u_r_2 t H locs ht hvm hr_2 hB hz1 hk1 hS => ?_)
    obtain ⟨hM1, hK1⟩ := hB
    rw [ht] at hM1
    have hM := mw_weaken hM1 hF
    clear hM1 hK1 hF hk1 hz1
    obtain ⟨w_3, hw_3⟩ : ∃ z9 : Nat → Option va_E, z9 = va_up w mm (some (.inr (6, [.int (nI (gT 2 (gC 1 b2 1 1))), .int no, .int wr, .int n, .ref (ad 0), .ref (ad 1), .ref (ad 2), .ref (ad 3), .ref (ad 4), .ref (ad 5), .int k, .ref (ad 6), .ref (ad 7), .ref (ad 8), .ref (ad 9), .int z, .int r, .int so, .ref (ad 10), .int pr, .ref (ad 11)]))) := ⟨_, rfl⟩
    rw [← hw_3] at hM
    have mp_4 : mPic w_3 mm cI ad f (nI (gT 2 (gC 1 b2 1 1))) no wr n k z r so pr := by rw [hw_3]; exact mp_obj hmp (nI (gT 2 (gC 1 b2 1 1))) no wr n k z r so pr
    have k_5 : w_3 (ad 11) = some (aI cI 2400 (f 11)) := mp_4.2 11 (by decide)
    refine lv_if_ne (tgt := 22) hx hb d_M_at_17 (by decide) (fun c_6 => ?_) (fun c_6 => ?_)
    · have hc := go_t hr_2 c_6
      have h0 : ¬ x1 < 0 := i0_t (by have q := (gC_room hc).2.1; rw [eb2] at q; exact q)
      refine lv_iload_n hx hb d_M_at_22 rfl (lv_at hl 1 rfl) ?_
      refine lv_aload_n hx hb d_M_at_23 rfl (lv_at hl 0 rfl) ?_
      refine m_get (D := G) (ci := 6) (v := .int pr) (C := nR_M) (T := nT_M) (N := 21) hx hb hta in_M hown hK hM mp_4.1 rfl 19 (by decide) (hta _ aw_562) (fun _ h9 => h9) rfl d_M_at_24 ?_
      refine lv_icmp_ge (tgt := 39) hx hb d_M_at_27 (by decide) (fun c_7 => ?_) (fun c_7 => ?_)
      · refine lv_iconst (v := (-1)) hx hb d_M_at_39 (by decide) ?_
        exact W.iret (v := (-1)) hx hb hr (fun t ht hW => ⟨⟨(-1), w_3, rfl, (by subst eb2; exact ⟨fun q => absurd hc q, fun _ => ⟨(by simp only [c_7, not_true_eq_false, not_false_eq_true, and_true, and_false, true_and, false_and, and_self, or_self, or_true, true_or, or_false, false_or, ↓reduceIte, ds]), (by have q := mp_4; rw [hc] at q; exact q)⟩⟩), by rw [ht]; exact hM, va_K.moved hW.alike hK⟩, hS.F ht⟩) hS.2.2 d_M_at_40
      · refine lv_aload_n hx hb d_M_at_30 rfl (lv_at hl 0 rfl) ?_
        refine m_get (D := G) (ci := 6) (v := .ref (ad 11)) (C := nR_M) (T := nT_M) (N := 21) hx hb hta in_M hown hK hM mp_4.1 rfl 20 (by decide) (hta _ aw_563) (fun _ h9 => h9) rfl d_M_at_31 ?_
        refine lv_iload_n hx hb d_M_at_34 rfl (lv_at hl 1 rfl) ?_
        refine m_iald hx hb hK hM 2 k_5 rfl (idx ep hpp (by decide) h0 c_7) d_M_at_35 ?_
        refine lv_goto (tgt := 40) hx hb d_M_at_36 (by decide) ?_
        exact W.iret (v := (f 11) x1.toNatClampNeg) hx hb hr (fun t ht hW => ⟨⟨(f 11) x1.toNatClampNeg, w_3, rfl, (by subst eb2; exact ⟨fun q => absurd hc q, fun _ => ⟨(by simp only [c_7, not_true_eq_false, not_false_eq_true, and_true, and_false, true_and, false_and, and_self, or_self, or_true, true_or, or_false, false_or, ↓reduceIte, ds]), (by have q := mp_4; rw [hc] at q; exact q)⟩⟩), by rw [ht]; exact hM, va_K.moved hW.alike hK⟩, hS.F ht⟩) hS.2.2 d_M_at_40
    · have hc := go_f hr_2 c_6
      refine lv_iconst (v := 0) hx hb d_M_at_20 (by decide) ?_
      exact W.iret (v := 0) hx hb hr (fun t ht hW => ⟨⟨0, w_3, rfl, (by subst eb2; exact ⟨fun _ => mp_4, fun q => absurd q hc⟩), by rw [ht]; exact hM, va_K.moved hW.alike hK⟩, hS.F ht⟩) hS.2.2 d_M_at_21
  refine lv_aload_n hx hb d_M_at_0 rfl (lv_at hl 0 rfl) ?_
  refine lv_iconst (v := 2) hx hb d_M_at_1 (by decide) ?_
  refine lv_iconst (v := 1) hx hb d_M_at_2 (by decide) ?_
  refine lv_iload_n hx hb d_M_at_3 rfl (lv_at hl 1 rfl) ?_
  refine lv_if_lt (tgt := 11) hx hb d_M_at_4 (by decide) (fun c_1 => ?_) (fun c_1 => ?_)
  · refine lv_iconst (v := 0) hx hb d_M_at_11 (by decide) ?_
    exact j12  0 ls  (by simp only [c_1, not_true_eq_false, not_false_eq_true, and_true, and_false, true_and, false_and, and_self, or_self, or_true, true_or, or_false, false_or, ↓reduceIte]) (lv_sub hl [0, 1] rfl)
  · refine lv_iconst (v := 1) hx hb d_M_at_7 (by decide) ?_
    refine lv_goto (tgt := 12) hx hb d_M_at_8 (by decide) ?_
    exact j12  1 ls  (by simp only [c_1, not_true_eq_false, not_false_eq_true, and_true, and_false, true_and, false_and, and_self, or_self, or_true, true_or, or_false, false_or, ↓reduceIte]) (lv_sub hl [0, 1] rfl)
set_option maxHeartbeats 4000000 in
set_option maxRecDepth 100000 in
theorem k_M_row (l : Launch) (G : va_G) (q0 q1 : ClassId × FieldType) (cI : ClassId) (ty2 : List (ClassId × FieldType)) (w : Nat → Option va_E) {mm : Nat} {ad : Nat → Nat} (had : ∀ i j, i < 12 → j < 12 → ad i = ad j → i = j) {f : Nat → Nat → Int32} {th no wr n k z r so pr : Int32} (hmp : mPic w mm cI ad f th no wr n k z r so pr) {ka rr : Nat} (hk : ka ≤ 200) (ek : k = nI ka) (hr9 : rr ≤ 100) (er : r = nI rr) (hrn : ∀ i, i < rr → f 10 i = nI (f 10 i).toNatClampNeg ∧ (f 10 i).toNatClampNeg < 100) (x1 x2 : Int32) (sz : Nat) : Met l y_M_row (wm y_M_row c_M_row 4 (some .int)) ({ frames := 1, cells := 0, slots := 0, locals := 27 }) (pZ G (q0 :: q1 :: (cI, .int) :: ty2) w sz [.ref mm, .int x1, .int x2]) (va_Qi (fun (r0 : Int32) (u : Nat → Option va_E) => (¬ gC (if (¬ x1 < 0 ∧ ¬ r - 1 < x1) ∧ (¬ x2 < 0 ∧ ¬ 4 < x2) then 1 else 0) 1 1 1 = 0 → mPic u mm cI ad f (nI (gT 1 (gC (if (¬ x1 < 0 ∧ ¬ r - 1 < x1) ∧ (¬ x2 < 0 ∧ ¬ 4 < x2) then 1 else 0) 1 1 1))) no wr n k z r so pr) ∧ (gC (if (¬ x1 < 0 ∧ ¬ r - 1 < x1) ∧ (¬ x2 < 0 ∧ ¬ 4 < x2) then 1 else 0) 1 1 1 = 0 → r0 = (if x2 = 0 then f 10 x1.toNatClampNeg else if x2 = 1 then f 3 (f 10 x1.toNatClampNeg).toNatClampNeg else if x2 = 2 then valM f so (f 10 x1.toNatClampNeg).toNatClampNeg ka else if x2 = 3 then (if strM f so (f 10 x1.toNatClampNeg).toNatClampNeg ka = 0 then 0 else 1) else f 0 (f 10 x1.toNatClampNeg).toNatClampNeg) ∧ mPic u mm cI ad f 0 no wr n k z r so pr)) (fun w2 t => mw G ncl (mA w sz) w2 t.heap ∧ va_K G ncl (q0 :: q1 :: (cI, .int) :: ty2) t) (mA w sz)) 0 0 (mA w sz) := by
  refine Met.ofW (cc := c_M_row) (maxL := 4) (ret := (some .int)) (by decide) rfl ?_
  intro p e s m args below meth c s₁ B hml hv
  obtain ⟨rfl, hsz, hM0, hK⟩ := hv
  have hx := B.exec
  have hb := B.bytes
  have hr := B.returns
  have hts := atoms_spec (ws := (wm y_M_row c_M_row 4 (some .int))) B.pre
  have hta : ∀ w ∈ AL, w.before _ s = true := fun w h => hts w (List.mem_cons_of_mem _ h)
  have hown : s.vm.findClass nR_M = some m.cls := findClass_of_methodNamed B.named
  have hlocks := B.notSynchronized
  have hl := lv_entry ([.ref mm, .int x1, .int x2]) (n := 4) (Nat.le_of_ble_eq_true rfl)
  rw [lg_entry_eq]
  generalize (lg_sl ([.ref mm, .int x1, .int x2]) ++ List.replicate (4 - (lg_sl ([.ref mm, .int x1, .int x2])).length) Slot.unset).toArray = ls at hl ⊢
  have hl : lv_has ls 4 [(0, .ref mm), (1, .int x1), (2, .int x2)] := hl
  subst hsz
  have hM := mw_self (sz := s.heap.size) hM0
  clear hM0
  generalize hAe : mA w s.heap.size = A at hM ⊢
  have hA : ∀ q : Nat, s.heap.size ≤ q → A q := fun q h => by rw [← hAe]; exact Or.inr h
  have hS : va_S A s.heap s.heap [] := va_S.rf
  have j30 : ∀ (b1 : Int32) (ls : Array Slot), b1 = (if (¬ x1 < 0 ∧ ¬ r - 1 < x1) ∧ (¬ x2 < 0 ∧ ¬ 4 < x2) then 1 else 0) → lv_has ls 4 [(0, .ref mm), (1, .int x1), (2, .int x2)] → W p l e (headSpec (wm y_M_row c_M_row 4 (some .int)) ({ frames := 1, cells := 0, slots := 0, locals := 27 })).room s m ([.ref mm, .int x1, .int x2] : List Value).toArray below meth c s.heap [] 0 0 (MQ below (va_Qi (fun (r0 : Int32) (u : Nat → Option va_E) => (¬ gC (if (¬ x1 < 0 ∧ ¬ r - 1 < x1) ∧ (¬ x2 < 0 ∧ ¬ 4 < x2) then 1 else 0) 1 1 1 = 0 → mPic u mm cI ad f (nI (gT 1 (gC (if (¬ x1 < 0 ∧ ¬ r - 1 < x1) ∧ (¬ x2 < 0 ∧ ¬ 4 < x2) then 1 else 0) 1 1 1))) no wr n k z r so pr) ∧ (gC (if (¬ x1 < 0 ∧ ¬ r - 1 < x1) ∧ (¬ x2 < 0 ∧ ¬ 4 < x2) then 1 else 0) 1 1 1 = 0 → r0 = (if x2 = 0 then f 10 x1.toNatClampNeg else if x2 = 1 then f 3 (f 10 x1.toNatClampNeg).toNatClampNeg else if x2 = 2 then valM f so (f 10 x1.toNatClampNeg).toNatClampNeg ka else if x2 = 3 then (if strM f so (f 10 x1.toNatClampNeg).toNatClampNeg ka = 0 then 0 else 1) else f 0 (f 10 x1.toNatClampNeg).toNatClampNeg) ∧ mPic u mm cI ad f 0 no wr n k z r so pr)) (fun w2 t => mw G ncl A w2 t.heap ∧ va_K G ncl (q0 :: q1 :: (cI, .int) :: ty2) t) A) ([.ref mm, .int x1, .int x2] : List Value).toArray s 0 0 A) (F0 m 30 ls [.int b1, .int 1, .ref mm]) := by
    intro b1 ls eb1 hl
    refine lv_iconst (v := 1) hx hb d_M_row_30 (by decide) ?_
    refine lv_iconst (v := 1) hx hb d_M_row_31 (by decide) ?_
    refine lv_iconst (v := 1) hx hb d_M_row_32 (by decide) ?_
    have hF := mw_free hM hS hA
    refine va_calli (va_runV (As := [.int 1, .int b1, .int 1, .int 1, .int 1]) (rest := []) ⟨hx, hb, hml, hown, hta⟩ (k_M_goes_1 l G q0 q1 cI ty2 w hmp.1 hmp.2 b1 1 1 1 _) (cV 5 hta aw_619 aw_5 aw_616 aw_618 as_SceneTimesModel_goes rfl rfl (by decide +kernel) ⟨Nat.le_of_ble_eq_true rfl, Nat.le_of_ble_eq_true rfl⟩) (pZ_V hK hM rfl hmp.1) rfl rfl hl.1 rfl (lv_room (Nat.le_of_ble_eq_true rfl)) d_M_row_33 ⟨Nat.le_of_ble_eq_true rfl, Nat.le_of_ble_eq_true rfl⟩) hS (fun q _ h => hF q h) hF (fun r_9 u_r_9 t H locs ht hvm hr_9 hB hz1 hk1 hS => ?_)
    obtain ⟨hM1, hK1⟩ := hB
    rw [ht] at hM1
    have hM := mw_weaken hM1 hF
    clear hM1 hK1 hF hk1 hz1
    obtain ⟨w_10, hw_10⟩ : ∃ z9 : Nat → Option va_E, z9 = va_up w mm (some (.inr (6, [.int (nI (gT 1 (gC b1 1 1 1))), .int no, .int wr, .int n, .ref (ad 0), .ref (ad 1), .ref (ad 2), .ref (ad 3), .ref (ad 4), .ref (ad 5), .int k, .ref (ad 6), .ref (ad 7), .ref (ad 8), .ref (ad 9), .int z, .int r, .int so, .ref (ad 10), .int pr, .ref (ad 11)]))) := ⟨_, rfl⟩
    rw [← hw_10] at hM
    have mp_11 : mPic w_10 mm cI ad f (nI (gT 1 (gC b1 1 1 1))) no wr n k z r so pr := by rw [hw_10]; exact mp_obj hmp (nI (gT 1 (gC b1 1 1 1))) no wr n k z r so pr
    have k_12 : w_10 (ad 10) = some (aI cI 100 (f 10)) := mp_11.2 10 (by decide)
    have k_13 : w_10 (ad 3) = some (aI cI 100 (f 3)) := mp_11.2 3 (by decide)
    have k_14 : w_10 (ad 0) = some (aI cI 100 (f 0)) := mp_11.2 0 (by decide)
    refine lv_if_ne (tgt := 41) hx hb d_M_row_36 (by decide) (fun c_15 => ?_) (fun c_15 => ?_)
    · have hc := go_t hr_9 c_15
      have hq := i1_t (by have q := (gC_room hc).1; rw [eb1] at q; exact q)
      have hj := isN er hr9 hq.1
      have hin1 : vp_in x1 100 := by rw [hj.1]; exact vp_in_nI (by omega) (by omega)
      have hrj := hrn _ hj.2
      refine lv_aload_n hx hb d_M_row_41 rfl (lv_at hl 0 rfl) ?_
      refine m_get (D := G) (ci := 6) (v := .ref (ad 10)) (C := nR_M) (T := nT_M) (N := 21) hx hb hta in_M hown hK hM mp_11.1 rfl 18 (by decide) (hta _ aw_561) (fun _ h9 => h9) rfl d_M_row_42 ?_
      refine lv_iload_n hx hb d_M_row_45 rfl (lv_at hl 1 rfl) ?_
      refine m_iald hx hb hK hM 2 k_12 rfl hin1 d_M_row_46 ?_
      refine lv_istore_n (lv' := [(3, .int ((f 10) x1.toNatClampNeg)), (0, .ref mm), (1, .int x1), (2, .int x2)]) hx hb d_M_row_47 rfl hl (by decide) rfl (fun ls hl => ?_)
      refine lv_iload_n hx hb d_M_row_48 rfl (lv_at hl 3 rfl) ?_
      refine lv_if_ne (tgt := 56) hx hb d_M_row_49 (by decide) (fun c_16 => ?_) (fun c_16 => ?_)
      · refine lv_iload_n hx hb d_M_row_56 rfl (lv_at hl 3 rfl) ?_
        refine lv_iconst (v := 1) hx hb d_M_row_57 (by decide) ?_
        refine lv_icmp_ne (tgt := 70) hx hb d_M_row_58 (by decide) (fun c_17 => ?_) (fun c_17 => ?_)
        · refine lv_iload_n hx hb d_M_row_70 rfl (lv_at hl 3 rfl) ?_
          refine lv_iconst (v := 2) hx hb d_M_row_71 (by decide) ?_
          refine lv_icmp_ne (tgt := 87) hx hb d_M_row_72 (by decide) (fun c_18 => ?_) (fun c_18 => ?_)
          · refine lv_iload_n hx hb d_M_row_87 rfl (lv_at hl 3 rfl) ?_
            refine lv_iconst (v := 3) hx hb d_M_row_88 (by decide) ?_
            refine lv_icmp_ne (tgt := 112) hx hb d_M_row_89 (by decide) (fun c_19 => ?_) (fun c_19 => ?_)
            · refine lv_aload_n hx hb d_M_row_112 rfl (lv_at hl 1 rfl) ?_
              refine m_get (D := G) (ci := 6) (v := .ref (ad 0)) (C := nR_M) (T := nT_M) (N := 21) hx hb hta in_M hown hK hM mp_11.1 rfl 4 (by decide) (hta _ aw_547) (fun _ h9 => h9) rfl d_M_row_113 ?_
              refine lv_iload_n hx hb d_M_row_116 rfl (lv_at hl 0 rfl) ?_
              refine m_iald hx hb hK hM 2 k_14 rfl (by rw [hrj.1]; exact vp_in_nI hrj.2 (by omega)) d_M_row_117 ?_
              exact W.iret (v := (f 0) ((f 10) x1.toNatClampNeg).toNatClampNeg) hx hb hr (fun t ht hW => ⟨⟨(f 0) ((f 10) x1.toNatClampNeg).toNatClampNeg, w_10, rfl, (by subst eb1; exact ⟨fun q => absurd hc q, fun _ => ⟨(by simp only [c_16, c_17, c_18, c_19, not_true_eq_false, not_false_eq_true, and_true, and_false, true_and, false_and, and_self, or_self, or_true, true_or, or_false, false_or, ↓reduceIte, ds]), (by have q := mp_11; rw [hc] at q; exact q)⟩⟩), by rw [ht]; exact hM, va_K.moved hW.alike hK⟩, hS.F ht⟩) hS.2.2 d_M_row_118
            · refine lv_aload_n hx hb d_M_row_92 rfl (lv_at hl 1 rfl) ?_
              refine lv_iload_n hx hb d_M_row_93 rfl (lv_at hl 0 rfl) ?_
              refine lv_aload_n hx hb d_M_row_94 rfl (lv_at hl 1 rfl) ?_
              refine m_get (D := G) (ci := 6) (v := .int so) (C := nR_M) (T := nT_M) (N := 21) hx hb hta in_M hown hK hM mp_11.1 rfl 17 (by decide) (hta _ aw_560) (fun _ h9 => h9) rfl d_M_row_95 ?_
              refine vp_callSi (W.runV (As := [.int ((f 10) x1.toNatClampNeg), .int so]) (rest := []) ⟨hx, hb, hml, hown, hta⟩ (k_M_isStruck_x l G q0 q1 cI ty2 w_10 mp_11.1 mp_11.2 hk ek (f 10 x1.toNatClampNeg).toNatClampNeg so (f 10 x1.toNatClampNeg) hrj.1) (cV 2 hta aw_642 aw_5 aw_639 aw_641 as_SceneTimesModel_isStruck rfl rfl (by decide +kernel) ⟨Nat.le_of_ble_eq_true rfl, Nat.le_of_ble_eq_true rfl⟩) (pW_V hK hM rfl mp_11.1) rfl rfl hl.1 rfl (lv_room (Nat.le_of_ble_eq_true rfl)) d_M_row_98 ⟨Nat.le_of_ble_eq_true rfl, Nat.le_of_ble_eq_true rfl⟩) (fun r_20 hr_20 => ?_)
              refine lv_if_eq (tgt := 108) hx hb d_M_row_101 (by decide) (fun c_21 => ?_) (fun c_21 => ?_)
              · rw [hr_20] at c_21
                refine lv_iconst (v := 0) hx hb d_M_row_108 (by decide) ?_
                refine lv_goto (tgt := 118) hx hb d_M_row_109 (by decide) ?_
                exact W.iret (v := 0) hx hb hr (fun t ht hW => ⟨⟨0, w_10, rfl, (by subst eb1; exact ⟨fun q => absurd hc q, fun _ => ⟨(by simp only [c_16, c_17, c_18, c_19, c_21, not_true_eq_false, not_false_eq_true, and_true, and_false, true_and, false_and, and_self, or_self, or_true, true_or, or_false, false_or, ↓reduceIte, ds]), (by have q := mp_11; rw [hc] at q; exact q)⟩⟩), by rw [ht]; exact hM, va_K.moved hW.alike hK⟩, hS.F ht⟩) hS.2.2 d_M_row_118
              · rw [hr_20] at c_21
                refine lv_iconst (v := 1) hx hb d_M_row_104 (by decide) ?_
                refine lv_goto (tgt := 118) hx hb d_M_row_105 (by decide) ?_
                exact W.iret (v := 1) hx hb hr (fun t ht hW => ⟨⟨1, w_10, rfl, (by subst eb1; exact ⟨fun q => absurd hc q, fun _ => ⟨(by simp only [c_16, c_17, c_18, c_19, c_21, not_true_eq_false, not_false_eq_true, and_true, and_false, true_and, false_and, and_self, or_self, or_true, true_or, or_false, false_or, ↓reduceIte, ds]), (by have q := mp_11; rw [hc] at q; exact q)⟩⟩), by rw [ht]; exact hM, va_K.moved hW.alike hK⟩, hS.F ht⟩) hS.2.2 d_M_row_118
          · refine lv_aload_n hx hb d_M_row_75 rfl (lv_at hl 1 rfl) ?_
            refine lv_iload_n hx hb d_M_row_76 rfl (lv_at hl 0 rfl) ?_
            refine lv_aload_n hx hb d_M_row_77 rfl (lv_at hl 1 rfl) ?_
            refine m_get (D := G) (ci := 6) (v := .int so) (C := nR_M) (T := nT_M) (N := 21) hx hb hta in_M hown hK hM mp_11.1 rfl 17 (by decide) (hta _ aw_560) (fun _ h9 => h9) rfl d_M_row_78 ?_
            refine vp_callSi (W.runV (As := [.int ((f 10) x1.toNatClampNeg), .int so]) (rest := []) ⟨hx, hb, hml, hown, hta⟩ (k_M_value_x l G q0 q1 cI ty2 w_10 mp_11.1 mp_11.2 hk ek (f 10 x1.toNatClampNeg).toNatClampNeg hrj.2 so (f 10 x1.toNatClampNeg) hrj.1) (cV 2 hta aw_674 aw_5 aw_671 aw_673 as_SceneTimesModel_value rfl rfl (by decide +kernel) ⟨Nat.le_of_ble_eq_true rfl, Nat.le_of_ble_eq_true rfl⟩) (pW_V hK hM rfl mp_11.1) rfl rfl hl.1 rfl (lv_room (Nat.le_of_ble_eq_true rfl)) d_M_row_81 ⟨Nat.le_of_ble_eq_true rfl, Nat.le_of_ble_eq_true rfl⟩) (fun r_22 hr_22 => ?_)
            refine lv_goto (tgt := 118) hx hb d_M_row_84 (by decide) ?_
            exact W.iret (v := r_22) hx hb hr (fun t ht hW => ⟨⟨r_22, w_10, rfl, (by subst eb1; exact ⟨fun q => absurd hc q, fun _ => ⟨(by rw [hr_22]; simp only [c_16, c_17, c_18, not_true_eq_false, not_false_eq_true, and_true, and_false, true_and, false_and, and_self, or_self, or_true, true_or, or_false, false_or, ↓reduceIte, ds]), (by have q := mp_11; rw [hc] at q; exact q)⟩⟩), by rw [ht]; exact hM, va_K.moved hW.alike hK⟩, hS.F ht⟩) hS.2.2 d_M_row_118
        · refine lv_aload_n hx hb d_M_row_61 rfl (lv_at hl 1 rfl) ?_
          refine m_get (D := G) (ci := 6) (v := .ref (ad 3)) (C := nR_M) (T := nT_M) (N := 21) hx hb hta in_M hown hK hM mp_11.1 rfl 7 (by decide) (hta _ aw_550) (fun _ h9 => h9) rfl d_M_row_62 ?_
          refine lv_iload_n hx hb d_M_row_65 rfl (lv_at hl 0 rfl) ?_
          refine m_iald hx hb hK hM 2 k_13 rfl (by rw [hrj.1]; exact vp_in_nI hrj.2 (by omega)) d_M_row_66 ?_
          refine lv_goto (tgt := 118) hx hb d_M_row_67 (by decide) ?_
          exact W.iret (v := (f 3) ((f 10) x1.toNatClampNeg).toNatClampNeg) hx hb hr (fun t ht hW => ⟨⟨(f 3) ((f 10) x1.toNatClampNeg).toNatClampNeg, w_10, rfl, (by subst eb1; exact ⟨fun q => absurd hc q, fun _ => ⟨(by simp only [c_16, c_17, not_true_eq_false, not_false_eq_true, and_true, and_false, true_and, false_and, and_self, or_self, or_true, true_or, or_false, false_or, ↓reduceIte, ds]), (by have q := mp_11; rw [hc] at q; exact q)⟩⟩), by rw [ht]; exact hM, va_K.moved hW.alike hK⟩, hS.F ht⟩) hS.2.2 d_M_row_118
      · refine lv_iload_n hx hb d_M_row_52 rfl (lv_at hl 0 rfl) ?_
        refine lv_goto (tgt := 118) hx hb d_M_row_53 (by decide) ?_
        exact W.iret (v := (f 10) x1.toNatClampNeg) hx hb hr (fun t ht hW => ⟨⟨(f 10) x1.toNatClampNeg, w_10, rfl, (by subst eb1; exact ⟨fun q => absurd hc q, fun _ => ⟨(by simp only [c_16, not_true_eq_false, not_false_eq_true, and_true, and_false, true_and, false_and, and_self, or_self, or_true, true_or, or_false, false_or, ↓reduceIte, ds]), (by have q := mp_11; rw [hc] at q; exact q)⟩⟩), by rw [ht]; exact hM, va_K.moved hW.alike hK⟩, hS.F ht⟩) hS.2.2 d_M_row_118
    · have hc := go_f hr_9 c_15
      refine lv_iconst (v := 0) hx hb d_M_row_39 (by decide) ?_
      exact W.iret (v := 0) hx hb hr (fun t ht hW => ⟨⟨0, w_10, rfl, (by subst eb1; exact ⟨fun _ => mp_11, fun q => absurd q hc⟩), by rw [ht]; exact hM, va_K.moved hW.alike hK⟩, hS.F ht⟩) hS.2.2 d_M_row_40
  refine lv_aload_n hx hb d_M_row_0 rfl (lv_at hl 0 rfl) ?_
  refine lv_iconst (v := 1) hx hb d_M_row_1 (by decide) ?_
  refine lv_iload_n hx hb d_M_row_2 rfl (lv_at hl 1 rfl) ?_
  refine lv_iconst (v := 0) hx hb d_M_row_3 (by decide) ?_
  refine lv_aload_n hx hb d_M_row_4 rfl (lv_at hl 0 rfl) ?_
  refine m_get (D := G) (ci := 6) (v := .int r) (C := nR_M) (T := nT_M) (N := 21) hx hb hta in_M hown hK hM hmp.1 rfl 16 (by decide) (hta _ aw_559) (fun _ h9 => h9) rfl d_M_row_5 ?_
  refine lv_iconst (v := 1) hx hb d_M_row_8 (by decide) ?_
  refine lv_isub hx hb d_M_row_9 ?_
  refine vp_callSi (W.runS (As := [.int x1, .int 0, .int (r - 1)]) (rest := [.int 1, .ref mm]) ⟨hx, hb, hml, hown, hta⟩ (k_M_in l x1 0 (r - 1)) (cS 3 hta aw_626 aw_5 aw_624 aw_625 rfl rfl (by decide +kernel) ⟨Nat.le_of_ble_eq_true rfl, Nat.le_of_ble_eq_true rfl⟩) ⟨fun a U g mk q => q, fun U hU hW => ⟨rfl, trivial⟩⟩ rfl rfl hl.1 rfl (lv_room (Nat.le_of_ble_eq_true rfl)) d_M_row_10 ⟨Nat.le_of_ble_eq_true rfl, Nat.le_of_ble_eq_true rfl⟩) (fun r_1 hr_1 => ?_)
  refine lv_if_eq (tgt := 29) hx hb d_M_row_13 (by decide) (fun c_2 => ?_) (fun c_2 => ?_)
  · have p_3 := b1_f hr_1 c_2
    refine lv_iconst (v := 0) hx hb d_M_row_29 (by decide) ?_
    exact j30  0 ls  (by simp only [p_3, not_true_eq_false, not_false_eq_true, and_true, and_false, true_and, false_and, and_self, or_self, or_true, true_or, or_false, false_or, ↓reduceIte]) (lv_sub hl [0, 1, 2] rfl)
  · have p_4 := b1_t hr_1 c_2
    refine lv_iload_n hx hb d_M_row_16 rfl (lv_at hl 2 rfl) ?_
    refine lv_iconst (v := 0) hx hb d_M_row_17 (by decide) ?_
    refine lv_iconst (v := 4) hx hb d_M_row_18 (by decide) ?_
    refine vp_callSi (W.runS (As := [.int x2, .int 0, .int 4]) (rest := [.int 1, .ref mm]) ⟨hx, hb, hml, hown, hta⟩ (k_M_in l x2 0 4) (cS 3 hta aw_626 aw_5 aw_624 aw_625 rfl rfl (by decide +kernel) ⟨Nat.le_of_ble_eq_true rfl, Nat.le_of_ble_eq_true rfl⟩) ⟨fun a U g mk q => q, fun U hU hW => ⟨rfl, trivial⟩⟩ rfl rfl hl.1 rfl (lv_room (Nat.le_of_ble_eq_true rfl)) d_M_row_19 ⟨Nat.le_of_ble_eq_true rfl, Nat.le_of_ble_eq_true rfl⟩) (fun r_5 hr_5 => ?_)
    refine lv_if_eq (tgt := 29) hx hb d_M_row_22 (by decide) (fun c_6 => ?_) (fun c_6 => ?_)
    · have p_7 := b1_f hr_5 c_6
      refine lv_iconst (v := 0) hx hb d_M_row_29 (by decide) ?_
      exact j30  0 ls  (by simp only [p_4, p_7, not_true_eq_false, not_false_eq_true, and_true, and_false, true_and, false_and, and_self, or_self, or_true, true_or, or_false, false_or, ↓reduceIte]) (lv_sub hl [0, 1, 2] rfl)
    · have p_8 := b1_t hr_5 c_6
      refine lv_iconst (v := 1) hx hb d_M_row_25 (by decide) ?_
      refine lv_goto (tgt := 30) hx hb d_M_row_26 (by decide) ?_
      exact j30  1 ls  (by simp only [p_4, p_8, not_true_eq_false, not_false_eq_true, and_true, and_false, true_and, false_and, and_self, or_self, or_true, true_or, or_false, false_or, ↓reduceIte]) (lv_sub hl [0, 1, 2] rfl)
set_option maxHeartbeats 4000000 in
set_option maxRecDepth 100000 in
theorem k_M_noteAt (l : Launch) (G : va_G) (q0 q1 : ClassId × FieldType) (cI : ClassId) (ty2 : List (ClassId × FieldType)) (w : Nat → Option va_E) {mm : Nat} {ad : Nat → Nat} (had : ∀ i j, i < 12 → j < 12 → ad i = ad j → i = j) {f : Nat → Nat → Int32} {th no wr n k z r so pr : Int32} (hmp : mPic w mm cI ad f th no wr n k z r so pr) {ka nn : Nat} (hk : ka ≤ 200) (ek : k = nI ka) (hn : nn ≤ 100) (en : n = nI nn) (x1 x2 : Int32) (sz : Nat) : Met l y_M_noteAt (wm y_M_noteAt c_M_noteAt 3 (some .int)) ({ frames := 2, cells := 0, slots := 0, locals := 43 }) (pZ G (q0 :: q1 :: (cI, .int) :: ty2) w sz [.ref mm, .int x1, .int x2]) (va_Qi (fun (r0 : Int32) (u : Nat → Option va_E) => (¬ gC (if (¬ x1 < 0 ∧ ¬ n - 1 < x1) ∧ (¬ x2 < 0 ∧ ¬ 4 < x2) then 1 else 0) 1 1 1 = 0 → mPic u mm cI ad f (nI (gT 1 (gC (if (¬ x1 < 0 ∧ ¬ n - 1 < x1) ∧ (¬ x2 < 0 ∧ ¬ 4 < x2) then 1 else 0) 1 1 1))) no wr n k z r so pr) ∧ (gC (if (¬ x1 < 0 ∧ ¬ n - 1 < x1) ∧ (¬ x2 < 0 ∧ ¬ 4 < x2) then 1 else 0) 1 1 1 = 0 → r0 = (if x2 = 0 then f 5 x1.toNatClampNeg else if x2 = 1 then nI (manM f 1 x1.toNatClampNeg ka) else if x2 = 2 then (if strM f no x1.toNatClampNeg ka = 0 then 0 else 1) else if x2 = 3 then valM f no x1.toNatClampNeg ka else f 4 x1.toNatClampNeg) ∧ mPic u mm cI ad f 0 no wr n k z r so pr)) (fun w2 t => mw G ncl (mA w sz) w2 t.heap ∧ va_K G ncl (q0 :: q1 :: (cI, .int) :: ty2) t) (mA w sz)) 0 0 (mA w sz) := by
  refine Met.ofW (cc := c_M_noteAt) (maxL := 3) (ret := (some .int)) (by decide) rfl ?_
  intro p e s m args below meth c s₁ B hml hv
  obtain ⟨rfl, hsz, hM0, hK⟩ := hv
  have hx := B.exec
  have hb := B.bytes
  have hr := B.returns
  have hts := atoms_spec (ws := (wm y_M_noteAt c_M_noteAt 3 (some .int))) B.pre
  have hta : ∀ w ∈ AL, w.before _ s = true := fun w h => hts w (List.mem_cons_of_mem _ h)
  have hown : s.vm.findClass nR_M = some m.cls := findClass_of_methodNamed B.named
  have hlocks := B.notSynchronized
  have hl := lv_entry ([.ref mm, .int x1, .int x2]) (n := 3) (Nat.le_of_ble_eq_true rfl)
  rw [lg_entry_eq]
  generalize (lg_sl ([.ref mm, .int x1, .int x2]) ++ List.replicate (3 - (lg_sl ([.ref mm, .int x1, .int x2])).length) Slot.unset).toArray = ls at hl ⊢
  have hl : lv_has ls 3 [(0, .ref mm), (1, .int x1), (2, .int x2)] := hl
  subst hsz
  have hM := mw_self (sz := s.heap.size) hM0
  clear hM0
  generalize hAe : mA w s.heap.size = A at hM ⊢
  have hA : ∀ q : Nat, s.heap.size ≤ q → A q := fun q h => by rw [← hAe]; exact Or.inr h
  have hS : va_S A s.heap s.heap [] := va_S.rf
  have j24 : ∀ (b1 : Int32) (ls : Array Slot), b1 = (if (¬ x1 < 0 ∧ ¬ n - 1 < x1) ∧ (¬ x2 < 0 ∧ ¬ 4 < x2) then 1 else 0) → lv_has ls 3 [(0, .ref mm), (1, .int x1), (2, .int x2)] → W p l e (headSpec (wm y_M_noteAt c_M_noteAt 3 (some .int)) ({ frames := 2, cells := 0, slots := 0, locals := 43 })).room s m ([.ref mm, .int x1, .int x2] : List Value).toArray below meth c s.heap [] 0 0 (MQ below (va_Qi (fun (r0 : Int32) (u : Nat → Option va_E) => (¬ gC (if (¬ x1 < 0 ∧ ¬ n - 1 < x1) ∧ (¬ x2 < 0 ∧ ¬ 4 < x2) then 1 else 0) 1 1 1 = 0 → mPic u mm cI ad f (nI (gT 1 (gC (if (¬ x1 < 0 ∧ ¬ n - 1 < x1) ∧ (¬ x2 < 0 ∧ ¬ 4 < x2) then 1 else 0) 1 1 1))) no wr n k z r so pr) ∧ (gC (if (¬ x1 < 0 ∧ ¬ n - 1 < x1) ∧ (¬ x2 < 0 ∧ ¬ 4 < x2) then 1 else 0) 1 1 1 = 0 → r0 = (if x2 = 0 then f 5 x1.toNatClampNeg else if x2 = 1 then nI (manM f 1 x1.toNatClampNeg ka) else if x2 = 2 then (if strM f no x1.toNatClampNeg ka = 0 then 0 else 1) else if x2 = 3 then valM f no x1.toNatClampNeg ka else f 4 x1.toNatClampNeg) ∧ mPic u mm cI ad f 0 no wr n k z r so pr)) (fun w2 t => mw G ncl A w2 t.heap ∧ va_K G ncl (q0 :: q1 :: (cI, .int) :: ty2) t) A) ([.ref mm, .int x1, .int x2] : List Value).toArray s 0 0 A) (F0 m 24 ls [.int b1, .int 1, .ref mm]) := by
    intro b1 ls eb1 hl
    refine lv_iconst (v := 1) hx hb d_M_noteAt_24 (by decide) ?_
    refine lv_iconst (v := 1) hx hb d_M_noteAt_25 (by decide) ?_
    refine lv_iconst (v := 1) hx hb d_M_noteAt_26 (by decide) ?_
    have hF := mw_free hM hS hA
    refine va_calli (va_runV (As := [.int 1, .int b1, .int 1, .int 1, .int 1]) (rest := []) ⟨hx, hb, hml, hown, hta⟩ (k_M_goes_1 l G q0 q1 cI ty2 w hmp.1 hmp.2 b1 1 1 1 _) (cV 5 hta aw_619 aw_5 aw_616 aw_618 as_SceneTimesModel_goes rfl rfl (by decide +kernel) ⟨Nat.le_of_ble_eq_true rfl, Nat.le_of_ble_eq_true rfl⟩) (pZ_V hK hM rfl hmp.1) rfl rfl hl.1 rfl (lv_room (Nat.le_of_ble_eq_true rfl)) d_M_noteAt_27 ⟨Nat.le_of_ble_eq_true rfl, Nat.le_of_ble_eq_true rfl⟩) hS (fun q _ h => hF q h) hF (fun r_9 u_r_9 t H locs ht hvm hr_9 hB hz1 hk1 hS => ?_)
    obtain ⟨hM1, hK1⟩ := hB
    rw [ht] at hM1
    have hM := mw_weaken hM1 hF
    clear hM1 hK1 hF hk1 hz1
    obtain ⟨w_10, hw_10⟩ : ∃ z9 : Nat → Option va_E, z9 = va_up w mm (some (.inr (6, [.int (nI (gT 1 (gC b1 1 1 1))), .int no, .int wr, .int n, .ref (ad 0), .ref (ad 1), .ref (ad 2), .ref (ad 3), .ref (ad 4), .ref (ad 5), .int k, .ref (ad 6), .ref (ad 7), .ref (ad 8), .ref (ad 9), .int z, .int r, .int so, .ref (ad 10), .int pr, .ref (ad 11)]))) := ⟨_, rfl⟩
    rw [← hw_10] at hM
    have mp_11 : mPic w_10 mm cI ad f (nI (gT 1 (gC b1 1 1 1))) no wr n k z r so pr := by rw [hw_10]; exact mp_obj hmp (nI (gT 1 (gC b1 1 1 1))) no wr n k z r so pr
    have k_12 : w_10 (ad 5) = some (aI cI 100 (f 5)) := mp_11.2 5 (by decide)
    have k_13 : w_10 (ad 4) = some (aI cI 100 (f 4)) := mp_11.2 4 (by decide)
    refine lv_if_ne (tgt := 35) hx hb d_M_noteAt_30 (by decide) (fun c_14 => ?_) (fun c_14 => ?_)
    · have hc := go_t hr_9 c_14
      have hq := i1_t (by have q := (gC_room hc).1; rw [eb1] at q; exact q)
      have hj := isN en hn hq.1
      have hj2 := hj.2
      refine lv_iload_n hx hb d_M_noteAt_35 rfl (lv_at hl 2 rfl) ?_
      refine lv_if_ne (tgt := 48) hx hb d_M_noteAt_36 (by decide) (fun c_15 => ?_) (fun c_15 => ?_)
      · refine lv_iload_n hx hb d_M_noteAt_48 rfl (lv_at hl 2 rfl) ?_
        refine lv_iconst (v := 1) hx hb d_M_noteAt_49 (by decide) ?_
        refine lv_icmp_ne (tgt := 62) hx hb d_M_noteAt_50 (by decide) (fun c_16 => ?_) (fun c_16 => ?_)
        · refine lv_iload_n hx hb d_M_noteAt_62 rfl (lv_at hl 2 rfl) ?_
          refine lv_iconst (v := 2) hx hb d_M_noteAt_63 (by decide) ?_
          refine lv_icmp_ne (tgt := 87) hx hb d_M_noteAt_64 (by decide) (fun c_17 => ?_) (fun c_17 => ?_)
          · refine lv_iload_n hx hb d_M_noteAt_87 rfl (lv_at hl 2 rfl) ?_
            refine lv_iconst (v := 3) hx hb d_M_noteAt_88 (by decide) ?_
            refine lv_icmp_ne (tgt := 104) hx hb d_M_noteAt_89 (by decide) (fun c_18 => ?_) (fun c_18 => ?_)
            · refine lv_aload_n hx hb d_M_noteAt_104 rfl (lv_at hl 0 rfl) ?_
              refine m_get (D := G) (ci := 6) (v := .ref (ad 4)) (C := nR_M) (T := nT_M) (N := 21) hx hb hta in_M hown hK hM mp_11.1 rfl 8 (by decide) (hta _ aw_551) (fun _ h9 => h9) rfl d_M_noteAt_105 ?_
              refine lv_iload_n hx hb d_M_noteAt_108 rfl (lv_at hl 1 rfl) ?_
              refine m_iald hx hb hK hM 2 k_13 rfl (by rw [hj.1]; exact vp_in_nI (by omega) (by omega)) d_M_noteAt_109 ?_
              exact W.iret (v := (f 4) x1.toNatClampNeg) hx hb hr (fun t ht hW => ⟨⟨(f 4) x1.toNatClampNeg, w_10, rfl, (by subst eb1; exact ⟨fun q => absurd hc q, fun _ => ⟨(by simp only [c_15, c_16, c_17, c_18, not_true_eq_false, not_false_eq_true, and_true, and_false, true_and, false_and, and_self, or_self, or_true, true_or, or_false, false_or, ↓reduceIte, ds]), (by have q := mp_11; rw [hc] at q; exact q)⟩⟩), by rw [ht]; exact hM, va_K.moved hW.alike hK⟩, hS.F ht⟩) hS.2.2 d_M_noteAt_110
            · refine lv_aload_n hx hb d_M_noteAt_92 rfl (lv_at hl 0 rfl) ?_
              refine lv_iload_n hx hb d_M_noteAt_93 rfl (lv_at hl 1 rfl) ?_
              refine lv_aload_n hx hb d_M_noteAt_94 rfl (lv_at hl 0 rfl) ?_
              refine m_get (D := G) (ci := 6) (v := .int no) (C := nR_M) (T := nT_M) (N := 21) hx hb hta in_M hown hK hM mp_11.1 rfl 1 (by decide) (hta _ aw_544) (fun _ h9 => h9) rfl d_M_noteAt_95 ?_
              refine vp_callSi (W.runV (As := [.int x1, .int no]) (rest := []) ⟨hx, hb, hml, hown, hta⟩ (k_M_value_x l G q0 q1 cI ty2 w_10 mp_11.1 mp_11.2 hk ek x1.toNatClampNeg (by omega) no x1 hj.1) (cV 2 hta aw_674 aw_5 aw_671 aw_673 as_SceneTimesModel_value rfl rfl (by decide +kernel) ⟨Nat.le_of_ble_eq_true rfl, Nat.le_of_ble_eq_true rfl⟩) (pW_V hK hM rfl mp_11.1) rfl rfl hl.1 rfl (lv_room (Nat.le_of_ble_eq_true rfl)) d_M_noteAt_98 ⟨Nat.le_of_ble_eq_true rfl, Nat.le_of_ble_eq_true rfl⟩) (fun r_19 hr_19 => ?_)
              refine lv_goto (tgt := 110) hx hb d_M_noteAt_101 (by decide) ?_
              exact W.iret (v := r_19) hx hb hr (fun t ht hW => ⟨⟨r_19, w_10, rfl, (by subst eb1; exact ⟨fun q => absurd hc q, fun _ => ⟨(by rw [hr_19]; simp only [c_15, c_16, c_17, c_18, not_true_eq_false, not_false_eq_true, and_true, and_false, true_and, false_and, and_self, or_self, or_true, true_or, or_false, false_or, ↓reduceIte, ds]), (by have q := mp_11; rw [hc] at q; exact q)⟩⟩), by rw [ht]; exact hM, va_K.moved hW.alike hK⟩, hS.F ht⟩) hS.2.2 d_M_noteAt_110
          · refine lv_aload_n hx hb d_M_noteAt_67 rfl (lv_at hl 0 rfl) ?_
            refine lv_iload_n hx hb d_M_noteAt_68 rfl (lv_at hl 1 rfl) ?_
            refine lv_aload_n hx hb d_M_noteAt_69 rfl (lv_at hl 0 rfl) ?_
            refine m_get (D := G) (ci := 6) (v := .int no) (C := nR_M) (T := nT_M) (N := 21) hx hb hta in_M hown hK hM mp_11.1 rfl 1 (by decide) (hta _ aw_544) (fun _ h9 => h9) rfl d_M_noteAt_70 ?_
            refine vp_callSi (W.runV (As := [.int x1, .int no]) (rest := []) ⟨hx, hb, hml, hown, hta⟩ (k_M_isStruck_x l G q0 q1 cI ty2 w_10 mp_11.1 mp_11.2 hk ek x1.toNatClampNeg no x1 hj.1) (cV 2 hta aw_642 aw_5 aw_639 aw_641 as_SceneTimesModel_isStruck rfl rfl (by decide +kernel) ⟨Nat.le_of_ble_eq_true rfl, Nat.le_of_ble_eq_true rfl⟩) (pW_V hK hM rfl mp_11.1) rfl rfl hl.1 rfl (lv_room (Nat.le_of_ble_eq_true rfl)) d_M_noteAt_73 ⟨Nat.le_of_ble_eq_true rfl, Nat.le_of_ble_eq_true rfl⟩) (fun r_20 hr_20 => ?_)
            refine lv_if_eq (tgt := 83) hx hb d_M_noteAt_76 (by decide) (fun c_21 => ?_) (fun c_21 => ?_)
            · rw [hr_20] at c_21
              refine lv_iconst (v := 0) hx hb d_M_noteAt_83 (by decide) ?_
              refine lv_goto (tgt := 110) hx hb d_M_noteAt_84 (by decide) ?_
              exact W.iret (v := 0) hx hb hr (fun t ht hW => ⟨⟨0, w_10, rfl, (by subst eb1; exact ⟨fun q => absurd hc q, fun _ => ⟨(by simp only [c_15, c_16, c_17, c_21, not_true_eq_false, not_false_eq_true, and_true, and_false, true_and, false_and, and_self, or_self, or_true, true_or, or_false, false_or, ↓reduceIte, ds]), (by have q := mp_11; rw [hc] at q; exact q)⟩⟩), by rw [ht]; exact hM, va_K.moved hW.alike hK⟩, hS.F ht⟩) hS.2.2 d_M_noteAt_110
            · rw [hr_20] at c_21
              refine lv_iconst (v := 1) hx hb d_M_noteAt_79 (by decide) ?_
              refine lv_goto (tgt := 110) hx hb d_M_noteAt_80 (by decide) ?_
              exact W.iret (v := 1) hx hb hr (fun t ht hW => ⟨⟨1, w_10, rfl, (by subst eb1; exact ⟨fun q => absurd hc q, fun _ => ⟨(by simp only [c_15, c_16, c_17, c_21, not_true_eq_false, not_false_eq_true, and_true, and_false, true_and, false_and, and_self, or_self, or_true, true_or, or_false, false_or, ↓reduceIte, ds]), (by have q := mp_11; rw [hc] at q; exact q)⟩⟩), by rw [ht]; exact hM, va_K.moved hW.alike hK⟩, hS.F ht⟩) hS.2.2 d_M_noteAt_110
        · refine lv_aload_n hx hb d_M_noteAt_53 rfl (lv_at hl 0 rfl) ?_
          refine lv_iload_n hx hb d_M_noteAt_54 rfl (lv_at hl 1 rfl) ?_
          refine lv_iconst (v := 1) hx hb d_M_noteAt_55 (by decide) ?_
          refine vp_callSi (W.runV (As := [.int x1, .int 1]) (rest := []) ⟨hx, hb, hml, hown, hta⟩ (k_M_many_x l G q0 q1 cI ty2 w_10 mp_11.1 mp_11.2 hk ek x1.toNatClampNeg 1 x1 hj.1) (cV 2 hta aw_650 aw_5 aw_647 aw_649 as_SceneTimesModel_many rfl rfl (by decide +kernel) ⟨Nat.le_of_ble_eq_true rfl, Nat.le_of_ble_eq_true rfl⟩) (pW_V hK hM rfl mp_11.1) rfl rfl hl.1 rfl (lv_room (Nat.le_of_ble_eq_true rfl)) d_M_noteAt_56 ⟨Nat.le_of_ble_eq_true rfl, Nat.le_of_ble_eq_true rfl⟩) (fun r_22 hr_22 => ?_)
          refine lv_goto (tgt := 110) hx hb d_M_noteAt_59 (by decide) ?_
          exact W.iret (v := r_22) hx hb hr (fun t ht hW => ⟨⟨r_22, w_10, rfl, (by subst eb1; exact ⟨fun q => absurd hc q, fun _ => ⟨(by rw [hr_22]; simp only [c_15, c_16, not_true_eq_false, not_false_eq_true, and_true, and_false, true_and, false_and, and_self, or_self, or_true, true_or, or_false, false_or, ↓reduceIte, ds]), (by have q := mp_11; rw [hc] at q; exact q)⟩⟩), by rw [ht]; exact hM, va_K.moved hW.alike hK⟩, hS.F ht⟩) hS.2.2 d_M_noteAt_110
      · refine lv_aload_n hx hb d_M_noteAt_39 rfl (lv_at hl 0 rfl) ?_
        refine m_get (D := G) (ci := 6) (v := .ref (ad 5)) (C := nR_M) (T := nT_M) (N := 21) hx hb hta in_M hown hK hM mp_11.1 rfl 9 (by decide) (hta _ aw_552) (fun _ h9 => h9) rfl d_M_noteAt_40 ?_
        refine lv_iload_n hx hb d_M_noteAt_43 rfl (lv_at hl 1 rfl) ?_
        refine m_iald hx hb hK hM 2 k_12 rfl (by rw [hj.1]; exact vp_in_nI (by omega) (by omega)) d_M_noteAt_44 ?_
        refine lv_goto (tgt := 110) hx hb d_M_noteAt_45 (by decide) ?_
        exact W.iret (v := (f 5) x1.toNatClampNeg) hx hb hr (fun t ht hW => ⟨⟨(f 5) x1.toNatClampNeg, w_10, rfl, (by subst eb1; exact ⟨fun q => absurd hc q, fun _ => ⟨(by simp only [c_15, not_true_eq_false, not_false_eq_true, and_true, and_false, true_and, false_and, and_self, or_self, or_true, true_or, or_false, false_or, ↓reduceIte, ds]), (by have q := mp_11; rw [hc] at q; exact q)⟩⟩), by rw [ht]; exact hM, va_K.moved hW.alike hK⟩, hS.F ht⟩) hS.2.2 d_M_noteAt_110
    · have hc := go_f hr_9 c_14
      refine lv_iconst (v := 0) hx hb d_M_noteAt_33 (by decide) ?_
      exact W.iret (v := 0) hx hb hr (fun t ht hW => ⟨⟨0, w_10, rfl, (by subst eb1; exact ⟨fun _ => mp_11, fun q => absurd q hc⟩), by rw [ht]; exact hM, va_K.moved hW.alike hK⟩, hS.F ht⟩) hS.2.2 d_M_noteAt_34
  refine lv_aload_n hx hb d_M_noteAt_0 rfl (lv_at hl 0 rfl) ?_
  refine lv_iconst (v := 1) hx hb d_M_noteAt_1 (by decide) ?_
  refine lv_aload_n hx hb d_M_noteAt_2 rfl (lv_at hl 0 rfl) ?_
  refine lv_iload_n hx hb d_M_noteAt_3 rfl (lv_at hl 1 rfl) ?_
  refine vp_callSi (W.runV (As := [.int x1]) (rest := [.int 1, .ref mm]) ⟨hx, hb, hml, hown, hta⟩ (k_M_isNote l G q0 q1 cI ty2 w hmp.1 hmp.2 x1) (cV 1 hta aw_638 aw_5 aw_635 aw_637 as_SceneTimesModel_isNote rfl rfl (by decide +kernel) ⟨Nat.le_of_ble_eq_true rfl, Nat.le_of_ble_eq_true rfl⟩) (pW_V hK hM rfl hmp.1) rfl rfl hl.1 rfl (lv_room (Nat.le_of_ble_eq_true rfl)) d_M_noteAt_4 ⟨Nat.le_of_ble_eq_true rfl, Nat.le_of_ble_eq_true rfl⟩) (fun r_1 hr_1 => ?_)
  refine lv_if_eq (tgt := 23) hx hb d_M_noteAt_7 (by decide) (fun c_2 => ?_) (fun c_2 => ?_)
  · have p_3 := b1_f hr_1 c_2
    refine lv_iconst (v := 0) hx hb d_M_noteAt_23 (by decide) ?_
    exact j24  0 ls  (by simp only [p_3, not_true_eq_false, not_false_eq_true, and_true, and_false, true_and, false_and, and_self, or_self, or_true, true_or, or_false, false_or, ↓reduceIte]) (lv_sub hl [0, 1, 2] rfl)
  · have p_4 := b1_t hr_1 c_2
    refine lv_iload_n hx hb d_M_noteAt_10 rfl (lv_at hl 2 rfl) ?_
    refine lv_iconst (v := 0) hx hb d_M_noteAt_11 (by decide) ?_
    refine lv_iconst (v := 4) hx hb d_M_noteAt_12 (by decide) ?_
    refine vp_callSi (W.runS (As := [.int x2, .int 0, .int 4]) (rest := [.int 1, .ref mm]) ⟨hx, hb, hml, hown, hta⟩ (k_M_in l x2 0 4) (cS 3 hta aw_626 aw_5 aw_624 aw_625 rfl rfl (by decide +kernel) ⟨Nat.le_of_ble_eq_true rfl, Nat.le_of_ble_eq_true rfl⟩) ⟨fun a U g mk q => q, fun U hU hW => ⟨rfl, trivial⟩⟩ rfl rfl hl.1 rfl (lv_room (Nat.le_of_ble_eq_true rfl)) d_M_noteAt_13 ⟨Nat.le_of_ble_eq_true rfl, Nat.le_of_ble_eq_true rfl⟩) (fun r_5 hr_5 => ?_)
    refine lv_if_eq (tgt := 23) hx hb d_M_noteAt_16 (by decide) (fun c_6 => ?_) (fun c_6 => ?_)
    · have p_7 := b1_f hr_5 c_6
      refine lv_iconst (v := 0) hx hb d_M_noteAt_23 (by decide) ?_
      exact j24  0 ls  (by simp only [p_4, p_7, not_true_eq_false, not_false_eq_true, and_true, and_false, true_and, false_and, and_self, or_self, or_true, true_or, or_false, false_or, ↓reduceIte]) (lv_sub hl [0, 1, 2] rfl)
    · have p_8 := b1_t hr_5 c_6
      refine lv_iconst (v := 1) hx hb d_M_noteAt_19 (by decide) ?_
      refine lv_goto (tgt := 24) hx hb d_M_noteAt_20 (by decide) ?_
      exact j24  1 ls  (by simp only [p_4, p_8, not_true_eq_false, not_false_eq_true, and_true, and_false, true_and, false_and, and_self, or_self, or_true, true_or, or_false, false_or, ↓reduceIte]) (lv_sub hl [0, 1, 2] rfl)
set_option maxHeartbeats 4000000 in
set_option maxRecDepth 100000 in
theorem k_M_digest (l : Launch) (G : va_G) (q0 q1 : ClassId × FieldType) (cI : ClassId) (ty2 : List (ClassId × FieldType)) (w : Nat → Option va_E) {mm : Nat} {ad : Nat → Nat} (had : ∀ i j, i < 12 → j < 12 → ad i = ad j → i = j) {f : Nat → Nat → Int32} {th no wr n k z r so pr : Int32} (hmp : mPic w mm cI ad f th no wr n k z r so pr) {ka nn : Nat} (hk : ka ≤ 200) (ek : k = nI ka) (hn : nn ≤ 100) (en : n = nI nn) (x1 : Int32) (sz : Nat) : Met l y_M_digest (wm y_M_digest c_M_digest 4 (some .int)) ({ frames := 2, cells := 0, slots := 0, locals := 43 }) (pZ G (q0 :: q1 :: (cI, .int) :: ty2) w sz [.ref mm, .int x1]) (va_Qi (fun (r0 : Int32) (u : Nat → Option va_E) => (¬ gC (if ¬ x1 < 0 ∧ ¬ n - 1 < x1 then 1 else 0) 1 1 1 = 0 → mPic u mm cI ad f (nI (gT 1 (gC (if ¬ x1 < 0 ∧ ¬ n - 1 < x1 then 1 else 0) 1 1 1))) no wr n k z r so pr) ∧ (gC (if ¬ x1 < 0 ∧ ¬ n - 1 < x1 then 1 else 0) 1 1 1 = 0 → r0 = digM f x1.toNatClampNeg ka ∧ mPic u mm cI ad f 0 no wr n k z r so pr)) (fun w2 t => mw G ncl (mA w sz) w2 t.heap ∧ va_K G ncl (q0 :: q1 :: (cI, .int) :: ty2) t) (mA w sz)) 0 0 (mA w sz) := by
  refine Met.ofW (cc := c_M_digest) (maxL := 4) (ret := (some .int)) (by decide) rfl ?_
  intro p e s m args below meth c s₁ B hml hv
  obtain ⟨rfl, hsz, hM0, hK⟩ := hv
  have hx := B.exec
  have hb := B.bytes
  have hr := B.returns
  have hts := atoms_spec (ws := (wm y_M_digest c_M_digest 4 (some .int))) B.pre
  have hta : ∀ w ∈ AL, w.before _ s = true := fun w h => hts w (List.mem_cons_of_mem _ h)
  have hown : s.vm.findClass nR_M = some m.cls := findClass_of_methodNamed B.named
  have hlocks := B.notSynchronized
  have hl := lv_entry ([.ref mm, .int x1]) (n := 4) (Nat.le_of_ble_eq_true rfl)
  rw [lg_entry_eq]
  generalize (lg_sl ([.ref mm, .int x1]) ++ List.replicate (4 - (lg_sl ([.ref mm, .int x1])).length) Slot.unset).toArray = ls at hl ⊢
  have hl : lv_has ls 4 [(0, .ref mm), (1, .int x1)] := hl
  subst hsz
  have hM := mw_self (sz := s.heap.size) hM0
  clear hM0
  generalize hAe : mA w s.heap.size = A at hM ⊢
  have hA : ∀ q : Nat, s.heap.size ≤ q → A q := fun q h => by rw [← hAe]; exact Or.inr h
  have hS : va_S A s.heap s.heap [] := va_S.rf
  have j7 : ∀ (b1 : Int32) (ls : Array Slot), b1 = (if ¬ x1 < 0 ∧ ¬ n - 1 < x1 then 1 else 0) → lv_has ls 4 [(0, .ref mm), (1, .int x1)] → W p l e (headSpec (wm y_M_digest c_M_digest 4 (some .int)) ({ frames := 2, cells := 0, slots := 0, locals := 43 })).room s m ([.ref mm, .int x1] : List Value).toArray below meth c s.heap [] 0 0 (MQ below (va_Qi (fun (r0 : Int32) (u : Nat → Option va_E) => (¬ gC (if ¬ x1 < 0 ∧ ¬ n - 1 < x1 then 1 else 0) 1 1 1 = 0 → mPic u mm cI ad f (nI (gT 1 (gC (if ¬ x1 < 0 ∧ ¬ n - 1 < x1 then 1 else 0) 1 1 1))) no wr n k z r so pr) ∧ (gC (if ¬ x1 < 0 ∧ ¬ n - 1 < x1 then 1 else 0) 1 1 1 = 0 → r0 = digM f x1.toNatClampNeg ka ∧ mPic u mm cI ad f 0 no wr n k z r so pr)) (fun w2 t => mw G ncl A w2 t.heap ∧ va_K G ncl (q0 :: q1 :: (cI, .int) :: ty2) t) A) ([.ref mm, .int x1] : List Value).toArray s 0 0 A) (F0 m 7 ls [.int b1, .int 1, .ref mm]) := by
    intro b1 ls eb1 hl
    refine lv_iconst (v := 1) hx hb d_M_digest_7 (by decide) ?_
    refine lv_iconst (v := 1) hx hb d_M_digest_8 (by decide) ?_
    refine lv_iconst (v := 1) hx hb d_M_digest_9 (by decide) ?_
    have hF := mw_free hM hS hA
    refine va_calli (va_runV (As := [.int 1, .int b1, .int 1, .int 1, .int 1]) (rest := []) ⟨hx, hb, hml, hown, hta⟩ (k_M_goes_1 l G q0 q1 cI ty2 w hmp.1 hmp.2 b1 1 1 1 _) (cV 5 hta aw_619 aw_5 aw_616 aw_618 as_SceneTimesModel_goes rfl rfl (by decide +kernel) ⟨Nat.le_of_ble_eq_true rfl, Nat.le_of_ble_eq_true rfl⟩) (pZ_V hK hM rfl hmp.1) rfl rfl hl.1 rfl (lv_room (Nat.le_of_ble_eq_true rfl)) d_M_digest_10 ⟨Nat.le_of_ble_eq_true rfl, Nat.le_of_ble_eq_true rfl⟩) hS (fun q _ h => hF q h) hF (fun r_2 u_r_2 t H locs ht hvm hr_2 hB hz1 hk1 hS => ?_)
    obtain ⟨hM1, hK1⟩ := hB
    rw [ht] at hM1
    have hM := mw_weaken hM1 hF
    clear hM1 hK1 hF hk1 hz1
    obtain ⟨w_3, hw_3⟩ : ∃ z9 : Nat → Option va_E, z9 = va_up w mm (some (.inr (6, [.int (nI (gT 1 (gC b1 1 1 1))), .int no, .int wr, .int n, .ref (ad 0), .ref (ad 1), .ref (ad 2), .ref (ad 3), .ref (ad 4), .ref (ad 5), .int k, .ref (ad 6), .ref (ad 7), .ref (ad 8), .ref (ad 9), .int z, .int r, .int so, .ref (ad 10), .int pr, .ref (ad 11)]))) := ⟨_, rfl⟩
    rw [← hw_3] at hM
    have mp_4 : mPic w_3 mm cI ad f (nI (gT 1 (gC b1 1 1 1))) no wr n k z r so pr := by rw [hw_3]; exact mp_obj hmp (nI (gT 1 (gC b1 1 1 1))) no wr n k z r so pr
    have k_5 : w_3 (ad 0) = some (aI cI 100 (f 0)) := mp_4.2 0 (by decide)
    have k_6 : w_3 (ad 1) = some (aI cI 100 (f 1)) := mp_4.2 1 (by decide)
    have k_7 : w_3 (ad 2) = some (aI cI 100 (f 2)) := mp_4.2 2 (by decide)
    have k_8 : w_3 (ad 3) = some (aI cI 100 (f 3)) := mp_4.2 3 (by decide)
    have k_9 : w_3 (ad 4) = some (aI cI 100 (f 4)) := mp_4.2 4 (by decide)
    have k_10 : w_3 (ad 6) = some (aI cI 200 (f 6)) := mp_4.2 6 (by decide)
    have k_11 : w_3 (ad 7) = some (aI cI 200 (f 7)) := mp_4.2 7 (by decide)
    have k_12 : w_3 (ad 8) = some (aI cI 200 (f 8)) := mp_4.2 8 (by decide)
    refine lv_if_ne (tgt := 18) hx hb d_M_digest_13 (by decide) (fun c_13 => ?_) (fun c_13 => ?_)
    · have hc := go_t hr_2 c_13
      have hj := isN en hn (i1_t (by have q := (gC_room hc).1; rw [eb1] at q; exact q))
      have hj2 := hj.2
      refine lv_bipush (v := 7) hx hb d_M_digest_18 (by decide) ?_
      refine lv_aload_n hx hb d_M_digest_20 rfl (lv_at hl 0 rfl) ?_
      refine m_get (D := G) (ci := 6) (v := .ref (ad 0)) (C := nR_M) (T := nT_M) (N := 21) hx hb hta in_M hown hK hM mp_4.1 rfl 4 (by decide) (hta _ aw_547) (fun _ h9 => h9) rfl d_M_digest_21 ?_
      refine lv_iload_n hx hb d_M_digest_24 rfl (lv_at hl 1 rfl) ?_
      refine m_iald hx hb hK hM 2 k_5 rfl (by rw [hj.1]; exact vp_in_nI (by omega) (by omega)) d_M_digest_25 ?_
      refine vp_callSi (W.runS (As := [.int 7, .int ((f 0) x1.toNatClampNeg)]) (rest := []) ⟨hx, hb, hml, hown, hta⟩ (k_M_mix l 7 ((f 0) x1.toNatClampNeg)) (cS 2 hta aw_693 aw_5 aw_691 aw_692 rfl rfl (by decide +kernel) ⟨Nat.le_of_ble_eq_true rfl, Nat.le_of_ble_eq_true rfl⟩) ⟨fun a U g mk q => q, fun U hU hW => ⟨rfl, trivial⟩⟩ rfl rfl hl.1 rfl (lv_room (Nat.le_of_ble_eq_true rfl)) d_M_digest_26 ⟨Nat.le_of_ble_eq_true rfl, Nat.le_of_ble_eq_true rfl⟩) (fun r_14 hr_14 => ?_)
      refine lv_aload_n hx hb d_M_digest_29 rfl (lv_at hl 0 rfl) ?_
      refine m_get (D := G) (ci := 6) (v := .ref (ad 1)) (C := nR_M) (T := nT_M) (N := 21) hx hb hta in_M hown hK hM mp_4.1 rfl 5 (by decide) (hta _ aw_548) (fun _ h9 => h9) rfl d_M_digest_30 ?_
      refine lv_iload_n hx hb d_M_digest_33 rfl (lv_at hl 1 rfl) ?_
      refine m_iald hx hb hK hM 2 k_6 rfl (by rw [hj.1]; exact vp_in_nI (by omega) (by omega)) d_M_digest_34 ?_
      refine vp_callSi (W.runS (As := [.int r_14, .int ((f 1) x1.toNatClampNeg)]) (rest := []) ⟨hx, hb, hml, hown, hta⟩ (k_M_mix l r_14 ((f 1) x1.toNatClampNeg)) (cS 2 hta aw_693 aw_5 aw_691 aw_692 rfl rfl (by decide +kernel) ⟨Nat.le_of_ble_eq_true rfl, Nat.le_of_ble_eq_true rfl⟩) ⟨fun a U g mk q => q, fun U hU hW => ⟨rfl, trivial⟩⟩ rfl rfl hl.1 rfl (lv_room (Nat.le_of_ble_eq_true rfl)) d_M_digest_35 ⟨Nat.le_of_ble_eq_true rfl, Nat.le_of_ble_eq_true rfl⟩) (fun r_15 hr_15 => ?_)
      refine lv_aload_n hx hb d_M_digest_38 rfl (lv_at hl 0 rfl) ?_
      refine m_get (D := G) (ci := 6) (v := .ref (ad 2)) (C := nR_M) (T := nT_M) (N := 21) hx hb hta in_M hown hK hM mp_4.1 rfl 6 (by decide) (hta _ aw_549) (fun _ h9 => h9) rfl d_M_digest_39 ?_
      refine lv_iload_n hx hb d_M_digest_42 rfl (lv_at hl 1 rfl) ?_
      refine m_iald hx hb hK hM 2 k_7 rfl (by rw [hj.1]; exact vp_in_nI (by omega) (by omega)) d_M_digest_43 ?_
      refine vp_callSi (W.runS (As := [.int r_15, .int ((f 2) x1.toNatClampNeg)]) (rest := []) ⟨hx, hb, hml, hown, hta⟩ (k_M_mix l r_15 ((f 2) x1.toNatClampNeg)) (cS 2 hta aw_693 aw_5 aw_691 aw_692 rfl rfl (by decide +kernel) ⟨Nat.le_of_ble_eq_true rfl, Nat.le_of_ble_eq_true rfl⟩) ⟨fun a U g mk q => q, fun U hU hW => ⟨rfl, trivial⟩⟩ rfl rfl hl.1 rfl (lv_room (Nat.le_of_ble_eq_true rfl)) d_M_digest_44 ⟨Nat.le_of_ble_eq_true rfl, Nat.le_of_ble_eq_true rfl⟩) (fun r_16 hr_16 => ?_)
      refine lv_aload_n hx hb d_M_digest_47 rfl (lv_at hl 0 rfl) ?_
      refine m_get (D := G) (ci := 6) (v := .ref (ad 3)) (C := nR_M) (T := nT_M) (N := 21) hx hb hta in_M hown hK hM mp_4.1 rfl 7 (by decide) (hta _ aw_550) (fun _ h9 => h9) rfl d_M_digest_48 ?_
      refine lv_iload_n hx hb d_M_digest_51 rfl (lv_at hl 1 rfl) ?_
      refine m_iald hx hb hK hM 2 k_8 rfl (by rw [hj.1]; exact vp_in_nI (by omega) (by omega)) d_M_digest_52 ?_
      refine vp_callSi (W.runS (As := [.int r_16, .int ((f 3) x1.toNatClampNeg)]) (rest := []) ⟨hx, hb, hml, hown, hta⟩ (k_M_mix l r_16 ((f 3) x1.toNatClampNeg)) (cS 2 hta aw_693 aw_5 aw_691 aw_692 rfl rfl (by decide +kernel) ⟨Nat.le_of_ble_eq_true rfl, Nat.le_of_ble_eq_true rfl⟩) ⟨fun a U g mk q => q, fun U hU hW => ⟨rfl, trivial⟩⟩ rfl rfl hl.1 rfl (lv_room (Nat.le_of_ble_eq_true rfl)) d_M_digest_53 ⟨Nat.le_of_ble_eq_true rfl, Nat.le_of_ble_eq_true rfl⟩) (fun r_17 hr_17 => ?_)
      refine lv_aload_n hx hb d_M_digest_56 rfl (lv_at hl 0 rfl) ?_
      refine m_get (D := G) (ci := 6) (v := .ref (ad 4)) (C := nR_M) (T := nT_M) (N := 21) hx hb hta in_M hown hK hM mp_4.1 rfl 8 (by decide) (hta _ aw_551) (fun _ h9 => h9) rfl d_M_digest_57 ?_
      refine lv_iload_n hx hb d_M_digest_60 rfl (lv_at hl 1 rfl) ?_
      refine m_iald hx hb hK hM 2 k_9 rfl (by rw [hj.1]; exact vp_in_nI (by omega) (by omega)) d_M_digest_61 ?_
      refine vp_callSi (W.runS (As := [.int r_17, .int ((f 4) x1.toNatClampNeg)]) (rest := []) ⟨hx, hb, hml, hown, hta⟩ (k_M_mix l r_17 ((f 4) x1.toNatClampNeg)) (cS 2 hta aw_693 aw_5 aw_691 aw_692 rfl rfl (by decide +kernel) ⟨Nat.le_of_ble_eq_true rfl, Nat.le_of_ble_eq_true rfl⟩) ⟨fun a U g mk q => q, fun U hU hW => ⟨rfl, trivial⟩⟩ rfl rfl hl.1 rfl (lv_room (Nat.le_of_ble_eq_true rfl)) d_M_digest_62 ⟨Nat.le_of_ble_eq_true rfl, Nat.le_of_ble_eq_true rfl⟩) (fun r_18 hr_18 => ?_)
      refine lv_istore_n (lv' := [(2, .int r_18), (0, .ref mm), (1, .int x1)]) hx hb d_M_digest_65 rfl hl (by decide) rfl (fun ls hl => ?_)
      refine lv_iconst (v := 0) hx hb d_M_digest_66 (by decide) ?_
      refine lv_istore_n (lv' := [(3, .int 0), (2, .int r_18), (0, .ref mm), (1, .int x1)]) hx hb d_M_digest_67 rfl hl (by decide) rfl (fun ls hl => ?_)
      have loop : ∀ (m9 a : Nat) (y2 y3 : Int32) (ls : Array Slot), a + m9 = ka → y2 = digM f x1.toNatClampNeg a → y3 = nI a → lv_has ls 4 [(0, .ref mm), (1, .int x1), (2, .int y2), (3, .int y3)] → W p l e (headSpec (wm y_M_digest c_M_digest 4 (some .int)) ({ frames := 2, cells := 0, slots := 0, locals := 43 })).room s m ([.ref mm, .int x1] : List Value).toArray below meth c H locs 0 0 (MQ below (va_Qi (fun (r0 : Int32) (u : Nat → Option va_E) => (¬ gC (if ¬ x1 < 0 ∧ ¬ n - 1 < x1 then 1 else 0) 1 1 1 = 0 → mPic u mm cI ad f (nI (gT 1 (gC (if ¬ x1 < 0 ∧ ¬ n - 1 < x1 then 1 else 0) 1 1 1))) no wr n k z r so pr) ∧ (gC (if ¬ x1 < 0 ∧ ¬ n - 1 < x1 then 1 else 0) 1 1 1 = 0 → r0 = digM f x1.toNatClampNeg ka ∧ mPic u mm cI ad f 0 no wr n k z r so pr)) (fun w2 t => mw G ncl A w2 t.heap ∧ va_K G ncl (q0 :: q1 :: (cI, .int) :: ty2) t) A) ([.ref mm, .int x1] : List Value).toArray s 0 0 A) (F0 m 68 ls []) := by
        intro m9
        induction m9 with
        | zero =>
          intro a y2 y3 ls hi e2 e3 hl
          refine lv_iload_n hx hb d_M_digest_68 rfl (lv_at hl 3 rfl) ?_
          refine lv_aload_n hx hb d_M_digest_69 rfl (lv_at hl 0 rfl) ?_
          refine m_get (D := G) (ci := 6) (v := .int k) (C := nR_M) (T := nT_M) (N := 21) hx hb hta in_M hown hK hM mp_4.1 rfl 10 (by decide) (hta _ aw_553) (fun _ h9 => h9) rfl d_M_digest_70 ?_
          refine lv_icmp_ge (tgt := 113) hx hb d_M_digest_73 (by decide) (fun c_69 => ?_) (fun c_69 => absurd (by rw [e3, ek]; exact nI_le (by omega) (by omega)) c_69)
          refine lv_iload_n hx hb d_M_digest_113 rfl (lv_at hl 2 rfl) ?_
          exact W.iret (v := y2) hx hb hr (fun t ht hW => ⟨⟨y2, w_3, rfl, (by subst eb1; exact ⟨fun q => absurd hc q, fun _ => ⟨by rw [e2, show a = ka by omega], (by have q := mp_4; rw [hc] at q; exact q)⟩⟩), by rw [ht]; exact hM, va_K.moved hW.alike hK⟩, hS.F ht⟩) hS.2.2 d_M_digest_114
        | succ m9 ih =>
          intro a y2 y3 ls hi e2 e3 hl
          refine lv_iload_n hx hb d_M_digest_68 rfl (lv_at hl 3 rfl) ?_
          refine lv_aload_n hx hb d_M_digest_69 rfl (lv_at hl 0 rfl) ?_
          refine m_get (D := G) (ci := 6) (v := .int k) (C := nR_M) (T := nT_M) (N := 21) hx hb hta in_M hown hK hM mp_4.1 rfl 10 (by decide) (hta _ aw_553) (fun _ h9 => h9) rfl d_M_digest_70 ?_
          refine lv_icmp_ge (tgt := 113) hx hb d_M_digest_73 (by decide) (fun c_120 => absurd c_120 (by rw [e3, ek]; exact nI_ge (by omega) (by omega))) (fun c_120 => ?_)
          refine lv_aload_n hx hb d_M_digest_76 rfl (lv_at hl 0 rfl) ?_
          refine m_get (D := G) (ci := 6) (v := .ref (ad 6)) (C := nR_M) (T := nT_M) (N := 21) hx hb hta in_M hown hK hM mp_4.1 rfl 11 (by decide) (hta _ aw_554) (fun _ h9 => h9) rfl d_M_digest_77 ?_
          refine lv_iload_n hx hb d_M_digest_80 rfl (lv_at hl 3 rfl) ?_
          refine m_ialv hx hb hK hM 2 k_10 rfl (by rw [e3]; exact vp_in_nI (by omega) (by omega)) (v := f 6 a) (by rw [e3, nI_clamp (by omega)]) d_M_digest_81 ?_
          refine lv_iload_n hx hb d_M_digest_82 rfl (lv_at hl 1 rfl) ?_
          refine lv_icmp_ne (tgt := 107) hx hb d_M_digest_83 (by decide) (fun c_121 => ?_) (fun c_121 => ?_)
          · obtain ⟨x_122, ex_122⟩ : ∃ y : Int32, y = y3 + 1 := ⟨_, rfl⟩
            refine lv_iinc (v := x_122) (lv' := [(3, .int x_122), (0, .ref mm), (1, .int x1), (2, .int y2)]) hx hb d_M_digest_107 hl (k := 3) rfl (by rw [ex_122]; rfl) (by decide) rfl (fun ls hl => ?_)
            refine lv_goto (tgt := 68) hx hb d_M_digest_110 (by decide) ?_
            exact ih (a + 1) y2 x_122 ls (by omega) (by rw [digM, ← hj.1, e2]; simp only [c_121, not_true_eq_false, not_false_eq_true, and_true, and_false, true_and, false_and, and_self, or_self, or_true, true_or, or_false, false_or, ↓reduceIte, ds]) (by rw [ex_122, e3, nI_1]) (lv_sub hl [1, 2, 3, 0] rfl)
          · refine lv_aload_n hx hb d_M_digest_86 rfl (lv_at hl 0 rfl) ?_
            refine m_get (D := G) (ci := 6) (v := .ref (ad 7)) (C := nR_M) (T := nT_M) (N := 21) hx hb hta in_M hown hK hM mp_4.1 rfl 12 (by decide) (hta _ aw_555) (fun _ h9 => h9) rfl d_M_digest_87 ?_
            refine lv_iload_n hx hb d_M_digest_90 rfl (lv_at hl 3 rfl) ?_
            refine m_ialv hx hb hK hM 2 k_11 rfl (by rw [e3]; exact vp_in_nI (by omega) (by omega)) (v := f 7 a) (by rw [e3, nI_clamp (by omega)]) d_M_digest_91 ?_
            refine lv_iconst (v := 2) hx hb d_M_digest_92 (by decide) ?_
            refine lv_icmp_ne (tgt := 107) hx hb d_M_digest_93 (by decide) (fun c_123 => ?_) (fun c_123 => ?_)
            · obtain ⟨x_124, ex_124⟩ : ∃ y : Int32, y = y3 + 1 := ⟨_, rfl⟩
              refine lv_iinc (v := x_124) (lv' := [(3, .int x_124), (0, .ref mm), (1, .int x1), (2, .int y2)]) hx hb d_M_digest_107 hl (k := 3) rfl (by rw [ex_124]; rfl) (by decide) rfl (fun ls hl => ?_)
              refine lv_goto (tgt := 68) hx hb d_M_digest_110 (by decide) ?_
              exact ih (a + 1) y2 x_124 ls (by omega) (by rw [digM, ← hj.1, e2]; simp only [c_121, c_123, not_true_eq_false, not_false_eq_true, and_true, and_false, true_and, false_and, and_self, or_self, or_true, true_or, or_false, false_or, ↓reduceIte, ds]) (by rw [ex_124, e3, nI_1]) (lv_sub hl [1, 2, 3, 0] rfl)
            · refine lv_iload_n hx hb d_M_digest_96 rfl (lv_at hl 2 rfl) ?_
              refine lv_aload_n hx hb d_M_digest_97 rfl (lv_at hl 0 rfl) ?_
              refine m_get (D := G) (ci := 6) (v := .ref (ad 8)) (C := nR_M) (T := nT_M) (N := 21) hx hb hta in_M hown hK hM mp_4.1 rfl 13 (by decide) (hta _ aw_556) (fun _ h9 => h9) rfl d_M_digest_98 ?_
              refine lv_iload_n hx hb d_M_digest_101 rfl (lv_at hl 3 rfl) ?_
              refine m_ialv hx hb hK hM 2 k_12 rfl (by rw [e3]; exact vp_in_nI (by omega) (by omega)) (v := f 8 a) (by rw [e3, nI_clamp (by omega)]) d_M_digest_102 ?_
              refine vp_callSi (W.runS (As := [.int y2, .int (f 8 a)]) (rest := []) ⟨hx, hb, hml, hown, hta⟩ (k_M_mix l y2 (f 8 a)) (cS 2 hta aw_693 aw_5 aw_691 aw_692 rfl rfl (by decide +kernel) ⟨Nat.le_of_ble_eq_true rfl, Nat.le_of_ble_eq_true rfl⟩) ⟨fun a U g mk q => q, fun U hU hW => ⟨rfl, trivial⟩⟩ rfl rfl hl.1 rfl (lv_room (Nat.le_of_ble_eq_true rfl)) d_M_digest_103 ⟨Nat.le_of_ble_eq_true rfl, Nat.le_of_ble_eq_true rfl⟩) (fun r_125 hr_125 => ?_)
              refine lv_istore_n (lv' := [(2, .int r_125), (0, .ref mm), (1, .int x1), (3, .int y3)]) hx hb d_M_digest_106 rfl hl (by decide) rfl (fun ls hl => ?_)
              obtain ⟨x_126, ex_126⟩ : ∃ y : Int32, y = y3 + 1 := ⟨_, rfl⟩
              refine lv_iinc (v := x_126) (lv' := [(3, .int x_126), (2, .int r_125), (0, .ref mm), (1, .int x1)]) hx hb d_M_digest_107 hl (k := 3) rfl (by rw [ex_126]; rfl) (by decide) rfl (fun ls hl => ?_)
              refine lv_goto (tgt := 68) hx hb d_M_digest_110 (by decide) ?_
              exact ih (a + 1) r_125 x_126 ls (by omega) (by rw [hr_125, digM, ← hj.1, e2]; simp only [c_121, c_123, not_true_eq_false, not_false_eq_true, and_true, and_false, true_and, false_and, and_self, or_self, or_true, true_or, or_false, false_or, ↓reduceIte, ds]) (by rw [ex_126, e3, nI_1]) (lv_sub hl [2, 3, 1, 0] rfl)
      exact loop ka 0 _ 0 ls (by omega) (by rw [hr_18, hr_17, hr_16, hr_15, hr_14]; rfl) rfl (lv_sub hl [2, 3, 1, 0] rfl)
    · have hc := go_f hr_2 c_13
      refine lv_iconst (v := 0) hx hb d_M_digest_16 (by decide) ?_
      exact W.iret (v := 0) hx hb hr (fun t ht hW => ⟨⟨0, w_3, rfl, (by subst eb1; exact ⟨fun _ => mp_4, fun q => absurd q hc⟩), by rw [ht]; exact hM, va_K.moved hW.alike hK⟩, hS.F ht⟩) hS.2.2 d_M_digest_17
  refine lv_aload_n hx hb d_M_digest_0 rfl (lv_at hl 0 rfl) ?_
  refine lv_iconst (v := 1) hx hb d_M_digest_1 (by decide) ?_
  refine lv_aload_n hx hb d_M_digest_2 rfl (lv_at hl 0 rfl) ?_
  refine lv_iload_n hx hb d_M_digest_3 rfl (lv_at hl 1 rfl) ?_
  refine vp_callSi (W.runV (As := [.int x1]) (rest := [.int 1, .ref mm]) ⟨hx, hb, hml, hown, hta⟩ (k_M_isNote l G q0 q1 cI ty2 w hmp.1 hmp.2 x1) (cV 1 hta aw_638 aw_5 aw_635 aw_637 as_SceneTimesModel_isNote rfl rfl (by decide +kernel) ⟨Nat.le_of_ble_eq_true rfl, Nat.le_of_ble_eq_true rfl⟩) (pW_V hK hM rfl hmp.1) rfl rfl hl.1 rfl (lv_room (Nat.le_of_ble_eq_true rfl)) d_M_digest_4 ⟨Nat.le_of_ble_eq_true rfl, Nat.le_of_ble_eq_true rfl⟩) (fun r_1 hr_1 => ?_)
  exact j7  r_1 ls  (by simp only [hr_1, not_true_eq_false, not_false_eq_true, and_true, and_false, true_and, false_and, and_self, or_self, or_true, true_or, or_false, false_or, ↓reduceIte]) (lv_sub hl [0, 1] rfl)
set_option maxHeartbeats 4000000 in
set_option maxRecDepth 100000 in
theorem k_M_count (l : Launch) (G : va_G) (q0 q1 : ClassId × FieldType) (cI : ClassId) (ty2 : List (ClassId × FieldType)) (w : Nat → Option va_E) {mm : Nat} {ad : Nat → Nat} (had : ∀ i j, i < 12 → j < 12 → ad i = ad j → i = j) {f : Nat → Nat → Int32} {th no wr n k z r so pr : Int32} (hmp : mPic w mm cI ad f th no wr n k z r so pr) {ka nn : Nat} (hk : ka ≤ 200) (ek : k = nI ka) (hn : nn ≤ 100) (en : n = nI nn) (x1 : Int32) (sz : Nat) : Met l y_M_count (wm y_M_count c_M_count 5 (some .int)) ({ frames := 1, cells := 0, slots := 0, locals := 27 }) (pZ G (q0 :: q1 :: (cI, .int) :: ty2) w sz [.ref mm, .int x1]) (va_Qi (fun (r0 : Int32) (u : Nat → Option va_E) => (¬ gC (if (¬ x1 < 0 ∧ ¬ 4 < x1) then 1 else 0) 1 1 1 = 0 → mPic u mm cI ad f (nI (gT 1 (gC (if (¬ x1 < 0 ∧ ¬ 4 < x1) then 1 else 0) 1 1 1))) no wr n k z r so pr) ∧ (gC (if (¬ x1 < 0 ∧ ¬ 4 < x1) then 1 else 0) 1 1 1 = 0 → r0 = (if x1 = 0 then wr else if x1 = 1 then n else if x1 = 2 then k else if x1 = 3 then nI (cntP (fun i => decide (¬ strM f no i ka = 0)) nn) else nI (cntP (fun i => decide (¬ f 5 i ≤ f 3 i)) nn)) ∧ mPic u mm cI ad f 0 no wr n k z r so pr)) (fun w2 t => mw G ncl (mA w sz) w2 t.heap ∧ va_K G ncl (q0 :: q1 :: (cI, .int) :: ty2) t) (mA w sz)) 0 0 (mA w sz) := by
  refine Met.ofW (cc := c_M_count) (maxL := 5) (ret := (some .int)) (by decide) rfl ?_
  intro p e s m args below meth c s₁ B hml hv
  obtain ⟨rfl, hsz, hM0, hK⟩ := hv
  have hx := B.exec
  have hb := B.bytes
  have hr := B.returns
  have hts := atoms_spec (ws := (wm y_M_count c_M_count 5 (some .int))) B.pre
  have hta : ∀ w ∈ AL, w.before _ s = true := fun w h => hts w (List.mem_cons_of_mem _ h)
  have hown : s.vm.findClass nR_M = some m.cls := findClass_of_methodNamed B.named
  have hlocks := B.notSynchronized
  have hl := lv_entry ([.ref mm, .int x1]) (n := 5) (Nat.le_of_ble_eq_true rfl)
  rw [lg_entry_eq]
  generalize (lg_sl ([.ref mm, .int x1]) ++ List.replicate (5 - (lg_sl ([.ref mm, .int x1])).length) Slot.unset).toArray = ls at hl ⊢
  have hl : lv_has ls 5 [(0, .ref mm), (1, .int x1)] := hl
  subst hsz
  have hM := mw_self (sz := s.heap.size) hM0
  clear hM0
  generalize hAe : mA w s.heap.size = A at hM ⊢
  have hA : ∀ q : Nat, s.heap.size ≤ q → A q := fun q h => by rw [← hAe]; exact Or.inr h
  have hS : va_S A s.heap s.heap [] := va_S.rf
  have j8 : ∀ (b1 : Int32) (ls : Array Slot), b1 = (if (¬ x1 < 0 ∧ ¬ 4 < x1) then 1 else 0) → lv_has ls 5 [(0, .ref mm), (1, .int x1)] → W p l e (headSpec (wm y_M_count c_M_count 5 (some .int)) ({ frames := 1, cells := 0, slots := 0, locals := 27 })).room s m ([.ref mm, .int x1] : List Value).toArray below meth c s.heap [] 0 0 (MQ below (va_Qi (fun (r0 : Int32) (u : Nat → Option va_E) => (¬ gC (if (¬ x1 < 0 ∧ ¬ 4 < x1) then 1 else 0) 1 1 1 = 0 → mPic u mm cI ad f (nI (gT 1 (gC (if (¬ x1 < 0 ∧ ¬ 4 < x1) then 1 else 0) 1 1 1))) no wr n k z r so pr) ∧ (gC (if (¬ x1 < 0 ∧ ¬ 4 < x1) then 1 else 0) 1 1 1 = 0 → r0 = (if x1 = 0 then wr else if x1 = 1 then n else if x1 = 2 then k else if x1 = 3 then nI (cntP (fun i => decide (¬ strM f no i ka = 0)) nn) else nI (cntP (fun i => decide (¬ f 5 i ≤ f 3 i)) nn)) ∧ mPic u mm cI ad f 0 no wr n k z r so pr)) (fun w2 t => mw G ncl A w2 t.heap ∧ va_K G ncl (q0 :: q1 :: (cI, .int) :: ty2) t) A) ([.ref mm, .int x1] : List Value).toArray s 0 0 A) (F0 m 8 ls [.int b1, .int 1, .ref mm]) := by
    intro b1 ls eb1 hl
    refine lv_iconst (v := 1) hx hb d_M_count_8 (by decide) ?_
    refine lv_iconst (v := 1) hx hb d_M_count_9 (by decide) ?_
    refine lv_iconst (v := 1) hx hb d_M_count_10 (by decide) ?_
    have hF := mw_free hM hS hA
    refine va_calli (va_runV (As := [.int 1, .int b1, .int 1, .int 1, .int 1]) (rest := []) ⟨hx, hb, hml, hown, hta⟩ (k_M_goes_1 l G q0 q1 cI ty2 w hmp.1 hmp.2 b1 1 1 1 _) (cV 5 hta aw_619 aw_5 aw_616 aw_618 as_SceneTimesModel_goes rfl rfl (by decide +kernel) ⟨Nat.le_of_ble_eq_true rfl, Nat.le_of_ble_eq_true rfl⟩) (pZ_V hK hM rfl hmp.1) rfl rfl hl.1 rfl (lv_room (Nat.le_of_ble_eq_true rfl)) d_M_count_11 ⟨Nat.le_of_ble_eq_true rfl, Nat.le_of_ble_eq_true rfl⟩) hS (fun q _ h => hF q h) hF (fun r_2 u_r_2 t H locs ht hvm hr_2 hB hz1 hk1 hS => ?_)
    obtain ⟨hM1, hK1⟩ := hB
    rw [ht] at hM1
    have hM := mw_weaken hM1 hF
    clear hM1 hK1 hF hk1 hz1
    obtain ⟨w_3, hw_3⟩ : ∃ z9 : Nat → Option va_E, z9 = va_up w mm (some (.inr (6, [.int (nI (gT 1 (gC b1 1 1 1))), .int no, .int wr, .int n, .ref (ad 0), .ref (ad 1), .ref (ad 2), .ref (ad 3), .ref (ad 4), .ref (ad 5), .int k, .ref (ad 6), .ref (ad 7), .ref (ad 8), .ref (ad 9), .int z, .int r, .int so, .ref (ad 10), .int pr, .ref (ad 11)]))) := ⟨_, rfl⟩
    rw [← hw_3] at hM
    have mp_4 : mPic w_3 mm cI ad f (nI (gT 1 (gC b1 1 1 1))) no wr n k z r so pr := by rw [hw_3]; exact mp_obj hmp (nI (gT 1 (gC b1 1 1 1))) no wr n k z r so pr
    have k_5 : w_3 (ad 3) = some (aI cI 100 (f 3)) := mp_4.2 3 (by decide)
    have k_6 : w_3 (ad 5) = some (aI cI 100 (f 5)) := mp_4.2 5 (by decide)
    refine lv_if_ne (tgt := 19) hx hb d_M_count_14 (by decide) (fun c_7 => ?_) (fun c_7 => ?_)
    · have hc := go_t hr_2 c_7
      refine lv_iconst (v := 0) hx hb d_M_count_19 (by decide) ?_
      refine lv_istore_n (lv' := [(2, .int 0), (0, .ref mm), (1, .int x1)]) hx hb d_M_count_20 rfl hl (by decide) rfl (fun ls hl => ?_)
      refine lv_iconst (v := 0) hx hb d_M_count_21 (by decide) ?_
      refine lv_istore_n (lv' := [(3, .int 0), (2, .int 0), (0, .ref mm), (1, .int x1)]) hx hb d_M_count_22 rfl hl (by decide) rfl (fun ls hl => ?_)
      refine lv_iconst (v := 0) hx hb d_M_count_23 (by decide) ?_
      refine lv_istore (lv' := [(4, .int 0), (3, .int 0), (2, .int 0), (0, .ref mm), (1, .int x1)]) hx hb d_M_count_24 hl (by decide) rfl (fun ls hl => ?_)
      have loop : ∀ (m9 a : Nat) (y2 y3 y4 : Int32) (ls : Array Slot), a + m9 = nn → y2 = nI (cntP (fun i => decide (¬ strM f no i ka = 0)) a) → y3 = nI (cntP (fun i => decide (¬ f 5 i ≤ f 3 i)) a) → y4 = nI a → lv_has ls 5 [(0, .ref mm), (1, .int x1), (2, .int y2), (3, .int y3), (4, .int y4)] → W p l e (headSpec (wm y_M_count c_M_count 5 (some .int)) ({ frames := 1, cells := 0, slots := 0, locals := 27 })).room s m ([.ref mm, .int x1] : List Value).toArray below meth c H locs 0 0 (MQ below (va_Qi (fun (r0 : Int32) (u : Nat → Option va_E) => (¬ gC (if (¬ x1 < 0 ∧ ¬ 4 < x1) then 1 else 0) 1 1 1 = 0 → mPic u mm cI ad f (nI (gT 1 (gC (if (¬ x1 < 0 ∧ ¬ 4 < x1) then 1 else 0) 1 1 1))) no wr n k z r so pr) ∧ (gC (if (¬ x1 < 0 ∧ ¬ 4 < x1) then 1 else 0) 1 1 1 = 0 → r0 = (if x1 = 0 then wr else if x1 = 1 then n else if x1 = 2 then k else if x1 = 3 then nI (cntP (fun i => decide (¬ strM f no i ka = 0)) nn) else nI (cntP (fun i => decide (¬ f 5 i ≤ f 3 i)) nn)) ∧ mPic u mm cI ad f 0 no wr n k z r so pr)) (fun w2 t => mw G ncl A w2 t.heap ∧ va_K G ncl (q0 :: q1 :: (cI, .int) :: ty2) t) A) ([.ref mm, .int x1] : List Value).toArray s 0 0 A) (F0 m 26 ls []) := by
        intro m9
        induction m9 with
        | zero =>
          intro a y2 y3 y4 ls hi e2 e3 e4 hl
          have ha9 : a = nn := by omega
          subst ha9
          refine lv_iload hx hb d_M_count_26 (lv_at hl 4 rfl) ?_
          refine lv_aload_n hx hb d_M_count_28 rfl (lv_at hl 0 rfl) ?_
          refine m_get (D := G) (ci := 6) (v := .int n) (C := nR_M) (T := nT_M) (N := 21) hx hb hta in_M hown hK hM mp_4.1 rfl 3 (by decide) (hta _ aw_546) (fun _ h9 => h9) rfl d_M_count_29 ?_
          refine lv_icmp_ge (tgt := 77) hx hb d_M_count_32 (by decide) (fun c_58 => ?_) (fun c_58 => absurd (by rw [e4, en]; exact nI_le (by omega) (by omega)) c_58)
          refine lv_iload_n hx hb d_M_count_77 rfl (lv_at hl 1 rfl) ?_
          refine lv_if_ne (tgt := 88) hx hb d_M_count_78 (by decide) (fun c_59 => ?_) (fun c_59 => ?_)
          · refine lv_iload_n hx hb d_M_count_88 rfl (lv_at hl 1 rfl) ?_
            refine lv_iconst (v := 1) hx hb d_M_count_89 (by decide) ?_
            refine lv_icmp_ne (tgt := 100) hx hb d_M_count_90 (by decide) (fun c_60 => ?_) (fun c_60 => ?_)
            · refine lv_iload_n hx hb d_M_count_100 rfl (lv_at hl 1 rfl) ?_
              refine lv_iconst (v := 2) hx hb d_M_count_101 (by decide) ?_
              refine lv_icmp_ne (tgt := 112) hx hb d_M_count_102 (by decide) (fun c_61 => ?_) (fun c_61 => ?_)
              · refine lv_iload_n hx hb d_M_count_112 rfl (lv_at hl 1 rfl) ?_
                refine lv_iconst (v := 3) hx hb d_M_count_113 (by decide) ?_
                refine lv_icmp_ne (tgt := 121) hx hb d_M_count_114 (by decide) (fun c_62 => ?_) (fun c_62 => ?_)
                · refine lv_iload_n hx hb d_M_count_121 rfl (lv_at hl 3 rfl) ?_
                  exact W.iret (v := y3) hx hb hr (fun t ht hW => ⟨⟨y3, w_3, rfl, (by subst eb1; exact ⟨fun q => absurd hc q, fun _ => ⟨by simp only [c_58, c_59, c_60, c_61, c_62, e2, e3, not_true_eq_false, not_false_eq_true, and_true, and_false, true_and, false_and, and_self, or_self, or_true, true_or, or_false, false_or, ↓reduceIte, ds], (by have q := mp_4; rw [hc] at q; exact q)⟩⟩), by rw [ht]; exact hM, va_K.moved hW.alike hK⟩, hS.F ht⟩) hS.2.2 d_M_count_122
                · refine lv_iload_n hx hb d_M_count_117 rfl (lv_at hl 2 rfl) ?_
                  refine lv_goto (tgt := 122) hx hb d_M_count_118 (by decide) ?_
                  exact W.iret (v := y2) hx hb hr (fun t ht hW => ⟨⟨y2, w_3, rfl, (by subst eb1; exact ⟨fun q => absurd hc q, fun _ => ⟨by simp only [c_58, c_59, c_60, c_61, c_62, e2, e3, not_true_eq_false, not_false_eq_true, and_true, and_false, true_and, false_and, and_self, or_self, or_true, true_or, or_false, false_or, ↓reduceIte, ds], (by have q := mp_4; rw [hc] at q; exact q)⟩⟩), by rw [ht]; exact hM, va_K.moved hW.alike hK⟩, hS.F ht⟩) hS.2.2 d_M_count_122
              · refine lv_aload_n hx hb d_M_count_105 rfl (lv_at hl 0 rfl) ?_
                refine m_get (D := G) (ci := 6) (v := .int k) (C := nR_M) (T := nT_M) (N := 21) hx hb hta in_M hown hK hM mp_4.1 rfl 10 (by decide) (hta _ aw_553) (fun _ h9 => h9) rfl d_M_count_106 ?_
                refine lv_goto (tgt := 122) hx hb d_M_count_109 (by decide) ?_
                exact W.iret (v := k) hx hb hr (fun t ht hW => ⟨⟨k, w_3, rfl, (by subst eb1; exact ⟨fun q => absurd hc q, fun _ => ⟨by simp only [c_58, c_59, c_60, c_61, e2, e3, not_true_eq_false, not_false_eq_true, and_true, and_false, true_and, false_and, and_self, or_self, or_true, true_or, or_false, false_or, ↓reduceIte, ds], (by have q := mp_4; rw [hc] at q; exact q)⟩⟩), by rw [ht]; exact hM, va_K.moved hW.alike hK⟩, hS.F ht⟩) hS.2.2 d_M_count_122
            · refine lv_aload_n hx hb d_M_count_93 rfl (lv_at hl 0 rfl) ?_
              refine m_get (D := G) (ci := 6) (v := .int n) (C := nR_M) (T := nT_M) (N := 21) hx hb hta in_M hown hK hM mp_4.1 rfl 3 (by decide) (hta _ aw_546) (fun _ h9 => h9) rfl d_M_count_94 ?_
              refine lv_goto (tgt := 122) hx hb d_M_count_97 (by decide) ?_
              exact W.iret (v := n) hx hb hr (fun t ht hW => ⟨⟨n, w_3, rfl, (by subst eb1; exact ⟨fun q => absurd hc q, fun _ => ⟨by simp only [c_58, c_59, c_60, e2, e3, not_true_eq_false, not_false_eq_true, and_true, and_false, true_and, false_and, and_self, or_self, or_true, true_or, or_false, false_or, ↓reduceIte, ds], (by have q := mp_4; rw [hc] at q; exact q)⟩⟩), by rw [ht]; exact hM, va_K.moved hW.alike hK⟩, hS.F ht⟩) hS.2.2 d_M_count_122
          · refine lv_aload_n hx hb d_M_count_81 rfl (lv_at hl 0 rfl) ?_
            refine m_get (D := G) (ci := 6) (v := .int wr) (C := nR_M) (T := nT_M) (N := 21) hx hb hta in_M hown hK hM mp_4.1 rfl 2 (by decide) (hta _ aw_545) (fun _ h9 => h9) rfl d_M_count_82 ?_
            refine lv_goto (tgt := 122) hx hb d_M_count_85 (by decide) ?_
            exact W.iret (v := wr) hx hb hr (fun t ht hW => ⟨⟨wr, w_3, rfl, (by subst eb1; exact ⟨fun q => absurd hc q, fun _ => ⟨by simp only [c_58, c_59, e2, e3, not_true_eq_false, not_false_eq_true, and_true, and_false, true_and, false_and, and_self, or_self, or_true, true_or, or_false, false_or, ↓reduceIte, ds], (by have q := mp_4; rw [hc] at q; exact q)⟩⟩), by rw [ht]; exact hM, va_K.moved hW.alike hK⟩, hS.F ht⟩) hS.2.2 d_M_count_122
        | succ m9 ih =>
          intro a y2 y3 y4 ls hi e2 e3 e4 hl
          refine lv_iload hx hb d_M_count_26 (lv_at hl 4 rfl) ?_
          refine lv_aload_n hx hb d_M_count_28 rfl (lv_at hl 0 rfl) ?_
          refine m_get (D := G) (ci := 6) (v := .int n) (C := nR_M) (T := nT_M) (N := 21) hx hb hta in_M hown hK hM mp_4.1 rfl 3 (by decide) (hta _ aw_546) (fun _ h9 => h9) rfl d_M_count_29 ?_
          refine lv_icmp_ge (tgt := 77) hx hb d_M_count_32 (by decide) (fun c_113 => absurd c_113 (by rw [e4, en]; exact nI_ge (by omega) (by omega))) (fun c_113 => ?_)
          refine lv_aload_n hx hb d_M_count_35 rfl (lv_at hl 0 rfl) ?_
          refine lv_iload hx hb d_M_count_36 (lv_at hl 4 rfl) ?_
          refine lv_aload_n hx hb d_M_count_38 rfl (lv_at hl 0 rfl) ?_
          refine m_get (D := G) (ci := 6) (v := .int no) (C := nR_M) (T := nT_M) (N := 21) hx hb hta in_M hown hK hM mp_4.1 rfl 1 (by decide) (hta _ aw_544) (fun _ h9 => h9) rfl d_M_count_39 ?_
          refine vp_callSi (W.runV (As := [.int y4, .int no]) (rest := []) ⟨hx, hb, hml, hown, hta⟩ (k_M_isStruck_x l G q0 q1 cI ty2 w_3 mp_4.1 mp_4.2 hk ek a no y4 e4) (cV 2 hta aw_642 aw_5 aw_639 aw_641 as_SceneTimesModel_isStruck rfl rfl (by decide +kernel) ⟨Nat.le_of_ble_eq_true rfl, Nat.le_of_ble_eq_true rfl⟩) (pW_V hK hM rfl mp_4.1) rfl rfl hl.1 rfl (lv_room (Nat.le_of_ble_eq_true rfl)) d_M_count_42 ⟨Nat.le_of_ble_eq_true rfl, Nat.le_of_ble_eq_true rfl⟩) (fun r_114 hr_114 => ?_)
          refine lv_if_eq (tgt := 51) hx hb d_M_count_45 (by decide) (fun c_115 => ?_) (fun c_115 => ?_)
          · rw [hr_114] at c_115
            refine lv_aload_n hx hb d_M_count_51 rfl (lv_at hl 0 rfl) ?_
            refine m_get (D := G) (ci := 6) (v := .ref (ad 5)) (C := nR_M) (T := nT_M) (N := 21) hx hb hta in_M hown hK hM mp_4.1 rfl 9 (by decide) (hta _ aw_552) (fun _ h9 => h9) rfl d_M_count_52 ?_
            refine lv_iload hx hb d_M_count_55 (lv_at hl 4 rfl) ?_
            refine m_ialv hx hb hK hM 2 k_6 rfl (by rw [e4]; exact vp_in_nI (by omega) (by omega)) (v := f 5 a) (by rw [e4, nI_clamp (by omega)]) d_M_count_57 ?_
            refine lv_aload_n hx hb d_M_count_58 rfl (lv_at hl 0 rfl) ?_
            refine m_get (D := G) (ci := 6) (v := .ref (ad 3)) (C := nR_M) (T := nT_M) (N := 21) hx hb hta in_M hown hK hM mp_4.1 rfl 7 (by decide) (hta _ aw_550) (fun _ h9 => h9) rfl d_M_count_59 ?_
            refine lv_iload hx hb d_M_count_62 (lv_at hl 4 rfl) ?_
            refine m_ialv hx hb hK hM 2 k_5 rfl (by rw [e4]; exact vp_in_nI (by omega) (by omega)) (v := f 3 a) (by rw [e4, nI_clamp (by omega)]) d_M_count_64 ?_
            refine lv_icmp_le (tgt := 71) hx hb d_M_count_65 (by decide) (fun c_116 => ?_) (fun c_116 => ?_)
            · obtain ⟨x_117, ex_117⟩ : ∃ y : Int32, y = y4 + 1 := ⟨_, rfl⟩
              refine lv_iinc (v := x_117) (lv' := [(4, .int x_117), (0, .ref mm), (1, .int x1), (2, .int y2), (3, .int y3)]) hx hb d_M_count_71 hl (k := 4) rfl (by rw [ex_117]; rfl) (by decide) rfl (fun ls hl => ?_)
              refine lv_goto (tgt := 26) hx hb d_M_count_74 (by decide) ?_
              exact ih (a + 1) y2 y3 x_117 ls (by omega) (by rw [e2, cntP, if_neg (by simp [c_115])]; rfl) (by rw [e3, cntP, if_neg (by simp [c_116])]; rfl) (by rw [ex_117, e4, nI_1]) (lv_sub hl [1, 2, 3, 4, 0] rfl)
            · obtain ⟨x_118, ex_118⟩ : ∃ y : Int32, y = y3 + 1 := ⟨_, rfl⟩
              refine lv_iinc (v := x_118) (lv' := [(3, .int x_118), (0, .ref mm), (1, .int x1), (2, .int y2), (4, .int y4)]) hx hb d_M_count_68 hl (k := 3) rfl (by rw [ex_118]; rfl) (by decide) rfl (fun ls hl => ?_)
              obtain ⟨x_119, ex_119⟩ : ∃ y : Int32, y = y4 + 1 := ⟨_, rfl⟩
              refine lv_iinc (v := x_119) (lv' := [(4, .int x_119), (3, .int x_118), (0, .ref mm), (1, .int x1), (2, .int y2)]) hx hb d_M_count_71 hl (k := 4) rfl (by rw [ex_119]; rfl) (by decide) rfl (fun ls hl => ?_)
              refine lv_goto (tgt := 26) hx hb d_M_count_74 (by decide) ?_
              exact ih (a + 1) y2 x_118 x_119 ls (by omega) (by rw [e2, cntP, if_neg (by simp [c_115])]; rfl) (by rw [ex_118, e3, cntP, if_pos (by simp [c_116]), nI_1]) (by rw [ex_119, e4, nI_1]) (lv_sub hl [2, 3, 4, 1, 0] rfl)
          · rw [hr_114] at c_115
            obtain ⟨x_120, ex_120⟩ : ∃ y : Int32, y = y2 + 1 := ⟨_, rfl⟩
            refine lv_iinc (v := x_120) (lv' := [(2, .int x_120), (0, .ref mm), (1, .int x1), (3, .int y3), (4, .int y4)]) hx hb d_M_count_48 hl (k := 2) rfl (by rw [ex_120]; rfl) (by decide) rfl (fun ls hl => ?_)
            refine lv_aload_n hx hb d_M_count_51 rfl (lv_at hl 1 rfl) ?_
            refine m_get (D := G) (ci := 6) (v := .ref (ad 5)) (C := nR_M) (T := nT_M) (N := 21) hx hb hta in_M hown hK hM mp_4.1 rfl 9 (by decide) (hta _ aw_552) (fun _ h9 => h9) rfl d_M_count_52 ?_
            refine lv_iload hx hb d_M_count_55 (lv_at hl 4 rfl) ?_
            refine m_ialv hx hb hK hM 2 k_6 rfl (by rw [e4]; exact vp_in_nI (by omega) (by omega)) (v := f 5 a) (by rw [e4, nI_clamp (by omega)]) d_M_count_57 ?_
            refine lv_aload_n hx hb d_M_count_58 rfl (lv_at hl 1 rfl) ?_
            refine m_get (D := G) (ci := 6) (v := .ref (ad 3)) (C := nR_M) (T := nT_M) (N := 21) hx hb hta in_M hown hK hM mp_4.1 rfl 7 (by decide) (hta _ aw_550) (fun _ h9 => h9) rfl d_M_count_59 ?_
            refine lv_iload hx hb d_M_count_62 (lv_at hl 4 rfl) ?_
            refine m_ialv hx hb hK hM 2 k_5 rfl (by rw [e4]; exact vp_in_nI (by omega) (by omega)) (v := f 3 a) (by rw [e4, nI_clamp (by omega)]) d_M_count_64 ?_
            refine lv_icmp_le (tgt := 71) hx hb d_M_count_65 (by decide) (fun c_121 => ?_) (fun c_121 => ?_)
            · obtain ⟨x_122, ex_122⟩ : ∃ y : Int32, y = y4 + 1 := ⟨_, rfl⟩
              refine lv_iinc (v := x_122) (lv' := [(4, .int x_122), (2, .int x_120), (0, .ref mm), (1, .int x1), (3, .int y3)]) hx hb d_M_count_71 hl (k := 4) rfl (by rw [ex_122]; rfl) (by decide) rfl (fun ls hl => ?_)
              refine lv_goto (tgt := 26) hx hb d_M_count_74 (by decide) ?_
              exact ih (a + 1) x_120 y3 x_122 ls (by omega) (by rw [ex_120, e2, cntP, if_pos (by simp [c_115]), nI_1]) (by rw [e3, cntP, if_neg (by simp [c_121])]; rfl) (by rw [ex_122, e4, nI_1]) (lv_sub hl [2, 3, 1, 4, 0] rfl)
            · obtain ⟨x_123, ex_123⟩ : ∃ y : Int32, y = y3 + 1 := ⟨_, rfl⟩
              refine lv_iinc (v := x_123) (lv' := [(3, .int x_123), (2, .int x_120), (0, .ref mm), (1, .int x1), (4, .int y4)]) hx hb d_M_count_68 hl (k := 3) rfl (by rw [ex_123]; rfl) (by decide) rfl (fun ls hl => ?_)
              obtain ⟨x_124, ex_124⟩ : ∃ y : Int32, y = y4 + 1 := ⟨_, rfl⟩
              refine lv_iinc (v := x_124) (lv' := [(4, .int x_124), (3, .int x_123), (2, .int x_120), (0, .ref mm), (1, .int x1)]) hx hb d_M_count_71 hl (k := 4) rfl (by rw [ex_124]; rfl) (by decide) rfl (fun ls hl => ?_)
              refine lv_goto (tgt := 26) hx hb d_M_count_74 (by decide) ?_
              exact ih (a + 1) x_120 x_123 x_124 ls (by omega) (by rw [ex_120, e2, cntP, if_pos (by simp [c_115]), nI_1]) (by rw [ex_123, e3, cntP, if_pos (by simp [c_121]), nI_1]) (by rw [ex_124, e4, nI_1]) (lv_sub hl [3, 4, 2, 1, 0] rfl)
      exact loop nn 0 0 0 0 ls (by omega) rfl rfl rfl (lv_sub hl [3, 4, 2, 1, 0] rfl)
    · have hc := go_f hr_2 c_7
      refine lv_iconst (v := 0) hx hb d_M_count_17 (by decide) ?_
      exact W.iret (v := 0) hx hb hr (fun t ht hW => ⟨⟨0, w_3, rfl, (by subst eb1; exact ⟨fun _ => mp_4, fun q => absurd q hc⟩), by rw [ht]; exact hM, va_K.moved hW.alike hK⟩, hS.F ht⟩) hS.2.2 d_M_count_18
  refine lv_aload_n hx hb d_M_count_0 rfl (lv_at hl 0 rfl) ?_
  refine lv_iconst (v := 1) hx hb d_M_count_1 (by decide) ?_
  refine lv_iload_n hx hb d_M_count_2 rfl (lv_at hl 1 rfl) ?_
  refine lv_iconst (v := 0) hx hb d_M_count_3 (by decide) ?_
  refine lv_iconst (v := 4) hx hb d_M_count_4 (by decide) ?_
  refine vp_callSi (W.runS (As := [.int x1, .int 0, .int 4]) (rest := [.int 1, .ref mm]) ⟨hx, hb, hml, hown, hta⟩ (k_M_in l x1 0 4) (cS 3 hta aw_626 aw_5 aw_624 aw_625 rfl rfl (by decide +kernel) ⟨Nat.le_of_ble_eq_true rfl, Nat.le_of_ble_eq_true rfl⟩) ⟨fun a U g mk q => q, fun U hU hW => ⟨rfl, trivial⟩⟩ rfl rfl hl.1 rfl (lv_room (Nat.le_of_ble_eq_true rfl)) d_M_count_5 ⟨Nat.le_of_ble_eq_true rfl, Nat.le_of_ble_eq_true rfl⟩) (fun r_1 hr_1 => ?_)
  exact j8  r_1 ls  (by simp only [hr_1, not_true_eq_false, not_false_eq_true, and_true, and_false, true_and, false_and, and_self, or_self, or_true, true_or, or_false, false_or, ↓reduceIte]) (lv_sub hl [0, 1] rfl)
