/-! the reference: acts, rows, digests, counts -/
def fAct (f : Nat → Nat → Int32) (ka : Nat) (x a v no : Int32) : Nat → Nat → Int32 := va_up (va_up (va_up (va_up f 6 (upd (f 6) ka x)) 7 (upd (f 7) ka a)) 8 (upd (f 8) ka v)) 9 (upd (f 9) ka no)
theorem isN {x n : Int32} {nn : Nat} (en : n = nI nn) (hn : nn ≤ 100) (h : ¬ x < 0 ∧ ¬ n - 1 < x) : x = nI x.toNatClampNeg ∧ x.toNatClampNeg < nn := by
  obtain ⟨j, hj, rfl⟩ := nI_of h.1
  have h2 := h.2
  rw [en, Int32.lt_iff_toInt_lt, show (1 : Int32) = nI 1 from rfl, pk_sub_toInt (by omega) (by omega), nI_toInt hj] at h2
  rw [nI_clamp hj]
  exact ⟨rfl, by omega⟩
theorem k_M_value_x (l : Launch) (G : va_G) (q0 q1 : ClassId × FieldType) (cI : ClassId) (ty2 : List (ClassId × FieldType)) (w : Nat → Option va_E) {mm : Nat} {ad : Nat → Nat} {f : Nat → Nat → Int32} {th no wr n k z r so pr : Int32} (hm : w mm = some (eM ad th no wr n k z r so pr)) (hma : ∀ i, i < 12 → w (ad i) = some (aI cI (msz i) (f i))) {ka : Nat} (hk : ka ≤ 200) (ek : k = nI ka) (j : Nat) (hj : j < 100) (t x : Int32) (ex : x = nI j) : Met l y_M_value (wm y_M_value c_M_value 5 (some .int)) ({ frames := 0, cells := 0, slots := 0, locals := 0 }) (pW G (q0 :: q1 :: (cI, .int) :: ty2) w [.ref mm, .int x, .int t]) (vp_Si (fun r => r = valM f t j ka)) 0 0 (fun _ => False) := by
  subst ex
  exact k_M_value l G q0 q1 cI ty2 w hm hma hk ek j hj t
theorem k_M_isStruck_x (l : Launch) (G : va_G) (q0 q1 : ClassId × FieldType) (cI : ClassId) (ty2 : List (ClassId × FieldType)) (w : Nat → Option va_E) {mm : Nat} {ad : Nat → Nat} {f : Nat → Nat → Int32} {th no wr n k z r so pr : Int32} (hm : w mm = some (eM ad th no wr n k z r so pr)) (hma : ∀ i, i < 12 → w (ad i) = some (aI cI (msz i) (f i))) {ka : Nat} (hk : ka ≤ 200) (ek : k = nI ka) (j : Nat) (t x : Int32) (ex : x = nI j) : Met l y_M_isStruck (wm y_M_isStruck c_M_isStruck 5 (some .boolean)) ({ frames := 0, cells := 0, slots := 0, locals := 0 }) (pW G (q0 :: q1 :: (cI, .int) :: ty2) w [.ref mm, .int x, .int t]) (vp_Si (fun r => r = strM f t j ka)) 0 0 (fun _ => False) := by
  subst ex
  exact k_M_isStruck l G q0 q1 cI ty2 w hm hma hk ek j t
theorem k_M_many_x (l : Launch) (G : va_G) (q0 q1 : ClassId × FieldType) (cI : ClassId) (ty2 : List (ClassId × FieldType)) (w : Nat → Option va_E) {mm : Nat} {ad : Nat → Nat} {f : Nat → Nat → Int32} {th no wr n k z r so pr : Int32} (hm : w mm = some (eM ad th no wr n k z r so pr)) (hma : ∀ i, i < 12 → w (ad i) = some (aI cI (msz i) (f i))) {ka : Nat} (hk : ka ≤ 200) (ek : k = nI ka) (j : Nat) (t x : Int32) (ex : x = nI j) : Met l y_M_many (wm y_M_many c_M_many 5 (some .int)) ({ frames := 0, cells := 0, slots := 0, locals := 0 }) (pW G (q0 :: q1 :: (cI, .int) :: ty2) w [.ref mm, .int x, .int t]) (vp_Si (fun r => r = nI (manM f t j ka))) 0 0 (fun _ => False) := by
  subst ex
  exact k_M_many l G q0 q1 cI ty2 w hm hma hk ek j t
set_option maxHeartbeats 4000000 in
set_option maxRecDepth 100000 in
theorem k_M_does (l : Launch) (G : va_G) (q0 q1 : ClassId × FieldType) (cI : ClassId) (ty2 : List (ClassId × FieldType)) (w : Nat → Option va_E) {mm : Nat} {ad : Nat → Nat} (had : ∀ i j, i < 12 → j < 12 → ad i = ad j → i = j) {f : Nat → Nat → Int32} {th no wr n k z r so pr : Int32} (hmp : mPic w mm cI ad f th no wr n k z r so pr) {ka : Nat} (hk : ka < 200) (ek : k = nI ka) (x1 x2 x3 : Int32) (sz : Nat) : Met l y_M_does (wm y_M_does c_M_does 4 none) ({ frames := 0, cells := 0, slots := 0, locals := 0 }) (pZ G (q0 :: q1 :: (cI, .int) :: ty2) w sz [.ref mm, .int x1, .int x2, .int x3]) (va_Qv (fun (u : Nat → Option va_E) => mPic u mm cI ad (fAct f ka x1 x2 x3 no) th no wr n (k + 1) z r so pr) (fun w2 t => mw G ncl (mA w sz) w2 t.heap ∧ va_K G ncl (q0 :: q1 :: (cI, .int) :: ty2) t) (mA w sz)) 0 0 (mA w sz) := by
  refine Met.ofW (cc := c_M_does) (maxL := 4) (ret := none) (by decide) rfl ?_
  intro p e s m args below meth c s₁ B hml hv
  obtain ⟨rfl, hsz, hM0, hK⟩ := hv
  have hx := B.exec
  have hb := B.bytes
  have hr := B.returns
  have hts := atoms_spec (ws := (wm y_M_does c_M_does 4 none)) B.pre
  have hta : ∀ w ∈ AL, w.before _ s = true := fun w h => hts w (List.mem_cons_of_mem _ h)
  have hown : s.vm.findClass nR_M = some m.cls := findClass_of_methodNamed B.named
  have hlocks := B.notSynchronized
  have hl := lv_entry ([.ref mm, .int x1, .int x2, .int x3]) (n := 4) (Nat.le_of_ble_eq_true rfl)
  rw [lg_entry_eq]
  generalize (lg_sl ([.ref mm, .int x1, .int x2, .int x3]) ++ List.replicate (4 - (lg_sl ([.ref mm, .int x1, .int x2, .int x3])).length) Slot.unset).toArray = ls at hl ⊢
  have hl : lv_has ls 4 [(0, .ref mm), (1, .int x1), (2, .int x2), (3, .int x3)] := hl
  subst hsz
  have hM := mw_self (sz := s.heap.size) hM0
  clear hM0
  generalize hAe : mA w s.heap.size = A at hM ⊢
  have hA : ∀ q : Nat, s.heap.size ≤ q → A q := fun q h => by rw [← hAe]; exact Or.inr h
  have hS : va_S A s.heap s.heap [] := va_S.rf
  have ha6 : w (ad 6) = some (aI cI 200 (f 6)) := hmp.2 6 (by decide)
  have ha7 : w (ad 7) = some (aI cI 200 (f 7)) := hmp.2 7 (by decide)
  have ha8 : w (ad 8) = some (aI cI 200 (f 8)) := hmp.2 8 (by decide)
  have ha9 : w (ad 9) = some (aI cI 200 (f 9)) := hmp.2 9 (by decide)
  refine lv_aload_n hx hb d_M_does_0 rfl (lv_at hl 0 rfl) ?_
  refine m_get (D := G) (ci := 6) (v := .ref (ad 6)) (C := nR_M) (T := nT_M) (N := 21) hx hb hta in_M hown hK hM hmp.1 rfl 11 (by decide) (hta _ aw_554) (fun _ h9 => h9) rfl d_M_does_1 ?_
  refine lv_aload_n hx hb d_M_does_4 rfl (lv_at hl 0 rfl) ?_
  refine m_get (D := G) (ci := 6) (v := .int k) (C := nR_M) (T := nT_M) (N := 21) hx hb hta in_M hown hK hM hmp.1 rfl 10 (by decide) (hta _ aw_553) (fun _ h9 => h9) rfl d_M_does_5 ?_
  refine lv_iload_n hx hb d_M_does_8 rfl (lv_at hl 1 rfl) ?_
  refine m_iasv hx hb hK hM hS 2 ha6 rfl (by rw [ek]; exact vp_in_nI hk (by omega)) (k := ka) (by rw [ek]; exact nI_clamp (by omega)) d_M_does_9 (fun H locs hM hS => ?_)
  obtain ⟨w_1, hw_1⟩ : ∃ z9 : Nat → Option va_E, z9 = va_up w (ad 6) (some (.inl (cI, 200, .inl (upd (f 6) ka x1)))) := ⟨_, rfl⟩
  rw [← hw_1] at hM
  obtain ⟨f_3, hf_3⟩ : ∃ z9 : Nat → Nat → Int32, z9 = va_up f 6 (upd (f 6) ka x1) := ⟨_, rfl⟩
  have mp_2 : mPic w_1 mm cI ad f_3 th no wr n k z r so pr := by rw [hw_1, hf_3]; exact mp_arr had hmp 6 (by decide) _
  have k_4 : w_1 (ad 6) = some (aI cI 200 (f_3 6)) := mp_2.2 6 (by decide)
  have k_5 : w_1 (ad 7) = some (aI cI 200 (f_3 7)) := mp_2.2 7 (by decide)
  have k_6 : w_1 (ad 8) = some (aI cI 200 (f_3 8)) := mp_2.2 8 (by decide)
  have k_7 : w_1 (ad 9) = some (aI cI 200 (f_3 9)) := mp_2.2 9 (by decide)
  refine lv_aload_n hx hb d_M_does_10 rfl (lv_at hl 0 rfl) ?_
  refine m_get (D := G) (ci := 6) (v := .ref (ad 7)) (C := nR_M) (T := nT_M) (N := 21) hx hb hta in_M hown hK hM mp_2.1 rfl 12 (by decide) (hta _ aw_555) (fun _ h9 => h9) rfl d_M_does_11 ?_
  refine lv_aload_n hx hb d_M_does_14 rfl (lv_at hl 0 rfl) ?_
  refine m_get (D := G) (ci := 6) (v := .int k) (C := nR_M) (T := nT_M) (N := 21) hx hb hta in_M hown hK hM mp_2.1 rfl 10 (by decide) (hta _ aw_553) (fun _ h9 => h9) rfl d_M_does_15 ?_
  refine lv_iload_n hx hb d_M_does_18 rfl (lv_at hl 2 rfl) ?_
  refine m_iasv hx hb hK hM hS 2 k_5 rfl (by rw [ek]; exact vp_in_nI hk (by omega)) (k := ka) (by rw [ek]; exact nI_clamp (by omega)) d_M_does_19 (fun H locs hM hS => ?_)
  obtain ⟨w_8, hw_8⟩ : ∃ z9 : Nat → Option va_E, z9 = va_up w_1 (ad 7) (some (.inl (cI, 200, .inl (upd (f_3 7) ka x2)))) := ⟨_, rfl⟩
  rw [← hw_8] at hM
  obtain ⟨f_10, hf_10⟩ : ∃ z9 : Nat → Nat → Int32, z9 = va_up f_3 7 (upd (f_3 7) ka x2) := ⟨_, rfl⟩
  have mp_9 : mPic w_8 mm cI ad f_10 th no wr n k z r so pr := by rw [hw_8, hf_10]; exact mp_arr had mp_2 7 (by decide) _
  have k_11 : w_8 (ad 6) = some (aI cI 200 (f_10 6)) := mp_9.2 6 (by decide)
  have k_12 : w_8 (ad 7) = some (aI cI 200 (f_10 7)) := mp_9.2 7 (by decide)
  have k_13 : w_8 (ad 8) = some (aI cI 200 (f_10 8)) := mp_9.2 8 (by decide)
  have k_14 : w_8 (ad 9) = some (aI cI 200 (f_10 9)) := mp_9.2 9 (by decide)
  refine lv_aload_n hx hb d_M_does_20 rfl (lv_at hl 0 rfl) ?_
  refine m_get (D := G) (ci := 6) (v := .ref (ad 8)) (C := nR_M) (T := nT_M) (N := 21) hx hb hta in_M hown hK hM mp_9.1 rfl 13 (by decide) (hta _ aw_556) (fun _ h9 => h9) rfl d_M_does_21 ?_
  refine lv_aload_n hx hb d_M_does_24 rfl (lv_at hl 0 rfl) ?_
  refine m_get (D := G) (ci := 6) (v := .int k) (C := nR_M) (T := nT_M) (N := 21) hx hb hta in_M hown hK hM mp_9.1 rfl 10 (by decide) (hta _ aw_553) (fun _ h9 => h9) rfl d_M_does_25 ?_
  refine lv_iload_n hx hb d_M_does_28 rfl (lv_at hl 3 rfl) ?_
  refine m_iasv hx hb hK hM hS 2 k_13 rfl (by rw [ek]; exact vp_in_nI hk (by omega)) (k := ka) (by rw [ek]; exact nI_clamp (by omega)) d_M_does_29 (fun H locs hM hS => ?_)
  obtain ⟨w_15, hw_15⟩ : ∃ z9 : Nat → Option va_E, z9 = va_up w_8 (ad 8) (some (.inl (cI, 200, .inl (upd (f_10 8) ka x3)))) := ⟨_, rfl⟩
  rw [← hw_15] at hM
  obtain ⟨f_17, hf_17⟩ : ∃ z9 : Nat → Nat → Int32, z9 = va_up f_10 8 (upd (f_10 8) ka x3) := ⟨_, rfl⟩
  have mp_16 : mPic w_15 mm cI ad f_17 th no wr n k z r so pr := by rw [hw_15, hf_17]; exact mp_arr had mp_9 8 (by decide) _
  have k_18 : w_15 (ad 6) = some (aI cI 200 (f_17 6)) := mp_16.2 6 (by decide)
  have k_19 : w_15 (ad 7) = some (aI cI 200 (f_17 7)) := mp_16.2 7 (by decide)
  have k_20 : w_15 (ad 8) = some (aI cI 200 (f_17 8)) := mp_16.2 8 (by decide)
  have k_21 : w_15 (ad 9) = some (aI cI 200 (f_17 9)) := mp_16.2 9 (by decide)
  refine lv_aload_n hx hb d_M_does_30 rfl (lv_at hl 0 rfl) ?_
  refine m_get (D := G) (ci := 6) (v := .ref (ad 9)) (C := nR_M) (T := nT_M) (N := 21) hx hb hta in_M hown hK hM mp_16.1 rfl 14 (by decide) (hta _ aw_557) (fun _ h9 => h9) rfl d_M_does_31 ?_
  refine lv_aload_n hx hb d_M_does_34 rfl (lv_at hl 0 rfl) ?_
  refine m_get (D := G) (ci := 6) (v := .int k) (C := nR_M) (T := nT_M) (N := 21) hx hb hta in_M hown hK hM mp_16.1 rfl 10 (by decide) (hta _ aw_553) (fun _ h9 => h9) rfl d_M_does_35 ?_
  refine lv_aload_n hx hb d_M_does_38 rfl (lv_at hl 0 rfl) ?_
  refine m_get (D := G) (ci := 6) (v := .int no) (C := nR_M) (T := nT_M) (N := 21) hx hb hta in_M hown hK hM mp_16.1 rfl 1 (by decide) (hta _ aw_544) (fun _ h9 => h9) rfl d_M_does_39 ?_
  refine m_iasv hx hb hK hM hS 2 k_21 rfl (by rw [ek]; exact vp_in_nI hk (by omega)) (k := ka) (by rw [ek]; exact nI_clamp (by omega)) d_M_does_42 (fun H locs hM hS => ?_)
  obtain ⟨w_22, hw_22⟩ : ∃ z9 : Nat → Option va_E, z9 = va_up w_15 (ad 9) (some (.inl (cI, 200, .inl (upd (f_17 9) ka no)))) := ⟨_, rfl⟩
  rw [← hw_22] at hM
  obtain ⟨f_24, hf_24⟩ : ∃ z9 : Nat → Nat → Int32, z9 = va_up f_17 9 (upd (f_17 9) ka no) := ⟨_, rfl⟩
  have mp_23 : mPic w_22 mm cI ad f_24 th no wr n k z r so pr := by rw [hw_22, hf_24]; exact mp_arr had mp_16 9 (by decide) _
  have k_25 : w_22 (ad 6) = some (aI cI 200 (f_24 6)) := mp_23.2 6 (by decide)
  have k_26 : w_22 (ad 7) = some (aI cI 200 (f_24 7)) := mp_23.2 7 (by decide)
  have k_27 : w_22 (ad 8) = some (aI cI 200 (f_24 8)) := mp_23.2 8 (by decide)
  have k_28 : w_22 (ad 9) = some (aI cI 200 (f_24 9)) := mp_23.2 9 (by decide)
  refine lv_aload_n hx hb d_M_does_43 rfl (lv_at hl 0 rfl) ?_
  refine lv_dup hx hb d_M_does_44 rfl ?_
  refine m_get (D := G) (ci := 6) (v := .int k) (C := nR_M) (T := nT_M) (N := 21) hx hb hta in_M hown hK hM mp_23.1 rfl 10 (by decide) (hta _ aw_553) (fun _ h9 => h9) rfl d_M_does_45 ?_
  refine lv_iconst (v := 1) hx hb d_M_does_48 (by decide) ?_
  refine lv_iadd hx hb d_M_does_49 ?_
  refine m_put (D := G) (ci := 6) (v := .int (k + 1)) (ty := .int) (C := nR_M) (T := nT_M) (N := 21) hx hb hta in_M nt_M nt_M_ok nn_M hown hK hM hS mp_23.1 rfl 10 (by decide) (hta _ aw_553) (fun _ h9 => h9) rfl (by decide +kernel) rfl rfl (Nat.le_of_ble_eq_true rfl) d_M_does_50 (fs' := [.int th, .int no, .int wr, .int n, .ref (ad 0), .ref (ad 1), .ref (ad 2), .ref (ad 3), .ref (ad 4), .ref (ad 5), .int (k + 1), .ref (ad 6), .ref (ad 7), .ref (ad 8), .ref (ad 9), .int z, .int r, .int so, .ref (ad 10), .int pr, .ref (ad 11)]) rfl (fun H locs hM hS => ?_)
  obtain ⟨w_29, hw_29⟩ : ∃ z9 : Nat → Option va_E, z9 = va_up w_22 mm (some (.inr (6, [.int th, .int no, .int wr, .int n, .ref (ad 0), .ref (ad 1), .ref (ad 2), .ref (ad 3), .ref (ad 4), .ref (ad 5), .int (k + 1), .ref (ad 6), .ref (ad 7), .ref (ad 8), .ref (ad 9), .int z, .int r, .int so, .ref (ad 10), .int pr, .ref (ad 11)]))) := ⟨_, rfl⟩
  rw [← hw_29] at hM
  have mp_30 : mPic w_29 mm cI ad f_24 th no wr n (k + 1) z r so pr := by rw [hw_29]; exact mp_obj mp_23 th no wr n (k + 1) z r so pr
  have k_31 : w_29 (ad 6) = some (aI cI 200 (f_24 6)) := mp_30.2 6 (by decide)
  have k_32 : w_29 (ad 7) = some (aI cI 200 (f_24 7)) := mp_30.2 7 (by decide)
  have k_33 : w_29 (ad 8) = some (aI cI 200 (f_24 8)) := mp_30.2 8 (by decide)
  have k_34 : w_29 (ad 9) = some (aI cI 200 (f_24 9)) := mp_30.2 9 (by decide)
  exact W.vret hx hb hr (fun t ht hW => ⟨⟨w_29, rfl, (by have q := mp_30; rw [hf_24, hf_17, hf_10, hf_3] at q; exact q), by rw [ht]; exact hM, va_K.moved hW.alike hK⟩, hS.F ht⟩) hS.2.2 d_M_does_53
set_option maxHeartbeats 4000000 in
set_option maxRecDepth 100000 in
theorem k_M_correct (l : Launch) (G : va_G) (q0 q1 : ClassId × FieldType) (cI : ClassId) (ty2 : List (ClassId × FieldType)) (w : Nat → Option va_E) {mm : Nat} {ad : Nat → Nat} (had : ∀ i j, i < 12 → j < 12 → ad i = ad j → i = j) {f : Nat → Nat → Int32} {th no wr n k z r so pr : Int32} (hmp : mPic w mm cI ad f th no wr n k z r so pr) {ka nn : Nat} (hk : ka ≤ 200) (ek : k = nI ka) (hn : nn ≤ 100) (en : n = nI nn) (x1 x2 : Int32) (sz : Nat) : Met l y_M_correct (wm y_M_correct c_M_correct 3 (some .int)) ({ frames := 2, cells := 0, slots := 0, locals := 43 }) (pZ G (q0 :: q1 :: (cI, .int) :: ty2) w sz [.ref mm, .int x1, .int x2]) (va_Qi (fun (r0 : Int32) (u : Nat → Option va_E) => (¬ gC (if ¬ x1 < 0 ∧ ¬ n - 1 < x1 then 1 else 0) (if (¬ x2 < (-9999) ∧ ¬ 9999 < x2) then 1 else 0) (if (¬ x1 < 0 ∧ ¬ n - 1 < x1) ∧ strM f no x1.toNatClampNeg ka = 0 then 1 else 0) (if 200 ≤ k then 0 else 1) = 0 → mPic u mm cI ad f (nI (gT 15 (gC (if ¬ x1 < 0 ∧ ¬ n - 1 < x1 then 1 else 0) (if (¬ x2 < (-9999) ∧ ¬ 9999 < x2) then 1 else 0) (if (¬ x1 < 0 ∧ ¬ n - 1 < x1) ∧ strM f no x1.toNatClampNeg ka = 0 then 1 else 0) (if 200 ≤ k then 0 else 1)))) no wr n k z r so pr) ∧ (gC (if ¬ x1 < 0 ∧ ¬ n - 1 < x1 then 1 else 0) (if (¬ x2 < (-9999) ∧ ¬ 9999 < x2) then 1 else 0) (if (¬ x1 < 0 ∧ ¬ n - 1 < x1) ∧ strM f no x1.toNatClampNeg ka = 0 then 1 else 0) (if 200 ≤ k then 0 else 1) = 0 → r0 = nI (manM (fAct f ka x1 2 x2 no) 0 x1.toNatClampNeg (ka + 1)) ∧ mPic u mm cI ad (fAct f ka x1 2 x2 no) 0 no wr n (k + 1) z r so pr)) (fun w2 t => mw G ncl (mA w sz) w2 t.heap ∧ va_K G ncl (q0 :: q1 :: (cI, .int) :: ty2) t) (mA w sz)) 0 0 (mA w sz) := by
  refine Met.ofW (cc := c_M_correct) (maxL := 3) (ret := (some .int)) (by decide) rfl ?_
  intro p e s m args below meth c s₁ B hml hv
  obtain ⟨rfl, hsz, hM0, hK⟩ := hv
  have hx := B.exec
  have hb := B.bytes
  have hr := B.returns
  have hts := atoms_spec (ws := (wm y_M_correct c_M_correct 3 (some .int))) B.pre
  have hta : ∀ w ∈ AL, w.before _ s = true := fun w h => hts w (List.mem_cons_of_mem _ h)
  have hown : s.vm.findClass nR_M = some m.cls := findClass_of_methodNamed B.named
  have hlocks := B.notSynchronized
  have hl := lv_entry ([.ref mm, .int x1, .int x2]) (n := 3) (Nat.le_of_ble_eq_true rfl)
  rw [lg_entry_eq]
  generalize (lg_sl ([.ref mm, .int x1, .int x2]) ++ List.replicate (3 - (lg_sl ([.ref mm, .int x1, .int x2])).length) Slot.unset).toArray = ls at hl ⊢
  have hl : lv_has ls 3 [(0, .ref mm), (1, .int x1), (2, .int x2)] := hl
  subst hsz
  have hM := mw_self (sz := s.heap.size) hM0
  clear hM0
  generalize hAe : mA w s.heap.size = A at hM ⊢
  have hA : ∀ q : Nat, s.heap.size ≤ q → A q := fun q h => by rw [← hAe]; exact Or.inr h
  have hS : va_S A s.heap s.heap [] := va_S.rf
  have j58 : ∀ (b1 b2 b3 b4 : Int32) (ls : Array Slot), b1 = (if ¬ x1 < 0 ∧ ¬ n - 1 < x1 then 1 else 0) → b2 = (if (¬ x2 < (-9999) ∧ ¬ 9999 < x2) then 1 else 0) → b3 = (if (¬ x1 < 0 ∧ ¬ n - 1 < x1) ∧ strM f no x1.toNatClampNeg ka = 0 then 1 else 0) → b4 = (if 200 ≤ k then 0 else 1) → lv_has ls 3 [(0, .ref mm), (1, .int x1), (2, .int x2)] → W p l e (headSpec (wm y_M_correct c_M_correct 3 (some .int)) ({ frames := 2, cells := 0, slots := 0, locals := 43 })).room s m ([.ref mm, .int x1, .int x2] : List Value).toArray below meth c s.heap [] 0 0 (MQ below (va_Qi (fun (r0 : Int32) (u : Nat → Option va_E) => (¬ gC (if ¬ x1 < 0 ∧ ¬ n - 1 < x1 then 1 else 0) (if (¬ x2 < (-9999) ∧ ¬ 9999 < x2) then 1 else 0) (if (¬ x1 < 0 ∧ ¬ n - 1 < x1) ∧ strM f no x1.toNatClampNeg ka = 0 then 1 else 0) (if 200 ≤ k then 0 else 1) = 0 → mPic u mm cI ad f (nI (gT 15 (gC (if ¬ x1 < 0 ∧ ¬ n - 1 < x1 then 1 else 0) (if (¬ x2 < (-9999) ∧ ¬ 9999 < x2) then 1 else 0) (if (¬ x1 < 0 ∧ ¬ n - 1 < x1) ∧ strM f no x1.toNatClampNeg ka = 0 then 1 else 0) (if 200 ≤ k then 0 else 1)))) no wr n k z r so pr) ∧ (gC (if ¬ x1 < 0 ∧ ¬ n - 1 < x1 then 1 else 0) (if (¬ x2 < (-9999) ∧ ¬ 9999 < x2) then 1 else 0) (if (¬ x1 < 0 ∧ ¬ n - 1 < x1) ∧ strM f no x1.toNatClampNeg ka = 0 then 1 else 0) (if 200 ≤ k then 0 else 1) = 0 → r0 = nI (manM (fAct f ka x1 2 x2 no) 0 x1.toNatClampNeg (ka + 1)) ∧ mPic u mm cI ad (fAct f ka x1 2 x2 no) 0 no wr n (k + 1) z r so pr)) (fun w2 t => mw G ncl A w2 t.heap ∧ va_K G ncl (q0 :: q1 :: (cI, .int) :: ty2) t) A) ([.ref mm, .int x1, .int x2] : List Value).toArray s 0 0 A) (F0 m 58 ls [.int b4, .int b3, .int b2, .int b1, .int 15, .ref mm]) := by
    intro b1 b2 b3 b4 ls eb1 eb2 eb3 eb4 hl
    have hF := mw_free hM hS hA
    refine va_calli (va_runV (As := [.int 15, .int b1, .int b2, .int b3, .int b4]) (rest := []) ⟨hx, hb, hml, hown, hta⟩ (k_M_goes_15 l G q0 q1 cI ty2 w hmp.1 hmp.2 b1 b2 b3 b4 _) (cV 5 hta aw_619 aw_5 aw_616 aw_618 as_SceneTimesModel_goes rfl rfl (by decide +kernel) ⟨Nat.le_of_ble_eq_true rfl, Nat.le_of_ble_eq_true rfl⟩) (pZ_V hK hM rfl hmp.1) rfl rfl hl.1 rfl (lv_room (Nat.le_of_ble_eq_true rfl)) d_M_correct_58 ⟨Nat.le_of_ble_eq_true rfl, Nat.le_of_ble_eq_true rfl⟩) hS (fun q _ h => hF q h) hF (fun r_11 u_r_11 t H locs ht hvm hr_11 hB hz1 hk1 hS => ?_)
    obtain ⟨hM1, hK1⟩ := hB
    rw [ht] at hM1
    have hM := mw_weaken hM1 hF
    clear hM1 hK1 hF hk1 hz1
    obtain ⟨w_12, hw_12⟩ : ∃ z9 : Nat → Option va_E, z9 = va_up w mm (some (.inr (6, [.int (nI (gT 15 (gC b1 b2 b3 b4))), .int no, .int wr, .int n, .ref (ad 0), .ref (ad 1), .ref (ad 2), .ref (ad 3), .ref (ad 4), .ref (ad 5), .int k, .ref (ad 6), .ref (ad 7), .ref (ad 8), .ref (ad 9), .int z, .int r, .int so, .ref (ad 10), .int pr, .ref (ad 11)]))) := ⟨_, rfl⟩
    rw [← hw_12] at hM
    have mp_13 : mPic w_12 mm cI ad f (nI (gT 15 (gC b1 b2 b3 b4))) no wr n k z r so pr := by rw [hw_12]; exact mp_obj hmp (nI (gT 15 (gC b1 b2 b3 b4))) no wr n k z r so pr
    refine lv_if_ne (tgt := 66) hx hb d_M_correct_61 (by decide) (fun c_14 => ?_) (fun c_14 => ?_)
    · have hc := go_t hr_11 c_14
      have g := gC_room hc
      have hlt : ka < 200 := n_lt ek (by have q := g.2.2.2; rw [eb4] at q; exact i0_t q) (by omega)
      have hj := (isN en hn (by have q := g.1; rw [eb1] at q; exact i1_t q))
      refine lv_aload_n hx hb d_M_correct_66 rfl (lv_at hl 0 rfl) ?_
      refine lv_iload_n hx hb d_M_correct_67 rfl (lv_at hl 1 rfl) ?_
      refine lv_iconst (v := 2) hx hb d_M_correct_68 (by decide) ?_
      refine lv_iload_n hx hb d_M_correct_69 rfl (lv_at hl 2 rfl) ?_
      have hF := mw_free hM hS hA
      refine va_callv (va_runV (As := [.int x1, .int 2, .int x2]) (rest := []) ⟨hx, hb, hml, hown, hta⟩ (k_M_does l G q0 q1 cI ty2 w_12 had mp_13 (ka := ka) hlt ek x1 2 x2 _) (cV 3 hta aw_646 aw_5 aw_643 aw_645 as_SceneTimesModel_does rfl rfl (by decide +kernel) ⟨Nat.le_of_ble_eq_true rfl, Nat.le_of_ble_eq_true rfl⟩) (pZ_V hK hM rfl mp_13.1) rfl rfl hl.1 rfl (lv_room (Nat.le_of_ble_eq_true rfl)) d_M_correct_70 ⟨Nat.le_of_ble_eq_true rfl, Nat.le_of_ble_eq_true rfl⟩) hS (fun q _ h => hF q h) hF (fun u_r_15 t H locs ht hvm hr_15 hB hz1 hk1 hS => ?_)
      obtain ⟨hM1, hK1⟩ := hB
      rw [ht] at hM1
      have hM := mw_weaken hM1 hF
      clear hM1 hK1 hF hk1 hz1
      refine lv_aload_n hx hb d_M_correct_73 rfl (lv_at hl 0 rfl) ?_
      refine lv_iload_n hx hb d_M_correct_74 rfl (lv_at hl 1 rfl) ?_
      refine lv_iconst (v := 0) hx hb d_M_correct_75 (by decide) ?_
      refine vp_callSi (W.runV (As := [.int x1, .int 0]) (rest := []) ⟨hx, hb, hml, hown, hta⟩ (k_M_many_x l G q0 q1 cI ty2 u_r_15 hr_15.1 hr_15.2 (ka := ka + 1) hlt (by rw [ek, nI_1]) x1.toNatClampNeg 0 x1 hj.1) (cV 2 hta aw_650 aw_5 aw_647 aw_649 as_SceneTimesModel_many rfl rfl (by decide +kernel) ⟨Nat.le_of_ble_eq_true rfl, Nat.le_of_ble_eq_true rfl⟩) (pW_V hK hM rfl hr_15.1) rfl rfl hl.1 rfl (lv_room (Nat.le_of_ble_eq_true rfl)) d_M_correct_76 ⟨Nat.le_of_ble_eq_true rfl, Nat.le_of_ble_eq_true rfl⟩) (fun r_16 hr_16 => ?_)
      exact W.iret (v := r_16) hx hb hr (fun t ht hW => ⟨⟨r_16, u_r_15, rfl, (by subst eb1; subst eb2; subst eb3; subst eb4; exact ⟨fun q => absurd hc q, fun _ => ⟨hr_16, by have q := hr_15; rw [hc] at q; exact q⟩⟩), by rw [ht]; exact hM, va_K.moved hW.alike hK⟩, hS.F ht⟩) hS.2.2 d_M_correct_79
    · have hc := go_f hr_11 c_14
      refine lv_iconst (v := 0) hx hb d_M_correct_64 (by decide) ?_
      exact W.iret (v := 0) hx hb hr (fun t ht hW => ⟨⟨0, w_12, rfl, (by subst eb1; subst eb2; subst eb3; subst eb4; exact ⟨fun _ => mp_13, fun q => absurd q hc⟩), by rw [ht]; exact hM, va_K.moved hW.alike hK⟩, hS.F ht⟩) hS.2.2 d_M_correct_65
  have j43 : ∀ (b1 b2 b3 : Int32) (ls : Array Slot), b1 = (if ¬ x1 < 0 ∧ ¬ n - 1 < x1 then 1 else 0) → b2 = (if (¬ x2 < (-9999) ∧ ¬ 9999 < x2) then 1 else 0) → b3 = (if (¬ x1 < 0 ∧ ¬ n - 1 < x1) ∧ strM f no x1.toNatClampNeg ka = 0 then 1 else 0) → lv_has ls 3 [(0, .ref mm), (1, .int x1), (2, .int x2)] → W p l e (headSpec (wm y_M_correct c_M_correct 3 (some .int)) ({ frames := 2, cells := 0, slots := 0, locals := 43 })).room s m ([.ref mm, .int x1, .int x2] : List Value).toArray below meth c s.heap [] 0 0 (MQ below (va_Qi (fun (r0 : Int32) (u : Nat → Option va_E) => (¬ gC (if ¬ x1 < 0 ∧ ¬ n - 1 < x1 then 1 else 0) (if (¬ x2 < (-9999) ∧ ¬ 9999 < x2) then 1 else 0) (if (¬ x1 < 0 ∧ ¬ n - 1 < x1) ∧ strM f no x1.toNatClampNeg ka = 0 then 1 else 0) (if 200 ≤ k then 0 else 1) = 0 → mPic u mm cI ad f (nI (gT 15 (gC (if ¬ x1 < 0 ∧ ¬ n - 1 < x1 then 1 else 0) (if (¬ x2 < (-9999) ∧ ¬ 9999 < x2) then 1 else 0) (if (¬ x1 < 0 ∧ ¬ n - 1 < x1) ∧ strM f no x1.toNatClampNeg ka = 0 then 1 else 0) (if 200 ≤ k then 0 else 1)))) no wr n k z r so pr) ∧ (gC (if ¬ x1 < 0 ∧ ¬ n - 1 < x1 then 1 else 0) (if (¬ x2 < (-9999) ∧ ¬ 9999 < x2) then 1 else 0) (if (¬ x1 < 0 ∧ ¬ n - 1 < x1) ∧ strM f no x1.toNatClampNeg ka = 0 then 1 else 0) (if 200 ≤ k then 0 else 1) = 0 → r0 = nI (manM (fAct f ka x1 2 x2 no) 0 x1.toNatClampNeg (ka + 1)) ∧ mPic u mm cI ad (fAct f ka x1 2 x2 no) 0 no wr n (k + 1) z r so pr)) (fun w2 t => mw G ncl A w2 t.heap ∧ va_K G ncl (q0 :: q1 :: (cI, .int) :: ty2) t) A) ([.ref mm, .int x1, .int x2] : List Value).toArray s 0 0 A) (F0 m 43 ls [.int b3, .int b2, .int b1, .int 15, .ref mm]) := by
    intro b1 b2 b3 ls eb1 eb2 eb3 hl
    refine lv_aload_n hx hb d_M_correct_43 rfl (lv_at hl 0 rfl) ?_
    refine m_get (D := G) (ci := 6) (v := .int k) (C := nR_M) (T := nT_M) (N := 21) hx hb hta in_M hown hK hM hmp.1 rfl 10 (by decide) (hta _ aw_553) (fun _ h9 => h9) rfl d_M_correct_44 ?_
    refine lv_sipush (v := 200) hx hb d_M_correct_47 (by decide) ?_
    refine lv_icmp_ge (tgt := 57) hx hb d_M_correct_50 (by decide) (fun c_10 => ?_) (fun c_10 => ?_)
    · refine lv_iconst (v := 0) hx hb d_M_correct_57 (by decide) ?_
      exact j58 b1 b2 b3 0 ls eb1 eb2 eb3 (by simp only [c_10, not_true_eq_false, not_false_eq_true, and_true, and_false, true_and, false_and, and_self, or_self, or_true, true_or, or_false, false_or, ↓reduceIte]) (lv_sub hl [0, 1, 2] rfl)
    · refine lv_iconst (v := 1) hx hb d_M_correct_53 (by decide) ?_
      refine lv_goto (tgt := 58) hx hb d_M_correct_54 (by decide) ?_
      exact j58 b1 b2 b3 1 ls eb1 eb2 eb3 (by simp only [c_10, not_true_eq_false, not_false_eq_true, and_true, and_false, true_and, false_and, and_self, or_self, or_true, true_or, or_false, false_or, ↓reduceIte]) (lv_sub hl [0, 1, 2] rfl)
  have j18 : ∀ (b1 b2 : Int32) (ls : Array Slot), b1 = (if ¬ x1 < 0 ∧ ¬ n - 1 < x1 then 1 else 0) → b2 = (if (¬ x2 < (-9999) ∧ ¬ 9999 < x2) then 1 else 0) → lv_has ls 3 [(0, .ref mm), (1, .int x1), (2, .int x2)] → W p l e (headSpec (wm y_M_correct c_M_correct 3 (some .int)) ({ frames := 2, cells := 0, slots := 0, locals := 43 })).room s m ([.ref mm, .int x1, .int x2] : List Value).toArray below meth c s.heap [] 0 0 (MQ below (va_Qi (fun (r0 : Int32) (u : Nat → Option va_E) => (¬ gC (if ¬ x1 < 0 ∧ ¬ n - 1 < x1 then 1 else 0) (if (¬ x2 < (-9999) ∧ ¬ 9999 < x2) then 1 else 0) (if (¬ x1 < 0 ∧ ¬ n - 1 < x1) ∧ strM f no x1.toNatClampNeg ka = 0 then 1 else 0) (if 200 ≤ k then 0 else 1) = 0 → mPic u mm cI ad f (nI (gT 15 (gC (if ¬ x1 < 0 ∧ ¬ n - 1 < x1 then 1 else 0) (if (¬ x2 < (-9999) ∧ ¬ 9999 < x2) then 1 else 0) (if (¬ x1 < 0 ∧ ¬ n - 1 < x1) ∧ strM f no x1.toNatClampNeg ka = 0 then 1 else 0) (if 200 ≤ k then 0 else 1)))) no wr n k z r so pr) ∧ (gC (if ¬ x1 < 0 ∧ ¬ n - 1 < x1 then 1 else 0) (if (¬ x2 < (-9999) ∧ ¬ 9999 < x2) then 1 else 0) (if (¬ x1 < 0 ∧ ¬ n - 1 < x1) ∧ strM f no x1.toNatClampNeg ka = 0 then 1 else 0) (if 200 ≤ k then 0 else 1) = 0 → r0 = nI (manM (fAct f ka x1 2 x2 no) 0 x1.toNatClampNeg (ka + 1)) ∧ mPic u mm cI ad (fAct f ka x1 2 x2 no) 0 no wr n (k + 1) z r so pr)) (fun w2 t => mw G ncl A w2 t.heap ∧ va_K G ncl (q0 :: q1 :: (cI, .int) :: ty2) t) A) ([.ref mm, .int x1, .int x2] : List Value).toArray s 0 0 A) (F0 m 18 ls [.int b2, .int b1, .int 15, .ref mm]) := by
    intro b1 b2 ls eb1 eb2 hl
    refine lv_aload_n hx hb d_M_correct_18 rfl (lv_at hl 0 rfl) ?_
    refine lv_iload_n hx hb d_M_correct_19 rfl (lv_at hl 1 rfl) ?_
    refine vp_callSi (W.runV (As := [.int x1]) (rest := [.int b2, .int b1, .int 15, .ref mm]) ⟨hx, hb, hml, hown, hta⟩ (k_M_isNote l G q0 q1 cI ty2 w hmp.1 hmp.2 x1) (cV 1 hta aw_638 aw_5 aw_635 aw_637 as_SceneTimesModel_isNote rfl rfl (by decide +kernel) ⟨Nat.le_of_ble_eq_true rfl, Nat.le_of_ble_eq_true rfl⟩) (pW_V hK hM rfl hmp.1) rfl rfl hl.1 rfl (lv_room (Nat.le_of_ble_eq_true rfl)) d_M_correct_20 ⟨Nat.le_of_ble_eq_true rfl, Nat.le_of_ble_eq_true rfl⟩) (fun r_3 hr_3 => ?_)
    refine lv_if_eq (tgt := 42) hx hb d_M_correct_23 (by decide) (fun c_4 => ?_) (fun c_4 => ?_)
    · have p_5 := b1_f hr_3 c_4
      refine lv_iconst (v := 0) hx hb d_M_correct_42 (by decide) ?_
      exact j43 b1 b2 0 ls eb1 eb2 (by simp only [p_5, not_true_eq_false, not_false_eq_true, and_true, and_false, true_and, false_and, and_self, or_self, or_true, true_or, or_false, false_or, ↓reduceIte]) (lv_sub hl [0, 1, 2] rfl)
    · have p_6 := b1_t hr_3 c_4
      refine lv_aload_n hx hb d_M_correct_26 rfl (lv_at hl 0 rfl) ?_
      refine lv_iload_n hx hb d_M_correct_27 rfl (lv_at hl 1 rfl) ?_
      refine lv_aload_n hx hb d_M_correct_28 rfl (lv_at hl 0 rfl) ?_
      refine m_get (D := G) (ci := 6) (v := .int no) (C := nR_M) (T := nT_M) (N := 21) hx hb hta in_M hown hK hM hmp.1 rfl 1 (by decide) (hta _ aw_544) (fun _ h9 => h9) rfl d_M_correct_29 ?_
      have ej_7 := (isN en hn p_6).1
      refine vp_callSi (W.runV (As := [.int x1, .int no]) (rest := [.int b2, .int b1, .int 15, .ref mm]) ⟨hx, hb, hml, hown, hta⟩ (k_M_isStruck_x l G q0 q1 cI ty2 w hmp.1 hmp.2 hk ek x1.toNatClampNeg no x1 ej_7) (cV 2 hta aw_642 aw_5 aw_639 aw_641 as_SceneTimesModel_isStruck rfl rfl (by decide +kernel) ⟨Nat.le_of_ble_eq_true rfl, Nat.le_of_ble_eq_true rfl⟩) (pW_V hK hM rfl hmp.1) rfl rfl hl.1 rfl (lv_room (Nat.le_of_ble_eq_true rfl)) d_M_correct_32 ⟨Nat.le_of_ble_eq_true rfl, Nat.le_of_ble_eq_true rfl⟩) (fun r_8 hr_8 => ?_)
      refine lv_if_ne (tgt := 42) hx hb d_M_correct_35 (by decide) (fun c_9 => ?_) (fun c_9 => ?_)
      · rw [hr_8] at c_9
        refine lv_iconst (v := 0) hx hb d_M_correct_42 (by decide) ?_
        exact j43 b1 b2 0 ls eb1 eb2 (by simp only [p_6, c_9, not_true_eq_false, not_false_eq_true, and_true, and_false, true_and, false_and, and_self, or_self, or_true, true_or, or_false, false_or, ↓reduceIte]) (lv_sub hl [0, 1, 2] rfl)
      · rw [hr_8] at c_9
        refine lv_iconst (v := 1) hx hb d_M_correct_38 (by decide) ?_
        refine lv_goto (tgt := 43) hx hb d_M_correct_39 (by decide) ?_
        exact j43 b1 b2 1 ls eb1 eb2 (by simp only [p_6, c_9, not_true_eq_false, not_false_eq_true, and_true, and_false, true_and, false_and, and_self, or_self, or_true, true_or, or_false, false_or, ↓reduceIte]) (lv_sub hl [0, 1, 2] rfl)
  have j8 : ∀ (b1 : Int32) (ls : Array Slot), b1 = (if ¬ x1 < 0 ∧ ¬ n - 1 < x1 then 1 else 0) → lv_has ls 3 [(0, .ref mm), (1, .int x1), (2, .int x2)] → W p l e (headSpec (wm y_M_correct c_M_correct 3 (some .int)) ({ frames := 2, cells := 0, slots := 0, locals := 43 })).room s m ([.ref mm, .int x1, .int x2] : List Value).toArray below meth c s.heap [] 0 0 (MQ below (va_Qi (fun (r0 : Int32) (u : Nat → Option va_E) => (¬ gC (if ¬ x1 < 0 ∧ ¬ n - 1 < x1 then 1 else 0) (if (¬ x2 < (-9999) ∧ ¬ 9999 < x2) then 1 else 0) (if (¬ x1 < 0 ∧ ¬ n - 1 < x1) ∧ strM f no x1.toNatClampNeg ka = 0 then 1 else 0) (if 200 ≤ k then 0 else 1) = 0 → mPic u mm cI ad f (nI (gT 15 (gC (if ¬ x1 < 0 ∧ ¬ n - 1 < x1 then 1 else 0) (if (¬ x2 < (-9999) ∧ ¬ 9999 < x2) then 1 else 0) (if (¬ x1 < 0 ∧ ¬ n - 1 < x1) ∧ strM f no x1.toNatClampNeg ka = 0 then 1 else 0) (if 200 ≤ k then 0 else 1)))) no wr n k z r so pr) ∧ (gC (if ¬ x1 < 0 ∧ ¬ n - 1 < x1 then 1 else 0) (if (¬ x2 < (-9999) ∧ ¬ 9999 < x2) then 1 else 0) (if (¬ x1 < 0 ∧ ¬ n - 1 < x1) ∧ strM f no x1.toNatClampNeg ka = 0 then 1 else 0) (if 200 ≤ k then 0 else 1) = 0 → r0 = nI (manM (fAct f ka x1 2 x2 no) 0 x1.toNatClampNeg (ka + 1)) ∧ mPic u mm cI ad (fAct f ka x1 2 x2 no) 0 no wr n (k + 1) z r so pr)) (fun w2 t => mw G ncl A w2 t.heap ∧ va_K G ncl (q0 :: q1 :: (cI, .int) :: ty2) t) A) ([.ref mm, .int x1, .int x2] : List Value).toArray s 0 0 A) (F0 m 8 ls [.int b1, .int 15, .ref mm]) := by
    intro b1 ls eb1 hl
    refine lv_iload_n hx hb d_M_correct_8 rfl (lv_at hl 2 rfl) ?_
    refine lv_sipush (v := (-9999)) hx hb d_M_correct_9 (by decide) ?_
    refine lv_sipush (v := 9999) hx hb d_M_correct_12 (by decide) ?_
    refine vp_callSi (W.runS (As := [.int x2, .int (-9999), .int 9999]) (rest := [.int b1, .int 15, .ref mm]) ⟨hx, hb, hml, hown, hta⟩ (k_M_in l x2 (-9999) 9999) (cS 3 hta aw_626 aw_5 aw_624 aw_625 rfl rfl (by decide +kernel) ⟨Nat.le_of_ble_eq_true rfl, Nat.le_of_ble_eq_true rfl⟩) ⟨fun a U g mk q => q, fun U hU hW => ⟨rfl, trivial⟩⟩ rfl rfl hl.1 rfl (lv_room (Nat.le_of_ble_eq_true rfl)) d_M_correct_15 ⟨Nat.le_of_ble_eq_true rfl, Nat.le_of_ble_eq_true rfl⟩) (fun r_2 hr_2 => ?_)
    exact j18 b1 r_2 ls eb1 (by simp only [hr_2, not_true_eq_false, not_false_eq_true, and_true, and_false, true_and, false_and, and_self, or_self, or_true, true_or, or_false, false_or, ↓reduceIte]) (lv_sub hl [0, 1, 2] rfl)
  refine lv_aload_n hx hb d_M_correct_0 rfl (lv_at hl 0 rfl) ?_
  refine lv_bipush (v := 15) hx hb d_M_correct_1 (by decide) ?_
  refine lv_aload_n hx hb d_M_correct_3 rfl (lv_at hl 0 rfl) ?_
  refine lv_iload_n hx hb d_M_correct_4 rfl (lv_at hl 1 rfl) ?_
  refine vp_callSi (W.runV (As := [.int x1]) (rest := [.int 15, .ref mm]) ⟨hx, hb, hml, hown, hta⟩ (k_M_isNote l G q0 q1 cI ty2 w hmp.1 hmp.2 x1) (cV 1 hta aw_638 aw_5 aw_635 aw_637 as_SceneTimesModel_isNote rfl rfl (by decide +kernel) ⟨Nat.le_of_ble_eq_true rfl, Nat.le_of_ble_eq_true rfl⟩) (pW_V hK hM rfl hmp.1) rfl rfl hl.1 rfl (lv_room (Nat.le_of_ble_eq_true rfl)) d_M_correct_5 ⟨Nat.le_of_ble_eq_true rfl, Nat.le_of_ble_eq_true rfl⟩) (fun r_1 hr_1 => ?_)
  exact j8  r_1 ls  (by simp only [hr_1, not_true_eq_false, not_false_eq_true, and_true, and_false, true_and, false_and, and_self, or_self, or_true, true_or, or_false, false_or, ↓reduceIte]) (lv_sub hl [0, 1, 2] rfl)
set_option maxHeartbeats 4000000 in
set_option maxRecDepth 100000 in
theorem k_M_strike (l : Launch) (G : va_G) (q0 q1 : ClassId × FieldType) (cI : ClassId) (ty2 : List (ClassId × FieldType)) (w : Nat → Option va_E) {mm : Nat} {ad : Nat → Nat} (had : ∀ i j, i < 12 → j < 12 → ad i = ad j → i = j) {f : Nat → Nat → Int32} {th no wr n k z r so pr : Int32} (hmp : mPic w mm cI ad f th no wr n k z r so pr) {ka nn : Nat} (hk : ka ≤ 200) (ek : k = nI ka) (hn : nn ≤ 100) (en : n = nI nn) (x1 x2 : Int32) (sz : Nat) : Met l y_M_strike (wm y_M_strike c_M_strike 3 none) ({ frames := 2, cells := 0, slots := 0, locals := 43 }) (pZ G (q0 :: q1 :: (cI, .int) :: ty2) w sz [.ref mm, .int x1, .int x2]) (va_Qv (fun (u : Nat → Option va_E) => (¬ gC (if ¬ x1 < 0 ∧ ¬ n - 1 < x1 then 1 else 0) 1 (if (¬ x1 < 0 ∧ ¬ n - 1 < x1) ∧ ¬ strM f no x1.toNatClampNeg ka = x2 then 1 else 0) (if 200 ≤ k then 0 else 1) = 0 → mPic u mm cI ad f (nI (gT 13 (gC (if ¬ x1 < 0 ∧ ¬ n - 1 < x1 then 1 else 0) 1 (if (¬ x1 < 0 ∧ ¬ n - 1 < x1) ∧ ¬ strM f no x1.toNatClampNeg ka = x2 then 1 else 0) (if 200 ≤ k then 0 else 1)))) no wr n k z r so pr) ∧ (gC (if ¬ x1 < 0 ∧ ¬ n - 1 < x1 then 1 else 0) 1 (if (¬ x1 < 0 ∧ ¬ n - 1 < x1) ∧ ¬ strM f no x1.toNatClampNeg ka = x2 then 1 else 0) (if 200 ≤ k then 0 else 1) = 0 → mPic u mm cI ad (fAct f ka x1 (if x2 = 0 then 1 else 0) 0 no) 0 no wr n (k + 1) z r so pr)) (fun w2 t => mw G ncl (mA w sz) w2 t.heap ∧ va_K G ncl (q0 :: q1 :: (cI, .int) :: ty2) t) (mA w sz)) 0 0 (mA w sz) := by
  refine Met.ofW (cc := c_M_strike) (maxL := 3) (ret := none) (by decide) rfl ?_
  intro p e s m args below meth c s₁ B hml hv
  obtain ⟨rfl, hsz, hM0, hK⟩ := hv
  have hx := B.exec
  have hb := B.bytes
  have hr := B.returns
  have hts := atoms_spec (ws := (wm y_M_strike c_M_strike 3 none)) B.pre
  have hta : ∀ w ∈ AL, w.before _ s = true := fun w h => hts w (List.mem_cons_of_mem _ h)
  have hown : s.vm.findClass nR_M = some m.cls := findClass_of_methodNamed B.named
  have hlocks := B.notSynchronized
  have hl := lv_entry ([.ref mm, .int x1, .int x2]) (n := 3) (Nat.le_of_ble_eq_true rfl)
  rw [lg_entry_eq]
  generalize (lg_sl ([.ref mm, .int x1, .int x2]) ++ List.replicate (3 - (lg_sl ([.ref mm, .int x1, .int x2])).length) Slot.unset).toArray = ls at hl ⊢
  have hl : lv_has ls 3 [(0, .ref mm), (1, .int x1), (2, .int x2)] := hl
  subst hsz
  have hM := mw_self (sz := s.heap.size) hM0
  clear hM0
  generalize hAe : mA w s.heap.size = A at hM ⊢
  have hA : ∀ q : Nat, s.heap.size ≤ q → A q := fun q h => by rw [← hAe]; exact Or.inr h
  have hS : va_S A s.heap s.heap [] := va_S.rf
  have j50 : ∀ (b1 b3 b4 : Int32) (ls : Array Slot), b1 = (if ¬ x1 < 0 ∧ ¬ n - 1 < x1 then 1 else 0) → b3 = (if (¬ x1 < 0 ∧ ¬ n - 1 < x1) ∧ ¬ strM f no x1.toNatClampNeg ka = x2 then 1 else 0) → b4 = (if 200 ≤ k then 0 else 1) → lv_has ls 3 [(0, .ref mm), (1, .int x1), (2, .int x2)] → W p l e (headSpec (wm y_M_strike c_M_strike 3 none) ({ frames := 2, cells := 0, slots := 0, locals := 43 })).room s m ([.ref mm, .int x1, .int x2] : List Value).toArray below meth c s.heap [] 0 0 (MQ below (va_Qv (fun (u : Nat → Option va_E) => (¬ gC (if ¬ x1 < 0 ∧ ¬ n - 1 < x1 then 1 else 0) 1 (if (¬ x1 < 0 ∧ ¬ n - 1 < x1) ∧ ¬ strM f no x1.toNatClampNeg ka = x2 then 1 else 0) (if 200 ≤ k then 0 else 1) = 0 → mPic u mm cI ad f (nI (gT 13 (gC (if ¬ x1 < 0 ∧ ¬ n - 1 < x1 then 1 else 0) 1 (if (¬ x1 < 0 ∧ ¬ n - 1 < x1) ∧ ¬ strM f no x1.toNatClampNeg ka = x2 then 1 else 0) (if 200 ≤ k then 0 else 1)))) no wr n k z r so pr) ∧ (gC (if ¬ x1 < 0 ∧ ¬ n - 1 < x1 then 1 else 0) 1 (if (¬ x1 < 0 ∧ ¬ n - 1 < x1) ∧ ¬ strM f no x1.toNatClampNeg ka = x2 then 1 else 0) (if 200 ≤ k then 0 else 1) = 0 → mPic u mm cI ad (fAct f ka x1 (if x2 = 0 then 1 else 0) 0 no) 0 no wr n (k + 1) z r so pr)) (fun w2 t => mw G ncl A w2 t.heap ∧ va_K G ncl (q0 :: q1 :: (cI, .int) :: ty2) t) A) ([.ref mm, .int x1, .int x2] : List Value).toArray s 0 0 A) (F0 m 50 ls [.int b4, .int b3, .int 1, .int b1, .int 13, .ref mm]) := by
    intro b1 b3 b4 ls eb1 eb3 eb4 hl
    have hF := mw_free hM hS hA
    refine va_calli (va_runV (As := [.int 13, .int b1, .int 1, .int b3, .int b4]) (rest := []) ⟨hx, hb, hml, hown, hta⟩ (k_M_goes_13 l G q0 q1 cI ty2 w hmp.1 hmp.2 b1 1 b3 b4 _) (cV 5 hta aw_619 aw_5 aw_616 aw_618 as_SceneTimesModel_goes rfl rfl (by decide +kernel) ⟨Nat.le_of_ble_eq_true rfl, Nat.le_of_ble_eq_true rfl⟩) (pZ_V hK hM rfl hmp.1) rfl rfl hl.1 rfl (lv_room (Nat.le_of_ble_eq_true rfl)) d_M_strike_50 ⟨Nat.le_of_ble_eq_true rfl, Nat.le_of_ble_eq_true rfl⟩) hS (fun q _ h => hF q h) hF (fun r_10 u_r_10 t H locs ht hvm hr_10 hB hz1 hk1 hS => ?_)
    obtain ⟨hM1, hK1⟩ := hB
    rw [ht] at hM1
    have hM := mw_weaken hM1 hF
    clear hM1 hK1 hF hk1 hz1
    obtain ⟨w_11, hw_11⟩ : ∃ z9 : Nat → Option va_E, z9 = va_up w mm (some (.inr (6, [.int (nI (gT 13 (gC b1 1 b3 b4))), .int no, .int wr, .int n, .ref (ad 0), .ref (ad 1), .ref (ad 2), .ref (ad 3), .ref (ad 4), .ref (ad 5), .int k, .ref (ad 6), .ref (ad 7), .ref (ad 8), .ref (ad 9), .int z, .int r, .int so, .ref (ad 10), .int pr, .ref (ad 11)]))) := ⟨_, rfl⟩
    rw [← hw_11] at hM
    have mp_12 : mPic w_11 mm cI ad f (nI (gT 13 (gC b1 1 b3 b4))) no wr n k z r so pr := by rw [hw_11]; exact mp_obj hmp (nI (gT 13 (gC b1 1 b3 b4))) no wr n k z r so pr
    refine lv_if_eq (tgt := 71) hx hb d_M_strike_53 (by decide) (fun c_13 => ?_) (fun c_13 => ?_)
    · have hc := go_f hr_10 c_13
      exact W.vret hx hb hr (fun t ht hW => ⟨⟨w_11, rfl, (by subst eb1; subst eb3; subst eb4; exact ⟨fun _ => mp_12, fun q => absurd q hc⟩), by rw [ht]; exact hM, va_K.moved hW.alike hK⟩, hS.F ht⟩) hS.2.2 d_M_strike_71
    · have hc := go_t hr_10 c_13
      have g := gC_room hc
      have hlt : ka < 200 := n_lt ek (by have q := g.2.2.2; rw [eb4] at q; exact i0_t q) (by omega)
      refine lv_aload_n hx hb d_M_strike_56 rfl (lv_at hl 0 rfl) ?_
      refine lv_iload_n hx hb d_M_strike_57 rfl (lv_at hl 1 rfl) ?_
      refine lv_iload_n hx hb d_M_strike_58 rfl (lv_at hl 2 rfl) ?_
      refine lv_if_eq (tgt := 66) hx hb d_M_strike_59 (by decide) (fun c_14 => ?_) (fun c_14 => ?_)
      · refine lv_iconst (v := 1) hx hb d_M_strike_66 (by decide) ?_
        refine lv_iconst (v := 0) hx hb d_M_strike_67 (by decide) ?_
        have hF := mw_free hM hS hA
        refine va_callv (va_runV (As := [.int x1, .int 1, .int 0]) (rest := []) ⟨hx, hb, hml, hown, hta⟩ (k_M_does l G q0 q1 cI ty2 w_11 had mp_12 (ka := ka) hlt ek x1 1 0 _) (cV 3 hta aw_646 aw_5 aw_643 aw_645 as_SceneTimesModel_does rfl rfl (by decide +kernel) ⟨Nat.le_of_ble_eq_true rfl, Nat.le_of_ble_eq_true rfl⟩) (pZ_V hK hM rfl mp_12.1) rfl rfl hl.1 rfl (lv_room (Nat.le_of_ble_eq_true rfl)) d_M_strike_68 ⟨Nat.le_of_ble_eq_true rfl, Nat.le_of_ble_eq_true rfl⟩) hS (fun q _ h => hF q h) hF (fun u_r_15 t H locs ht hvm hr_15 hB hz1 hk1 hS => ?_)
        obtain ⟨hM1, hK1⟩ := hB
        rw [ht] at hM1
        have hM := mw_weaken hM1 hF
        clear hM1 hK1 hF hk1 hz1
        exact W.vret hx hb hr (fun t ht hW => ⟨⟨u_r_15, rfl, (by subst eb1; subst eb3; subst eb4; exact ⟨fun q => absurd hc q, fun _ => (by have q := hr_15; rw [hc] at q; simp only [c_14, not_true_eq_false, not_false_eq_true, and_true, and_false, true_and, false_and, and_self, or_self, or_true, true_or, or_false, false_or, ↓reduceIte]; exact q)⟩), by rw [ht]; exact hM, va_K.moved hW.alike hK⟩, hS.F ht⟩) hS.2.2 d_M_strike_71
      · refine lv_iconst (v := 0) hx hb d_M_strike_62 (by decide) ?_
        refine lv_goto (tgt := 67) hx hb d_M_strike_63 (by decide) ?_
        refine lv_iconst (v := 0) hx hb d_M_strike_67 (by decide) ?_
        have hF := mw_free hM hS hA
        refine va_callv (va_runV (As := [.int x1, .int 0, .int 0]) (rest := []) ⟨hx, hb, hml, hown, hta⟩ (k_M_does l G q0 q1 cI ty2 w_11 had mp_12 (ka := ka) hlt ek x1 0 0 _) (cV 3 hta aw_646 aw_5 aw_643 aw_645 as_SceneTimesModel_does rfl rfl (by decide +kernel) ⟨Nat.le_of_ble_eq_true rfl, Nat.le_of_ble_eq_true rfl⟩) (pZ_V hK hM rfl mp_12.1) rfl rfl hl.1 rfl (lv_room (Nat.le_of_ble_eq_true rfl)) d_M_strike_68 ⟨Nat.le_of_ble_eq_true rfl, Nat.le_of_ble_eq_true rfl⟩) hS (fun q _ h => hF q h) hF (fun u_r_16 t H locs ht hvm hr_16 hB hz1 hk1 hS => ?_)
        obtain ⟨hM1, hK1⟩ := hB
        rw [ht] at hM1
        have hM := mw_weaken hM1 hF
        clear hM1 hK1 hF hk1 hz1
        exact W.vret hx hb hr (fun t ht hW => ⟨⟨u_r_16, rfl, (by subst eb1; subst eb3; subst eb4; exact ⟨fun q => absurd hc q, fun _ => (by have q := hr_16; rw [hc] at q; simp only [c_14, not_true_eq_false, not_false_eq_true, and_true, and_false, true_and, false_and, and_self, or_self, or_true, true_or, or_false, false_or, ↓reduceIte]; exact q)⟩), by rw [ht]; exact hM, va_K.moved hW.alike hK⟩, hS.F ht⟩) hS.2.2 d_M_strike_71
  have j35 : ∀ (b1 b3 : Int32) (ls : Array Slot), b1 = (if ¬ x1 < 0 ∧ ¬ n - 1 < x1 then 1 else 0) → b3 = (if (¬ x1 < 0 ∧ ¬ n - 1 < x1) ∧ ¬ strM f no x1.toNatClampNeg ka = x2 then 1 else 0) → lv_has ls 3 [(0, .ref mm), (1, .int x1), (2, .int x2)] → W p l e (headSpec (wm y_M_strike c_M_strike 3 none) ({ frames := 2, cells := 0, slots := 0, locals := 43 })).room s m ([.ref mm, .int x1, .int x2] : List Value).toArray below meth c s.heap [] 0 0 (MQ below (va_Qv (fun (u : Nat → Option va_E) => (¬ gC (if ¬ x1 < 0 ∧ ¬ n - 1 < x1 then 1 else 0) 1 (if (¬ x1 < 0 ∧ ¬ n - 1 < x1) ∧ ¬ strM f no x1.toNatClampNeg ka = x2 then 1 else 0) (if 200 ≤ k then 0 else 1) = 0 → mPic u mm cI ad f (nI (gT 13 (gC (if ¬ x1 < 0 ∧ ¬ n - 1 < x1 then 1 else 0) 1 (if (¬ x1 < 0 ∧ ¬ n - 1 < x1) ∧ ¬ strM f no x1.toNatClampNeg ka = x2 then 1 else 0) (if 200 ≤ k then 0 else 1)))) no wr n k z r so pr) ∧ (gC (if ¬ x1 < 0 ∧ ¬ n - 1 < x1 then 1 else 0) 1 (if (¬ x1 < 0 ∧ ¬ n - 1 < x1) ∧ ¬ strM f no x1.toNatClampNeg ka = x2 then 1 else 0) (if 200 ≤ k then 0 else 1) = 0 → mPic u mm cI ad (fAct f ka x1 (if x2 = 0 then 1 else 0) 0 no) 0 no wr n (k + 1) z r so pr)) (fun w2 t => mw G ncl A w2 t.heap ∧ va_K G ncl (q0 :: q1 :: (cI, .int) :: ty2) t) A) ([.ref mm, .int x1, .int x2] : List Value).toArray s 0 0 A) (F0 m 35 ls [.int b3, .int 1, .int b1, .int 13, .ref mm]) := by
    intro b1 b3 ls eb1 eb3 hl
    refine lv_aload_n hx hb d_M_strike_35 rfl (lv_at hl 0 rfl) ?_
    refine m_get (D := G) (ci := 6) (v := .int k) (C := nR_M) (T := nT_M) (N := 21) hx hb hta in_M hown hK hM hmp.1 rfl 10 (by decide) (hta _ aw_553) (fun _ h9 => h9) rfl d_M_strike_36 ?_
    refine lv_sipush (v := 200) hx hb d_M_strike_39 (by decide) ?_
    refine lv_icmp_ge (tgt := 49) hx hb d_M_strike_42 (by decide) (fun c_9 => ?_) (fun c_9 => ?_)
    · refine lv_iconst (v := 0) hx hb d_M_strike_49 (by decide) ?_
      exact j50 b1 b3 0 ls eb1 eb3 (by simp only [c_9, not_true_eq_false, not_false_eq_true, and_true, and_false, true_and, false_and, and_self, or_self, or_true, true_or, or_false, false_or, ↓reduceIte]) (lv_sub hl [0, 1, 2] rfl)
    · refine lv_iconst (v := 1) hx hb d_M_strike_45 (by decide) ?_
      refine lv_goto (tgt := 50) hx hb d_M_strike_46 (by decide) ?_
      exact j50 b1 b3 1 ls eb1 eb3 (by simp only [c_9, not_true_eq_false, not_false_eq_true, and_true, and_false, true_and, false_and, and_self, or_self, or_true, true_or, or_false, false_or, ↓reduceIte]) (lv_sub hl [0, 1, 2] rfl)
  have j8 : ∀ (b1 : Int32) (ls : Array Slot), b1 = (if ¬ x1 < 0 ∧ ¬ n - 1 < x1 then 1 else 0) → lv_has ls 3 [(0, .ref mm), (1, .int x1), (2, .int x2)] → W p l e (headSpec (wm y_M_strike c_M_strike 3 none) ({ frames := 2, cells := 0, slots := 0, locals := 43 })).room s m ([.ref mm, .int x1, .int x2] : List Value).toArray below meth c s.heap [] 0 0 (MQ below (va_Qv (fun (u : Nat → Option va_E) => (¬ gC (if ¬ x1 < 0 ∧ ¬ n - 1 < x1 then 1 else 0) 1 (if (¬ x1 < 0 ∧ ¬ n - 1 < x1) ∧ ¬ strM f no x1.toNatClampNeg ka = x2 then 1 else 0) (if 200 ≤ k then 0 else 1) = 0 → mPic u mm cI ad f (nI (gT 13 (gC (if ¬ x1 < 0 ∧ ¬ n - 1 < x1 then 1 else 0) 1 (if (¬ x1 < 0 ∧ ¬ n - 1 < x1) ∧ ¬ strM f no x1.toNatClampNeg ka = x2 then 1 else 0) (if 200 ≤ k then 0 else 1)))) no wr n k z r so pr) ∧ (gC (if ¬ x1 < 0 ∧ ¬ n - 1 < x1 then 1 else 0) 1 (if (¬ x1 < 0 ∧ ¬ n - 1 < x1) ∧ ¬ strM f no x1.toNatClampNeg ka = x2 then 1 else 0) (if 200 ≤ k then 0 else 1) = 0 → mPic u mm cI ad (fAct f ka x1 (if x2 = 0 then 1 else 0) 0 no) 0 no wr n (k + 1) z r so pr)) (fun w2 t => mw G ncl A w2 t.heap ∧ va_K G ncl (q0 :: q1 :: (cI, .int) :: ty2) t) A) ([.ref mm, .int x1, .int x2] : List Value).toArray s 0 0 A) (F0 m 8 ls [.int b1, .int 13, .ref mm]) := by
    intro b1 ls eb1 hl
    refine lv_iconst (v := 1) hx hb d_M_strike_8 (by decide) ?_
    refine lv_aload_n hx hb d_M_strike_9 rfl (lv_at hl 0 rfl) ?_
    refine lv_iload_n hx hb d_M_strike_10 rfl (lv_at hl 1 rfl) ?_
    refine vp_callSi (W.runV (As := [.int x1]) (rest := [.int 1, .int b1, .int 13, .ref mm]) ⟨hx, hb, hml, hown, hta⟩ (k_M_isNote l G q0 q1 cI ty2 w hmp.1 hmp.2 x1) (cV 1 hta aw_638 aw_5 aw_635 aw_637 as_SceneTimesModel_isNote rfl rfl (by decide +kernel) ⟨Nat.le_of_ble_eq_true rfl, Nat.le_of_ble_eq_true rfl⟩) (pW_V hK hM rfl hmp.1) rfl rfl hl.1 rfl (lv_room (Nat.le_of_ble_eq_true rfl)) d_M_strike_11 ⟨Nat.le_of_ble_eq_true rfl, Nat.le_of_ble_eq_true rfl⟩) (fun r_2 hr_2 => ?_)
    refine lv_if_eq (tgt := 34) hx hb d_M_strike_14 (by decide) (fun c_3 => ?_) (fun c_3 => ?_)
    · have p_4 := b1_f hr_2 c_3
      refine lv_iconst (v := 0) hx hb d_M_strike_34 (by decide) ?_
      exact j35 b1 0 ls eb1 (by simp only [p_4, not_true_eq_false, not_false_eq_true, and_true, and_false, true_and, false_and, and_self, or_self, or_true, true_or, or_false, false_or, ↓reduceIte]) (lv_sub hl [0, 1, 2] rfl)
    · have p_5 := b1_t hr_2 c_3
      refine lv_aload_n hx hb d_M_strike_17 rfl (lv_at hl 0 rfl) ?_
      refine lv_iload_n hx hb d_M_strike_18 rfl (lv_at hl 1 rfl) ?_
      refine lv_aload_n hx hb d_M_strike_19 rfl (lv_at hl 0 rfl) ?_
      refine m_get (D := G) (ci := 6) (v := .int no) (C := nR_M) (T := nT_M) (N := 21) hx hb hta in_M hown hK hM hmp.1 rfl 1 (by decide) (hta _ aw_544) (fun _ h9 => h9) rfl d_M_strike_20 ?_
      have ej_6 := (isN en hn p_5).1
      refine vp_callSi (W.runV (As := [.int x1, .int no]) (rest := [.int 1, .int b1, .int 13, .ref mm]) ⟨hx, hb, hml, hown, hta⟩ (k_M_isStruck_x l G q0 q1 cI ty2 w hmp.1 hmp.2 hk ek x1.toNatClampNeg no x1 ej_6) (cV 2 hta aw_642 aw_5 aw_639 aw_641 as_SceneTimesModel_isStruck rfl rfl (by decide +kernel) ⟨Nat.le_of_ble_eq_true rfl, Nat.le_of_ble_eq_true rfl⟩) (pW_V hK hM rfl hmp.1) rfl rfl hl.1 rfl (lv_room (Nat.le_of_ble_eq_true rfl)) d_M_strike_23 ⟨Nat.le_of_ble_eq_true rfl, Nat.le_of_ble_eq_true rfl⟩) (fun r_7 hr_7 => ?_)
      refine lv_iload_n hx hb d_M_strike_26 rfl (lv_at hl 2 rfl) ?_
      refine lv_icmp_eq (tgt := 34) hx hb d_M_strike_27 (by decide) (fun c_8 => ?_) (fun c_8 => ?_)
      · rw [hr_7] at c_8
        refine lv_iconst (v := 0) hx hb d_M_strike_34 (by decide) ?_
        exact j35 b1 0 ls eb1 (by simp only [p_5, c_8, not_true_eq_false, not_false_eq_true, and_true, and_false, true_and, false_and, and_self, or_self, or_true, true_or, or_false, false_or, ↓reduceIte]) (lv_sub hl [0, 1, 2] rfl)
      · rw [hr_7] at c_8
        refine lv_iconst (v := 1) hx hb d_M_strike_30 (by decide) ?_
        refine lv_goto (tgt := 35) hx hb d_M_strike_31 (by decide) ?_
        exact j35 b1 1 ls eb1 (by simp only [p_5, c_8, not_true_eq_false, not_false_eq_true, and_true, and_false, true_and, false_and, and_self, or_self, or_true, true_or, or_false, false_or, ↓reduceIte]) (lv_sub hl [0, 1, 2] rfl)
  refine lv_aload_n hx hb d_M_strike_0 rfl (lv_at hl 0 rfl) ?_
  refine lv_bipush (v := 13) hx hb d_M_strike_1 (by decide) ?_
  refine lv_aload_n hx hb d_M_strike_3 rfl (lv_at hl 0 rfl) ?_
  refine lv_iload_n hx hb d_M_strike_4 rfl (lv_at hl 1 rfl) ?_
  refine vp_callSi (W.runV (As := [.int x1]) (rest := [.int 13, .ref mm]) ⟨hx, hb, hml, hown, hta⟩ (k_M_isNote l G q0 q1 cI ty2 w hmp.1 hmp.2 x1) (cV 1 hta aw_638 aw_5 aw_635 aw_637 as_SceneTimesModel_isNote rfl rfl (by decide +kernel) ⟨Nat.le_of_ble_eq_true rfl, Nat.le_of_ble_eq_true rfl⟩) (pW_V hK hM rfl hmp.1) rfl rfl hl.1 rfl (lv_room (Nat.le_of_ble_eq_true rfl)) d_M_strike_5 ⟨Nat.le_of_ble_eq_true rfl, Nat.le_of_ble_eq_true rfl⟩) (fun r_1 hr_1 => ?_)
  exact j8  r_1 ls  (by simp only [hr_1, not_true_eq_false, not_false_eq_true, and_true, and_false, true_and, false_and, and_self, or_self, or_true, true_or, or_false, false_or, ↓reduceIte]) (lv_sub hl [0, 1, 2] rfl)
