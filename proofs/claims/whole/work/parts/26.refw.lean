/-! the reference: its writers, its short answers -/
theorem m_iasv {p : Program} {l : Launch} {e : Env} {R : Room} {s : State} {m : MethodId} {args : Array Value} {below : List Frame} {meth : Method} {c : Code} {H : Heap} {locs : List Loc} {cells slots : Nat} {Q : State → Prop} {cc : ByteArray} {pc : Nat} {ls : Array Slot} {rest : List Value} {D : va_G} {cl : List vw_C} {A : Nat → Prop} {a : Nat} {tys : List (ClassId × FieldType)} {w : Nat → Option va_E} {H0 : Heap}
    (hexec : p.tables.exec = Jvm.exec) (hb : c.code = cc) (hK : va_K D cl tys s) (hM : mw D cl A w H) (hS : va_S A H0 H locs) (t0 : Nat) {cA : ClassId} {n : Nat} {f : Nat → Int32} (ha : w a = some (.inl (cA, n, .inl f))) (ht : tys[t0]? = some (cA, .int)) {i x : Int32} (hin : vp_in i n) {k : Nat} (hk : i.toNatClampNeg = k) (hdg : decode cc pc = .ok (.iastore, 1))
    (kk : ∀ (H : Heap) (locs : List Loc), mw D cl A (va_up w a (some (.inl (cA, n, .inl (upd f k x))))) H → va_S A H0 H locs → W p l e R s m args below meth c H locs cells slots Q (F0 m (pc + 1) ls rest)) : W p l e R s m args below meth c H locs cells slots Q (F0 m pc ls (.int x :: .int i :: .ref a :: rest)) := by
  subst hk
  exact m_iast hexec hb hK hM hS t0 ha ht hin hdg kk
def mPic (w : Nat → Option va_E) (mm : Nat) (cI : ClassId) (ad : Nat → Nat) (f : Nat → Nat → Int32) (th no wr n k z r so pr : Int32) : Prop := w mm = some (eM ad th no wr n k z r so pr) ∧ ∀ i, i < 12 → w (ad i) = some (aI cI (msz i) (f i))
section MP
variable {w : Nat → Option va_E} {mm : Nat} {cI : ClassId} {ad : Nat → Nat} {f : Nat → Nat → Int32} {th no wr n k z r so pr : Int32}
theorem mp_obj (h : mPic w mm cI ad f th no wr n k z r so pr) (th2 no2 wr2 n2 k2 z2 r2 so2 pr2 : Int32) : mPic (va_up w mm (some (eM ad th2 no2 wr2 n2 k2 z2 r2 so2 pr2))) mm cI ad f th2 no2 wr2 n2 k2 z2 r2 so2 pr2 :=
  ⟨by rw [va_up_self], fun i hi => by rw [va_up_ne _ _ (m_ne (h.2 i hi) h.1 (by intro q; cases q))]; exact h.2 i hi⟩
theorem mp_arr (had : ∀ i j, i < 12 → j < 12 → ad i = ad j → i = j) (h : mPic w mm cI ad f th no wr n k z r so pr) (j : Nat) (hj : j < 12) (g : Nat → Int32) : mPic (va_up w (ad j) (some (aI cI (msz j) g))) mm cI ad (va_up f j g) th no wr n k z r so pr := by
  refine ⟨by rw [va_up_ne _ _ (m_ne h.1 (h.2 j hj) (by intro q; cases q))]; exact h.1, fun i hi => ?_⟩
  by_cases q : i = j
  · subst q; rw [va_up_self, va_up_self]
  · rw [va_up_ne _ _ (fun e => q (had i j hi hj e)), va_up_ne _ _ q]; exact h.2 i hi
theorem b1_t {P : Prop} [Decidable P] {x : Int32} (h : x = if P then 1 else 0) (h2 : ¬ x = 0) : P := Classical.byContradiction (fun q => by rw [if_neg q] at h; exact h2 h)
theorem b1_f {P : Prop} [Decidable P] {x : Int32} (h : x = if P then 1 else 0) (h2 : x = 0) : ¬ P := fun q => by rw [if_pos q, h2] at h; exact absurd h (by decide)
theorem go_t {c : Nat} {x : Int32} (h : x = if c = 0 then 1 else 0) (h2 : ¬ x = 0) : c = 0 := Classical.byContradiction (fun q => by rw [if_neg q] at h; exact h2 h)
theorem go_f {c : Nat} {x : Int32} (h : x = if c = 0 then 1 else 0) (h2 : x = 0) : c ≠ 0 := fun q => by rw [if_pos q, h2] at h; exact absurd h (by decide)
end MP
set_option maxHeartbeats 4000000 in
set_option maxRecDepth 100000 in
theorem k_M_thrown (l : Launch) (G : va_G) (q0 q1 : ClassId × FieldType) (cI : ClassId) (ty2 : List (ClassId × FieldType)) (w : Nat → Option va_E) {mm : Nat} {ad : Nat → Nat} (had : ∀ i j, i < 12 → j < 12 → ad i = ad j → i = j) {f : Nat → Nat → Int32} {th no wr n k z r so pr : Int32} (hmp : mPic w mm cI ad f th no wr n k z r so pr) : Met l y_M_thrown (wm y_M_thrown c_M_thrown 1 (some .int)) ({ frames := 0, cells := 0, slots := 0, locals := 0 }) (pW G (q0 :: q1 :: (cI, .int) :: ty2) w [.ref mm]) (vp_Si (fun r => r = th)) 0 0 (fun _ => False) := by
  refine Met.ofW (cc := c_M_thrown) (maxL := 1) (ret := (some .int)) (by decide) rfl ?_
  intro p e s m args below meth c s₁ B hml hv
  obtain ⟨rfl, hM, hK⟩ := hv
  have hx := B.exec
  have hb := B.bytes
  have hr := B.returns
  have hts := atoms_spec (ws := (wm y_M_thrown c_M_thrown 1 (some .int))) B.pre
  have hta : ∀ w ∈ AL, w.before _ s = true := fun w h => hts w (List.mem_cons_of_mem _ h)
  have hown : s.vm.findClass nR_M = some m.cls := findClass_of_methodNamed B.named
  have hlocks := B.notSynchronized
  have hl := lv_entry ([.ref mm]) (n := 1) (Nat.le_of_ble_eq_true rfl)
  rw [lg_entry_eq]
  generalize (lg_sl ([.ref mm]) ++ List.replicate (1 - (lg_sl ([.ref mm])).length) Slot.unset).toArray = ls at hl ⊢
  have hl : lv_has ls 1 [(0, .ref mm)] := hl
  refine lv_aload_n hx hb d_M_thrown_0 rfl (lv_at hl 0 rfl) ?_
  refine m_get (D := G) (ci := 6) (v := .int th) (C := nR_M) (T := nT_M) (N := 21) hx hb hta in_M hown hK hM hmp.1 rfl 0 (by decide) (hta _ aw_543) (fun _ h9 => h9) rfl d_M_thrown_1 ?_
  exact W.iret (v := th) hx hb hr (fun t ht hW => ⟨th, rfl, rfl, ht⟩) (fun q h => nomatch h) d_M_thrown_4
set_option maxHeartbeats 4000000 in
set_option maxRecDepth 100000 in
theorem k_M_writer (l : Launch) (G : va_G) (q0 q1 : ClassId × FieldType) (cI : ClassId) (ty2 : List (ClassId × FieldType)) (w : Nat → Option va_E) {mm : Nat} {ad : Nat → Nat} (had : ∀ i j, i < 12 → j < 12 → ad i = ad j → i = j) {f : Nat → Nat → Int32} {th no wr n k z r so pr : Int32} (hmp : mPic w mm cI ad f th no wr n k z r so pr) (sz : Nat) : Met l y_M_writer (wm y_M_writer c_M_writer 1 (some .int)) ({ frames := 1, cells := 0, slots := 0, locals := 27 }) (pZ G (q0 :: q1 :: (cI, .int) :: ty2) w sz [.ref mm]) (va_Qi (fun (r0 : Int32) (u : Nat → Option va_E) => (¬ gC 1 1 1 (if 10 ≤ wr then 0 else 1) = 0 → mPic u mm cI ad f (nI (gT 8 (gC 1 1 1 (if 10 ≤ wr then 0 else 1)))) no wr n k z r so pr) ∧ (gC 1 1 1 (if 10 ≤ wr then 0 else 1) = 0 → r0 = wr + 1 - 1 ∧ mPic u mm cI ad f 0 no (wr + 1) n k z r so pr)) (fun w2 t => mw G ncl (mA w sz) w2 t.heap ∧ va_K G ncl (q0 :: q1 :: (cI, .int) :: ty2) t) (mA w sz)) 0 0 (mA w sz) := by
  refine Met.ofW (cc := c_M_writer) (maxL := 1) (ret := (some .int)) (by decide) rfl ?_
  intro p e s m args below meth c s₁ B hml hv
  obtain ⟨rfl, hsz, hM0, hK⟩ := hv
  have hx := B.exec
  have hb := B.bytes
  have hr := B.returns
  have hts := atoms_spec (ws := (wm y_M_writer c_M_writer 1 (some .int))) B.pre
  have hta : ∀ w ∈ AL, w.before _ s = true := fun w h => hts w (List.mem_cons_of_mem _ h)
  have hown : s.vm.findClass nR_M = some m.cls := findClass_of_methodNamed B.named
  have hlocks := B.notSynchronized
  have hl := lv_entry ([.ref mm]) (n := 1) (Nat.le_of_ble_eq_true rfl)
  rw [lg_entry_eq]
  generalize (lg_sl ([.ref mm]) ++ List.replicate (1 - (lg_sl ([.ref mm])).length) Slot.unset).toArray = ls at hl ⊢
  have hl : lv_has ls 1 [(0, .ref mm)] := hl
  subst hsz
  have hM := mw_self (sz := s.heap.size) hM0
  clear hM0
  generalize hAe : mA w s.heap.size = A at hM ⊢
  have hA : ∀ q : Nat, s.heap.size ≤ q → A q := fun q h => by rw [← hAe]; exact Or.inr h
  have hS : va_S A s.heap s.heap [] := va_S.rf
  have j20 : ∀ (b4 : Int32) (ls : Array Slot), b4 = (if 10 ≤ wr then 0 else 1) → lv_has ls 1 [(0, .ref mm)] → W p l e (headSpec (wm y_M_writer c_M_writer 1 (some .int)) ({ frames := 1, cells := 0, slots := 0, locals := 27 })).room s m ([.ref mm] : List Value).toArray below meth c s.heap [] 0 0 (MQ below (va_Qi (fun (r0 : Int32) (u : Nat → Option va_E) => (¬ gC 1 1 1 (if 10 ≤ wr then 0 else 1) = 0 → mPic u mm cI ad f (nI (gT 8 (gC 1 1 1 (if 10 ≤ wr then 0 else 1)))) no wr n k z r so pr) ∧ (gC 1 1 1 (if 10 ≤ wr then 0 else 1) = 0 → r0 = wr + 1 - 1 ∧ mPic u mm cI ad f 0 no (wr + 1) n k z r so pr)) (fun w2 t => mw G ncl A w2 t.heap ∧ va_K G ncl (q0 :: q1 :: (cI, .int) :: ty2) t) A) ([.ref mm] : List Value).toArray s 0 0 A) (F0 m 20 ls [.int b4, .int 1, .int 1, .int 1, .int 8, .ref mm]) := by
    intro b4 ls eb4 hl
    have hF := mw_free hM hS hA
    refine va_calli (va_runV (As := [.int 8, .int 1, .int 1, .int 1, .int b4]) (rest := []) ⟨hx, hb, hml, hown, hta⟩ (k_M_goes_8 l G q0 q1 cI ty2 w hmp.1 hmp.2 1 1 1 b4 _) (cV 5 hta aw_619 aw_5 aw_616 aw_618 as_SceneTimesModel_goes rfl rfl (by decide +kernel) ⟨Nat.le_of_ble_eq_true rfl, Nat.le_of_ble_eq_true rfl⟩) (pZ_V hK hM rfl hmp.1) rfl rfl hl.1 rfl (lv_room (Nat.le_of_ble_eq_true rfl)) d_M_writer_20 ⟨Nat.le_of_ble_eq_true rfl, Nat.le_of_ble_eq_true rfl⟩) hS (fun q _ h => hF q h) hF (fun r_2 u_r_2 t H locs ht hvm hr_2 hB hz1 hk1 hS => ?_)
    obtain ⟨hM1, hK1⟩ := hB
    rw [ht] at hM1
    have hM := mw_weaken hM1 hF
    clear hM1 hK1 hF hk1 hz1
    obtain ⟨w_3, hw_3⟩ : ∃ z9 : Nat → Option va_E, z9 = va_up w mm (some (.inr (6, [.int (nI (gT 8 (gC 1 1 1 b4))), .int no, .int wr, .int n, .ref (ad 0), .ref (ad 1), .ref (ad 2), .ref (ad 3), .ref (ad 4), .ref (ad 5), .int k, .ref (ad 6), .ref (ad 7), .ref (ad 8), .ref (ad 9), .int z, .int r, .int so, .ref (ad 10), .int pr, .ref (ad 11)]))) := ⟨_, rfl⟩
    rw [← hw_3] at hM
    have mp_4 : mPic w_3 mm cI ad f (nI (gT 8 (gC 1 1 1 b4))) no wr n k z r so pr := by rw [hw_3]; exact mp_obj hmp (nI (gT 8 (gC 1 1 1 b4))) no wr n k z r so pr
    refine lv_if_ne (tgt := 28) hx hb d_M_writer_23 (by decide) (fun c_5 => ?_) (fun c_5 => ?_)
    · have hc := go_t hr_2 c_5
      refine lv_aload_n hx hb d_M_writer_28 rfl (lv_at hl 0 rfl) ?_
      refine lv_dup hx hb d_M_writer_29 rfl ?_
      refine m_get (D := G) (ci := 6) (v := .int wr) (C := nR_M) (T := nT_M) (N := 21) hx hb hta in_M hown hK hM mp_4.1 rfl 2 (by decide) (hta _ aw_545) (fun _ h9 => h9) rfl d_M_writer_30 ?_
      refine lv_iconst (v := 1) hx hb d_M_writer_33 (by decide) ?_
      refine lv_iadd hx hb d_M_writer_34 ?_
      refine m_put (D := G) (ci := 6) (v := .int (wr + 1)) (ty := .int) (C := nR_M) (T := nT_M) (N := 21) hx hb hta in_M nt_M nt_M_ok nn_M hown hK hM hS mp_4.1 rfl 2 (by decide) (hta _ aw_545) (fun _ h9 => h9) rfl (by decide +kernel) rfl rfl (Nat.le_of_ble_eq_true rfl) d_M_writer_35 (fs' := [.int (nI (gT 8 (gC 1 1 1 b4))), .int no, .int (wr + 1), .int n, .ref (ad 0), .ref (ad 1), .ref (ad 2), .ref (ad 3), .ref (ad 4), .ref (ad 5), .int k, .ref (ad 6), .ref (ad 7), .ref (ad 8), .ref (ad 9), .int z, .int r, .int so, .ref (ad 10), .int pr, .ref (ad 11)]) rfl (fun H locs hM hS => ?_)
      obtain ⟨w_6, hw_6⟩ : ∃ z9 : Nat → Option va_E, z9 = va_up w_3 mm (some (.inr (6, [.int (nI (gT 8 (gC 1 1 1 b4))), .int no, .int (wr + 1), .int n, .ref (ad 0), .ref (ad 1), .ref (ad 2), .ref (ad 3), .ref (ad 4), .ref (ad 5), .int k, .ref (ad 6), .ref (ad 7), .ref (ad 8), .ref (ad 9), .int z, .int r, .int so, .ref (ad 10), .int pr, .ref (ad 11)]))) := ⟨_, rfl⟩
      rw [← hw_6] at hM
      have mp_7 : mPic w_6 mm cI ad f (nI (gT 8 (gC 1 1 1 b4))) no (wr + 1) n k z r so pr := by rw [hw_6]; exact mp_obj mp_4 (nI (gT 8 (gC 1 1 1 b4))) no (wr + 1) n k z r so pr
      refine lv_aload_n hx hb d_M_writer_38 rfl (lv_at hl 0 rfl) ?_
      refine m_get (D := G) (ci := 6) (v := .int (wr + 1)) (C := nR_M) (T := nT_M) (N := 21) hx hb hta in_M hown hK hM mp_7.1 rfl 2 (by decide) (hta _ aw_545) (fun _ h9 => h9) rfl d_M_writer_39 ?_
      refine lv_iconst (v := 1) hx hb d_M_writer_42 (by decide) ?_
      refine lv_isub hx hb d_M_writer_43 ?_
      exact W.iret (v := (wr + 1) - 1) hx hb hr (fun t ht hW => ⟨⟨(wr + 1) - 1, w_6, rfl, (by subst eb4; exact ⟨fun q => absurd hc q, fun _ => ⟨rfl, (by have q := mp_7; rw [hc] at q; exact q)⟩⟩), by rw [ht]; exact hM, va_K.moved hW.alike hK⟩, hS.F ht⟩) hS.2.2 d_M_writer_44
    · have hc := go_f hr_2 c_5
      refine lv_iconst (v := 0) hx hb d_M_writer_26 (by decide) ?_
      exact W.iret (v := 0) hx hb hr (fun t ht hW => ⟨⟨0, w_3, rfl, (by subst eb4; exact ⟨fun _ => mp_4, fun q => absurd q hc⟩), by rw [ht]; exact hM, va_K.moved hW.alike hK⟩, hS.F ht⟩) hS.2.2 d_M_writer_27
  refine lv_aload_n hx hb d_M_writer_0 rfl (lv_at hl 0 rfl) ?_
  refine lv_bipush (v := 8) hx hb d_M_writer_1 (by decide) ?_
  refine lv_iconst (v := 1) hx hb d_M_writer_3 (by decide) ?_
  refine lv_iconst (v := 1) hx hb d_M_writer_4 (by decide) ?_
  refine lv_iconst (v := 1) hx hb d_M_writer_5 (by decide) ?_
  refine lv_aload_n hx hb d_M_writer_6 rfl (lv_at hl 0 rfl) ?_
  refine m_get (D := G) (ci := 6) (v := .int wr) (C := nR_M) (T := nT_M) (N := 21) hx hb hta in_M hown hK hM hmp.1 rfl 2 (by decide) (hta _ aw_545) (fun _ h9 => h9) rfl d_M_writer_7 ?_
  refine lv_bipush (v := 10) hx hb d_M_writer_10 (by decide) ?_
  refine lv_icmp_ge (tgt := 19) hx hb d_M_writer_12 (by decide) (fun c_1 => ?_) (fun c_1 => ?_)
  · refine lv_iconst (v := 0) hx hb d_M_writer_19 (by decide) ?_
    exact j20  0 ls  (by simp only [c_1, not_true_eq_false, not_false_eq_true, and_true, and_false, true_and, false_and, and_self, or_self, or_true, true_or, or_false, false_or, ↓reduceIte]) (lv_sub hl [0] rfl)
  · refine lv_iconst (v := 1) hx hb d_M_writer_15 (by decide) ?_
    refine lv_goto (tgt := 20) hx hb d_M_writer_16 (by decide) ?_
    exact j20  1 ls  (by simp only [c_1, not_true_eq_false, not_false_eq_true, and_true, and_false, true_and, false_and, and_self, or_self, or_true, true_or, or_false, false_or, ↓reduceIte]) (lv_sub hl [0] rfl)
set_option maxHeartbeats 4000000 in
set_option maxRecDepth 100000 in
theorem k_M_tick (l : Launch) (G : va_G) (q0 q1 : ClassId × FieldType) (cI : ClassId) (ty2 : List (ClassId × FieldType)) (w : Nat → Option va_E) {mm : Nat} {ad : Nat → Nat} (had : ∀ i j, i < 12 → j < 12 → ad i = ad j → i = j) {f : Nat → Nat → Int32} {th no wr n k z r so pr : Int32} (hmp : mPic w mm cI ad f th no wr n k z r so pr) (x : Int32) (sz : Nat) : Met l y_M_tick (wm y_M_tick c_M_tick 2 (some .int)) ({ frames := 1, cells := 0, slots := 0, locals := 27 }) (pZ G (q0 :: q1 :: (cI, .int) :: ty2) w sz [.ref mm, .int x]) (va_Qi (fun (r0 : Int32) (u : Nat → Option va_E) => (¬ gC 1 (if (¬ x < 1 ∧ ¬ 5000 < x) ∧ ¬ 99999 - no < x then 1 else 0) 1 1 = 0 → mPic u mm cI ad f (nI (gT 2 (gC 1 (if (¬ x < 1 ∧ ¬ 5000 < x) ∧ ¬ 99999 - no < x then 1 else 0) 1 1))) no wr n k z r so pr) ∧ (gC 1 (if (¬ x < 1 ∧ ¬ 5000 < x) ∧ ¬ 99999 - no < x then 1 else 0) 1 1 = 0 → r0 = no + x ∧ mPic u mm cI ad f 0 (no + x) wr n k z r so pr)) (fun w2 t => mw G ncl (mA w sz) w2 t.heap ∧ va_K G ncl (q0 :: q1 :: (cI, .int) :: ty2) t) (mA w sz)) 0 0 (mA w sz) := by
  refine Met.ofW (cc := c_M_tick) (maxL := 2) (ret := (some .int)) (by decide) rfl ?_
  intro p e s m args below meth c s₁ B hml hv
  obtain ⟨rfl, hsz, hM0, hK⟩ := hv
  have hx := B.exec
  have hb := B.bytes
  have hr := B.returns
  have hts := atoms_spec (ws := (wm y_M_tick c_M_tick 2 (some .int))) B.pre
  have hta : ∀ w ∈ AL, w.before _ s = true := fun w h => hts w (List.mem_cons_of_mem _ h)
  have hown : s.vm.findClass nR_M = some m.cls := findClass_of_methodNamed B.named
  have hlocks := B.notSynchronized
  have hl := lv_entry ([.ref mm, .int x]) (n := 2) (Nat.le_of_ble_eq_true rfl)
  rw [lg_entry_eq]
  generalize (lg_sl ([.ref mm, .int x]) ++ List.replicate (2 - (lg_sl ([.ref mm, .int x])).length) Slot.unset).toArray = ls at hl ⊢
  have hl : lv_has ls 2 [(0, .ref mm), (1, .int x)] := hl
  subst hsz
  have hM := mw_self (sz := s.heap.size) hM0
  clear hM0
  generalize hAe : mA w s.heap.size = A at hM ⊢
  have hA : ∀ q : Nat, s.heap.size ≤ q → A q := fun q h => by rw [← hAe]; exact Or.inr h
  have hS : va_S A s.heap s.heap [] := va_S.rf
  have j30 : ∀ (b2 : Int32) (ls : Array Slot), b2 = (if (¬ x < 1 ∧ ¬ 5000 < x) ∧ ¬ 99999 - no < x then 1 else 0) → lv_has ls 2 [(0, .ref mm), (1, .int x)] → W p l e (headSpec (wm y_M_tick c_M_tick 2 (some .int)) ({ frames := 1, cells := 0, slots := 0, locals := 27 })).room s m ([.ref mm, .int x] : List Value).toArray below meth c s.heap [] 0 0 (MQ below (va_Qi (fun (r0 : Int32) (u : Nat → Option va_E) => (¬ gC 1 (if (¬ x < 1 ∧ ¬ 5000 < x) ∧ ¬ 99999 - no < x then 1 else 0) 1 1 = 0 → mPic u mm cI ad f (nI (gT 2 (gC 1 (if (¬ x < 1 ∧ ¬ 5000 < x) ∧ ¬ 99999 - no < x then 1 else 0) 1 1))) no wr n k z r so pr) ∧ (gC 1 (if (¬ x < 1 ∧ ¬ 5000 < x) ∧ ¬ 99999 - no < x then 1 else 0) 1 1 = 0 → r0 = no + x ∧ mPic u mm cI ad f 0 (no + x) wr n k z r so pr)) (fun w2 t => mw G ncl A w2 t.heap ∧ va_K G ncl (q0 :: q1 :: (cI, .int) :: ty2) t) A) ([.ref mm, .int x] : List Value).toArray s 0 0 A) (F0 m 30 ls [.int b2, .int 1, .int 2, .ref mm]) := by
    intro b2 ls eb2 hl
    refine lv_iconst (v := 1) hx hb d_M_tick_30 (by decide) ?_
    refine lv_iconst (v := 1) hx hb d_M_tick_31 (by decide) ?_
    have hF := mw_free hM hS hA
    refine va_calli (va_runV (As := [.int 2, .int 1, .int b2, .int 1, .int 1]) (rest := []) ⟨hx, hb, hml, hown, hta⟩ (k_M_goes_2 l G q0 q1 cI ty2 w hmp.1 hmp.2 1 b2 1 1 _) (cV 5 hta aw_619 aw_5 aw_616 aw_618 as_SceneTimesModel_goes rfl rfl (by decide +kernel) ⟨Nat.le_of_ble_eq_true rfl, Nat.le_of_ble_eq_true rfl⟩) (pZ_V hK hM rfl hmp.1) rfl rfl hl.1 rfl (lv_room (Nat.le_of_ble_eq_true rfl)) d_M_tick_32 ⟨Nat.le_of_ble_eq_true rfl, Nat.le_of_ble_eq_true rfl⟩) hS (fun q _ h => hF q h) hF (fun r_6 u_r_6 t H locs ht hvm hr_6 hB hz1 hk1 hS => ?_)
    obtain ⟨hM1, hK1⟩ := hB
    rw [ht] at hM1
    have hM := mw_weaken hM1 hF
    clear hM1 hK1 hF hk1 hz1
    obtain ⟨w_7, hw_7⟩ : ∃ z9 : Nat → Option va_E, z9 = va_up w mm (some (.inr (6, [.int (nI (gT 2 (gC 1 b2 1 1))), .int no, .int wr, .int n, .ref (ad 0), .ref (ad 1), .ref (ad 2), .ref (ad 3), .ref (ad 4), .ref (ad 5), .int k, .ref (ad 6), .ref (ad 7), .ref (ad 8), .ref (ad 9), .int z, .int r, .int so, .ref (ad 10), .int pr, .ref (ad 11)]))) := ⟨_, rfl⟩
    rw [← hw_7] at hM
    have mp_8 : mPic w_7 mm cI ad f (nI (gT 2 (gC 1 b2 1 1))) no wr n k z r so pr := by rw [hw_7]; exact mp_obj hmp (nI (gT 2 (gC 1 b2 1 1))) no wr n k z r so pr
    refine lv_if_ne (tgt := 40) hx hb d_M_tick_35 (by decide) (fun c_9 => ?_) (fun c_9 => ?_)
    · have hc := go_t hr_6 c_9
      refine lv_aload_n hx hb d_M_tick_40 rfl (lv_at hl 0 rfl) ?_
      refine lv_aload_n hx hb d_M_tick_41 rfl (lv_at hl 0 rfl) ?_
      refine m_get (D := G) (ci := 6) (v := .int no) (C := nR_M) (T := nT_M) (N := 21) hx hb hta in_M hown hK hM mp_8.1 rfl 1 (by decide) (hta _ aw_544) (fun _ h9 => h9) rfl d_M_tick_42 ?_
      refine lv_iload_n hx hb d_M_tick_45 rfl (lv_at hl 1 rfl) ?_
      refine lv_iadd hx hb d_M_tick_46 ?_
      refine m_put (D := G) (ci := 6) (v := .int (no + x)) (ty := .int) (C := nR_M) (T := nT_M) (N := 21) hx hb hta in_M nt_M nt_M_ok nn_M hown hK hM hS mp_8.1 rfl 1 (by decide) (hta _ aw_544) (fun _ h9 => h9) rfl (by decide +kernel) rfl rfl (Nat.le_of_ble_eq_true rfl) d_M_tick_47 (fs' := [.int (nI (gT 2 (gC 1 b2 1 1))), .int (no + x), .int wr, .int n, .ref (ad 0), .ref (ad 1), .ref (ad 2), .ref (ad 3), .ref (ad 4), .ref (ad 5), .int k, .ref (ad 6), .ref (ad 7), .ref (ad 8), .ref (ad 9), .int z, .int r, .int so, .ref (ad 10), .int pr, .ref (ad 11)]) rfl (fun H locs hM hS => ?_)
      obtain ⟨w_10, hw_10⟩ : ∃ z9 : Nat → Option va_E, z9 = va_up w_7 mm (some (.inr (6, [.int (nI (gT 2 (gC 1 b2 1 1))), .int (no + x), .int wr, .int n, .ref (ad 0), .ref (ad 1), .ref (ad 2), .ref (ad 3), .ref (ad 4), .ref (ad 5), .int k, .ref (ad 6), .ref (ad 7), .ref (ad 8), .ref (ad 9), .int z, .int r, .int so, .ref (ad 10), .int pr, .ref (ad 11)]))) := ⟨_, rfl⟩
      rw [← hw_10] at hM
      have mp_11 : mPic w_10 mm cI ad f (nI (gT 2 (gC 1 b2 1 1))) (no + x) wr n k z r so pr := by rw [hw_10]; exact mp_obj mp_8 (nI (gT 2 (gC 1 b2 1 1))) (no + x) wr n k z r so pr
      refine lv_aload_n hx hb d_M_tick_50 rfl (lv_at hl 0 rfl) ?_
      refine m_get (D := G) (ci := 6) (v := .int (no + x)) (C := nR_M) (T := nT_M) (N := 21) hx hb hta in_M hown hK hM mp_11.1 rfl 1 (by decide) (hta _ aw_544) (fun _ h9 => h9) rfl d_M_tick_51 ?_
      exact W.iret (v := no + x) hx hb hr (fun t ht hW => ⟨⟨no + x, w_10, rfl, (by subst eb2; exact ⟨fun q => absurd hc q, fun _ => ⟨rfl, (by have q := mp_11; rw [hc] at q; exact q)⟩⟩), by rw [ht]; exact hM, va_K.moved hW.alike hK⟩, hS.F ht⟩) hS.2.2 d_M_tick_54
    · have hc := go_f hr_6 c_9
      refine lv_iconst (v := 0) hx hb d_M_tick_38 (by decide) ?_
      exact W.iret (v := 0) hx hb hr (fun t ht hW => ⟨⟨0, w_7, rfl, (by subst eb2; exact ⟨fun _ => mp_8, fun q => absurd q hc⟩), by rw [ht]; exact hM, va_K.moved hW.alike hK⟩, hS.F ht⟩) hS.2.2 d_M_tick_39
  refine lv_aload_n hx hb d_M_tick_0 rfl (lv_at hl 0 rfl) ?_
  refine lv_iconst (v := 2) hx hb d_M_tick_1 (by decide) ?_
  refine lv_iconst (v := 1) hx hb d_M_tick_2 (by decide) ?_
  refine lv_iload_n hx hb d_M_tick_3 rfl (lv_at hl 1 rfl) ?_
  refine lv_iconst (v := 1) hx hb d_M_tick_4 (by decide) ?_
  refine lv_sipush (v := 5000) hx hb d_M_tick_5 (by decide) ?_
  refine vp_callSi (W.runS (As := [.int x, .int 1, .int 5000]) (rest := [.int 1, .int 2, .ref mm]) ⟨hx, hb, hml, hown, hta⟩ (k_M_in l x 1 5000) (cS 3 hta aw_626 aw_5 aw_624 aw_625 rfl rfl (by decide +kernel) ⟨Nat.le_of_ble_eq_true rfl, Nat.le_of_ble_eq_true rfl⟩) ⟨fun a U g mk q => q, fun U hU hW => ⟨rfl, trivial⟩⟩ rfl rfl hl.1 rfl (lv_room (Nat.le_of_ble_eq_true rfl)) d_M_tick_8 ⟨Nat.le_of_ble_eq_true rfl, Nat.le_of_ble_eq_true rfl⟩) (fun r_1 hr_1 => ?_)
  refine lv_if_eq (tgt := 29) hx hb d_M_tick_11 (by decide) (fun c_2 => ?_) (fun c_2 => ?_)
  · have p_3 := b1_f hr_1 c_2
    refine lv_iconst (v := 0) hx hb d_M_tick_29 (by decide) ?_
    exact j30  0 ls  (by simp only [p_3, not_true_eq_false, not_false_eq_true, and_true, and_false, true_and, false_and, and_self, or_self, or_true, true_or, or_false, false_or, ↓reduceIte]) (lv_sub hl [0, 1] rfl)
  · have p_4 := b1_t hr_1 c_2
    refine lv_iload_n hx hb d_M_tick_14 rfl (lv_at hl 1 rfl) ?_
    refine lv_ldc (v := 99999) hx hb hown (hta _ aw_686) d_M_tick_15 ?_
    refine lv_aload_n hx hb d_M_tick_17 rfl (lv_at hl 0 rfl) ?_
    refine m_get (D := G) (ci := 6) (v := .int no) (C := nR_M) (T := nT_M) (N := 21) hx hb hta in_M hown hK hM hmp.1 rfl 1 (by decide) (hta _ aw_544) (fun _ h9 => h9) rfl d_M_tick_18 ?_
    refine lv_isub hx hb d_M_tick_21 ?_
    refine lv_icmp_gt (tgt := 29) hx hb d_M_tick_22 (by decide) (fun c_5 => ?_) (fun c_5 => ?_)
    · refine lv_iconst (v := 0) hx hb d_M_tick_29 (by decide) ?_
      exact j30  0 ls  (by simp only [p_4, c_5, not_true_eq_false, not_false_eq_true, and_true, and_false, true_and, false_and, and_self, or_self, or_true, true_or, or_false, false_or, ↓reduceIte]) (lv_sub hl [0, 1] rfl)
    · refine lv_iconst (v := 1) hx hb d_M_tick_25 (by decide) ?_
      refine lv_goto (tgt := 30) hx hb d_M_tick_26 (by decide) ?_
      exact j30  1 ls  (by simp only [p_4, c_5, not_true_eq_false, not_false_eq_true, and_true, and_false, true_and, false_and, and_self, or_self, or_true, true_or, or_false, false_or, ↓reduceIte]) (lv_sub hl [0, 1] rfl)
theorem gC_room {a b c d : Int32} (h : gC a b c d = 0) : ¬ a = 0 ∧ ¬ b = 0 ∧ ¬ c = 0 ∧ ¬ d = 0 := by
  unfold gC at h
  split at h
  · cases h
  · split at h
    · cases h
    · split at h
      · cases h
      · split at h
        · cases h
        · exact ⟨by assumption, by assumption, by assumption, by assumption⟩
theorem n_lt {n : Int32} {nn N : Nat} (en : n = nI nn) (h : ¬ nI N ≤ n) (hb : nn < 2 ^ 31) : nn < N := Nat.lt_of_not_le (fun q => h (by rw [en]; exact nI_le q hb))
theorem i1_t {P : Prop} [Decidable P] (h : ¬ (if P then (1 : Int32) else 0) = 0) : P := Classical.byContradiction (fun q => h (if_neg q))
theorem i0_t {P : Prop} [Decidable P] (h : ¬ (if P then (0 : Int32) else 1) = 0) : ¬ P := fun q => h (if_pos q)
set_option maxHeartbeats 4000000 in
set_option maxRecDepth 100000 in
theorem k_M_note (l : Launch) (G : va_G) (q0 q1 : ClassId × FieldType) (cI : ClassId) (ty2 : List (ClassId × FieldType)) (w : Nat → Option va_E) {mm : Nat} {ad : Nat → Nat} (had : ∀ i j, i < 12 → j < 12 → ad i = ad j → i = j) {f : Nat → Nat → Int32} {th no wr n k z r so pr : Int32} (hmp : mPic w mm cI ad f th no wr n k z r so pr) {nn : Nat} (hn : nn ≤ 100) (en : n = nI nn) (x1 x2 x3 x4 x5 : Int32) (sz : Nat) : Met l y_M_note (wm y_M_note c_M_note 6 (some .int)) ({ frames := 2, cells := 0, slots := 0, locals := 43 }) (pZ G (q0 :: q1 :: (cI, .int) :: ty2) w sz [.ref mm, .int x1, .int x2, .int x3, .int x4, .int x5]) (va_Qi (fun (r0 : Int32) (u : Nat → Option va_E) => (¬ gC (if (¬ x1 < 0 ∧ ¬ wr - 1 < x1) ∧ (¬ x2 < 0 ∧ ¬ 5 < x2) ∧ (¬ x3 < 0 ∧ ¬ 9 < x3) then 1 else 0) (if (¬ x4 < 0 ∧ ¬ no < x4) ∧ (¬ x5 < (-9999) ∧ ¬ 9999 < x5) then 1 else 0) 1 (if 100 ≤ n then 0 else 1) = 0 → mPic u mm cI ad f (nI (gT 11 (gC (if (¬ x1 < 0 ∧ ¬ wr - 1 < x1) ∧ (¬ x2 < 0 ∧ ¬ 5 < x2) ∧ (¬ x3 < 0 ∧ ¬ 9 < x3) then 1 else 0) (if (¬ x4 < 0 ∧ ¬ no < x4) ∧ (¬ x5 < (-9999) ∧ ¬ 9999 < x5) then 1 else 0) 1 (if 100 ≤ n then 0 else 1)))) no wr n k z r so pr) ∧ (gC (if (¬ x1 < 0 ∧ ¬ wr - 1 < x1) ∧ (¬ x2 < 0 ∧ ¬ 5 < x2) ∧ (¬ x3 < 0 ∧ ¬ 9 < x3) then 1 else 0) (if (¬ x4 < 0 ∧ ¬ no < x4) ∧ (¬ x5 < (-9999) ∧ ¬ 9999 < x5) then 1 else 0) 1 (if 100 ≤ n then 0 else 1) = 0 → r0 = n + 1 - 1 ∧ mPic u mm cI ad (va_up (va_up (va_up (va_up (va_up (va_up f 0 (upd (f 0) nn x1)) 1 (upd (f 1) nn x2)) 2 (upd (f 2) nn x3)) 3 (upd (f 3) nn x4)) 4 (upd (f 4) nn x5)) 5 (upd (f 5) nn no)) 0 no wr (n + 1) k z r so pr)) (fun w2 t => mw G ncl (mA w sz) w2 t.heap ∧ va_K G ncl (q0 :: q1 :: (cI, .int) :: ty2) t) (mA w sz)) 0 0 (mA w sz) := by
  refine Met.ofW (cc := c_M_note) (maxL := 6) (ret := (some .int)) (by decide) rfl ?_
  intro p e s m args below meth c s₁ B hml hv
  obtain ⟨rfl, hsz, hM0, hK⟩ := hv
  have hx := B.exec
  have hb := B.bytes
  have hr := B.returns
  have hts := atoms_spec (ws := (wm y_M_note c_M_note 6 (some .int))) B.pre
  have hta : ∀ w ∈ AL, w.before _ s = true := fun w h => hts w (List.mem_cons_of_mem _ h)
  have hown : s.vm.findClass nR_M = some m.cls := findClass_of_methodNamed B.named
  have hlocks := B.notSynchronized
  have hl := lv_entry ([.ref mm, .int x1, .int x2, .int x3, .int x4, .int x5]) (n := 6) (Nat.le_of_ble_eq_true rfl)
  rw [lg_entry_eq]
  generalize (lg_sl ([.ref mm, .int x1, .int x2, .int x3, .int x4, .int x5]) ++ List.replicate (6 - (lg_sl ([.ref mm, .int x1, .int x2, .int x3, .int x4, .int x5])).length) Slot.unset).toArray = ls at hl ⊢
  have hl : lv_has ls 6 [(0, .ref mm), (1, .int x1), (2, .int x2), (3, .int x3), (4, .int x4), (5, .int x5)] := hl
  subst hsz
  have hM := mw_self (sz := s.heap.size) hM0
  clear hM0
  generalize hAe : mA w s.heap.size = A at hM ⊢
  have hA : ∀ q : Nat, s.heap.size ≤ q → A q := fun q h => by rw [← hAe]; exact Or.inr h
  have hS : va_S A s.heap s.heap [] := va_S.rf
  have j84 : ∀ (b1 b2 b4 : Int32) (ls : Array Slot), b1 = (if (¬ x1 < 0 ∧ ¬ wr - 1 < x1) ∧ (¬ x2 < 0 ∧ ¬ 5 < x2) ∧ (¬ x3 < 0 ∧ ¬ 9 < x3) then 1 else 0) → b2 = (if (¬ x4 < 0 ∧ ¬ no < x4) ∧ (¬ x5 < (-9999) ∧ ¬ 9999 < x5) then 1 else 0) → b4 = (if 100 ≤ n then 0 else 1) → lv_has ls 6 [(0, .ref mm), (1, .int x1), (2, .int x2), (3, .int x3), (4, .int x4), (5, .int x5)] → W p l e (headSpec (wm y_M_note c_M_note 6 (some .int)) ({ frames := 2, cells := 0, slots := 0, locals := 43 })).room s m ([.ref mm, .int x1, .int x2, .int x3, .int x4, .int x5] : List Value).toArray below meth c s.heap [] 0 0 (MQ below (va_Qi (fun (r0 : Int32) (u : Nat → Option va_E) => (¬ gC (if (¬ x1 < 0 ∧ ¬ wr - 1 < x1) ∧ (¬ x2 < 0 ∧ ¬ 5 < x2) ∧ (¬ x3 < 0 ∧ ¬ 9 < x3) then 1 else 0) (if (¬ x4 < 0 ∧ ¬ no < x4) ∧ (¬ x5 < (-9999) ∧ ¬ 9999 < x5) then 1 else 0) 1 (if 100 ≤ n then 0 else 1) = 0 → mPic u mm cI ad f (nI (gT 11 (gC (if (¬ x1 < 0 ∧ ¬ wr - 1 < x1) ∧ (¬ x2 < 0 ∧ ¬ 5 < x2) ∧ (¬ x3 < 0 ∧ ¬ 9 < x3) then 1 else 0) (if (¬ x4 < 0 ∧ ¬ no < x4) ∧ (¬ x5 < (-9999) ∧ ¬ 9999 < x5) then 1 else 0) 1 (if 100 ≤ n then 0 else 1)))) no wr n k z r so pr) ∧ (gC (if (¬ x1 < 0 ∧ ¬ wr - 1 < x1) ∧ (¬ x2 < 0 ∧ ¬ 5 < x2) ∧ (¬ x3 < 0 ∧ ¬ 9 < x3) then 1 else 0) (if (¬ x4 < 0 ∧ ¬ no < x4) ∧ (¬ x5 < (-9999) ∧ ¬ 9999 < x5) then 1 else 0) 1 (if 100 ≤ n then 0 else 1) = 0 → r0 = n + 1 - 1 ∧ mPic u mm cI ad (va_up (va_up (va_up (va_up (va_up (va_up f 0 (upd (f 0) nn x1)) 1 (upd (f 1) nn x2)) 2 (upd (f 2) nn x3)) 3 (upd (f 3) nn x4)) 4 (upd (f 4) nn x5)) 5 (upd (f 5) nn no)) 0 no wr (n + 1) k z r so pr)) (fun w2 t => mw G ncl A w2 t.heap ∧ va_K G ncl (q0 :: q1 :: (cI, .int) :: ty2) t) A) ([.ref mm, .int x1, .int x2, .int x3, .int x4, .int x5] : List Value).toArray s 0 0 A) (F0 m 84 ls [.int b4, .int 1, .int b2, .int b1, .int 11, .ref mm]) := by
    intro b1 b2 b4 ls eb1 eb2 eb4 hl
    have hF := mw_free hM hS hA
    refine va_calli (va_runV (As := [.int 11, .int b1, .int b2, .int 1, .int b4]) (rest := []) ⟨hx, hb, hml, hown, hta⟩ (k_M_goes_11 l G q0 q1 cI ty2 w hmp.1 hmp.2 b1 b2 1 b4 _) (cV 5 hta aw_619 aw_5 aw_616 aw_618 as_SceneTimesModel_goes rfl rfl (by decide +kernel) ⟨Nat.le_of_ble_eq_true rfl, Nat.le_of_ble_eq_true rfl⟩) (pZ_V hK hM rfl hmp.1) rfl rfl hl.1 rfl (lv_room (Nat.le_of_ble_eq_true rfl)) d_M_note_84 ⟨Nat.le_of_ble_eq_true rfl, Nat.le_of_ble_eq_true rfl⟩) hS (fun q _ h => hF q h) hF (fun r_22 u_r_22 t H locs ht hvm hr_22 hB hz1 hk1 hS => ?_)
    obtain ⟨hM1, hK1⟩ := hB
    rw [ht] at hM1
    have hM := mw_weaken hM1 hF
    clear hM1 hK1 hF hk1 hz1
    obtain ⟨w_23, hw_23⟩ : ∃ z9 : Nat → Option va_E, z9 = va_up w mm (some (.inr (6, [.int (nI (gT 11 (gC b1 b2 1 b4))), .int no, .int wr, .int n, .ref (ad 0), .ref (ad 1), .ref (ad 2), .ref (ad 3), .ref (ad 4), .ref (ad 5), .int k, .ref (ad 6), .ref (ad 7), .ref (ad 8), .ref (ad 9), .int z, .int r, .int so, .ref (ad 10), .int pr, .ref (ad 11)]))) := ⟨_, rfl⟩
    rw [← hw_23] at hM
    have mp_24 : mPic w_23 mm cI ad f (nI (gT 11 (gC b1 b2 1 b4))) no wr n k z r so pr := by rw [hw_23]; exact mp_obj hmp (nI (gT 11 (gC b1 b2 1 b4))) no wr n k z r so pr
    have k_25 : w_23 (ad 0) = some (aI cI 100 (f 0)) := mp_24.2 0 (by decide)
    have k_26 : w_23 (ad 1) = some (aI cI 100 (f 1)) := mp_24.2 1 (by decide)
    have k_27 : w_23 (ad 2) = some (aI cI 100 (f 2)) := mp_24.2 2 (by decide)
    have k_28 : w_23 (ad 3) = some (aI cI 100 (f 3)) := mp_24.2 3 (by decide)
    have k_29 : w_23 (ad 4) = some (aI cI 100 (f 4)) := mp_24.2 4 (by decide)
    have k_30 : w_23 (ad 5) = some (aI cI 100 (f 5)) := mp_24.2 5 (by decide)
    refine lv_if_ne (tgt := 92) hx hb d_M_note_87 (by decide) (fun c_31 => ?_) (fun c_31 => ?_)
    · have hc := go_t hr_22 c_31
      have hlt : nn < 100 := n_lt en (by have q := (gC_room hc).2.2.2; rw [eb4] at q; exact i0_t q) (by omega)
      refine lv_aload_n hx hb d_M_note_92 rfl (lv_at hl 0 rfl) ?_
      refine m_get (D := G) (ci := 6) (v := .ref (ad 0)) (C := nR_M) (T := nT_M) (N := 21) hx hb hta in_M hown hK hM mp_24.1 rfl 4 (by decide) (hta _ aw_547) (fun _ h9 => h9) rfl d_M_note_93 ?_
      refine lv_aload_n hx hb d_M_note_96 rfl (lv_at hl 0 rfl) ?_
      refine m_get (D := G) (ci := 6) (v := .int n) (C := nR_M) (T := nT_M) (N := 21) hx hb hta in_M hown hK hM mp_24.1 rfl 3 (by decide) (hta _ aw_546) (fun _ h9 => h9) rfl d_M_note_97 ?_
      refine lv_iload_n hx hb d_M_note_100 rfl (lv_at hl 1 rfl) ?_
      refine m_iasv hx hb hK hM hS 2 k_25 rfl (by rw [en]; exact vp_in_nI hlt (by omega)) (k := nn) (by rw [en]; exact nI_clamp (by omega)) d_M_note_101 (fun H locs hM hS => ?_)
      obtain ⟨w_32, hw_32⟩ : ∃ z9 : Nat → Option va_E, z9 = va_up w_23 (ad 0) (some (.inl (cI, 100, .inl (upd (f 0) nn x1)))) := ⟨_, rfl⟩
      rw [← hw_32] at hM
      obtain ⟨f_34, hf_34⟩ : ∃ z9 : Nat → Nat → Int32, z9 = va_up f 0 (upd (f 0) nn x1) := ⟨_, rfl⟩
      have mp_33 : mPic w_32 mm cI ad f_34 (nI (gT 11 (gC b1 b2 1 b4))) no wr n k z r so pr := by rw [hw_32, hf_34]; exact mp_arr had mp_24 0 (by decide) _
      have k_35 : w_32 (ad 0) = some (aI cI 100 (f_34 0)) := mp_33.2 0 (by decide)
      have k_36 : w_32 (ad 1) = some (aI cI 100 (f_34 1)) := mp_33.2 1 (by decide)
      have k_37 : w_32 (ad 2) = some (aI cI 100 (f_34 2)) := mp_33.2 2 (by decide)
      have k_38 : w_32 (ad 3) = some (aI cI 100 (f_34 3)) := mp_33.2 3 (by decide)
      have k_39 : w_32 (ad 4) = some (aI cI 100 (f_34 4)) := mp_33.2 4 (by decide)
      have k_40 : w_32 (ad 5) = some (aI cI 100 (f_34 5)) := mp_33.2 5 (by decide)
      refine lv_aload_n hx hb d_M_note_102 rfl (lv_at hl 0 rfl) ?_
      refine m_get (D := G) (ci := 6) (v := .ref (ad 1)) (C := nR_M) (T := nT_M) (N := 21) hx hb hta in_M hown hK hM mp_33.1 rfl 5 (by decide) (hta _ aw_548) (fun _ h9 => h9) rfl d_M_note_103 ?_
      refine lv_aload_n hx hb d_M_note_106 rfl (lv_at hl 0 rfl) ?_
      refine m_get (D := G) (ci := 6) (v := .int n) (C := nR_M) (T := nT_M) (N := 21) hx hb hta in_M hown hK hM mp_33.1 rfl 3 (by decide) (hta _ aw_546) (fun _ h9 => h9) rfl d_M_note_107 ?_
      refine lv_iload_n hx hb d_M_note_110 rfl (lv_at hl 2 rfl) ?_
      refine m_iasv hx hb hK hM hS 2 k_36 rfl (by rw [en]; exact vp_in_nI hlt (by omega)) (k := nn) (by rw [en]; exact nI_clamp (by omega)) d_M_note_111 (fun H locs hM hS => ?_)
      obtain ⟨w_41, hw_41⟩ : ∃ z9 : Nat → Option va_E, z9 = va_up w_32 (ad 1) (some (.inl (cI, 100, .inl (upd (f_34 1) nn x2)))) := ⟨_, rfl⟩
      rw [← hw_41] at hM
      obtain ⟨f_43, hf_43⟩ : ∃ z9 : Nat → Nat → Int32, z9 = va_up f_34 1 (upd (f_34 1) nn x2) := ⟨_, rfl⟩
      have mp_42 : mPic w_41 mm cI ad f_43 (nI (gT 11 (gC b1 b2 1 b4))) no wr n k z r so pr := by rw [hw_41, hf_43]; exact mp_arr had mp_33 1 (by decide) _
      have k_44 : w_41 (ad 0) = some (aI cI 100 (f_43 0)) := mp_42.2 0 (by decide)
      have k_45 : w_41 (ad 1) = some (aI cI 100 (f_43 1)) := mp_42.2 1 (by decide)
      have k_46 : w_41 (ad 2) = some (aI cI 100 (f_43 2)) := mp_42.2 2 (by decide)
      have k_47 : w_41 (ad 3) = some (aI cI 100 (f_43 3)) := mp_42.2 3 (by decide)
      have k_48 : w_41 (ad 4) = some (aI cI 100 (f_43 4)) := mp_42.2 4 (by decide)
      have k_49 : w_41 (ad 5) = some (aI cI 100 (f_43 5)) := mp_42.2 5 (by decide)
      refine lv_aload_n hx hb d_M_note_112 rfl (lv_at hl 0 rfl) ?_
      refine m_get (D := G) (ci := 6) (v := .ref (ad 2)) (C := nR_M) (T := nT_M) (N := 21) hx hb hta in_M hown hK hM mp_42.1 rfl 6 (by decide) (hta _ aw_549) (fun _ h9 => h9) rfl d_M_note_113 ?_
      refine lv_aload_n hx hb d_M_note_116 rfl (lv_at hl 0 rfl) ?_
      refine m_get (D := G) (ci := 6) (v := .int n) (C := nR_M) (T := nT_M) (N := 21) hx hb hta in_M hown hK hM mp_42.1 rfl 3 (by decide) (hta _ aw_546) (fun _ h9 => h9) rfl d_M_note_117 ?_
      refine lv_iload_n hx hb d_M_note_120 rfl (lv_at hl 3 rfl) ?_
      refine m_iasv hx hb hK hM hS 2 k_46 rfl (by rw [en]; exact vp_in_nI hlt (by omega)) (k := nn) (by rw [en]; exact nI_clamp (by omega)) d_M_note_121 (fun H locs hM hS => ?_)
      obtain ⟨w_50, hw_50⟩ : ∃ z9 : Nat → Option va_E, z9 = va_up w_41 (ad 2) (some (.inl (cI, 100, .inl (upd (f_43 2) nn x3)))) := ⟨_, rfl⟩
      rw [← hw_50] at hM
      obtain ⟨f_52, hf_52⟩ : ∃ z9 : Nat → Nat → Int32, z9 = va_up f_43 2 (upd (f_43 2) nn x3) := ⟨_, rfl⟩
      have mp_51 : mPic w_50 mm cI ad f_52 (nI (gT 11 (gC b1 b2 1 b4))) no wr n k z r so pr := by rw [hw_50, hf_52]; exact mp_arr had mp_42 2 (by decide) _
      have k_53 : w_50 (ad 0) = some (aI cI 100 (f_52 0)) := mp_51.2 0 (by decide)
      have k_54 : w_50 (ad 1) = some (aI cI 100 (f_52 1)) := mp_51.2 1 (by decide)
      have k_55 : w_50 (ad 2) = some (aI cI 100 (f_52 2)) := mp_51.2 2 (by decide)
      have k_56 : w_50 (ad 3) = some (aI cI 100 (f_52 3)) := mp_51.2 3 (by decide)
      have k_57 : w_50 (ad 4) = some (aI cI 100 (f_52 4)) := mp_51.2 4 (by decide)
      have k_58 : w_50 (ad 5) = some (aI cI 100 (f_52 5)) := mp_51.2 5 (by decide)
      refine lv_aload_n hx hb d_M_note_122 rfl (lv_at hl 0 rfl) ?_
      refine m_get (D := G) (ci := 6) (v := .ref (ad 3)) (C := nR_M) (T := nT_M) (N := 21) hx hb hta in_M hown hK hM mp_51.1 rfl 7 (by decide) (hta _ aw_550) (fun _ h9 => h9) rfl d_M_note_123 ?_
      refine lv_aload_n hx hb d_M_note_126 rfl (lv_at hl 0 rfl) ?_
      refine m_get (D := G) (ci := 6) (v := .int n) (C := nR_M) (T := nT_M) (N := 21) hx hb hta in_M hown hK hM mp_51.1 rfl 3 (by decide) (hta _ aw_546) (fun _ h9 => h9) rfl d_M_note_127 ?_
      refine lv_iload hx hb d_M_note_130 (lv_at hl 4 rfl) ?_
      refine m_iasv hx hb hK hM hS 2 k_56 rfl (by rw [en]; exact vp_in_nI hlt (by omega)) (k := nn) (by rw [en]; exact nI_clamp (by omega)) d_M_note_132 (fun H locs hM hS => ?_)
      obtain ⟨w_59, hw_59⟩ : ∃ z9 : Nat → Option va_E, z9 = va_up w_50 (ad 3) (some (.inl (cI, 100, .inl (upd (f_52 3) nn x4)))) := ⟨_, rfl⟩
      rw [← hw_59] at hM
      obtain ⟨f_61, hf_61⟩ : ∃ z9 : Nat → Nat → Int32, z9 = va_up f_52 3 (upd (f_52 3) nn x4) := ⟨_, rfl⟩
      have mp_60 : mPic w_59 mm cI ad f_61 (nI (gT 11 (gC b1 b2 1 b4))) no wr n k z r so pr := by rw [hw_59, hf_61]; exact mp_arr had mp_51 3 (by decide) _
      have k_62 : w_59 (ad 0) = some (aI cI 100 (f_61 0)) := mp_60.2 0 (by decide)
      have k_63 : w_59 (ad 1) = some (aI cI 100 (f_61 1)) := mp_60.2 1 (by decide)
      have k_64 : w_59 (ad 2) = some (aI cI 100 (f_61 2)) := mp_60.2 2 (by decide)
      have k_65 : w_59 (ad 3) = some (aI cI 100 (f_61 3)) := mp_60.2 3 (by decide)
      have k_66 : w_59 (ad 4) = some (aI cI 100 (f_61 4)) := mp_60.2 4 (by decide)
      have k_67 : w_59 (ad 5) = some (aI cI 100 (f_61 5)) := mp_60.2 5 (by decide)
      refine lv_aload_n hx hb d_M_note_133 rfl (lv_at hl 0 rfl) ?_
      refine m_get (D := G) (ci := 6) (v := .ref (ad 4)) (C := nR_M) (T := nT_M) (N := 21) hx hb hta in_M hown hK hM mp_60.1 rfl 8 (by decide) (hta _ aw_551) (fun _ h9 => h9) rfl d_M_note_134 ?_
      refine lv_aload_n hx hb d_M_note_137 rfl (lv_at hl 0 rfl) ?_
      refine m_get (D := G) (ci := 6) (v := .int n) (C := nR_M) (T := nT_M) (N := 21) hx hb hta in_M hown hK hM mp_60.1 rfl 3 (by decide) (hta _ aw_546) (fun _ h9 => h9) rfl d_M_note_138 ?_
      refine lv_iload hx hb d_M_note_141 (lv_at hl 5 rfl) ?_
      refine m_iasv hx hb hK hM hS 2 k_66 rfl (by rw [en]; exact vp_in_nI hlt (by omega)) (k := nn) (by rw [en]; exact nI_clamp (by omega)) d_M_note_143 (fun H locs hM hS => ?_)
      obtain ⟨w_68, hw_68⟩ : ∃ z9 : Nat → Option va_E, z9 = va_up w_59 (ad 4) (some (.inl (cI, 100, .inl (upd (f_61 4) nn x5)))) := ⟨_, rfl⟩
      rw [← hw_68] at hM
      obtain ⟨f_70, hf_70⟩ : ∃ z9 : Nat → Nat → Int32, z9 = va_up f_61 4 (upd (f_61 4) nn x5) := ⟨_, rfl⟩
      have mp_69 : mPic w_68 mm cI ad f_70 (nI (gT 11 (gC b1 b2 1 b4))) no wr n k z r so pr := by rw [hw_68, hf_70]; exact mp_arr had mp_60 4 (by decide) _
      have k_71 : w_68 (ad 0) = some (aI cI 100 (f_70 0)) := mp_69.2 0 (by decide)
      have k_72 : w_68 (ad 1) = some (aI cI 100 (f_70 1)) := mp_69.2 1 (by decide)
      have k_73 : w_68 (ad 2) = some (aI cI 100 (f_70 2)) := mp_69.2 2 (by decide)
      have k_74 : w_68 (ad 3) = some (aI cI 100 (f_70 3)) := mp_69.2 3 (by decide)
      have k_75 : w_68 (ad 4) = some (aI cI 100 (f_70 4)) := mp_69.2 4 (by decide)
      have k_76 : w_68 (ad 5) = some (aI cI 100 (f_70 5)) := mp_69.2 5 (by decide)
      refine lv_aload_n hx hb d_M_note_144 rfl (lv_at hl 0 rfl) ?_
      refine m_get (D := G) (ci := 6) (v := .ref (ad 5)) (C := nR_M) (T := nT_M) (N := 21) hx hb hta in_M hown hK hM mp_69.1 rfl 9 (by decide) (hta _ aw_552) (fun _ h9 => h9) rfl d_M_note_145 ?_
      refine lv_aload_n hx hb d_M_note_148 rfl (lv_at hl 0 rfl) ?_
      refine m_get (D := G) (ci := 6) (v := .int n) (C := nR_M) (T := nT_M) (N := 21) hx hb hta in_M hown hK hM mp_69.1 rfl 3 (by decide) (hta _ aw_546) (fun _ h9 => h9) rfl d_M_note_149 ?_
      refine lv_aload_n hx hb d_M_note_152 rfl (lv_at hl 0 rfl) ?_
      refine m_get (D := G) (ci := 6) (v := .int no) (C := nR_M) (T := nT_M) (N := 21) hx hb hta in_M hown hK hM mp_69.1 rfl 1 (by decide) (hta _ aw_544) (fun _ h9 => h9) rfl d_M_note_153 ?_
      refine m_iasv hx hb hK hM hS 2 k_76 rfl (by rw [en]; exact vp_in_nI hlt (by omega)) (k := nn) (by rw [en]; exact nI_clamp (by omega)) d_M_note_156 (fun H locs hM hS => ?_)
      obtain ⟨w_77, hw_77⟩ : ∃ z9 : Nat → Option va_E, z9 = va_up w_68 (ad 5) (some (.inl (cI, 100, .inl (upd (f_70 5) nn no)))) := ⟨_, rfl⟩
      rw [← hw_77] at hM
      obtain ⟨f_79, hf_79⟩ : ∃ z9 : Nat → Nat → Int32, z9 = va_up f_70 5 (upd (f_70 5) nn no) := ⟨_, rfl⟩
      have mp_78 : mPic w_77 mm cI ad f_79 (nI (gT 11 (gC b1 b2 1 b4))) no wr n k z r so pr := by rw [hw_77, hf_79]; exact mp_arr had mp_69 5 (by decide) _
      have k_80 : w_77 (ad 0) = some (aI cI 100 (f_79 0)) := mp_78.2 0 (by decide)
      have k_81 : w_77 (ad 1) = some (aI cI 100 (f_79 1)) := mp_78.2 1 (by decide)
      have k_82 : w_77 (ad 2) = some (aI cI 100 (f_79 2)) := mp_78.2 2 (by decide)
      have k_83 : w_77 (ad 3) = some (aI cI 100 (f_79 3)) := mp_78.2 3 (by decide)
      have k_84 : w_77 (ad 4) = some (aI cI 100 (f_79 4)) := mp_78.2 4 (by decide)
      have k_85 : w_77 (ad 5) = some (aI cI 100 (f_79 5)) := mp_78.2 5 (by decide)
      refine lv_aload_n hx hb d_M_note_157 rfl (lv_at hl 0 rfl) ?_
      refine lv_dup hx hb d_M_note_158 rfl ?_
      refine m_get (D := G) (ci := 6) (v := .int n) (C := nR_M) (T := nT_M) (N := 21) hx hb hta in_M hown hK hM mp_78.1 rfl 3 (by decide) (hta _ aw_546) (fun _ h9 => h9) rfl d_M_note_159 ?_
      refine lv_iconst (v := 1) hx hb d_M_note_162 (by decide) ?_
      refine lv_iadd hx hb d_M_note_163 ?_
      refine m_put (D := G) (ci := 6) (v := .int (n + 1)) (ty := .int) (C := nR_M) (T := nT_M) (N := 21) hx hb hta in_M nt_M nt_M_ok nn_M hown hK hM hS mp_78.1 rfl 3 (by decide) (hta _ aw_546) (fun _ h9 => h9) rfl (by decide +kernel) rfl rfl (Nat.le_of_ble_eq_true rfl) d_M_note_164 (fs' := [.int (nI (gT 11 (gC b1 b2 1 b4))), .int no, .int wr, .int (n + 1), .ref (ad 0), .ref (ad 1), .ref (ad 2), .ref (ad 3), .ref (ad 4), .ref (ad 5), .int k, .ref (ad 6), .ref (ad 7), .ref (ad 8), .ref (ad 9), .int z, .int r, .int so, .ref (ad 10), .int pr, .ref (ad 11)]) rfl (fun H locs hM hS => ?_)
      obtain ⟨w_86, hw_86⟩ : ∃ z9 : Nat → Option va_E, z9 = va_up w_77 mm (some (.inr (6, [.int (nI (gT 11 (gC b1 b2 1 b4))), .int no, .int wr, .int (n + 1), .ref (ad 0), .ref (ad 1), .ref (ad 2), .ref (ad 3), .ref (ad 4), .ref (ad 5), .int k, .ref (ad 6), .ref (ad 7), .ref (ad 8), .ref (ad 9), .int z, .int r, .int so, .ref (ad 10), .int pr, .ref (ad 11)]))) := ⟨_, rfl⟩
      rw [← hw_86] at hM
      have mp_87 : mPic w_86 mm cI ad f_79 (nI (gT 11 (gC b1 b2 1 b4))) no wr (n + 1) k z r so pr := by rw [hw_86]; exact mp_obj mp_78 (nI (gT 11 (gC b1 b2 1 b4))) no wr (n + 1) k z r so pr
      have k_88 : w_86 (ad 0) = some (aI cI 100 (f_79 0)) := mp_87.2 0 (by decide)
      have k_89 : w_86 (ad 1) = some (aI cI 100 (f_79 1)) := mp_87.2 1 (by decide)
      have k_90 : w_86 (ad 2) = some (aI cI 100 (f_79 2)) := mp_87.2 2 (by decide)
      have k_91 : w_86 (ad 3) = some (aI cI 100 (f_79 3)) := mp_87.2 3 (by decide)
      have k_92 : w_86 (ad 4) = some (aI cI 100 (f_79 4)) := mp_87.2 4 (by decide)
      have k_93 : w_86 (ad 5) = some (aI cI 100 (f_79 5)) := mp_87.2 5 (by decide)
      refine lv_aload_n hx hb d_M_note_167 rfl (lv_at hl 0 rfl) ?_
      refine m_get (D := G) (ci := 6) (v := .int (n + 1)) (C := nR_M) (T := nT_M) (N := 21) hx hb hta in_M hown hK hM mp_87.1 rfl 3 (by decide) (hta _ aw_546) (fun _ h9 => h9) rfl d_M_note_168 ?_
      refine lv_iconst (v := 1) hx hb d_M_note_171 (by decide) ?_
      refine lv_isub hx hb d_M_note_172 ?_
      exact W.iret (v := (n + 1) - 1) hx hb hr (fun t ht hW => ⟨⟨(n + 1) - 1, w_86, rfl, (by subst eb1; subst eb2; subst eb4; exact ⟨fun q => absurd hc q, fun _ => ⟨rfl, by have q := mp_87; rw [hc] at q; rw [hf_79, hf_70, hf_61, hf_52, hf_43, hf_34] at q; exact q⟩⟩), by rw [ht]; exact hM, va_K.moved hW.alike hK⟩, hS.F ht⟩) hS.2.2 d_M_note_173
    · have hc := go_f hr_22 c_31
      refine lv_iconst (v := 0) hx hb d_M_note_90 (by decide) ?_
      exact W.iret (v := 0) hx hb hr (fun t ht hW => ⟨⟨0, w_23, rfl, (by subst eb1; subst eb2; subst eb4; exact ⟨fun _ => mp_24, fun q => absurd q hc⟩), by rw [ht]; exact hM, va_K.moved hW.alike hK⟩, hS.F ht⟩) hS.2.2 d_M_note_91
  have j69 : ∀ (b1 b2 : Int32) (ls : Array Slot), b1 = (if (¬ x1 < 0 ∧ ¬ wr - 1 < x1) ∧ (¬ x2 < 0 ∧ ¬ 5 < x2) ∧ (¬ x3 < 0 ∧ ¬ 9 < x3) then 1 else 0) → b2 = (if (¬ x4 < 0 ∧ ¬ no < x4) ∧ (¬ x5 < (-9999) ∧ ¬ 9999 < x5) then 1 else 0) → lv_has ls 6 [(0, .ref mm), (1, .int x1), (2, .int x2), (3, .int x3), (4, .int x4), (5, .int x5)] → W p l e (headSpec (wm y_M_note c_M_note 6 (some .int)) ({ frames := 2, cells := 0, slots := 0, locals := 43 })).room s m ([.ref mm, .int x1, .int x2, .int x3, .int x4, .int x5] : List Value).toArray below meth c s.heap [] 0 0 (MQ below (va_Qi (fun (r0 : Int32) (u : Nat → Option va_E) => (¬ gC (if (¬ x1 < 0 ∧ ¬ wr - 1 < x1) ∧ (¬ x2 < 0 ∧ ¬ 5 < x2) ∧ (¬ x3 < 0 ∧ ¬ 9 < x3) then 1 else 0) (if (¬ x4 < 0 ∧ ¬ no < x4) ∧ (¬ x5 < (-9999) ∧ ¬ 9999 < x5) then 1 else 0) 1 (if 100 ≤ n then 0 else 1) = 0 → mPic u mm cI ad f (nI (gT 11 (gC (if (¬ x1 < 0 ∧ ¬ wr - 1 < x1) ∧ (¬ x2 < 0 ∧ ¬ 5 < x2) ∧ (¬ x3 < 0 ∧ ¬ 9 < x3) then 1 else 0) (if (¬ x4 < 0 ∧ ¬ no < x4) ∧ (¬ x5 < (-9999) ∧ ¬ 9999 < x5) then 1 else 0) 1 (if 100 ≤ n then 0 else 1)))) no wr n k z r so pr) ∧ (gC (if (¬ x1 < 0 ∧ ¬ wr - 1 < x1) ∧ (¬ x2 < 0 ∧ ¬ 5 < x2) ∧ (¬ x3 < 0 ∧ ¬ 9 < x3) then 1 else 0) (if (¬ x4 < 0 ∧ ¬ no < x4) ∧ (¬ x5 < (-9999) ∧ ¬ 9999 < x5) then 1 else 0) 1 (if 100 ≤ n then 0 else 1) = 0 → r0 = n + 1 - 1 ∧ mPic u mm cI ad (va_up (va_up (va_up (va_up (va_up (va_up f 0 (upd (f 0) nn x1)) 1 (upd (f 1) nn x2)) 2 (upd (f 2) nn x3)) 3 (upd (f 3) nn x4)) 4 (upd (f 4) nn x5)) 5 (upd (f 5) nn no)) 0 no wr (n + 1) k z r so pr)) (fun w2 t => mw G ncl A w2 t.heap ∧ va_K G ncl (q0 :: q1 :: (cI, .int) :: ty2) t) A) ([.ref mm, .int x1, .int x2, .int x3, .int x4, .int x5] : List Value).toArray s 0 0 A) (F0 m 69 ls [.int b2, .int b1, .int 11, .ref mm]) := by
    intro b1 b2 ls eb1 eb2 hl
    refine lv_iconst (v := 1) hx hb d_M_note_69 (by decide) ?_
    refine lv_aload_n hx hb d_M_note_70 rfl (lv_at hl 0 rfl) ?_
    refine m_get (D := G) (ci := 6) (v := .int n) (C := nR_M) (T := nT_M) (N := 21) hx hb hta in_M hown hK hM hmp.1 rfl 3 (by decide) (hta _ aw_546) (fun _ h9 => h9) rfl d_M_note_71 ?_
    refine lv_bipush (v := 100) hx hb d_M_note_74 (by decide) ?_
    refine lv_icmp_ge (tgt := 83) hx hb d_M_note_76 (by decide) (fun c_21 => ?_) (fun c_21 => ?_)
    · refine lv_iconst (v := 0) hx hb d_M_note_83 (by decide) ?_
      exact j84 b1 b2 0 ls eb1 eb2 (by simp only [c_21, not_true_eq_false, not_false_eq_true, and_true, and_false, true_and, false_and, and_self, or_self, or_true, true_or, or_false, false_or, ↓reduceIte]) (lv_sub hl [0, 1, 2, 3, 4, 5] rfl)
    · refine lv_iconst (v := 1) hx hb d_M_note_79 (by decide) ?_
      refine lv_goto (tgt := 84) hx hb d_M_note_80 (by decide) ?_
      exact j84 b1 b2 1 ls eb1 eb2 (by simp only [c_21, not_true_eq_false, not_false_eq_true, and_true, and_false, true_and, false_and, and_self, or_self, or_true, true_or, or_false, false_or, ↓reduceIte]) (lv_sub hl [0, 1, 2, 3, 4, 5] rfl)
  have j41 : ∀ (b1 : Int32) (ls : Array Slot), b1 = (if (¬ x1 < 0 ∧ ¬ wr - 1 < x1) ∧ (¬ x2 < 0 ∧ ¬ 5 < x2) ∧ (¬ x3 < 0 ∧ ¬ 9 < x3) then 1 else 0) → lv_has ls 6 [(0, .ref mm), (1, .int x1), (2, .int x2), (3, .int x3), (4, .int x4), (5, .int x5)] → W p l e (headSpec (wm y_M_note c_M_note 6 (some .int)) ({ frames := 2, cells := 0, slots := 0, locals := 43 })).room s m ([.ref mm, .int x1, .int x2, .int x3, .int x4, .int x5] : List Value).toArray below meth c s.heap [] 0 0 (MQ below (va_Qi (fun (r0 : Int32) (u : Nat → Option va_E) => (¬ gC (if (¬ x1 < 0 ∧ ¬ wr - 1 < x1) ∧ (¬ x2 < 0 ∧ ¬ 5 < x2) ∧ (¬ x3 < 0 ∧ ¬ 9 < x3) then 1 else 0) (if (¬ x4 < 0 ∧ ¬ no < x4) ∧ (¬ x5 < (-9999) ∧ ¬ 9999 < x5) then 1 else 0) 1 (if 100 ≤ n then 0 else 1) = 0 → mPic u mm cI ad f (nI (gT 11 (gC (if (¬ x1 < 0 ∧ ¬ wr - 1 < x1) ∧ (¬ x2 < 0 ∧ ¬ 5 < x2) ∧ (¬ x3 < 0 ∧ ¬ 9 < x3) then 1 else 0) (if (¬ x4 < 0 ∧ ¬ no < x4) ∧ (¬ x5 < (-9999) ∧ ¬ 9999 < x5) then 1 else 0) 1 (if 100 ≤ n then 0 else 1)))) no wr n k z r so pr) ∧ (gC (if (¬ x1 < 0 ∧ ¬ wr - 1 < x1) ∧ (¬ x2 < 0 ∧ ¬ 5 < x2) ∧ (¬ x3 < 0 ∧ ¬ 9 < x3) then 1 else 0) (if (¬ x4 < 0 ∧ ¬ no < x4) ∧ (¬ x5 < (-9999) ∧ ¬ 9999 < x5) then 1 else 0) 1 (if 100 ≤ n then 0 else 1) = 0 → r0 = n + 1 - 1 ∧ mPic u mm cI ad (va_up (va_up (va_up (va_up (va_up (va_up f 0 (upd (f 0) nn x1)) 1 (upd (f 1) nn x2)) 2 (upd (f 2) nn x3)) 3 (upd (f 3) nn x4)) 4 (upd (f 4) nn x5)) 5 (upd (f 5) nn no)) 0 no wr (n + 1) k z r so pr)) (fun w2 t => mw G ncl A w2 t.heap ∧ va_K G ncl (q0 :: q1 :: (cI, .int) :: ty2) t) A) ([.ref mm, .int x1, .int x2, .int x3, .int x4, .int x5] : List Value).toArray s 0 0 A) (F0 m 41 ls [.int b1, .int 11, .ref mm]) := by
    intro b1 ls eb1 hl
    refine lv_aload_n hx hb d_M_note_41 rfl (lv_at hl 0 rfl) ?_
    refine lv_iload hx hb d_M_note_42 (lv_at hl 4 rfl) ?_
    refine vp_callSi (W.runV (As := [.int x4]) (rest := [.int b1, .int 11, .ref mm]) ⟨hx, hb, hml, hown, hta⟩ (k_M_isGone l G q0 q1 cI ty2 w hmp.1 hmp.2 x4) (cV 1 hta aw_630 aw_5 aw_627 aw_629 as_SceneTimesModel_isGone rfl rfl (by decide +kernel) ⟨Nat.le_of_ble_eq_true rfl, Nat.le_of_ble_eq_true rfl⟩) (pW_V hK hM rfl hmp.1) rfl rfl hl.1 rfl (lv_room (Nat.le_of_ble_eq_true rfl)) d_M_note_44 ⟨Nat.le_of_ble_eq_true rfl, Nat.le_of_ble_eq_true rfl⟩) (fun r_13 hr_13 => ?_)
    refine lv_if_eq (tgt := 68) hx hb d_M_note_47 (by decide) (fun c_14 => ?_) (fun c_14 => ?_)
    · have p_15 := b1_f hr_13 c_14
      refine lv_iconst (v := 0) hx hb d_M_note_68 (by decide) ?_
      exact j69 b1 0 ls eb1 (by simp only [p_15, not_true_eq_false, not_false_eq_true, and_true, and_false, true_and, false_and, and_self, or_self, or_true, true_or, or_false, false_or, ↓reduceIte]) (lv_sub hl [0, 1, 2, 3, 4, 5] rfl)
    · have p_16 := b1_t hr_13 c_14
      refine lv_iload hx hb d_M_note_50 (lv_at hl 5 rfl) ?_
      refine lv_sipush (v := (-9999)) hx hb d_M_note_52 (by decide) ?_
      refine lv_sipush (v := 9999) hx hb d_M_note_55 (by decide) ?_
      refine vp_callSi (W.runS (As := [.int x5, .int (-9999), .int 9999]) (rest := [.int b1, .int 11, .ref mm]) ⟨hx, hb, hml, hown, hta⟩ (k_M_in l x5 (-9999) 9999) (cS 3 hta aw_626 aw_5 aw_624 aw_625 rfl rfl (by decide +kernel) ⟨Nat.le_of_ble_eq_true rfl, Nat.le_of_ble_eq_true rfl⟩) ⟨fun a U g mk q => q, fun U hU hW => ⟨rfl, trivial⟩⟩ rfl rfl hl.1 rfl (lv_room (Nat.le_of_ble_eq_true rfl)) d_M_note_58 ⟨Nat.le_of_ble_eq_true rfl, Nat.le_of_ble_eq_true rfl⟩) (fun r_17 hr_17 => ?_)
      refine lv_if_eq (tgt := 68) hx hb d_M_note_61 (by decide) (fun c_18 => ?_) (fun c_18 => ?_)
      · have p_19 := b1_f hr_17 c_18
        refine lv_iconst (v := 0) hx hb d_M_note_68 (by decide) ?_
        exact j69 b1 0 ls eb1 (by simp only [p_16, p_19, not_true_eq_false, not_false_eq_true, and_true, and_false, true_and, false_and, and_self, or_self, or_true, true_or, or_false, false_or, ↓reduceIte]) (lv_sub hl [0, 1, 2, 3, 4, 5] rfl)
      · have p_20 := b1_t hr_17 c_18
        refine lv_iconst (v := 1) hx hb d_M_note_64 (by decide) ?_
        refine lv_goto (tgt := 69) hx hb d_M_note_65 (by decide) ?_
        exact j69 b1 1 ls eb1 (by simp only [p_16, p_20, not_true_eq_false, not_false_eq_true, and_true, and_false, true_and, false_and, and_self, or_self, or_true, true_or, or_false, false_or, ↓reduceIte]) (lv_sub hl [0, 1, 2, 3, 4, 5] rfl)
  refine lv_aload_n hx hb d_M_note_0 rfl (lv_at hl 0 rfl) ?_
  refine lv_bipush (v := 11) hx hb d_M_note_1 (by decide) ?_
  refine lv_iload_n hx hb d_M_note_3 rfl (lv_at hl 1 rfl) ?_
  refine lv_iconst (v := 0) hx hb d_M_note_4 (by decide) ?_
  refine lv_aload_n hx hb d_M_note_5 rfl (lv_at hl 0 rfl) ?_
  refine m_get (D := G) (ci := 6) (v := .int wr) (C := nR_M) (T := nT_M) (N := 21) hx hb hta in_M hown hK hM hmp.1 rfl 2 (by decide) (hta _ aw_545) (fun _ h9 => h9) rfl d_M_note_6 ?_
  refine lv_iconst (v := 1) hx hb d_M_note_9 (by decide) ?_
  refine lv_isub hx hb d_M_note_10 ?_
  refine vp_callSi (W.runS (As := [.int x1, .int 0, .int (wr - 1)]) (rest := [.int 11, .ref mm]) ⟨hx, hb, hml, hown, hta⟩ (k_M_in l x1 0 (wr - 1)) (cS 3 hta aw_626 aw_5 aw_624 aw_625 rfl rfl (by decide +kernel) ⟨Nat.le_of_ble_eq_true rfl, Nat.le_of_ble_eq_true rfl⟩) ⟨fun a U g mk q => q, fun U hU hW => ⟨rfl, trivial⟩⟩ rfl rfl hl.1 rfl (lv_room (Nat.le_of_ble_eq_true rfl)) d_M_note_11 ⟨Nat.le_of_ble_eq_true rfl, Nat.le_of_ble_eq_true rfl⟩) (fun r_1 hr_1 => ?_)
  refine lv_if_eq (tgt := 40) hx hb d_M_note_14 (by decide) (fun c_2 => ?_) (fun c_2 => ?_)
  · have p_3 := b1_f hr_1 c_2
    refine lv_iconst (v := 0) hx hb d_M_note_40 (by decide) ?_
    exact j41  0 ls  (by simp only [p_3, not_true_eq_false, not_false_eq_true, and_true, and_false, true_and, false_and, and_self, or_self, or_true, true_or, or_false, false_or, ↓reduceIte]) (lv_sub hl [0, 1, 2, 3, 4, 5] rfl)
  · have p_4 := b1_t hr_1 c_2
    refine lv_iload_n hx hb d_M_note_17 rfl (lv_at hl 2 rfl) ?_
    refine lv_iconst (v := 0) hx hb d_M_note_18 (by decide) ?_
    refine lv_iconst (v := 5) hx hb d_M_note_19 (by decide) ?_
    refine vp_callSi (W.runS (As := [.int x2, .int 0, .int 5]) (rest := [.int 11, .ref mm]) ⟨hx, hb, hml, hown, hta⟩ (k_M_in l x2 0 5) (cS 3 hta aw_626 aw_5 aw_624 aw_625 rfl rfl (by decide +kernel) ⟨Nat.le_of_ble_eq_true rfl, Nat.le_of_ble_eq_true rfl⟩) ⟨fun a U g mk q => q, fun U hU hW => ⟨rfl, trivial⟩⟩ rfl rfl hl.1 rfl (lv_room (Nat.le_of_ble_eq_true rfl)) d_M_note_20 ⟨Nat.le_of_ble_eq_true rfl, Nat.le_of_ble_eq_true rfl⟩) (fun r_5 hr_5 => ?_)
    refine lv_if_eq (tgt := 40) hx hb d_M_note_23 (by decide) (fun c_6 => ?_) (fun c_6 => ?_)
    · have p_7 := b1_f hr_5 c_6
      refine lv_iconst (v := 0) hx hb d_M_note_40 (by decide) ?_
      exact j41  0 ls  (by simp only [p_4, p_7, not_true_eq_false, not_false_eq_true, and_true, and_false, true_and, false_and, and_self, or_self, or_true, true_or, or_false, false_or, ↓reduceIte]) (lv_sub hl [0, 1, 2, 3, 4, 5] rfl)
    · have p_8 := b1_t hr_5 c_6
      refine lv_iload_n hx hb d_M_note_26 rfl (lv_at hl 3 rfl) ?_
      refine lv_iconst (v := 0) hx hb d_M_note_27 (by decide) ?_
      refine lv_bipush (v := 9) hx hb d_M_note_28 (by decide) ?_
      refine vp_callSi (W.runS (As := [.int x3, .int 0, .int 9]) (rest := [.int 11, .ref mm]) ⟨hx, hb, hml, hown, hta⟩ (k_M_in l x3 0 9) (cS 3 hta aw_626 aw_5 aw_624 aw_625 rfl rfl (by decide +kernel) ⟨Nat.le_of_ble_eq_true rfl, Nat.le_of_ble_eq_true rfl⟩) ⟨fun a U g mk q => q, fun U hU hW => ⟨rfl, trivial⟩⟩ rfl rfl hl.1 rfl (lv_room (Nat.le_of_ble_eq_true rfl)) d_M_note_30 ⟨Nat.le_of_ble_eq_true rfl, Nat.le_of_ble_eq_true rfl⟩) (fun r_9 hr_9 => ?_)
      refine lv_if_eq (tgt := 40) hx hb d_M_note_33 (by decide) (fun c_10 => ?_) (fun c_10 => ?_)
      · have p_11 := b1_f hr_9 c_10
        refine lv_iconst (v := 0) hx hb d_M_note_40 (by decide) ?_
        exact j41  0 ls  (by simp only [p_4, p_8, p_11, not_true_eq_false, not_false_eq_true, and_true, and_false, true_and, false_and, and_self, or_self, or_true, true_or, or_false, false_or, ↓reduceIte]) (lv_sub hl [0, 1, 2, 3, 4, 5] rfl)
      · have p_12 := b1_t hr_9 c_10
        refine lv_iconst (v := 1) hx hb d_M_note_36 (by decide) ?_
        refine lv_goto (tgt := 41) hx hb d_M_note_37 (by decide) ?_
        exact j41  1 ls  (by simp only [p_4, p_8, p_12, not_true_eq_false, not_false_eq_true, and_true, and_false, true_and, false_and, and_self, or_self, or_true, true_or, or_false, false_or, ↓reduceIte]) (lv_sub hl [0, 1, 2, 3, 4, 5] rfl)
