/-! the class: the line takes a note; the question -/
def behB (se wr nu se2 wr2 nu2 : Int32) : Bool := if se = se2 then (if wr = wr2 then decide (¬ nu ≤ nu2) else decide (¬ wr ≤ wr2)) else decide (¬ se ≤ se2)
theorem behB_iff (se wr nu se2 wr2 nu2 : Int32) : behB se wr nu se2 wr2 nu2 = true ↔ behind se wr nu se2 wr2 nu2 := by
  unfold behB behind
  split
  · split <;> exact decide_eq_true_iff
  · exact decide_eq_true_iff
/-- where a new note comes to stand: behind all but those that stand behind it -/
def insP (P : Nat → Bool) : Nat → Nat
  | 0 => 0
  | k + 1 => if P k = true then insP P k else k + 1
theorem insP_le (P : Nat → Bool) (n : Nat) : insP P n ≤ n := by
  induction n with
  | zero => exact Nat.le_refl 0
  | succ n ih => unfold insP; split <;> omega
/-- the line with a free place at k: what stood from k to n - 1 has gone one on -/
def shF (f : Nat → Option Nat) (k n : Nat) : Nat → Option Nat := fun i => if i ≤ k then f i else if i ≤ n then f (i - 1) else f i
theorem shF_n (f : Nat → Option Nat) (n : Nat) : shF f n n = f := by
  funext i; unfold shF; split
  · rfl
  · rfl
theorem shF_s (f : Nat → Option Nat) {k n : Nat} (h : k + 1 ≤ n) : va_up (shF f (k + 1) n) (k + 1) (f k) = shF f k n := by
  funext i
  unfold va_up shF
  by_cases h1 : i = k + 1
  · rw [if_pos h1, if_neg (by omega), if_pos (by omega), h1]; rfl
  · rw [if_neg h1]
    by_cases h2 : i ≤ k
    · rw [if_pos (by omega), if_pos h2]
    · rw [if_neg (by omega), if_neg h2]
set_option maxHeartbeats 4000000 in
set_option maxRecDepth 100000 in
theorem k_L_take (l : Launch) (G : va_G) (cN : ClassId) (ty2 : List (ClassId × FieldType)) (w : Nat → Option va_E) {ln bn io n : Nat} (hn : n < 100) (hL : w ln = some (eL bn io (nI n))) {fb : Nat → Option Nat} (hbn : w bn = some (aQ cN 100 fb)) {fi : Nat → Option Nat} (hio : w io = some (aQ cN 100 fi)) (hne : bn ≠ io) {v : Nat → nV} (hfi : ∀ i, i < n → fi i = some (nA (v i))) (hok : ∀ i, i < n → w (nA (v i)) = some (eN (nN (v i)) (nW (v i)) (nK (v i)) (nS (v i)) (nT (v i)) (nF (v i)) (hd (nC (v i))).1 (nAc (v i)) (nCo (v i)) (nMx (v i)))) {a : Nat} {nu wr kd sc se : Int32} {fi2 la : Nat} {ac co mx : Int32} (ha : w a = some (eN nu wr kd sc se fi2 la ac co mx)) (sz : Nat) : Met l y_L_take (wm y_L_take c_L_take 3 none) ({ frames := 1, cells := 0, slots := 0, locals := 21 }) (pZ G ((cN, .object nR_N) :: ty2) w sz [.ref ln, .ref a]) (va_Qv (fun (u : Unit) => True) (fun _ t => mw G ncl (mA w sz) (va_up (va_up (va_up w bn (some (aQ cN 100 (va_up fb n (some a))))) io (some (aQ cN 100 (va_up (shF fi (insP (fun i => behB (nT (v i)) (nW (v i)) (nN (v i)) se wr nu) n) n) (insP (fun i => behB (nT (v i)) (nW (v i)) (nN (v i)) se wr nu) n) (some a))))) ln (some (eL bn io (nI (n + 1))))) t.heap ∧ va_K G ncl ((cN, .object nR_N) :: ty2) t) (mA w sz)) 0 0 (mA w sz) := by
  refine Met.ofW (cc := c_L_take) (maxL := 3) (ret := none) (by decide) rfl ?_
  intro p e s m args below meth c s₁ B hml hv
  obtain ⟨rfl, hsz, hM0, hK⟩ := hv
  have hx := B.exec
  have hb := B.bytes
  have hr := B.returns
  have hts := atoms_spec (ws := (wm y_L_take c_L_take 3 none)) B.pre
  have hta : ∀ w ∈ AL, w.before _ s = true := fun w h => hts w (List.mem_cons_of_mem _ h)
  have hown : s.vm.findClass nR_L = some m.cls := findClass_of_methodNamed B.named
  have hlocks := B.notSynchronized
  have hl := lv_entry ([.ref ln, .ref a]) (n := 3) (Nat.le_of_ble_eq_true rfl)
  rw [lg_entry_eq]
  generalize (lg_sl ([.ref ln, .ref a]) ++ List.replicate (3 - (lg_sl ([.ref ln, .ref a])).length) Slot.unset).toArray = ls at hl ⊢
  have hl : lv_has ls 3 [(0, .ref ln), (1, .ref a)] := hl
  subst hsz
  have hM := mw_self (sz := s.heap.size) hM0
  clear hM0
  generalize hAe : mA w s.heap.size = A at hM ⊢
  have hA : ∀ q : Nat, s.heap.size ≤ q → A q := fun q h => by rw [← hAe]; exact Or.inr h
  have hS : va_S A s.heap s.heap [] := va_S.rf
  have loop : ∀ (k : Nat) (w1 : Nat → Option va_E) (H : Heap) (locs : List Loc) (ls : Array Slot), k ≤ n → w1 = va_up (va_up w bn (some (aQ cN 100 (va_up fb n (some a))))) io (some (aQ cN 100 (shF fi k n))) → insP (fun i => behB (nT (v i)) (nW (v i)) (nN (v i)) se wr nu) k = (insP (fun i => behB (nT (v i)) (nW (v i)) (nN (v i)) se wr nu) n) → mw G ncl A w1 H → va_S A s.heap H locs → lv_has ls 3 [(0, .ref ln), (1, .ref a), (2, .int (nI k))] → W p l e (headSpec (wm y_L_take c_L_take 3 none) ({ frames := 1, cells := 0, slots := 0, locals := 21 })).room s m ([.ref ln, .ref a] : List Value).toArray below meth c H locs 0 0 (MQ below (va_Qv (fun (u : Unit) => True) (fun _ t => mw G ncl A (va_up (va_up (va_up w bn (some (aQ cN 100 (va_up fb n (some a))))) io (some (aQ cN 100 (va_up (shF fi (insP (fun i => behB (nT (v i)) (nW (v i)) (nN (v i)) se wr nu) n) n) (insP (fun i => behB (nT (v i)) (nW (v i)) (nN (v i)) se wr nu) n) (some a))))) ln (some (eL bn io (nI (n + 1))))) t.heap ∧ va_K G ncl ((cN, .object nR_N) :: ty2) t) A) ([.ref ln, .ref a] : List Value).toArray s 0 0 A) (F0 m 25 ls []) := by
    intro k
    induction k with
    | zero =>
      intro w1 H locs ls hk hw1 hpl hM hS hl
      have e1 : w1 ln = some (eL bn io (nI n)) := by rw [hw1, va_up_ne _ _ (m_ne hL hio (by intro h; cases h)), va_up_ne _ _ (m_ne hL hbn (by intro h; cases h))]; exact hL
      have e2 : w1 io = some (aQ cN 100 (shF fi 0 n)) := by rw [hw1, va_up_self]
      have e3 : w1 a = some (eN nu wr kd sc se fi2 la ac co mx) := by rw [hw1, va_up_ne _ _ (m_ne ha hio (by intro h; cases h)), va_up_ne _ _ (m_ne ha hbn (by intro h; cases h))]; exact ha
      refine lv_iload_n hx hb d_L_take_25 rfl (lv_at hl 2 rfl) ?_
      refine lv_if_le (tgt := 64) hx hb d_L_take_26 (by decide) (fun c_1 => ?_) (fun c_1 => absurd (by decide) c_1)
      refine lv_aload_n hx hb d_L_take_64 rfl (lv_at hl 0 rfl) ?_
      refine m_get (D := G) (ci := 1) (v := .ref io) (C := nR_L) (T := nT_L) (N := 3) hx hb hta in_L hown hK hM e1 rfl 1 (by decide) (hta _ aw_34) (fun _ h9 => h9) rfl d_L_take_65 ?_
      refine lv_iload_n hx hb d_L_take_68 rfl (lv_at hl 2 rfl) ?_
      refine lv_aload_n hx hb d_L_take_69 rfl (lv_at hl 1 rfl) ?_
      refine m_aast hx hb hK hM hS 0 4 e2 rfl e3 rfl (vp_in_nI (show 0 < 100 by omega) (by omega)) d_L_take_70 (fun H locs hM hS => ?_)
      obtain ⟨w_2, hw_2⟩ : ∃ z9 : Nat → Option va_E, z9 = va_up w1 io (some (.inl (cN, 100, .inr (.inr (.inr (.inr (va_up (shF fi 0 n) (nI 0).toNatClampNeg (some a)))))))) := ⟨_, rfl⟩
      rw [← hw_2] at hM
      have k_3 : w_2 ln = some (.inr (1, [.ref bn, .ref io, .int (nI n)])) := by rw [hw_2, va_up_ne _ _ (m_ne e1 e2 (by intro h; cases h))]; exact e1
      have k_4 : w_2 io = some (.inl (cN, 100, .inr (.inr (.inr (.inr (va_up (shF fi 0 n) (nI 0).toNatClampNeg (some a))))))) := by rw [hw_2, va_up_self]
      have k_5 : w_2 a = some (.inr (4, [.int nu, .int wr, .int kd, .int sc, .int se, .ref fi2, .ref la, .int ac, .int co, .int mx])) := by rw [hw_2, va_up_ne _ _ (m_ne e3 e2 (by intro h; cases h))]; exact e3
      refine lv_aload_n hx hb d_L_take_71 rfl (lv_at hl 0 rfl) ?_
      refine lv_dup hx hb d_L_take_72 rfl ?_
      refine m_get (D := G) (ci := 1) (v := .int (nI n)) (C := nR_L) (T := nT_L) (N := 3) hx hb hta in_L hown hK hM k_3 rfl 2 (by decide) (hta _ aw_36) (fun _ h9 => h9) rfl d_L_take_73 ?_
      refine lv_iconst (v := 1) hx hb d_L_take_76 (by decide) ?_
      refine lv_iadd hx hb d_L_take_77 ?_
      refine m_put (D := G) (ci := 1) (v := .int ((nI n) + 1)) (ty := .int) (C := nR_L) (T := nT_L) (N := 3) hx hb hta in_L nt_L nt_L_ok nn_L hown hK hM hS k_3 rfl 2 (by decide) (hta _ aw_36) (fun _ h9 => h9) rfl (by decide +kernel) rfl rfl (Nat.le_of_ble_eq_true rfl) d_L_take_78 (fs' := [.ref bn, .ref io, .int ((nI n) + 1)]) rfl (fun H locs hM hS => ?_)
      obtain ⟨w_6, hw_6⟩ : ∃ z9 : Nat → Option va_E, z9 = va_up w_2 ln (some (.inr (1, [.ref bn, .ref io, .int ((nI n) + 1)]))) := ⟨_, rfl⟩
      rw [← hw_6] at hM
      have k_7 : w_6 ln = some (.inr (1, [.ref bn, .ref io, .int ((nI n) + 1)])) := by rw [hw_6, va_up_self]
      have k_8 : w_6 io = some (.inl (cN, 100, .inr (.inr (.inr (.inr (va_up (shF fi 0 n) (nI 0).toNatClampNeg (some a))))))) := by rw [hw_6, va_up_ne _ _ (m_ne k_4 k_3 (by intro h; cases h))]; exact k_4
      have k_9 : w_6 a = some (.inr (4, [.int nu, .int wr, .int kd, .int sc, .int se, .ref fi2, .ref la, .int ac, .int co, .int mx])) := by rw [hw_6, va_up_ne _ _ (m_ne k_5 k_3 (by intro h; cases h))]; exact k_5
      have hp : (insP (fun i => behB (nT (v i)) (nW (v i)) (nN (v i)) se wr nu) n) = 0 := by rw [← hpl]; rfl
      have hfin : w_6 = va_up (va_up (va_up w bn (some (aQ cN 100 (va_up fb n (some a))))) io (some (aQ cN 100 (va_up (shF fi (insP (fun i => behB (nT (v i)) (nW (v i)) (nN (v i)) se wr nu) n) n) (insP (fun i => behB (nT (v i)) (nW (v i)) (nN (v i)) se wr nu) n) (some a))))) ln (some (eL bn io (nI (n + 1)))) := by rw [hw_6, hw_2, hw1, va_up_up, hp, nI_clamp (by omega), nI_1]
      rw [hfin] at hM
      exact W.vret hx hb hr (fun t ht hW => ⟨⟨(), rfl, trivial, by rw [ht]; exact hM, va_K.moved hW.alike hK⟩, hS.F ht⟩) hS.2.2 d_L_take_81
    | succ k ih =>
      intro w1 H locs ls hk hw1 hpl hM hS hl
      have e1 : w1 ln = some (eL bn io (nI n)) := by rw [hw1, va_up_ne _ _ (m_ne hL hio (by intro h; cases h)), va_up_ne _ _ (m_ne hL hbn (by intro h; cases h))]; exact hL
      have e2 : w1 io = some (aQ cN 100 (shF fi (k + 1) n)) := by rw [hw1, va_up_self]
      have e3 : w1 a = some (eN nu wr kd sc se fi2 la ac co mx) := by rw [hw1, va_up_ne _ _ (m_ne ha hio (by intro h; cases h)), va_up_ne _ _ (m_ne ha hbn (by intro h; cases h))]; exact ha
      have hok9 := hok k (by omega)
      have e4 : w1 (nA (v k)) = some (.inr (4, [.int (nN (v k)), .int (nW (v k)), .int (nK (v k)), .int (nS (v k)), .int (nT (v k)), .ref (nF (v k)), .ref ((hd (nC (v k))).1), .int (nAc (v k)), .int (nCo (v k)), .int (nMx (v k))])) := by rw [hw1, va_up_ne _ _ (m_ne hok9 hio (by intro h; cases h)), va_up_ne _ _ (m_ne hok9 hbn (by intro h; cases h))]; exact hok9
      refine lv_iload_n hx hb d_L_take_25 rfl (lv_at hl 2 rfl) ?_
      refine lv_if_le (tgt := 64) hx hb d_L_take_26 (by decide) (fun c_10 => absurd c_10 (Int32.not_le.mpr (show nI 0 < nI (k + 1) from nI_lt (by omega) (by omega)))) (fun c_10 => ?_)
      refine lv_aload_n hx hb d_L_take_29 rfl (lv_at hl 0 rfl) ?_
      refine m_get (D := G) (ci := 1) (v := .ref io) (C := nR_L) (T := nT_L) (N := 3) hx hb hta in_L hown hK hM e1 rfl 1 (by decide) (hta _ aw_34) (fun _ h9 => h9) rfl d_L_take_30 ?_
      refine lv_iload_n hx hb d_L_take_33 rfl (lv_at hl 2 rfl) ?_
      refine lv_iconst (v := 1) hx hb d_L_take_34 (by decide) ?_
      refine lv_isub hx hb d_L_take_35 ?_
      refine m_aald hx hb hK hM 0 e2 rfl (by rw [nI_pred]; exact vp_in_nI (show k < 100 by omega) (by omega)) (v := .ref (nA (v k))) (by rw [nI_pred, nI_clamp (by omega)]; unfold shF; rw [if_pos (by omega), hfi k (by omega)]; rfl) d_L_take_36 ?_
      refine lv_aload_n hx hb d_L_take_37 rfl (lv_at hl 1 rfl) ?_
      refine vp_callSi (W.runV (As := [.ref a]) (rest := []) ⟨hx, hb, hml, hown, hta⟩ (k_N_standsBehind l G ((cN, .object nR_N) :: ty2) w1 e4 e3) (cV 1 hta aw_331 aw_12 aw_328 aw_329 aw_330 rfl rfl (by decide +kernel) ⟨Nat.le_of_ble_eq_true rfl, Nat.le_of_ble_eq_true rfl⟩) (pW_V hK hM rfl e4) rfl rfl hl.1 rfl (lv_room (Nat.le_of_ble_eq_true rfl)) d_L_take_38 ⟨Nat.le_of_ble_eq_true rfl, Nat.le_of_ble_eq_true rfl⟩) (fun r_11 hr_11 => ?_)
      refine lv_if_eq (tgt := 64) hx hb d_L_take_41 (by decide) (fun c_12 => ?_) (fun c_12 => ?_)
      · refine lv_aload_n hx hb d_L_take_64 rfl (lv_at hl 0 rfl) ?_
        refine m_get (D := G) (ci := 1) (v := .ref io) (C := nR_L) (T := nT_L) (N := 3) hx hb hta in_L hown hK hM e1 rfl 1 (by decide) (hta _ aw_34) (fun _ h9 => h9) rfl d_L_take_65 ?_
        refine lv_iload_n hx hb d_L_take_68 rfl (lv_at hl 2 rfl) ?_
        refine lv_aload_n hx hb d_L_take_69 rfl (lv_at hl 1 rfl) ?_
        refine m_aast hx hb hK hM hS 0 4 e2 rfl e3 rfl (vp_in_nI (show k + 1 < 100 by omega) (by omega)) d_L_take_70 (fun H locs hM hS => ?_)
        obtain ⟨w_13, hw_13⟩ : ∃ z9 : Nat → Option va_E, z9 = va_up w1 io (some (.inl (cN, 100, .inr (.inr (.inr (.inr (va_up (shF fi (k + 1) n) (nI (k + 1)).toNatClampNeg (some a)))))))) := ⟨_, rfl⟩
        rw [← hw_13] at hM
        have k_14 : w_13 ln = some (.inr (1, [.ref bn, .ref io, .int (nI n)])) := by rw [hw_13, va_up_ne _ _ (m_ne e1 e2 (by intro h; cases h))]; exact e1
        have k_15 : w_13 io = some (.inl (cN, 100, .inr (.inr (.inr (.inr (va_up (shF fi (k + 1) n) (nI (k + 1)).toNatClampNeg (some a))))))) := by rw [hw_13, va_up_self]
        have k_16 : w_13 a = some (.inr (4, [.int nu, .int wr, .int kd, .int sc, .int se, .ref fi2, .ref la, .int ac, .int co, .int mx])) := by rw [hw_13, va_up_ne _ _ (m_ne e3 e2 (by intro h; cases h))]; exact e3
        have k_17 : w_13 (nA (v k)) = some (.inr (4, [.int (nN (v k)), .int (nW (v k)), .int (nK (v k)), .int (nS (v k)), .int (nT (v k)), .ref (nF (v k)), .ref ((hd (nC (v k))).1), .int (nAc (v k)), .int (nCo (v k)), .int (nMx (v k))])) := by rw [hw_13, va_up_ne _ _ (m_ne e4 e2 (by intro h; cases h))]; exact e4
        refine lv_aload_n hx hb d_L_take_71 rfl (lv_at hl 0 rfl) ?_
        refine lv_dup hx hb d_L_take_72 rfl ?_
        refine m_get (D := G) (ci := 1) (v := .int (nI n)) (C := nR_L) (T := nT_L) (N := 3) hx hb hta in_L hown hK hM k_14 rfl 2 (by decide) (hta _ aw_36) (fun _ h9 => h9) rfl d_L_take_73 ?_
        refine lv_iconst (v := 1) hx hb d_L_take_76 (by decide) ?_
        refine lv_iadd hx hb d_L_take_77 ?_
        refine m_put (D := G) (ci := 1) (v := .int ((nI n) + 1)) (ty := .int) (C := nR_L) (T := nT_L) (N := 3) hx hb hta in_L nt_L nt_L_ok nn_L hown hK hM hS k_14 rfl 2 (by decide) (hta _ aw_36) (fun _ h9 => h9) rfl (by decide +kernel) rfl rfl (Nat.le_of_ble_eq_true rfl) d_L_take_78 (fs' := [.ref bn, .ref io, .int ((nI n) + 1)]) rfl (fun H locs hM hS => ?_)
        obtain ⟨w_18, hw_18⟩ : ∃ z9 : Nat → Option va_E, z9 = va_up w_13 ln (some (.inr (1, [.ref bn, .ref io, .int ((nI n) + 1)]))) := ⟨_, rfl⟩
        rw [← hw_18] at hM
        have k_19 : w_18 ln = some (.inr (1, [.ref bn, .ref io, .int ((nI n) + 1)])) := by rw [hw_18, va_up_self]
        have k_20 : w_18 io = some (.inl (cN, 100, .inr (.inr (.inr (.inr (va_up (shF fi (k + 1) n) (nI (k + 1)).toNatClampNeg (some a))))))) := by rw [hw_18, va_up_ne _ _ (m_ne k_15 k_14 (by intro h; cases h))]; exact k_15
        have k_21 : w_18 a = some (.inr (4, [.int nu, .int wr, .int kd, .int sc, .int se, .ref fi2, .ref la, .int ac, .int co, .int mx])) := by rw [hw_18, va_up_ne _ _ (m_ne k_16 k_14 (by intro h; cases h))]; exact k_16
        have k_22 : w_18 (nA (v k)) = some (.inr (4, [.int (nN (v k)), .int (nW (v k)), .int (nK (v k)), .int (nS (v k)), .int (nT (v k)), .ref (nF (v k)), .ref ((hd (nC (v k))).1), .int (nAc (v k)), .int (nCo (v k)), .int (nMx (v k))])) := by rw [hw_18, va_up_ne _ _ (m_ne k_17 k_14 (by intro h; cases h))]; exact k_17
        have hp : (insP (fun i => behB (nT (v i)) (nW (v i)) (nN (v i)) se wr nu) n) = (k + 1) := by rw [← hpl, insP, if_neg (by rw [behB_iff]; exact hr_11.elim (fun q => absurd c_12 (by rw [q.1]; decide)) (fun q => q.2))]
        have hfin : w_18 = va_up (va_up (va_up w bn (some (aQ cN 100 (va_up fb n (some a))))) io (some (aQ cN 100 (va_up (shF fi (insP (fun i => behB (nT (v i)) (nW (v i)) (nN (v i)) se wr nu) n) n) (insP (fun i => behB (nT (v i)) (nW (v i)) (nN (v i)) se wr nu) n) (some a))))) ln (some (eL bn io (nI (n + 1)))) := by rw [hw_18, hw_13, hw1, va_up_up, hp, nI_clamp (by omega), nI_1]
        rw [hfin] at hM
        exact W.vret hx hb hr (fun t ht hW => ⟨⟨(), rfl, trivial, by rw [ht]; exact hM, va_K.moved hW.alike hK⟩, hS.F ht⟩) hS.2.2 d_L_take_81
      · refine lv_aload_n hx hb d_L_take_44 rfl (lv_at hl 0 rfl) ?_
        refine m_get (D := G) (ci := 1) (v := .ref io) (C := nR_L) (T := nT_L) (N := 3) hx hb hta in_L hown hK hM e1 rfl 1 (by decide) (hta _ aw_34) (fun _ h9 => h9) rfl d_L_take_45 ?_
        refine lv_iload_n hx hb d_L_take_48 rfl (lv_at hl 2 rfl) ?_
        refine lv_aload_n hx hb d_L_take_49 rfl (lv_at hl 0 rfl) ?_
        refine m_get (D := G) (ci := 1) (v := .ref io) (C := nR_L) (T := nT_L) (N := 3) hx hb hta in_L hown hK hM e1 rfl 1 (by decide) (hta _ aw_34) (fun _ h9 => h9) rfl d_L_take_50 ?_
        refine lv_iload_n hx hb d_L_take_53 rfl (lv_at hl 2 rfl) ?_
        refine lv_iconst (v := 1) hx hb d_L_take_54 (by decide) ?_
        refine lv_isub hx hb d_L_take_55 ?_
        refine m_aald hx hb hK hM 0 e2 rfl (by rw [nI_pred]; exact vp_in_nI (show k < 100 by omega) (by omega)) (v := .ref (nA (v k))) (by rw [nI_pred, nI_clamp (by omega)]; unfold shF; rw [if_pos (by omega), hfi k (by omega)]; rfl) d_L_take_56 ?_
        refine m_aast hx hb hK hM hS 0 4 e2 rfl e4 rfl (vp_in_nI (show k + 1 < 100 by omega) (by omega)) d_L_take_57 (fun H locs hM hS => ?_)
        obtain ⟨w_23, hw_23⟩ : ∃ z9 : Nat → Option va_E, z9 = va_up w1 io (some (.inl (cN, 100, .inr (.inr (.inr (.inr (va_up (shF fi (k + 1) n) (nI (k + 1)).toNatClampNeg (some (nA (v k)))))))))) := ⟨_, rfl⟩
        rw [← hw_23] at hM
        have k_24 : w_23 ln = some (.inr (1, [.ref bn, .ref io, .int (nI n)])) := by rw [hw_23, va_up_ne _ _ (m_ne e1 e2 (by intro h; cases h))]; exact e1
        have k_25 : w_23 io = some (.inl (cN, 100, .inr (.inr (.inr (.inr (va_up (shF fi (k + 1) n) (nI (k + 1)).toNatClampNeg (some (nA (v k))))))))) := by rw [hw_23, va_up_self]
        have k_26 : w_23 a = some (.inr (4, [.int nu, .int wr, .int kd, .int sc, .int se, .ref fi2, .ref la, .int ac, .int co, .int mx])) := by rw [hw_23, va_up_ne _ _ (m_ne e3 e2 (by intro h; cases h))]; exact e3
        have k_27 : w_23 (nA (v k)) = some (.inr (4, [.int (nN (v k)), .int (nW (v k)), .int (nK (v k)), .int (nS (v k)), .int (nT (v k)), .ref (nF (v k)), .ref ((hd (nC (v k))).1), .int (nAc (v k)), .int (nCo (v k)), .int (nMx (v k))])) := by rw [hw_23, va_up_ne _ _ (m_ne e4 e2 (by intro h; cases h))]; exact e4
        obtain ⟨x_28, ex_28⟩ : ∃ y : Int32, y = (nI (k + 1)) + (-1) := ⟨_, rfl⟩
        refine lv_iinc (v := x_28) (lv' := [(2, .int x_28), (0, .ref ln), (1, .ref a)]) hx hb d_L_take_58 hl (k := 2) rfl (by rw [ex_28]; rfl) (by decide) rfl (fun ls hl => ?_)
        refine lv_goto (tgt := 25) hx hb d_L_take_61 (by decide) ?_
        have hb9 : insP (fun i => behB (nT (v i)) (nW (v i)) (nN (v i)) se wr nu) (k + 1) = insP (fun i => behB (nT (v i)) (nW (v i)) (nN (v i)) se wr nu) k := by rw [insP, if_pos ((behB_iff _ _ _ _ _ _).mpr (hr_11.elim (fun q => q.2) (fun q => absurd q.1 c_12)))]
        have hw9 : w_23 = va_up (va_up w bn (some (aQ cN 100 (va_up fb n (some a))))) io (some (aQ cN 100 (shF fi k n))) := by rw [hw_23, hw1, va_up_up, nI_clamp (by omega), ← hfi k (by omega), shF_s fi (by omega)]
        have ex : x_28 = nI k := by rw [ex_28, i_m1, nI_pred]
        subst ex
        exact ih w_23 H locs ls (by omega) hw9 (by rw [← hpl, hb9]) hM hS (lv_sub hl [1, 2, 0] rfl)
  refine lv_aload_n hx hb d_L_take_0 rfl (lv_at hl 0 rfl) ?_
  refine m_get (D := G) (ci := 1) (v := .int (nI n)) (C := nR_L) (T := nT_L) (N := 3) hx hb hta in_L hown hK hM hL rfl 2 (by decide) (hta _ aw_36) (fun _ h9 => h9) rfl d_L_take_1 ?_
  refine lv_bipush (v := 100) hx hb d_L_take_4 (by decide) ?_
  refine lv_icmp_lt (tgt := 10) hx hb d_L_take_6 (by decide) (fun c_29 => ?_) (fun c_29 => absurd (show nI n < nI 100 from nI_lt (by omega) (by omega)) c_29)
  refine lv_aload_n hx hb d_L_take_10 rfl (lv_at hl 0 rfl) ?_
  refine m_get (D := G) (ci := 1) (v := .ref bn) (C := nR_L) (T := nT_L) (N := 3) hx hb hta in_L hown hK hM hL rfl 0 (by decide) (hta _ aw_32) (fun _ h9 => h9) rfl d_L_take_11 ?_
  refine lv_aload_n hx hb d_L_take_14 rfl (lv_at hl 0 rfl) ?_
  refine m_get (D := G) (ci := 1) (v := .int (nI n)) (C := nR_L) (T := nT_L) (N := 3) hx hb hta in_L hown hK hM hL rfl 2 (by decide) (hta _ aw_36) (fun _ h9 => h9) rfl d_L_take_15 ?_
  refine lv_aload_n hx hb d_L_take_18 rfl (lv_at hl 1 rfl) ?_
  refine m_aast hx hb hK hM hS 0 4 hbn rfl ha rfl (vp_in_nI (show n < 100 by omega) (by omega)) d_L_take_19 (fun H locs hM hS => ?_)
  obtain ⟨w_30, hw_30⟩ : ∃ z9 : Nat → Option va_E, z9 = va_up w bn (some (.inl (cN, 100, .inr (.inr (.inr (.inr (va_up fb (nI n).toNatClampNeg (some a)))))))) := ⟨_, rfl⟩
  rw [← hw_30] at hM
  have k_31 : w_30 ln = some (.inr (1, [.ref bn, .ref io, .int (nI n)])) := by rw [hw_30, va_up_ne _ _ (m_ne hL hbn (by intro h; cases h))]; exact hL
  have k_32 : w_30 bn = some (.inl (cN, 100, .inr (.inr (.inr (.inr (va_up fb (nI n).toNatClampNeg (some a))))))) := by rw [hw_30, va_up_self]
  have k_33 : w_30 io = some (.inl (cN, 100, .inr (.inr (.inr (.inr fi))))) := by rw [hw_30, va_up_ne _ _ (Ne.symm hne)]; exact hio
  have k_34 : w_30 a = some (.inr (4, [.int nu, .int wr, .int kd, .int sc, .int se, .ref fi2, .ref la, .int ac, .int co, .int mx])) := by rw [hw_30, va_up_ne _ _ (m_ne ha hbn (by intro h; cases h))]; exact ha
  refine lv_aload_n hx hb d_L_take_20 rfl (lv_at hl 0 rfl) ?_
  refine m_get (D := G) (ci := 1) (v := .int (nI n)) (C := nR_L) (T := nT_L) (N := 3) hx hb hta in_L hown hK hM k_31 rfl 2 (by decide) (hta _ aw_36) (fun _ h9 => h9) rfl d_L_take_21 ?_
  refine lv_istore_n (lv' := [(2, .int (nI n)), (0, .ref ln), (1, .ref a)]) hx hb d_L_take_24 rfl hl (by decide) rfl (fun ls hl => ?_)
  have hw9 : w_30 = va_up (va_up w bn (some (aQ cN 100 (va_up fb n (some a))))) io (some (aQ cN 100 (shF fi n n))) := by
    rw [hw_30, nI_clamp (by omega), shF_n]
    funext z9
    by_cases y : z9 = io
    · subst y; rw [va_up_self, va_up_ne _ _ (Ne.symm hne)]; exact hio
    · rw [va_up_ne (va_up w bn _) _ y]
  exact loop n w_30 H locs ls (Nat.le_refl n) hw9 rfl hM hS (lv_sub hl [1, 2, 0] rfl)
set_option maxHeartbeats 4000000 in
set_option maxRecDepth 100000 in
theorem k_Q_begin (l : Launch) (G : va_G) (tys : List (ClassId × FieldType)) (w : Nat → Option va_E) {qu ro : Nat} {n kn z : Int32} (hQ : w qu = some (eQ ro n kn z)) (x : Int32) (sz : Nat) : Met l y_Q_begin (wm y_Q_begin c_Q_begin 2 none) ({ frames := 0, cells := 0, slots := 0, locals := 0 }) (pZ G tys w sz [.ref qu, .int x]) (va_Qv (fun (u : Unit) => True) (fun _ t => mw G ncl (mA w sz) (va_up w qu (some (eQ ro 0 x 1))) t.heap ∧ va_K G ncl tys t) (mA w sz)) 0 0 (mA w sz) := by
  refine Met.ofW (cc := c_Q_begin) (maxL := 2) (ret := none) (by decide) rfl ?_
  intro p e s m args below meth c s₁ B hml hv
  obtain ⟨rfl, hsz, hM0, hK⟩ := hv
  have hx := B.exec
  have hb := B.bytes
  have hr := B.returns
  have hts := atoms_spec (ws := (wm y_Q_begin c_Q_begin 2 none)) B.pre
  have hta : ∀ w ∈ AL, w.before _ s = true := fun w h => hts w (List.mem_cons_of_mem _ h)
  have hown : s.vm.findClass nR_Q = some m.cls := findClass_of_methodNamed B.named
  have hlocks := B.notSynchronized
  have hl := lv_entry ([.ref qu, .int x]) (n := 2) (Nat.le_of_ble_eq_true rfl)
  rw [lg_entry_eq]
  generalize (lg_sl ([.ref qu, .int x]) ++ List.replicate (2 - (lg_sl ([.ref qu, .int x])).length) Slot.unset).toArray = ls at hl ⊢
  have hl : lv_has ls 2 [(0, .ref qu), (1, .int x)] := hl
  subst hsz
  have hM := mw_self (sz := s.heap.size) hM0
  clear hM0
  generalize hAe : mA w s.heap.size = A at hM ⊢
  have hA : ∀ q : Nat, s.heap.size ≤ q → A q := fun q h => by rw [← hAe]; exact Or.inr h
  have hS : va_S A s.heap s.heap [] := va_S.rf
  refine lv_aload_n hx hb d_Q_begin_0 rfl (lv_at hl 0 rfl) ?_
  refine lv_iconst (v := 1) hx hb d_Q_begin_1 (by decide) ?_
  refine m_put (D := G) (ci := 2) (v := .int 1) (ty := .boolean) (C := nR_Q) (T := nT_Q) (N := 4) hx hb hta in_Q nt_Q nt_Q_ok nn_Q hown hK hM hS hQ rfl 3 (by decide) (hta _ aw_58) (fun _ h9 => h9) rfl (by decide +kernel) rfl rfl (Nat.le_of_ble_eq_true rfl) d_Q_begin_2 (fs' := [.ref ro, .int n, .int kn, .int 1]) rfl (fun H locs hM hS => ?_)
  obtain ⟨w_1, hw_1⟩ : ∃ z9 : Nat → Option va_E, z9 = va_up w qu (some (.inr (2, [.ref ro, .int n, .int kn, .int 1]))) := ⟨_, rfl⟩
  rw [← hw_1] at hM
  have k_2 : w_1 qu = some (.inr (2, [.ref ro, .int n, .int kn, .int 1])) := by rw [hw_1, va_up_self]
  refine lv_aload_n hx hb d_Q_begin_5 rfl (lv_at hl 0 rfl) ?_
  refine lv_iload_n hx hb d_Q_begin_6 rfl (lv_at hl 1 rfl) ?_
  refine m_put (D := G) (ci := 2) (v := .int x) (ty := .int) (C := nR_Q) (T := nT_Q) (N := 4) hx hb hta in_Q nt_Q nt_Q_ok nn_Q hown hK hM hS k_2 rfl 2 (by decide) (hta _ aw_56) (fun _ h9 => h9) rfl (by decide +kernel) rfl rfl (Nat.le_of_ble_eq_true rfl) d_Q_begin_7 (fs' := [.ref ro, .int n, .int x, .int 1]) rfl (fun H locs hM hS => ?_)
  obtain ⟨w_3, hw_3⟩ : ∃ z9 : Nat → Option va_E, z9 = va_up w_1 qu (some (.inr (2, [.ref ro, .int n, .int x, .int 1]))) := ⟨_, rfl⟩
  rw [← hw_3] at hM
  have k_4 : w_3 qu = some (.inr (2, [.ref ro, .int n, .int x, .int 1])) := by rw [hw_3, va_up_self]
  refine lv_aload_n hx hb d_Q_begin_10 rfl (lv_at hl 0 rfl) ?_
  refine lv_iconst (v := 0) hx hb d_Q_begin_11 (by decide) ?_
  refine m_put (D := G) (ci := 2) (v := .int 0) (ty := .int) (C := nR_Q) (T := nT_Q) (N := 4) hx hb hta in_Q nt_Q nt_Q_ok nn_Q hown hK hM hS k_4 rfl 1 (by decide) (hta _ aw_54) (fun _ h9 => h9) rfl (by decide +kernel) rfl rfl (Nat.le_of_ble_eq_true rfl) d_Q_begin_12 (fs' := [.ref ro, .int 0, .int x, .int 1]) rfl (fun H locs hM hS => ?_)
  obtain ⟨w_5, hw_5⟩ : ∃ z9 : Nat → Option va_E, z9 = va_up w_3 qu (some (.inr (2, [.ref ro, .int 0, .int x, .int 1]))) := ⟨_, rfl⟩
  rw [← hw_5] at hM
  have k_6 : w_5 qu = some (.inr (2, [.ref ro, .int 0, .int x, .int 1])) := by rw [hw_5, va_up_self]
  have hfin : w_5 = va_up w qu (some (eQ ro 0 x 1)) := by
    rw [hw_5, hw_3, hw_1]
    funext z9
    simp only [va_up]
    by_cases y0 : z9 = qu
    · first | (simp only [if_pos y0]; done) | (simp only [if_pos y0]; rfl)
    · first | (simp only [if_neg y0]; done) | (simp only [if_neg y0]; rfl)
  rw [hfin] at hM
  exact W.vret hx hb hr (fun t ht hW => ⟨⟨(), rfl, trivial, by rw [ht]; exact hM, va_K.moved hW.alike hK⟩, hS.F ht⟩) hS.2.2 d_Q_begin_15
set_option maxHeartbeats 4000000 in
set_option maxRecDepth 100000 in
theorem k_Q_take (l : Launch) (G : va_G) (cN : ClassId) (ty2 : List (ClassId × FieldType)) (w : Nat → Option va_E) {qu ro n : Nat} {kn z : Int32} (hn : n < 100) (hQ : w qu = some (eQ ro (nI n) kn z)) {fr : Nat → Option Nat} (hro : w ro = some (aQ cN 100 fr)) {a : Nat} {nu wr kd sc se : Int32} {fi2 la : Nat} {ac co mx : Int32} (ha : w a = some (eN nu wr kd sc se fi2 la ac co mx)) (sz : Nat) : Met l y_Q_take (wm y_Q_take c_Q_take 2 none) ({ frames := 0, cells := 0, slots := 0, locals := 0 }) (pZ G ((cN, .object nR_N) :: ty2) w sz [.ref qu, .ref a]) (va_Qv (fun (u : Unit) => True) (fun _ t => mw G ncl (mA w sz) (va_up (va_up w ro (some (aQ cN 100 (va_up fr n (some a))))) qu (some (eQ ro (nI (n + 1)) kn z))) t.heap ∧ va_K G ncl ((cN, .object nR_N) :: ty2) t) (mA w sz)) 0 0 (mA w sz) := by
  refine Met.ofW (cc := c_Q_take) (maxL := 2) (ret := none) (by decide) rfl ?_
  intro p e s m args below meth c s₁ B hml hv
  obtain ⟨rfl, hsz, hM0, hK⟩ := hv
  have hx := B.exec
  have hb := B.bytes
  have hr := B.returns
  have hts := atoms_spec (ws := (wm y_Q_take c_Q_take 2 none)) B.pre
  have hta : ∀ w ∈ AL, w.before _ s = true := fun w h => hts w (List.mem_cons_of_mem _ h)
  have hown : s.vm.findClass nR_Q = some m.cls := findClass_of_methodNamed B.named
  have hlocks := B.notSynchronized
  have hl := lv_entry ([.ref qu, .ref a]) (n := 2) (Nat.le_of_ble_eq_true rfl)
  rw [lg_entry_eq]
  generalize (lg_sl ([.ref qu, .ref a]) ++ List.replicate (2 - (lg_sl ([.ref qu, .ref a])).length) Slot.unset).toArray = ls at hl ⊢
  have hl : lv_has ls 2 [(0, .ref qu), (1, .ref a)] := hl
  subst hsz
  have hM := mw_self (sz := s.heap.size) hM0
  clear hM0
  generalize hAe : mA w s.heap.size = A at hM ⊢
  have hA : ∀ q : Nat, s.heap.size ≤ q → A q := fun q h => by rw [← hAe]; exact Or.inr h
  have hS : va_S A s.heap s.heap [] := va_S.rf
  refine lv_aload_n hx hb d_Q_take_0 rfl (lv_at hl 0 rfl) ?_
  refine m_get (D := G) (ci := 2) (v := .int (nI n)) (C := nR_Q) (T := nT_Q) (N := 4) hx hb hta in_Q hown hK hM hQ rfl 1 (by decide) (hta _ aw_54) (fun _ h9 => h9) rfl d_Q_take_1 ?_
  refine lv_bipush (v := 100) hx hb d_Q_take_4 (by decide) ?_
  refine lv_icmp_ge (tgt := 29) hx hb d_Q_take_6 (by decide) (fun c_1 => absurd (show nI n < nI 100 from nI_lt (by omega) (by omega)) (Int32.not_lt.mpr c_1)) (fun c_1 => ?_)
  refine lv_aload_n hx hb d_Q_take_9 rfl (lv_at hl 0 rfl) ?_
  refine m_get (D := G) (ci := 2) (v := .ref ro) (C := nR_Q) (T := nT_Q) (N := 4) hx hb hta in_Q hown hK hM hQ rfl 0 (by decide) (hta _ aw_52) (fun _ h9 => h9) rfl d_Q_take_10 ?_
  refine lv_aload_n hx hb d_Q_take_13 rfl (lv_at hl 0 rfl) ?_
  refine m_get (D := G) (ci := 2) (v := .int (nI n)) (C := nR_Q) (T := nT_Q) (N := 4) hx hb hta in_Q hown hK hM hQ rfl 1 (by decide) (hta _ aw_54) (fun _ h9 => h9) rfl d_Q_take_14 ?_
  refine lv_aload_n hx hb d_Q_take_17 rfl (lv_at hl 1 rfl) ?_
  refine m_aast hx hb hK hM hS 0 4 hro rfl ha rfl (vp_in_nI (show n < 100 by omega) (by omega)) d_Q_take_18 (fun H locs hM hS => ?_)
  obtain ⟨w_2, hw_2⟩ : ∃ z9 : Nat → Option va_E, z9 = va_up w ro (some (.inl (cN, 100, .inr (.inr (.inr (.inr (va_up fr (nI n).toNatClampNeg (some a)))))))) := ⟨_, rfl⟩
  rw [← hw_2] at hM
  have k_3 : w_2 qu = some (.inr (2, [.ref ro, .int (nI n), .int kn, .int z])) := by rw [hw_2, va_up_ne _ _ (m_ne hQ hro (by intro h; cases h))]; exact hQ
  have k_4 : w_2 ro = some (.inl (cN, 100, .inr (.inr (.inr (.inr (va_up fr (nI n).toNatClampNeg (some a))))))) := by rw [hw_2, va_up_self]
  have k_5 : w_2 a = some (.inr (4, [.int nu, .int wr, .int kd, .int sc, .int se, .ref fi2, .ref la, .int ac, .int co, .int mx])) := by rw [hw_2, va_up_ne _ _ (m_ne ha hro (by intro h; cases h))]; exact ha
  refine lv_aload_n hx hb d_Q_take_19 rfl (lv_at hl 0 rfl) ?_
  refine lv_dup hx hb d_Q_take_20 rfl ?_
  refine m_get (D := G) (ci := 2) (v := .int (nI n)) (C := nR_Q) (T := nT_Q) (N := 4) hx hb hta in_Q hown hK hM k_3 rfl 1 (by decide) (hta _ aw_54) (fun _ h9 => h9) rfl d_Q_take_21 ?_
  refine lv_iconst (v := 1) hx hb d_Q_take_24 (by decide) ?_
  refine lv_iadd hx hb d_Q_take_25 ?_
  refine m_put (D := G) (ci := 2) (v := .int ((nI n) + 1)) (ty := .int) (C := nR_Q) (T := nT_Q) (N := 4) hx hb hta in_Q nt_Q nt_Q_ok nn_Q hown hK hM hS k_3 rfl 1 (by decide) (hta _ aw_54) (fun _ h9 => h9) rfl (by decide +kernel) rfl rfl (Nat.le_of_ble_eq_true rfl) d_Q_take_26 (fs' := [.ref ro, .int ((nI n) + 1), .int kn, .int z]) rfl (fun H locs hM hS => ?_)
  obtain ⟨w_6, hw_6⟩ : ∃ z9 : Nat → Option va_E, z9 = va_up w_2 qu (some (.inr (2, [.ref ro, .int ((nI n) + 1), .int kn, .int z]))) := ⟨_, rfl⟩
  rw [← hw_6] at hM
  have k_7 : w_6 qu = some (.inr (2, [.ref ro, .int ((nI n) + 1), .int kn, .int z])) := by rw [hw_6, va_up_self]
  have k_8 : w_6 ro = some (.inl (cN, 100, .inr (.inr (.inr (.inr (va_up fr (nI n).toNatClampNeg (some a))))))) := by rw [hw_6, va_up_ne _ _ (m_ne k_4 k_3 (by intro h; cases h))]; exact k_4
  have k_9 : w_6 a = some (.inr (4, [.int nu, .int wr, .int kd, .int sc, .int se, .ref fi2, .ref la, .int ac, .int co, .int mx])) := by rw [hw_6, va_up_ne _ _ (m_ne k_5 k_3 (by intro h; cases h))]; exact k_5
  have hfin : w_6 = va_up (va_up w ro (some (aQ cN 100 (va_up fr n (some a))))) qu (some (eQ ro (nI (n + 1)) kn z)) := by rw [hw_6, hw_2, nI_clamp (by omega), nI_1]
  rw [hfin] at hM
  exact W.vret hx hb hr (fun t ht hW => ⟨⟨(), rfl, trivial, by rw [ht]; exact hM, va_K.moved hW.alike hK⟩, hS.F ht⟩) hS.2.2 d_Q_take_29
