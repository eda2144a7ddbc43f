/-! the line: a note by what is written in it, the searches -/
theorem i_m1 (x : Int32) : x + (-1) = x - 1 := by rw [Int32.sub_eq_add_neg]
abbrev nV : Type := Nat × (Int32 × Int32 × Int32 × Int32 × Int32) × Nat × (Int32 × Int32 × Int32) × List cS4
def nA (v : nV) : Nat := v.1
def nN (v : nV) : Int32 := v.2.1.1
def nW (v : nV) : Int32 := v.2.1.2.1
def nK (v : nV) : Int32 := v.2.1.2.2.1
def nS (v : nV) : Int32 := v.2.1.2.2.2.1
def nT (v : nV) : Int32 := v.2.1.2.2.2.2
def nF (v : nV) : Nat := v.2.2.1
def nAc (v : nV) : Int32 := v.2.2.2.1.1
def nCo (v : nV) : Int32 := v.2.2.2.1.2.1
def nMx (v : nV) : Int32 := v.2.2.2.1.2.2
def nC (v : nV) : List cS4 := v.2.2.2.2
def hd (c : List cS4) : cS4 := c.headD (0, 0, 0, 0)
def okN (w : Nat → Option va_E) (v : nV) : Prop := nC v ≠ [] ∧ w (nA v) = some (eN (nN v) (nW v) (nK v) (nS v) (nT v) (nF v) (hd (nC v)).1 (nAc v) (nCo v) (nMx v)) ∧ ch w (nC v)
theorem okN_s {w : Nat → Option va_E} {v : nV} (h : okN w v) : w (hd (nC v)).1 = some (eT (hd (nC v)).2.1 (hd (nC v)).2.2.1 (hd (nC v)).2.2.2 ((nC v).tail.head?.map Prod.fst)) := by
  obtain ⟨h1, -, h3⟩ := h
  cases hc : nC v with
  | nil => exact absurd hc h1
  | cons c r => rw [hc] at h3; exact h3.1
theorem okN_c {w : Nat → Option va_E} {v : nV} (h : okN w v) : nC v = ((hd (nC v)).1, (hd (nC v)).2.1, (hd (nC v)).2.2.1, (hd (nC v)).2.2.2) :: (nC v).tail := by
  cases hc : nC v with
  | nil => exact absurd hc h.1
  | cons c r => rfl
def lastP (P : Nat → Bool) : Nat → Option Nat
  | 0 => none
  | i + 1 => if P i = true then some i else lastP P i
def firstP (P : Nat → Bool) : Nat → Nat → Option Nat
  | 0, _ => none
  | m + 1, i => if P i = true then some i else firstP P m (i + 1)
def cntP (P : Nat → Bool) : Nat → Nat
  | 0 => 0
  | i + 1 => cntP P i + (if P i = true then 1 else 0)
theorem cntP_le (P : Nat → Bool) (n : Nat) : cntP P n ≤ n := by
  induction n with
  | zero => exact Nat.le_refl 0
  | succ n ih => unfold cntP; split <;> omega
def isRd (k : Int32) (v : nV) : Bool := decide (nK v = 2 ∧ nS v = k ∧ (hd (nC v)).2.2.2 = 0)
theorem okN_n {w : Nat → Option va_E} {v : nV} (h : okN w v) : w (nA v) = some (eN (nN v) (nW v) (nK v) (nS v) (nT v) (nF v) (hd (nC v)).1 (nAc v) (nCo v) (nMx v)) := h.2.1
theorem lp_t {k t r : Int32} {v : nV} (h1 : ¬ t < nT v) (h2 : r = if nK v = 2 ∧ nS v = k ∧ (hd (nC v)).2.2.2 = 0 then 1 else 0) (h3 : ¬ r = 0) : (decide (¬ t < nT v) && isRd k v) = true := by
  have h4 : nK v = 2 ∧ nS v = k ∧ (hd (nC v)).2.2.2 = 0 := by
    by_cases h : nK v = 2 ∧ nS v = k ∧ (hd (nC v)).2.2.2 = 0
    · exact h
    · rw [if_neg h] at h2; exact absurd h2 h3
  simp [isRd, h1, h4]
theorem lp_f1 {k t : Int32} {v : nV} (h1 : t < nT v) : ¬ (decide (¬ t < nT v) && isRd k v) = true := by simp [h1]
theorem rd_0 {k r : Int32} {v : nV} (h2 : r = if nK v = 2 ∧ nS v = k ∧ (hd (nC v)).2.2.2 = 0 then 1 else 0) (h3 : r = 0) : isRd k v = false := by
  by_cases h : nK v = 2 ∧ nS v = k ∧ (hd (nC v)).2.2.2 = 0
  · rw [if_pos h, h3] at h2; exact absurd h2 (by decide)
  · exact decide_eq_false h
theorem lp_f2 {b : Bool} {k r : Int32} {v : nV} (h2 : r = if nK v = 2 ∧ nS v = k ∧ (hd (nC v)).2.2.2 = 0 then 1 else 0) (h3 : r = 0) : ¬ (b && isRd k v) = true := by
  rw [rd_0 h2 h3]; simp
theorem lp_t' {k t r : Int32} {v : nV} (h1 : ¬ nT v < t) (h2 : r = if nK v = 2 ∧ nS v = k ∧ (hd (nC v)).2.2.2 = 0 then 1 else 0) (h3 : ¬ r = 0) : (decide (¬ nT v < t) && isRd k v) = true := by
  have h4 : nK v = 2 ∧ nS v = k ∧ (hd (nC v)).2.2.2 = 0 := by
    by_cases h : nK v = 2 ∧ nS v = k ∧ (hd (nC v)).2.2.2 = 0
    · exact h
    · rw [if_neg h] at h2; exact absurd h2 h3
  simp [isRd, h1, h4]
theorem lp_f1' {k t : Int32} {v : nV} (h1 : nT v < t) : ¬ (decide (¬ nT v < t) && isRd k v) = true := by simp [h1]
set_option maxHeartbeats 4000000 in
set_option maxRecDepth 100000 in
theorem k_L_lastReadingUpTo (l : Launch) (G : va_G) (cN : ClassId) (ty2 : List (ClassId × FieldType)) (w : Nat → Option va_E) {ln bn io n : Nat} (hn : n ≤ 100) (hL : w ln = some (eL bn io (nI n))) {fi : Nat → Option Nat} (hio : w io = some (aQ cN 100 fi)) {v : Nat → nV} (hfi : ∀ i, i < n → fi i = some (nA (v i))) (hok : ∀ i, i < n → okN w (v i)) (k t : Int32) : Met l y_L_lastReadingUpTo (wm y_L_lastReadingUpTo c_L_lastReadingUpTo 4 (some (.object "SceneTimes$Note"))) ({ frames := 1, cells := 0, slots := 0, locals := 21 }) (pW G ((cN, .object nR_N) :: ty2) w [.ref ln, .int k, .int t]) (va_Sq (fun r => r = (lastP (fun i => decide (¬ t < nT (v i)) && isRd k (v i)) n).map (fun i => nA (v i)))) 0 0 (fun _ => False) := by
  refine Met.ofW (cc := c_L_lastReadingUpTo) (maxL := 4) (ret := (some (.object "SceneTimes$Note"))) (by decide) rfl ?_
  intro p e s m args below meth c s₁ B hml hv
  obtain ⟨rfl, hM, hK⟩ := hv
  have hx := B.exec
  have hb := B.bytes
  have hr := B.returns
  have hts := atoms_spec (ws := (wm y_L_lastReadingUpTo c_L_lastReadingUpTo 4 (some (.object "SceneTimes$Note")))) B.pre
  have hta : ∀ w ∈ AL, w.before _ s = true := fun w h => hts w (List.mem_cons_of_mem _ h)
  have hown : s.vm.findClass nR_L = some m.cls := findClass_of_methodNamed B.named
  have hlocks := B.notSynchronized
  have hl := lv_entry ([.ref ln, .int k, .int t]) (n := 4) (Nat.le_of_ble_eq_true rfl)
  rw [lg_entry_eq]
  generalize (lg_sl ([.ref ln, .int k, .int t]) ++ List.replicate (4 - (lg_sl ([.ref ln, .int k, .int t])).length) Slot.unset).toArray = ls at hl ⊢
  have hl : lv_has ls 4 [(0, .ref ln), (1, .int k), (2, .int t)] := hl
  have loop : ∀ (i : Nat) (x3 : Int32) (ls : Array Slot), i ≤ n → x3 = nI i - 1 → lastP (fun i => decide (¬ t < nT (v i)) && isRd k (v i)) i = lastP (fun i => decide (¬ t < nT (v i)) && isRd k (v i)) n → lv_has ls 4 [(0, .ref ln), (1, .int k), (2, .int t), (3, .int x3)] → W p l e (headSpec (wm y_L_lastReadingUpTo c_L_lastReadingUpTo 4 (some (.object "SceneTimes$Note"))) ({ frames := 1, cells := 0, slots := 0, locals := 21 })).room s m ([.ref ln, .int k, .int t] : List Value).toArray below meth c s.heap [] 0 0 (MQ below (va_Sq (fun r => r = (lastP (fun i => decide (¬ t < nT (v i)) && isRd k (v i)) n).map (fun i => nA (v i)))) ([.ref ln, .int k, .int t] : List Value).toArray s 0 0 (fun _ => False)) (F0 m 7 ls []) := by
    intro i
    induction i with
    | zero =>
      intro x3 ls hi e3 hst hl
      refine lv_iload_n hx hb d_L_lastReadingUpTo_7 rfl (lv_at hl 3 rfl) ?_
      refine lv_if_lt (tgt := 50) hx hb d_L_lastReadingUpTo_8 (by decide) (fun c_1 => ?_) (fun c_1 => absurd (by rw [e3]; decide) c_1)
      refine lv_null hx hb d_L_lastReadingUpTo_50 ?_
      exact W.aret (v := .null) (rt := .object "SceneTimes$Note") hx hb hr (Or.inl ⟨_, rfl⟩) (Or.inl rfl) (fun t ht hW => ⟨none, rfl, by rw [← hst]; rfl, ht⟩) (fun q h => nomatch h) d_L_lastReadingUpTo_51
    | succ i ih =>
      intro x3 ls hi e3 hst hl
      rw [nI_pred] at e3
      have hv := hok i (by omega)
      refine lv_iload_n hx hb d_L_lastReadingUpTo_7 rfl (lv_at hl 3 rfl) ?_
      refine lv_if_lt (tgt := 50) hx hb d_L_lastReadingUpTo_8 (by decide) (fun c_2 => absurd c_2 (by rw [e3]; exact nI_pos (by omega))) (fun c_2 => ?_)
      refine lv_aload_n hx hb d_L_lastReadingUpTo_11 rfl (lv_at hl 0 rfl) ?_
      refine m_get (D := G) (ci := 1) (v := .ref io) (C := nR_L) (T := nT_L) (N := 3) hx hb hta in_L hown hK hM hL rfl 1 (by decide) (hta _ aw_34) (fun _ h9 => h9) rfl d_L_lastReadingUpTo_12 ?_
      refine lv_iload_n hx hb d_L_lastReadingUpTo_15 rfl (lv_at hl 3 rfl) ?_
      refine m_aald hx hb hK hM 0 hio rfl (by rw [e3]; exact vp_in_nI (by omega) (by omega)) (v := .ref (nA (v i))) (by rw [e3, nI_clamp (by omega), hfi i (by omega)]; rfl) d_L_lastReadingUpTo_16 ?_
      refine m_get (D := G) (ci := 4) (v := .int (nT (v i))) (C := nR_N) (T := nT_N) (N := 10) hx hb hta in_N hown hK hM hv.2.1 rfl 4 (by decide) (hta _ aw_289) (fun _ h9 => h9) rfl d_L_lastReadingUpTo_17 ?_
      refine lv_iload_n hx hb d_L_lastReadingUpTo_20 rfl (lv_at hl 2 rfl) ?_
      refine lv_icmp_gt (tgt := 44) hx hb d_L_lastReadingUpTo_21 (by decide) (fun c_3 => ?_) (fun c_3 => ?_)
      · obtain ⟨x_4, ex_4⟩ : ∃ y : Int32, y = x3 + (-1) := ⟨_, rfl⟩
        refine lv_iinc (v := x_4) (lv' := [(3, .int x_4), (0, .ref ln), (1, .int k), (2, .int t)]) hx hb d_L_lastReadingUpTo_44 hl (k := 3) rfl (by rw [ex_4]; rfl) (by decide) rfl (fun ls hl => ?_)
        refine lv_goto (tgt := 7) hx hb d_L_lastReadingUpTo_47 (by decide) ?_
        exact ih x_4 ls (by omega) (by rw [ex_4, e3, i_m1]) (by rw [← hst, lastP, if_neg (lp_f1 c_3)]) (lv_sub hl [1, 2, 3, 0] rfl)
      · refine lv_aload_n hx hb d_L_lastReadingUpTo_24 rfl (lv_at hl 0 rfl) ?_
        refine m_get (D := G) (ci := 1) (v := .ref io) (C := nR_L) (T := nT_L) (N := 3) hx hb hta in_L hown hK hM hL rfl 1 (by decide) (hta _ aw_34) (fun _ h9 => h9) rfl d_L_lastReadingUpTo_25 ?_
        refine lv_iload_n hx hb d_L_lastReadingUpTo_28 rfl (lv_at hl 3 rfl) ?_
        refine m_aald hx hb hK hM 0 hio rfl (by rw [e3]; exact vp_in_nI (by omega) (by omega)) (v := .ref (nA (v i))) (by rw [e3, nI_clamp (by omega), hfi i (by omega)]; rfl) d_L_lastReadingUpTo_29 ?_
        refine lv_iload_n hx hb d_L_lastReadingUpTo_30 rfl (lv_at hl 1 rfl) ?_
        refine vp_callSi (W.runV (As := [.int k]) (rest := []) ⟨hx, hb, hml, hown, hta⟩ (k_N_isReadingOf l G ((cN, .object nR_N) :: ty2) w hv.2.1 (okN_s hv) k) (cV 1 hta aw_440 aw_12 aw_437 aw_438 aw_439 rfl rfl (by decide +kernel) ⟨Nat.le_of_ble_eq_true rfl, Nat.le_of_ble_eq_true rfl⟩) (pW_V hK hM rfl hv.2.1) rfl rfl hl.1 rfl (lv_room (Nat.le_of_ble_eq_true rfl)) d_L_lastReadingUpTo_31 ⟨Nat.le_of_ble_eq_true rfl, Nat.le_of_ble_eq_true rfl⟩) (fun r_5 hr_5 => ?_)
        refine lv_if_eq (tgt := 44) hx hb d_L_lastReadingUpTo_34 (by decide) (fun c_6 => ?_) (fun c_6 => ?_)
        · obtain ⟨x_7, ex_7⟩ : ∃ y : Int32, y = x3 + (-1) := ⟨_, rfl⟩
          refine lv_iinc (v := x_7) (lv' := [(3, .int x_7), (0, .ref ln), (1, .int k), (2, .int t)]) hx hb d_L_lastReadingUpTo_44 hl (k := 3) rfl (by rw [ex_7]; rfl) (by decide) rfl (fun ls hl => ?_)
          refine lv_goto (tgt := 7) hx hb d_L_lastReadingUpTo_47 (by decide) ?_
          exact ih x_7 ls (by omega) (by rw [ex_7, e3, i_m1]) (by rw [← hst, lastP, if_neg (lp_f2 hr_5 c_6)]) (lv_sub hl [1, 2, 3, 0] rfl)
        · refine lv_aload_n hx hb d_L_lastReadingUpTo_37 rfl (lv_at hl 0 rfl) ?_
          refine m_get (D := G) (ci := 1) (v := .ref io) (C := nR_L) (T := nT_L) (N := 3) hx hb hta in_L hown hK hM hL rfl 1 (by decide) (hta _ aw_34) (fun _ h9 => h9) rfl d_L_lastReadingUpTo_38 ?_
          refine lv_iload_n hx hb d_L_lastReadingUpTo_41 rfl (lv_at hl 3 rfl) ?_
          refine m_aald hx hb hK hM 0 hio rfl (by rw [e3]; exact vp_in_nI (by omega) (by omega)) (v := .ref (nA (v i))) (by rw [e3, nI_clamp (by omega), hfi i (by omega)]; rfl) d_L_lastReadingUpTo_42 ?_
          exact W.aret (v := .ref (nA (v i))) (rt := .object "SceneTimes$Note") hx hb hr (Or.inl ⟨_, rfl⟩) (Or.inr ⟨_, rfl⟩) (fun t ht hW => ⟨some (nA (v i)), rfl, by rw [← hst, lastP, if_pos (lp_t c_3 hr_5 c_6)]; rfl, ht⟩) (fun q h => nomatch h) d_L_lastReadingUpTo_43
  refine lv_aload_n hx hb d_L_lastReadingUpTo_0 rfl (lv_at hl 0 rfl) ?_
  refine m_get (D := G) (ci := 1) (v := .int (nI n)) (C := nR_L) (T := nT_L) (N := 3) hx hb hta in_L hown hK hM hL rfl 2 (by decide) (hta _ aw_36) (fun _ h9 => h9) rfl d_L_lastReadingUpTo_1 ?_
  refine lv_iconst (v := 1) hx hb d_L_lastReadingUpTo_4 (by decide) ?_
  refine lv_isub hx hb d_L_lastReadingUpTo_5 ?_
  refine lv_istore_n (lv' := [(3, .int ((nI n) - 1)), (0, .ref ln), (1, .int k), (2, .int t)]) hx hb d_L_lastReadingUpTo_6 rfl hl (by decide) rfl (fun ls hl => ?_)
  exact loop n _ ls (Nat.le_refl n) rfl rfl (lv_sub hl [1, 2, 3, 0] rfl)
set_option maxHeartbeats 4000000 in
set_option maxRecDepth 100000 in
theorem k_L_firstReadingFrom (l : Launch) (G : va_G) (cN : ClassId) (ty2 : List (ClassId × FieldType)) (w : Nat → Option va_E) {ln bn io n : Nat} (hn : n ≤ 100) (hL : w ln = some (eL bn io (nI n))) {fi : Nat → Option Nat} (hio : w io = some (aQ cN 100 fi)) {v : Nat → nV} (hfi : ∀ i, i < n → fi i = some (nA (v i))) (hok : ∀ i, i < n → okN w (v i)) (k t : Int32) : Met l y_L_firstReadingFrom (wm y_L_firstReadingFrom c_L_firstReadingFrom 4 (some (.object "SceneTimes$Note"))) ({ frames := 1, cells := 0, slots := 0, locals := 21 }) (pW G ((cN, .object nR_N) :: ty2) w [.ref ln, .int k, .int t]) (va_Sq (fun r => r = (firstP (fun i => decide (¬ nT (v i) < t) && isRd k (v i)) n 0).map (fun i => nA (v i)))) 0 0 (fun _ => False) := by
  refine Met.ofW (cc := c_L_firstReadingFrom) (maxL := 4) (ret := (some (.object "SceneTimes$Note"))) (by decide) rfl ?_
  intro p e s m args below meth c s₁ B hml hv
  obtain ⟨rfl, hM, hK⟩ := hv
  have hx := B.exec
  have hb := B.bytes
  have hr := B.returns
  have hts := atoms_spec (ws := (wm y_L_firstReadingFrom c_L_firstReadingFrom 4 (some (.object "SceneTimes$Note")))) B.pre
  have hta : ∀ w ∈ AL, w.before _ s = true := fun w h => hts w (List.mem_cons_of_mem _ h)
  have hown : s.vm.findClass nR_L = some m.cls := findClass_of_methodNamed B.named
  have hlocks := B.notSynchronized
  have hl := lv_entry ([.ref ln, .int k, .int t]) (n := 4) (Nat.le_of_ble_eq_true rfl)
  rw [lg_entry_eq]
  generalize (lg_sl ([.ref ln, .int k, .int t]) ++ List.replicate (4 - (lg_sl ([.ref ln, .int k, .int t])).length) Slot.unset).toArray = ls at hl ⊢
  have hl : lv_has ls 4 [(0, .ref ln), (1, .int k), (2, .int t)] := hl
  have loop : ∀ (m9 i : Nat) (x3 : Int32) (ls : Array Slot), i + m9 = n → x3 = nI i → firstP (fun i => decide (¬ nT (v i) < t) && isRd k (v i)) m9 i = firstP (fun i => decide (¬ nT (v i) < t) && isRd k (v i)) n 0 → lv_has ls 4 [(0, .ref ln), (1, .int k), (2, .int t), (3, .int x3)] → W p l e (headSpec (wm y_L_firstReadingFrom c_L_firstReadingFrom 4 (some (.object "SceneTimes$Note"))) ({ frames := 1, cells := 0, slots := 0, locals := 21 })).room s m ([.ref ln, .int k, .int t] : List Value).toArray below meth c s.heap [] 0 0 (MQ below (va_Sq (fun r => r = (firstP (fun i => decide (¬ nT (v i) < t) && isRd k (v i)) n 0).map (fun i => nA (v i)))) ([.ref ln, .int k, .int t] : List Value).toArray s 0 0 (fun _ => False)) (F0 m 2 ls []) := by
    intro m9
    induction m9 with
    | zero =>
      intro i x3 ls hi e3 hst hl
      refine lv_iload_n hx hb d_L_firstReadingFrom_2 rfl (lv_at hl 3 rfl) ?_
      refine lv_aload_n hx hb d_L_firstReadingFrom_3 rfl (lv_at hl 0 rfl) ?_
      refine m_get (D := G) (ci := 1) (v := .int (nI n)) (C := nR_L) (T := nT_L) (N := 3) hx hb hta in_L hown hK hM hL rfl 2 (by decide) (hta _ aw_36) (fun _ h9 => h9) rfl d_L_firstReadingFrom_4 ?_
      refine lv_icmp_ge (tgt := 49) hx hb d_L_firstReadingFrom_7 (by decide) (fun c_1 => ?_) (fun c_1 => absurd (by rw [e3]; exact nI_le (by omega) (by omega)) c_1)
      refine lv_null hx hb d_L_firstReadingFrom_49 ?_
      exact W.aret (v := .null) (rt := .object "SceneTimes$Note") hx hb hr (Or.inl ⟨_, rfl⟩) (Or.inl rfl) (fun t ht hW => ⟨none, rfl, by rw [← hst]; rfl, ht⟩) (fun q h => nomatch h) d_L_firstReadingFrom_50
    | succ m9 ih =>
      intro i x3 ls hi e3 hst hl
      have hv := hok i (by omega)
      refine lv_iload_n hx hb d_L_firstReadingFrom_2 rfl (lv_at hl 3 rfl) ?_
      refine lv_aload_n hx hb d_L_firstReadingFrom_3 rfl (lv_at hl 0 rfl) ?_
      refine m_get (D := G) (ci := 1) (v := .int (nI n)) (C := nR_L) (T := nT_L) (N := 3) hx hb hta in_L hown hK hM hL rfl 2 (by decide) (hta _ aw_36) (fun _ h9 => h9) rfl d_L_firstReadingFrom_4 ?_
      refine lv_icmp_ge (tgt := 49) hx hb d_L_firstReadingFrom_7 (by decide) (fun c_2 => absurd c_2 (by rw [e3]; exact nI_ge (by omega) (by omega))) (fun c_2 => ?_)
      refine lv_aload_n hx hb d_L_firstReadingFrom_10 rfl (lv_at hl 0 rfl) ?_
      refine m_get (D := G) (ci := 1) (v := .ref io) (C := nR_L) (T := nT_L) (N := 3) hx hb hta in_L hown hK hM hL rfl 1 (by decide) (hta _ aw_34) (fun _ h9 => h9) rfl d_L_firstReadingFrom_11 ?_
      refine lv_iload_n hx hb d_L_firstReadingFrom_14 rfl (lv_at hl 3 rfl) ?_
      refine m_aald hx hb hK hM 0 hio rfl (by rw [e3]; exact vp_in_nI (by omega) (by omega)) (v := .ref (nA (v i))) (by rw [e3, nI_clamp (by omega), hfi i (by omega)]; rfl) d_L_firstReadingFrom_15 ?_
      refine m_get (D := G) (ci := 4) (v := .int (nT (v i))) (C := nR_N) (T := nT_N) (N := 10) hx hb hta in_N hown hK hM hv.2.1 rfl 4 (by decide) (hta _ aw_289) (fun _ h9 => h9) rfl d_L_firstReadingFrom_16 ?_
      refine lv_iload_n hx hb d_L_firstReadingFrom_19 rfl (lv_at hl 2 rfl) ?_
      refine lv_icmp_lt (tgt := 43) hx hb d_L_firstReadingFrom_20 (by decide) (fun c_3 => ?_) (fun c_3 => ?_)
      · obtain ⟨x_4, ex_4⟩ : ∃ y : Int32, y = x3 + 1 := ⟨_, rfl⟩
        refine lv_iinc (v := x_4) (lv' := [(3, .int x_4), (0, .ref ln), (1, .int k), (2, .int t)]) hx hb d_L_firstReadingFrom_43 hl (k := 3) rfl (by rw [ex_4]; rfl) (by decide) rfl (fun ls hl => ?_)
        refine lv_goto (tgt := 2) hx hb d_L_firstReadingFrom_46 (by decide) ?_
        exact ih (i + 1) x_4 ls (by omega) (by rw [ex_4, e3, nI_1]) (by rw [← hst, firstP, if_neg (lp_f1' c_3)]) (lv_sub hl [1, 2, 3, 0] rfl)
      · refine lv_aload_n hx hb d_L_firstReadingFrom_23 rfl (lv_at hl 0 rfl) ?_
        refine m_get (D := G) (ci := 1) (v := .ref io) (C := nR_L) (T := nT_L) (N := 3) hx hb hta in_L hown hK hM hL rfl 1 (by decide) (hta _ aw_34) (fun _ h9 => h9) rfl d_L_firstReadingFrom_24 ?_
        refine lv_iload_n hx hb d_L_firstReadingFrom_27 rfl (lv_at hl 3 rfl) ?_
        refine m_aald hx hb hK hM 0 hio rfl (by rw [e3]; exact vp_in_nI (by omega) (by omega)) (v := .ref (nA (v i))) (by rw [e3, nI_clamp (by omega), hfi i (by omega)]; rfl) d_L_firstReadingFrom_28 ?_
        refine lv_iload_n hx hb d_L_firstReadingFrom_29 rfl (lv_at hl 1 rfl) ?_
        refine vp_callSi (W.runV (As := [.int k]) (rest := []) ⟨hx, hb, hml, hown, hta⟩ (k_N_isReadingOf l G ((cN, .object nR_N) :: ty2) w hv.2.1 (okN_s hv) k) (cV 1 hta aw_440 aw_12 aw_437 aw_438 aw_439 rfl rfl (by decide +kernel) ⟨Nat.le_of_ble_eq_true rfl, Nat.le_of_ble_eq_true rfl⟩) (pW_V hK hM rfl hv.2.1) rfl rfl hl.1 rfl (lv_room (Nat.le_of_ble_eq_true rfl)) d_L_firstReadingFrom_30 ⟨Nat.le_of_ble_eq_true rfl, Nat.le_of_ble_eq_true rfl⟩) (fun r_5 hr_5 => ?_)
        refine lv_if_eq (tgt := 43) hx hb d_L_firstReadingFrom_33 (by decide) (fun c_6 => ?_) (fun c_6 => ?_)
        · obtain ⟨x_7, ex_7⟩ : ∃ y : Int32, y = x3 + 1 := ⟨_, rfl⟩
          refine lv_iinc (v := x_7) (lv' := [(3, .int x_7), (0, .ref ln), (1, .int k), (2, .int t)]) hx hb d_L_firstReadingFrom_43 hl (k := 3) rfl (by rw [ex_7]; rfl) (by decide) rfl (fun ls hl => ?_)
          refine lv_goto (tgt := 2) hx hb d_L_firstReadingFrom_46 (by decide) ?_
          exact ih (i + 1) x_7 ls (by omega) (by rw [ex_7, e3, nI_1]) (by rw [← hst, firstP, if_neg (lp_f2 hr_5 c_6)]) (lv_sub hl [1, 2, 3, 0] rfl)
        · refine lv_aload_n hx hb d_L_firstReadingFrom_36 rfl (lv_at hl 0 rfl) ?_
          refine m_get (D := G) (ci := 1) (v := .ref io) (C := nR_L) (T := nT_L) (N := 3) hx hb hta in_L hown hK hM hL rfl 1 (by decide) (hta _ aw_34) (fun _ h9 => h9) rfl d_L_firstReadingFrom_37 ?_
          refine lv_iload_n hx hb d_L_firstReadingFrom_40 rfl (lv_at hl 3 rfl) ?_
          refine m_aald hx hb hK hM 0 hio rfl (by rw [e3]; exact vp_in_nI (by omega) (by omega)) (v := .ref (nA (v i))) (by rw [e3, nI_clamp (by omega), hfi i (by omega)]; rfl) d_L_firstReadingFrom_41 ?_
          exact W.aret (v := .ref (nA (v i))) (rt := .object "SceneTimes$Note") hx hb hr (Or.inl ⟨_, rfl⟩) (Or.inr ⟨_, rfl⟩) (fun t ht hW => ⟨some (nA (v i)), rfl, by rw [← hst, firstP, if_pos (lp_t' c_3 hr_5 c_6)]; rfl, ht⟩) (fun q h => nomatch h) d_L_firstReadingFrom_42
  refine lv_iconst (v := 0) hx hb d_L_firstReadingFrom_0 (by decide) ?_
  refine lv_istore_n (lv' := [(3, .int 0), (0, .ref ln), (1, .int k), (2, .int t)]) hx hb d_L_firstReadingFrom_1 rfl hl (by decide) rfl (fun ls hl => ?_)
  exact loop n 0 0 ls (by omega) rfl rfl (lv_sub hl [1, 2, 3, 0] rfl)
set_option maxHeartbeats 4000000 in
set_option maxRecDepth 100000 in
theorem k_L_howManyStruck (l : Launch) (G : va_G) (cN : ClassId) (ty2 : List (ClassId × FieldType)) (w : Nat → Option va_E) {ln bn io n : Nat} (hn : n ≤ 100) (hL : w ln = some (eL bn io (nI n))) {fb : Nat → Option Nat} (hbn : w bn = some (aQ cN 100 fb)) {v : Nat → nV} (hfb : ∀ i, i < n → fb i = some (nA (v i))) (hok : ∀ i, i < n → okN w (v i)) : Met l y_L_howManyStruck (wm y_L_howManyStruck c_L_howManyStruck 3 (some .int)) ({ frames := 0, cells := 0, slots := 0, locals := 0 }) (pW G ((cN, .object nR_N) :: ty2) w [.ref ln]) (vp_Si (fun r => r = nI (cntP (fun i => decide (¬ (hd (nC (v i))).2.2.2 = 0)) n))) 0 0 (fun _ => False) := by
  refine Met.ofW (cc := c_L_howManyStruck) (maxL := 3) (ret := (some .int)) (by decide) rfl ?_
  intro p e s m args below meth c s₁ B hml hv
  obtain ⟨rfl, hM, hK⟩ := hv
  have hx := B.exec
  have hb := B.bytes
  have hr := B.returns
  have hts := atoms_spec (ws := (wm y_L_howManyStruck c_L_howManyStruck 3 (some .int))) B.pre
  have hta : ∀ w ∈ AL, w.before _ s = true := fun w h => hts w (List.mem_cons_of_mem _ h)
  have hown : s.vm.findClass nR_L = some m.cls := findClass_of_methodNamed B.named
  have hlocks := B.notSynchronized
  have hl := lv_entry ([.ref ln]) (n := 3) (Nat.le_of_ble_eq_true rfl)
  rw [lg_entry_eq]
  generalize (lg_sl ([.ref ln]) ++ List.replicate (3 - (lg_sl ([.ref ln])).length) Slot.unset).toArray = ls at hl ⊢
  have hl : lv_has ls 3 [(0, .ref ln)] := hl
  have loop : ∀ (m9 i : Nat) (x1 x2 : Int32) (ls : Array Slot), i + m9 = n → x1 = nI (cntP (fun i => decide (¬ (hd (nC (v i))).2.2.2 = 0)) i) → x2 = nI i → lv_has ls 3 [(0, .ref ln), (1, .int x1), (2, .int x2)] → W p l e (headSpec (wm y_L_howManyStruck c_L_howManyStruck 3 (some .int)) ({ frames := 0, cells := 0, slots := 0, locals := 0 })).room s m ([.ref ln] : List Value).toArray below meth c s.heap [] 0 0 (MQ below (vp_Si (fun r => r = nI (cntP (fun i => decide (¬ (hd (nC (v i))).2.2.2 = 0)) n))) ([.ref ln] : List Value).toArray s 0 0 (fun _ => False)) (F0 m 4 ls []) := by
    intro m9
    induction m9 with
    | zero =>
      intro i x1 x2 ls hi e1 e3 hl
      refine lv_iload_n hx hb d_L_howManyStruck_4 rfl (lv_at hl 2 rfl) ?_
      refine lv_aload_n hx hb d_L_howManyStruck_5 rfl (lv_at hl 0 rfl) ?_
      refine m_get (D := G) (ci := 1) (v := .int (nI n)) (C := nR_L) (T := nT_L) (N := 3) hx hb hta in_L hown hK hM hL rfl 2 (by decide) (hta _ aw_36) (fun _ h9 => h9) rfl d_L_howManyStruck_6 ?_
      refine lv_icmp_ge (tgt := 36) hx hb d_L_howManyStruck_9 (by decide) (fun c_1 => ?_) (fun c_1 => absurd (by rw [e3]; exact nI_le (by omega) (by omega)) c_1)
      refine lv_iload_n hx hb d_L_howManyStruck_36 rfl (lv_at hl 1 rfl) ?_
      exact W.iret (v := x1) hx hb hr (fun t ht hW => ⟨x1, rfl, by rw [e1, show i = n by omega], ht⟩) (fun q h => nomatch h) d_L_howManyStruck_37
    | succ m9 ih =>
      intro i x1 x2 ls hi e1 e3 hl
      have hv := hok i (by omega)
      refine lv_iload_n hx hb d_L_howManyStruck_4 rfl (lv_at hl 2 rfl) ?_
      refine lv_aload_n hx hb d_L_howManyStruck_5 rfl (lv_at hl 0 rfl) ?_
      refine m_get (D := G) (ci := 1) (v := .int (nI n)) (C := nR_L) (T := nT_L) (N := 3) hx hb hta in_L hown hK hM hL rfl 2 (by decide) (hta _ aw_36) (fun _ h9 => h9) rfl d_L_howManyStruck_6 ?_
      refine lv_icmp_ge (tgt := 36) hx hb d_L_howManyStruck_9 (by decide) (fun c_2 => absurd c_2 (by rw [e3]; exact nI_ge (by omega) (by omega))) (fun c_2 => ?_)
      refine lv_aload_n hx hb d_L_howManyStruck_12 rfl (lv_at hl 0 rfl) ?_
      refine m_get (D := G) (ci := 1) (v := .ref bn) (C := nR_L) (T := nT_L) (N := 3) hx hb hta in_L hown hK hM hL rfl 0 (by decide) (hta _ aw_32) (fun _ h9 => h9) rfl d_L_howManyStruck_13 ?_
      refine lv_iload_n hx hb d_L_howManyStruck_16 rfl (lv_at hl 2 rfl) ?_
      refine m_aald hx hb hK hM 0 hbn rfl (by rw [e3]; exact vp_in_nI (by omega) (by omega)) (v := .ref (nA (v i))) (by rw [e3, nI_clamp (by omega), hfb i (by omega)]; rfl) d_L_howManyStruck_17 ?_
      refine m_get (D := G) (ci := 4) (v := .ref ((hd (nC (v i))).1)) (C := nR_N) (T := nT_N) (N := 10) hx hb hta in_N hown hK hM hv.2.1 rfl 6 (by decide) (hta _ aw_296) (fun _ h9 => h9) rfl d_L_howManyStruck_18 ?_
      refine m_get (D := G) (ci := 5) (v := .int ((hd (nC (v i))).2.2.2)) (C := nR_T) (T := nT_T) (N := 4) hx hb hta in_T hown hK hM (okN_s hv) rfl 2 (by decide) (hta _ aw_263) (fun _ h9 => h9) rfl d_L_howManyStruck_21 ?_
      refine lv_if_eq (tgt := 30) hx hb d_L_howManyStruck_24 (by decide) (fun c_3 => ?_) (fun c_3 => ?_)
      · obtain ⟨x_4, ex_4⟩ : ∃ y : Int32, y = x2 + 1 := ⟨_, rfl⟩
        refine lv_iinc (v := x_4) (lv' := [(2, .int x_4), (0, .ref ln), (1, .int x1)]) hx hb d_L_howManyStruck_30 hl (k := 2) rfl (by rw [ex_4]; rfl) (by decide) rfl (fun ls hl => ?_)
        refine lv_goto (tgt := 4) hx hb d_L_howManyStruck_33 (by decide) ?_
        exact ih (i + 1) x1 x_4 ls (by omega) (by rw [e1, cntP, if_neg (by simp [c_3])]; rfl) (by rw [ex_4, e3, nI_1]) (lv_sub hl [1, 2, 0] rfl)
      · obtain ⟨x_5, ex_5⟩ : ∃ y : Int32, y = x1 + 1 := ⟨_, rfl⟩
        refine lv_iinc (v := x_5) (lv' := [(1, .int x_5), (0, .ref ln), (2, .int x2)]) hx hb d_L_howManyStruck_27 hl (k := 1) rfl (by rw [ex_5]; rfl) (by decide) rfl (fun ls hl => ?_)
        obtain ⟨x_6, ex_6⟩ : ∃ y : Int32, y = x2 + 1 := ⟨_, rfl⟩
        refine lv_iinc (v := x_6) (lv' := [(2, .int x_6), (1, .int x_5), (0, .ref ln)]) hx hb d_L_howManyStruck_30 hl (k := 2) rfl (by rw [ex_6]; rfl) (by decide) rfl (fun ls hl => ?_)
        refine lv_goto (tgt := 4) hx hb d_L_howManyStruck_33 (by decide) ?_
        exact ih (i + 1) x_5 x_6 ls (by omega) (by rw [ex_5, e1, cntP, if_pos (by simp [c_3]), nI_1]) (by rw [ex_6, e3, nI_1]) (lv_sub hl [2, 1, 0] rfl)
  refine lv_iconst (v := 0) hx hb d_L_howManyStruck_0 (by decide) ?_
  refine lv_istore_n (lv' := [(1, .int 0), (0, .ref ln)]) hx hb d_L_howManyStruck_1 rfl hl (by decide) rfl (fun ls hl => ?_)
  refine lv_iconst (v := 0) hx hb d_L_howManyStruck_2 (by decide) ?_
  refine lv_istore_n (lv' := [(2, .int 0), (1, .int 0), (0, .ref ln)]) hx hb d_L_howManyStruck_3 rfl hl (by decide) rfl (fun ls hl => ?_)
  exact loop n 0 0 0 ls (by omega) rfl rfl (lv_sub hl [2, 1, 0] rfl)
/-- a note's first state, as it was written -/
def la (v : nV) : cS4 := (nC v).getLastD (0, 0, 0, 0)
set_option maxHeartbeats 4000000 in
set_option maxRecDepth 100000 in
theorem k_L_howManyWrittenLater (l : Launch) (G : va_G) (cN : ClassId) (ty2 : List (ClassId × FieldType)) (w : Nat → Option va_E) {ln bn io n : Nat} (hn : n ≤ 100) (hL : w ln = some (eL bn io (nI n))) {fb : Nat → Option Nat} (hbn : w bn = some (aQ cN 100 fb)) {v : Nat → nV} (hfb : ∀ i, i < n → fb i = some (nA (v i))) (hok : ∀ i, i < n → okN w (v i)) (hfa : ∀ i, i < n → w (nF (v i)) = some (eT (la (v i)).2.1 (la (v i)).2.2.1 (la (v i)).2.2.2 none)) : Met l y_L_howManyWrittenLater (wm y_L_howManyWrittenLater c_L_howManyWrittenLater 3 (some .int)) ({ frames := 0, cells := 0, slots := 0, locals := 0 }) (pW G ((cN, .object nR_N) :: ty2) w [.ref ln]) (vp_Si (fun r => r = nI (cntP (fun i => decide (¬ (la (v i)).2.1 ≤ nT (v i))) n))) 0 0 (fun _ => False) := by
  refine Met.ofW (cc := c_L_howManyWrittenLater) (maxL := 3) (ret := (some .int)) (by decide) rfl ?_
  intro p e s m args below meth c s₁ B hml hv
  obtain ⟨rfl, hM, hK⟩ := hv
  have hx := B.exec
  have hb := B.bytes
  have hr := B.returns
  have hts := atoms_spec (ws := (wm y_L_howManyWrittenLater c_L_howManyWrittenLater 3 (some .int))) B.pre
  have hta : ∀ w ∈ AL, w.before _ s = true := fun w h => hts w (List.mem_cons_of_mem _ h)
  have hown : s.vm.findClass nR_L = some m.cls := findClass_of_methodNamed B.named
  have hlocks := B.notSynchronized
  have hl := lv_entry ([.ref ln]) (n := 3) (Nat.le_of_ble_eq_true rfl)
  rw [lg_entry_eq]
  generalize (lg_sl ([.ref ln]) ++ List.replicate (3 - (lg_sl ([.ref ln])).length) Slot.unset).toArray = ls at hl ⊢
  have hl : lv_has ls 3 [(0, .ref ln)] := hl
  have loop : ∀ (m9 i : Nat) (x1 x2 : Int32) (ls : Array Slot), i + m9 = n → x1 = nI (cntP (fun i => decide (¬ (la (v i)).2.1 ≤ nT (v i))) i) → x2 = nI i → lv_has ls 3 [(0, .ref ln), (1, .int x1), (2, .int x2)] → W p l e (headSpec (wm y_L_howManyWrittenLater c_L_howManyWrittenLater 3 (some .int)) ({ frames := 0, cells := 0, slots := 0, locals := 0 })).room s m ([.ref ln] : List Value).toArray below meth c s.heap [] 0 0 (MQ below (vp_Si (fun r => r = nI (cntP (fun i => decide (¬ (la (v i)).2.1 ≤ nT (v i))) n))) ([.ref ln] : List Value).toArray s 0 0 (fun _ => False)) (F0 m 4 ls []) := by
    intro m9
    induction m9 with
    | zero =>
      intro i x1 x2 ls hi e1 e3 hl
      refine lv_iload_n hx hb d_L_howManyWrittenLater_4 rfl (lv_at hl 2 rfl) ?_
      refine lv_aload_n hx hb d_L_howManyWrittenLater_5 rfl (lv_at hl 0 rfl) ?_
      refine m_get (D := G) (ci := 1) (v := .int (nI n)) (C := nR_L) (T := nT_L) (N := 3) hx hb hta in_L hown hK hM hL rfl 2 (by decide) (hta _ aw_36) (fun _ h9 => h9) rfl d_L_howManyWrittenLater_6 ?_
      refine lv_icmp_ge (tgt := 45) hx hb d_L_howManyWrittenLater_9 (by decide) (fun c_1 => ?_) (fun c_1 => absurd (by rw [e3]; exact nI_le (by omega) (by omega)) c_1)
      refine lv_iload_n hx hb d_L_howManyWrittenLater_45 rfl (lv_at hl 1 rfl) ?_
      exact W.iret (v := x1) hx hb hr (fun t ht hW => ⟨x1, rfl, by rw [e1, show i = n by omega], ht⟩) (fun q h => nomatch h) d_L_howManyWrittenLater_46
    | succ m9 ih =>
      intro i x1 x2 ls hi e1 e3 hl
      have hv := hok i (by omega)
      refine lv_iload_n hx hb d_L_howManyWrittenLater_4 rfl (lv_at hl 2 rfl) ?_
      refine lv_aload_n hx hb d_L_howManyWrittenLater_5 rfl (lv_at hl 0 rfl) ?_
      refine m_get (D := G) (ci := 1) (v := .int (nI n)) (C := nR_L) (T := nT_L) (N := 3) hx hb hta in_L hown hK hM hL rfl 2 (by decide) (hta _ aw_36) (fun _ h9 => h9) rfl d_L_howManyWrittenLater_6 ?_
      refine lv_icmp_ge (tgt := 45) hx hb d_L_howManyWrittenLater_9 (by decide) (fun c_2 => absurd c_2 (by rw [e3]; exact nI_ge (by omega) (by omega))) (fun c_2 => ?_)
      refine lv_aload_n hx hb d_L_howManyWrittenLater_12 rfl (lv_at hl 0 rfl) ?_
      refine m_get (D := G) (ci := 1) (v := .ref bn) (C := nR_L) (T := nT_L) (N := 3) hx hb hta in_L hown hK hM hL rfl 0 (by decide) (hta _ aw_32) (fun _ h9 => h9) rfl d_L_howManyWrittenLater_13 ?_
      refine lv_iload_n hx hb d_L_howManyWrittenLater_16 rfl (lv_at hl 2 rfl) ?_
      refine m_aald hx hb hK hM 0 hbn rfl (by rw [e3]; exact vp_in_nI (by omega) (by omega)) (v := .ref (nA (v i))) (by rw [e3, nI_clamp (by omega), hfb i (by omega)]; rfl) d_L_howManyWrittenLater_17 ?_
      refine m_get (D := G) (ci := 4) (v := .ref (nF (v i))) (C := nR_N) (T := nT_N) (N := 10) hx hb hta in_N hown hK hM hv.2.1 rfl 5 (by decide) (hta _ aw_292) (fun _ h9 => h9) rfl d_L_howManyWrittenLater_18 ?_
      refine m_get (D := G) (ci := 5) (v := .int ((la (v i)).2.1)) (C := nR_T) (T := nT_T) (N := 4) hx hb hta in_T hown hK hM (hfa i (by omega)) rfl 0 (by decide) (hta _ aw_253) (fun _ h9 => h9) rfl d_L_howManyWrittenLater_21 ?_
      refine lv_aload_n hx hb d_L_howManyWrittenLater_24 rfl (lv_at hl 0 rfl) ?_
      refine m_get (D := G) (ci := 1) (v := .ref bn) (C := nR_L) (T := nT_L) (N := 3) hx hb hta in_L hown hK hM hL rfl 0 (by decide) (hta _ aw_32) (fun _ h9 => h9) rfl d_L_howManyWrittenLater_25 ?_
      refine lv_iload_n hx hb d_L_howManyWrittenLater_28 rfl (lv_at hl 2 rfl) ?_
      refine m_aald hx hb hK hM 0 hbn rfl (by rw [e3]; exact vp_in_nI (by omega) (by omega)) (v := .ref (nA (v i))) (by rw [e3, nI_clamp (by omega), hfb i (by omega)]; rfl) d_L_howManyWrittenLater_29 ?_
      refine m_get (D := G) (ci := 4) (v := .int (nT (v i))) (C := nR_N) (T := nT_N) (N := 10) hx hb hta in_N hown hK hM hv.2.1 rfl 4 (by decide) (hta _ aw_289) (fun _ h9 => h9) rfl d_L_howManyWrittenLater_30 ?_
      refine lv_icmp_le (tgt := 39) hx hb d_L_howManyWrittenLater_33 (by decide) (fun c_3 => ?_) (fun c_3 => ?_)
      · obtain ⟨x_4, ex_4⟩ : ∃ y : Int32, y = x2 + 1 := ⟨_, rfl⟩
        refine lv_iinc (v := x_4) (lv' := [(2, .int x_4), (0, .ref ln), (1, .int x1)]) hx hb d_L_howManyWrittenLater_39 hl (k := 2) rfl (by rw [ex_4]; rfl) (by decide) rfl (fun ls hl => ?_)
        refine lv_goto (tgt := 4) hx hb d_L_howManyWrittenLater_42 (by decide) ?_
        exact ih (i + 1) x1 x_4 ls (by omega) (by rw [e1, cntP, if_neg (by simp [c_3])]; rfl) (by rw [ex_4, e3, nI_1]) (lv_sub hl [1, 2, 0] rfl)
      · obtain ⟨x_5, ex_5⟩ : ∃ y : Int32, y = x1 + 1 := ⟨_, rfl⟩
        refine lv_iinc (v := x_5) (lv' := [(1, .int x_5), (0, .ref ln), (2, .int x2)]) hx hb d_L_howManyWrittenLater_36 hl (k := 1) rfl (by rw [ex_5]; rfl) (by decide) rfl (fun ls hl => ?_)
        obtain ⟨x_6, ex_6⟩ : ∃ y : Int32, y = x2 + 1 := ⟨_, rfl⟩
        refine lv_iinc (v := x_6) (lv' := [(2, .int x_6), (1, .int x_5), (0, .ref ln)]) hx hb d_L_howManyWrittenLater_39 hl (k := 2) rfl (by rw [ex_6]; rfl) (by decide) rfl (fun ls hl => ?_)
        refine lv_goto (tgt := 4) hx hb d_L_howManyWrittenLater_42 (by decide) ?_
        exact ih (i + 1) x_5 x_6 ls (by omega) (by rw [ex_5, e1, cntP, if_pos (by simp [c_3]), nI_1]) (by rw [ex_6, e3, nI_1]) (lv_sub hl [2, 1, 0] rfl)
  refine lv_iconst (v := 0) hx hb d_L_howManyWrittenLater_0 (by decide) ?_
  refine lv_istore_n (lv' := [(1, .int 0), (0, .ref ln)]) hx hb d_L_howManyWrittenLater_1 rfl hl (by decide) rfl (fun ls hl => ?_)
  refine lv_iconst (v := 0) hx hb d_L_howManyWrittenLater_2 (by decide) ?_
  refine lv_istore_n (lv' := [(2, .int 0), (1, .int 0), (0, .ref ln)]) hx hb d_L_howManyWrittenLater_3 rfl hl (by decide) rfl (fun ls hl => ?_)
  exact loop n 0 0 0 ls (by omega) rfl rfl (lv_sub hl [2, 1, 0] rfl)
