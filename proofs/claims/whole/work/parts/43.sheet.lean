/-! the class: the sheet -/
/-- the map w with a sheet of n bytes g -/
def shW (w : Nat → Option va_E) (cB : ClassId) (sh by_ : Nat) (g : Nat → Int32) (n : Nat) : Nat → Option va_E := va_up (va_up w by_ (some (aI cB 2005 g))) sh (some (eS by_ (nI n)))
section SH
variable {w : Nat → Option va_E} {cB : ClassId} {sh by_ : Nat} {g g2 : Nat → Int32} {n n2 : Nat}
theorem shW_s : shW w cB sh by_ g n sh = some (eS by_ (nI n)) := by unfold shW; rw [va_up_self]
theorem shW_b (h : by_ ≠ sh) : shW w cB sh by_ g n by_ = some (aI cB 2005 g) := by unfold shW; rw [va_up_ne _ _ h, va_up_self]
theorem shW_o {a : Nat} (h1 : a ≠ sh) (h2 : a ≠ by_) : shW w cB sh by_ g n a = w a := by unfold shW; rw [va_up_ne _ _ h1, va_up_ne _ _ h2]
theorem shW_id (h1 : w sh = some (eS by_ (nI n))) (h2 : w by_ = some (aI cB 2005 g)) : shW w cB sh by_ g n = w := by
  unfold shW
  funext i
  unfold va_up
  by_cases e1 : i = sh
  · rw [if_pos e1, e1]; exact h1.symm
  · rw [if_neg e1]
    by_cases e2 : i = by_
    · rw [if_pos e2, e2]; exact h2.symm
    · rw [if_neg e2]
theorem shW_shW : shW (shW w cB sh by_ g n) cB sh by_ g2 n2 = shW w cB sh by_ g2 n2 := by
  unfold shW
  funext i
  unfold va_up
  by_cases e1 : i = sh
  · rw [if_pos e1, if_pos e1]
  · by_cases e2 : i = by_
    · simp only [if_neg e1, if_pos e2]
    · simp only [if_neg e1, if_neg e2]
end SH
theorem kdg_p {s k : Nat} (hs : s < 100000) (h1 : 1 ≤ k) (hk : k ≤ 4) : 10 ^ k ≤ s ↔ k ≤ kdg s := by
  have h : k = 1 ∨ k = 2 ∨ k = 3 ∨ k = 4 := by omega
  rcases h with rfl | rfl | rfl | rfl <;> unfold kdg <;> (repeat' split) <;> omega
theorem p10_1 {k : Nat} : 10 ^ k ≤ 1 ↔ k = 0 := by
  constructor
  · intro h
    cases k with
    | zero => rfl
    | succ k =>
      have := Nat.one_le_two_pow (n := k)
      have h2 : 1 ≤ 10 ^ k := Nat.one_le_iff_ne_zero.mpr (by exact Nat.ne_of_gt (Nat.pow_pos (by decide)))
      rw [Nat.pow_succ] at h
      omega
  · intro h; subst h; decide
theorem numB_nn {v : Int32} (h : ¬ v < 0) : numB v = dgL v.toInt.natAbs (kdg v.toInt.natAbs + 1) := by unfold numB; rw [if_neg h]; rfl
theorem nar_b {k : Nat} (h : k < 128) : vp_nar .byte ((nI k).toInt8.toInt32) = nI k := by
  have : ∀ k, k < 128 → vp_nar .byte ((nI k).toInt8.toInt32) = nI k := by decide +kernel
  exact this k h
theorem i2c_b {k : Nat} (h : k < 128) : ((nI k).toUInt32 % 65536).toInt32 = nI k := (sb_byte k (by omega)).2.1
set_option maxHeartbeats 4000000 in
set_option maxRecDepth 100000 in
theorem k_S_put (l : Launch) (G : va_G) (q0 : ClassId × FieldType) (cB : ClassId) (ty2 : List (ClassId × FieldType)) (w : Nat → Option va_E) {sh by_ : Nat} {g : Nat → Int32} {n : Nat} (hs : w sh = some (eS by_ (nI n))) (hb9 : w by_ = some (aI cB 2005 g)) (hn : n < 2005) (c9 : Int32) (hc : vp_nar .byte (c9.toInt8.toInt32) = c9) (sz : Nat) : Met l y_S_put (wm y_S_put c_S_put 2 none) ({ frames := 0, cells := 0, slots := 0, locals := 0 }) (pZ G (q0 :: (cB, .byte) :: ty2) w sz [.ref sh, .int c9]) (va_Qv (fun (u : Unit) => True) (fun _ t => mw G ncl (mA w sz) (shW w cB sh by_ (upd g n c9) (n + 1)) t.heap ∧ va_K G ncl (q0 :: (cB, .byte) :: ty2) t) (mA w sz)) 0 0 (mA w sz) := by
  refine Met.ofW (cc := c_S_put) (maxL := 2) (ret := none) (by decide) rfl ?_
  intro p e s m args below meth c s₁ B hml hv
  obtain ⟨rfl, hsz, hM0, hK⟩ := hv
  have hx := B.exec
  have hb := B.bytes
  have hr := B.returns
  have hts := atoms_spec (ws := (wm y_S_put c_S_put 2 none)) B.pre
  have hta : ∀ w ∈ AL, w.before _ s = true := fun w h => hts w (List.mem_cons_of_mem _ h)
  have hown : s.vm.findClass nR_S = some m.cls := findClass_of_methodNamed B.named
  have hlocks := B.notSynchronized
  have hl := lv_entry ([.ref sh, .int c9]) (n := 2) (Nat.le_of_ble_eq_true rfl)
  rw [lg_entry_eq]
  generalize (lg_sl ([.ref sh, .int c9]) ++ List.replicate (2 - (lg_sl ([.ref sh, .int c9])).length) Slot.unset).toArray = ls at hl ⊢
  have hl : lv_has ls 2 [(0, .ref sh), (1, .int c9)] := hl
  subst hsz
  have hM := mw_self (sz := s.heap.size) hM0
  clear hM0
  generalize hAe : mA w s.heap.size = A at hM ⊢
  have hA : ∀ q : Nat, s.heap.size ≤ q → A q := fun q h => by rw [← hAe]; exact Or.inr h
  have hS : va_S A s.heap s.heap [] := va_S.rf
  have hne : by_ ≠ sh := m_ne hb9 hs (by intro h; cases h)
  refine lv_aload_n hx hb d_S_put_0 rfl (lv_at hl 0 rfl) ?_
  refine m_get (D := G) (ci := 3) (v := .int (nI n)) (C := nR_S) (T := nT_S) (N := 2) hx hb hta in_S hown hK hM hs rfl 1 (by decide) (hta _ aw_77) (fun _ h9 => h9) rfl d_S_put_1 ?_
  refine lv_aload_n hx hb d_S_put_4 rfl (lv_at hl 0 rfl) ?_
  refine m_get (D := G) (ci := 3) (v := .ref by_) (C := nR_S) (T := nT_S) (N := 2) hx hb hta in_S hown hK hM hs rfl 0 (by decide) (hta _ aw_75) (fun _ h9 => h9) rfl d_S_put_5 ?_
  refine m_alen (v := 2005) hx hb hK hM 1 hb9 rfl rfl d_S_put_8 ?_
  refine lv_icmp_ge (tgt := 33) hx hb d_S_put_9 (by decide) (fun c_1 => absurd (show nI n < nI 2005 from nI_lt (by omega) (by omega)) (Int32.not_lt.mpr c_1)) (fun c_1 => ?_)
  refine lv_aload_n hx hb d_S_put_12 rfl (lv_at hl 0 rfl) ?_
  refine m_get (D := G) (ci := 3) (v := .ref by_) (C := nR_S) (T := nT_S) (N := 2) hx hb hta in_S hown hK hM hs rfl 0 (by decide) (hta _ aw_75) (fun _ h9 => h9) rfl d_S_put_13 ?_
  refine lv_aload_n hx hb d_S_put_16 rfl (lv_at hl 0 rfl) ?_
  refine m_get (D := G) (ci := 3) (v := .int (nI n)) (C := nR_S) (T := nT_S) (N := 2) hx hb hta in_S hown hK hM hs rfl 1 (by decide) (hta _ aw_77) (fun _ h9 => h9) rfl d_S_put_17 ?_
  refine lv_iload_n hx hb d_S_put_20 rfl (lv_at hl 1 rfl) ?_
  refine lv_i2b hx hb d_S_put_21 rfl ?_
  refine m_bast hx hb hK hM hS 1 hb9 rfl (vp_in_nI (by omega) (by omega)) d_S_put_22 (fun H locs hM hS => ?_)
  obtain ⟨w_2, hw_2⟩ : ∃ z9 : Nat → Option va_E, z9 = va_up w by_ (some (.inl (cB, 2005, .inl (upd g (nI n).toNatClampNeg (vp_nar .byte c9.toInt8.toInt32))))) := ⟨_, rfl⟩
  rw [← hw_2] at hM
  have k_3 : w_2 sh = some (.inr (3, [.ref by_, .int (nI n)])) := by rw [hw_2, va_up_ne _ _ (m_ne hs hb9 (by intro h; cases h))]; exact hs
  have k_4 : w_2 by_ = some (.inl (cB, 2005, .inl (upd g (nI n).toNatClampNeg (vp_nar .byte c9.toInt8.toInt32)))) := by rw [hw_2, va_up_self]
  refine lv_aload_n hx hb d_S_put_23 rfl (lv_at hl 0 rfl) ?_
  refine lv_dup hx hb d_S_put_24 rfl ?_
  refine m_get (D := G) (ci := 3) (v := .int (nI n)) (C := nR_S) (T := nT_S) (N := 2) hx hb hta in_S hown hK hM k_3 rfl 1 (by decide) (hta _ aw_77) (fun _ h9 => h9) rfl d_S_put_25 ?_
  refine lv_iconst (v := 1) hx hb d_S_put_28 (by decide) ?_
  refine lv_iadd hx hb d_S_put_29 ?_
  refine m_put (D := G) (ci := 3) (v := .int ((nI n) + 1)) (ty := .int) (C := nR_S) (T := nT_S) (N := 2) hx hb hta in_S nt_S nt_S_ok nn_S hown hK hM hS k_3 rfl 1 (by decide) (hta _ aw_77) (fun _ h9 => h9) rfl (by decide +kernel) rfl rfl (Nat.le_of_ble_eq_true rfl) d_S_put_30 (fs' := [.ref by_, .int ((nI n) + 1)]) rfl (fun H locs hM hS => ?_)
  obtain ⟨w_5, hw_5⟩ : ∃ z9 : Nat → Option va_E, z9 = va_up w_2 sh (some (.inr (3, [.ref by_, .int ((nI n) + 1)]))) := ⟨_, rfl⟩
  rw [← hw_5] at hM
  have k_6 : w_5 sh = some (.inr (3, [.ref by_, .int ((nI n) + 1)])) := by rw [hw_5, va_up_self]
  have k_7 : w_5 by_ = some (.inl (cB, 2005, .inl (upd g (nI n).toNatClampNeg (vp_nar .byte c9.toInt8.toInt32)))) := by rw [hw_5, va_up_ne _ _ (m_ne k_4 k_3 (by intro h; cases h))]; exact k_4
  have hfin : w_5 = shW w cB sh by_ (upd g n c9) (n + 1) := by rw [hw_5, hw_2, nI_clamp (by omega), hc, nI_1]; rfl
  rw [hfin] at hM
  exact W.vret hx hb hr (fun t ht hW => ⟨⟨(), rfl, trivial, by rw [ht]; exact hM, va_K.moved hW.alike hK⟩, hS.F ht⟩) hS.2.2 d_S_put_33
set_option maxHeartbeats 4000000 in
set_option maxRecDepth 100000 in
theorem k_S_putDigits (l : Launch) (G : va_G) (q0 : ClassId × FieldType) (cB : ClassId) (ty2 : List (ClassId × FieldType)) (w : Nat → Option va_E) {sh by_ : Nat} {g : Nat → Int32} {n : Nat} (hs : w sh = some (eS by_ (nI n))) (hb9 : w by_ = some (aI cB 2005 g)) (v : Int32) (h0 : ¬ v < 0) (hv : v.toInt.natAbs < 100000) (hlen : n + (numB v).length ≤ 2005) (sz : Nat) : Met l y_S_putDigits (wm y_S_putDigits c_S_putDigits 3 none) ({ frames := 1, cells := 0, slots := 0, locals := 21 }) (pZ G (q0 :: (cB, .byte) :: ty2) w sz [.ref sh, .int v]) (va_Qv (fun (u : Unit) => True) (fun _ t => mw G ncl (mA w sz) (shW w cB sh by_ (apF g n (numB v)) (n + (numB v).length)) t.heap ∧ va_K G ncl (q0 :: (cB, .byte) :: ty2) t) (mA w sz)) 0 0 (mA w sz) := by
  refine Met.ofW (cc := c_S_putDigits) (maxL := 3) (ret := none) (by decide) rfl ?_
  intro p e s m args below meth c s₁ B hml hv
  obtain ⟨rfl, hsz, hM0, hK⟩ := hv
  have hx := B.exec
  have hb := B.bytes
  have hr := B.returns
  have hts := atoms_spec (ws := (wm y_S_putDigits c_S_putDigits 3 none)) B.pre
  have hta : ∀ w ∈ AL, w.before _ s = true := fun w h => hts w (List.mem_cons_of_mem _ h)
  have hown : s.vm.findClass nR_S = some m.cls := findClass_of_methodNamed B.named
  have hlocks := B.notSynchronized
  have hl := lv_entry ([.ref sh, .int v]) (n := 3) (Nat.le_of_ble_eq_true rfl)
  rw [lg_entry_eq]
  generalize (lg_sl ([.ref sh, .int v]) ++ List.replicate (3 - (lg_sl ([.ref sh, .int v])).length) Slot.unset).toArray = ls at hl ⊢
  have hl : lv_has ls 3 [(0, .ref sh), (1, .int v)] := hl
  subst hsz
  have hM := mw_self (sz := s.heap.size) hM0
  clear hM0
  generalize hAe : mA w s.heap.size = A at hM ⊢
  have hA : ∀ q : Nat, s.heap.size ≤ q → A q := fun q h => by rw [← hAe]; exact Or.inr h
  have hS : va_S A s.heap s.heap [] := va_S.rf
  have hne : by_ ≠ sh := m_ne hb9 hs (by intro h; cases h)
  have hM : mw G ncl A (shW w cB sh by_ g n) s.heap := by rw [shW_id hs hb9]; exact hM
  obtain ⟨sn, esn⟩ : ∃ z9 : Nat, z9 = v.toInt.natAbs := ⟨_, rfl⟩
  have hnb := numB_nn h0
  rw [← esn] at hv hnb
  have hab := (absI (v := v) (by omega)).1 (Int32.not_lt.mp h0)
  rw [← esn] at hab
  have hk4 := kdg_le sn
  have hdl := dgL_len sn (kdg sn + 1)
  rw [← hnb] at hdl
  have loop2 : ∀ (n9 : Nat) (g1 : Nat → Int32) (q1 : Nat) (H : Heap) (locs : List Loc) (ls : Array Slot), n9 ≤ 5 → apF g1 q1 (dgL sn n9) = (apF g n (numB v)) → q1 + n9 = (n + (numB v).length) → mw G ncl A (shW w cB sh by_ g1 q1) H → va_S A s.heap H locs → lv_has ls 3 [(0, .ref sh), (1, .int v), (2, .int (nI (un n9)))] → W p l e (headSpec (wm y_S_putDigits c_S_putDigits 3 none) ({ frames := 1, cells := 0, slots := 0, locals := 21 })).room s m ([.ref sh, .int v] : List Value).toArray below meth c H locs 0 0 (MQ below (va_Qv (fun (u : Unit) => True) (fun _ t => mw G ncl A (shW w cB sh by_ (apF g n (numB v)) (n + (numB v).length)) t.heap ∧ va_K G ncl (q0 :: (cB, .byte) :: ty2) t) A) ([.ref sh, .int v] : List Value).toArray s 0 0 A) (F0 m 22 ls []) := by
    intro n9
    induction n9 with
    | zero =>
      intro g1 q1 H locs ls h5 hfin hq hM hS hl
      have hl : lv_has ls 3 [(0, .ref sh), (1, .int v), (2, .int 0)] := hl
      refine lv_iload_n hx hb d_S_putDigits_22 rfl (lv_at hl 2 rfl) ?_
      refine lv_if_le (tgt := 48) hx hb d_S_putDigits_23 (by decide) (fun c_101 => ?_) (fun c_101 => absurd (by decide) c_101)
      have hfin : g1 = apF g n (numB v) := hfin
      have hq : q1 = n + (numB v).length := hq
      rw [hfin, hq] at hM
      exact W.vret hx hb hr (fun t ht hW => ⟨⟨(), rfl, trivial, by rw [ht]; exact hM, va_K.moved hW.alike hK⟩, hS.F ht⟩) hS.2.2 d_S_putDigits_48
    | succ n9 ih =>
      intro g1 q1 H locs ls h5 hfin hq hM hS hl
      have hl : lv_has ls 3 [(0, .ref sh), (1, .int v), (2, .int (nI (10 ^ n9)))] := hl
      have hpw := p10 (k := n9) (by omega)
      have ed : 48 + ((v / nI (10 ^ n9)) - (v / nI (10 ^ n9)) / 10 * 10) = nI (48 + sn / 10 ^ n9 % 10) := by rw [hab, pk_div (by omega) (by omega) (by omega), show (10 : Int32) = nI 10 from rfl, pk_rem (Nat.lt_of_le_of_lt (Nat.div_le_self _ _) (by omega)) (by decide) (by decide), show (48 : Int32) = nI 48 from rfl, nI_add]
      have hd9 : 48 + sn / 10 ^ n9 % 10 < 128 := by have := Nat.mod_lt (sn / 10 ^ n9) (show 0 < 10 by decide); omega
      refine lv_iload_n hx hb d_S_putDigits_22 rfl (lv_at hl 2 rfl) ?_
      refine lv_if_le (tgt := 48) hx hb d_S_putDigits_23 (by decide) (fun c_201 => absurd c_201 (nI_nle hpw.1 (by omega))) (fun c_201 => ?_)
      refine lv_aload_n hx hb d_S_putDigits_26 rfl (lv_at hl 0 rfl) ?_
      refine lv_bipush (v := 48) hx hb d_S_putDigits_27 (by decide) ?_
      refine lv_iload_n hx hb d_S_putDigits_29 rfl (lv_at hl 1 rfl) ?_
      refine lv_iload_n hx hb d_S_putDigits_30 rfl (lv_at hl 2 rfl) ?_
      refine lv_idiv hx hb d_S_putDigits_31 (nI_ne0 hpw.1 (by omega)) ?_
      refine lv_bipush (v := 10) hx hb d_S_putDigits_32 (by decide) ?_
      refine lv_irem hx hb d_S_putDigits_34 (by decide) ?_
      refine lv_iadd hx hb d_S_putDigits_35 ?_
      refine lv_i2c hx hb d_S_putDigits_36 rfl ?_
      have e7 : ((48 + ((v / (nI (10 ^ n9))) - (v / (nI (10 ^ n9))) / 10 * 10)).toUInt32 % 65536).toInt32 = nI (48 + sn / 10 ^ n9 % 10) := by rw [ed]; exact i2c_b hd9
      rw [e7]
      have hF := mw_free hM hS hA
      refine va_callv (va_runV (As := [.int (nI (48 + sn / 10 ^ n9 % 10))]) (rest := []) ⟨hx, hb, hml, hown, hta⟩ (k_S_put l G q0 cB ty2 (shW w cB sh by_ g1 q1) (shW_s (w := w) (cB := cB) (sh := sh) (by_ := by_) (g := g1) (n := q1)) (shW_b (w := w) (cB := cB) (g := g1) (n := q1) hne) (by omega) (nI (48 + sn / 10 ^ n9 % 10)) (nar_b hd9) _) (cV 1 hta aw_494 aw_4 aw_491 aw_493 as_SceneTimes_Sheet_put rfl rfl (by decide +kernel) ⟨Nat.le_of_ble_eq_true rfl, Nat.le_of_ble_eq_true rfl⟩) (pZ_V hK hM rfl (shW_s (w := w) (cB := cB) (sh := sh) (by_ := by_) (g := g1) (n := q1))) rfl rfl hl.1 rfl (lv_room (Nat.le_of_ble_eq_true rfl)) d_S_putDigits_37 ⟨Nat.le_of_ble_eq_true rfl, Nat.le_of_ble_eq_true rfl⟩) hS (fun q _ h => hF q h) hF (fun u_r_202 t H locs ht hvm hr_202 hB hz1 hk1 hS => ?_)
      obtain ⟨hM1, hK1⟩ := hB
      rw [ht] at hM1
      have hM := mw_weaken hM1 hF
      clear hM1 hK1 hF hk1 hz1
      rw [shW_shW] at hM
      obtain ⟨g_203, eg_203⟩ : ∃ z9 : Nat → Int32, z9 = upd g1 q1 (nI (48 + sn / 10 ^ n9 % 10)) := ⟨_, rfl⟩
      obtain ⟨q_204, eq_204⟩ : ∃ z9 : Nat, z9 = q1 + 1 := ⟨_, rfl⟩
      rw [← eg_203, ← eq_204] at hM
      refine lv_iload_n hx hb d_S_putDigits_40 rfl (lv_at hl 2 rfl) ?_
      refine lv_bipush (v := 10) hx hb d_S_putDigits_41 (by decide) ?_
      refine lv_idiv hx hb d_S_putDigits_43 (by decide) ?_
      refine lv_istore_n (lv' := [(2, .int ((nI (10 ^ n9)) / 10)), (0, .ref sh), (1, .int v)]) hx hb d_S_putDigits_44 rfl hl (by decide) rfl (fun ls hl => ?_)
      refine lv_goto (tgt := 22) hx hb d_S_putDigits_45 (by decide) ?_
      have eu : (nI (10 ^ n9)) / 10 = nI (un n9) := by rw [show (10 : Int32) = nI 10 from rfl, pk_div (by omega) (by decide) (by decide)]; exact congrArg nI (un_10 n9)
      rw [eu] at hl
      exact ih g_203 q_204 H locs ls (by omega) (by rw [← hfin, eg_203, eq_204]; rfl) (by omega) hM hS (lv_sub hl [1, 2, 0] rfl)
  have loop1 : ∀ (m9 k9 : Nat) (g1 : Nat → Int32) (q1 : Nat) (H : Heap) (locs : List Loc) (ls : Array Slot), k9 = kdg sn + m9 → k9 ≤ 4 → apF g1 q1 (dgL sn (kdg sn + 1)) = (apF g n (numB v)) → q1 + (kdg sn + 1) = (n + (numB v).length) → mw G ncl A (shW w cB sh by_ g1 q1) H → va_S A s.heap H locs → lv_has ls 3 [(0, .ref sh), (1, .int v), (2, .int (nI (10 ^ k9)))] → W p l e (headSpec (wm y_S_putDigits c_S_putDigits 3 none) ({ frames := 1, cells := 0, slots := 0, locals := 21 })).room s m ([.ref sh, .int v] : List Value).toArray below meth c H locs 0 0 (MQ below (va_Qv (fun (u : Unit) => True) (fun _ t => mw G ncl A (shW w cB sh by_ (apF g n (numB v)) (n + (numB v).length)) t.heap ∧ va_K G ncl (q0 :: (cB, .byte) :: ty2) t) A) ([.ref sh, .int v] : List Value).toArray s 0 0 A) (F0 m 4 ls []) := by
    intro m9
    induction m9 with
    | zero =>
      intro k9 g1 q1 H locs ls hk9 hk8 hfin hq hM hS hl
      have hk9 : k9 = kdg sn := hk9
      subst hk9
      have hpw := p10 (k := kdg sn) (by omega)
      refine lv_iload_n hx hb d_S_putDigits_4 rfl (lv_at hl 2 rfl) ?_
      refine lv_iconst (v := 1) hx hb d_S_putDigits_5 (by decide) ?_
      refine lv_icmp_le (tgt := 22) hx hb d_S_putDigits_6 (by decide) (fun c_301 => ?_) (fun c_301 => ?_)
      · exact loop2 (kdg sn + 1) g1 q1 H locs ls (by omega) hfin hq hM hS (lv_sub hl [0, 1, 2] rfl)
      · refine lv_iload_n hx hb d_S_putDigits_9 rfl (lv_at hl 2 rfl) ?_
        refine lv_iload_n hx hb d_S_putDigits_10 rfl (lv_at hl 1 rfl) ?_
        refine lv_icmp_le (tgt := 22) hx hb d_S_putDigits_11 (by decide) (fun c_302 => ?_) (fun c_302 => absurd (by rw [hab]; exact nI_le ((kdg_p hv (Nat.pos_of_ne_zero (fun z => c_301 (by rw [z]; decide))) (by omega)).mpr (Nat.le_refl _)) (by omega)) c_302)
        exact loop2 (kdg sn + 1) g1 q1 H locs ls (by omega) hfin hq hM hS (lv_sub hl [0, 1, 2] rfl)
    | succ m9 ih =>
      intro k9 g1 q1 H locs ls hk9 hk8 hfin hq hM hS hl
      obtain ⟨k8, rfl⟩ : ∃ z9 : Nat, k9 = z9 + 1 := ⟨k9 - 1, by omega⟩
      have hpw := p10 (k := k8 + 1) (by omega)
      refine lv_iload_n hx hb d_S_putDigits_4 rfl (lv_at hl 2 rfl) ?_
      refine lv_iconst (v := 1) hx hb d_S_putDigits_5 (by decide) ?_
      refine lv_icmp_le (tgt := 22) hx hb d_S_putDigits_6 (by decide) (fun c_401 => absurd c_401 (nI_ge (a := 1) (Nat.lt_of_not_le (fun z => by have := p10_1.mp z; omega)) (by omega))) (fun c_401 => ?_)
      refine lv_iload_n hx hb d_S_putDigits_9 rfl (lv_at hl 2 rfl) ?_
      refine lv_iload_n hx hb d_S_putDigits_10 rfl (lv_at hl 1 rfl) ?_
      refine lv_icmp_le (tgt := 22) hx hb d_S_putDigits_11 (by decide) (fun c_402 => absurd c_402 (by rw [hab]; exact nI_ge (Nat.lt_of_not_le (fun z => by have := (kdg_p hv (by omega) (by omega)).mp z; omega)) (by omega))) (fun c_402 => ?_)
      refine lv_iload_n hx hb d_S_putDigits_14 rfl (lv_at hl 2 rfl) ?_
      refine lv_bipush (v := 10) hx hb d_S_putDigits_15 (by decide) ?_
      refine lv_idiv hx hb d_S_putDigits_17 (by decide) ?_
      refine lv_istore_n (lv' := [(2, .int ((nI (10 ^ (k8 + 1))) / 10)), (0, .ref sh), (1, .int v)]) hx hb d_S_putDigits_18 rfl hl (by decide) rfl (fun ls hl => ?_)
      refine lv_goto (tgt := 4) hx hb d_S_putDigits_19 (by decide) ?_
      have eu : (nI (10 ^ (k8 + 1))) / 10 = nI (10 ^ k8) := by rw [show (10 : Int32) = nI 10 from rfl, pk_div (by omega) (by decide) (by decide), Nat.pow_succ, Nat.mul_div_cancel _ (by decide)]
      rw [eu] at hl
      exact ih k8 g1 q1 H locs ls (by omega) (by omega) hfin hq hM hS (lv_sub hl [1, 2, 0] rfl)
  refine lv_sipush (v := 10000) hx hb d_S_putDigits_0 (by decide) ?_
  refine lv_istore_n (lv' := [(2, .int 10000), (0, .ref sh), (1, .int v)]) hx hb d_S_putDigits_3 rfl hl (by decide) rfl (fun ls hl => ?_)
  exact loop1 (4 - kdg sn) 4 g n s.heap [] ls (by omega) (by omega) (by rw [← hnb]) (by omega) hM hS (lv_sub hl [1, 2, 0] rfl)
set_option maxHeartbeats 4000000 in
set_option maxRecDepth 100000 in
theorem k_S_putNumber (l : Launch) (G : va_G) (q0 : ClassId × FieldType) (cB : ClassId) (ty2 : List (ClassId × FieldType)) (w : Nat → Option va_E) {sh by_ : Nat} {g : Nat → Int32} {n : Nat} (hs : w sh = some (eS by_ (nI n))) (hb9 : w by_ = some (aI cB 2005 g)) (c9 v : Int32) (hc : vp_nar .byte (c9.toInt8.toInt32) = c9) (h0 : ¬ v < 0) (hv : v.toInt.natAbs < 100000) (hlen : n + ((numB v).length + 1) ≤ 2005) (sz : Nat) : Met l y_S_putNumber (wm y_S_putNumber c_S_putNumber 3 none) ({ frames := 2, cells := 0, slots := 0, locals := 43 }) (pZ G (q0 :: (cB, .byte) :: ty2) w sz [.ref sh, .int c9, .int v]) (va_Qv (fun (u : Unit) => True) (fun _ t => mw G ncl (mA w sz) (shW w cB sh by_ (apF g n (c9 :: numB v)) (n + ((numB v).length + 1))) t.heap ∧ va_K G ncl (q0 :: (cB, .byte) :: ty2) t) (mA w sz)) 0 0 (mA w sz) := by
  refine Met.ofW (cc := c_S_putNumber) (maxL := 3) (ret := none) (by decide) rfl ?_
  intro p e s m args below meth c s₁ B hml hv
  obtain ⟨rfl, hsz, hM0, hK⟩ := hv
  have hx := B.exec
  have hb := B.bytes
  have hr := B.returns
  have hts := atoms_spec (ws := (wm y_S_putNumber c_S_putNumber 3 none)) B.pre
  have hta : ∀ w ∈ AL, w.before _ s = true := fun w h => hts w (List.mem_cons_of_mem _ h)
  have hown : s.vm.findClass nR_S = some m.cls := findClass_of_methodNamed B.named
  have hlocks := B.notSynchronized
  have hl := lv_entry ([.ref sh, .int c9, .int v]) (n := 3) (Nat.le_of_ble_eq_true rfl)
  rw [lg_entry_eq]
  generalize (lg_sl ([.ref sh, .int c9, .int v]) ++ List.replicate (3 - (lg_sl ([.ref sh, .int c9, .int v])).length) Slot.unset).toArray = ls at hl ⊢
  have hl : lv_has ls 3 [(0, .ref sh), (1, .int c9), (2, .int v)] := hl
  subst hsz
  have hM := mw_self (sz := s.heap.size) hM0
  clear hM0
  generalize hAe : mA w s.heap.size = A at hM ⊢
  have hA : ∀ q : Nat, s.heap.size ≤ q → A q := fun q h => by rw [← hAe]; exact Or.inr h
  have hS : va_S A s.heap s.heap [] := va_S.rf
  have hne : by_ ≠ sh := m_ne hb9 hs (by intro h; cases h)
  have hM : mw G ncl A (shW w cB sh by_ g n) s.heap := by rw [shW_id hs hb9]; exact hM
  refine lv_aload_n hx hb d_S_putNumber_0 rfl (lv_at hl 0 rfl) ?_
  refine lv_iload_n hx hb d_S_putNumber_1 rfl (lv_at hl 1 rfl) ?_
  have hF := mw_free hM hS hA
  refine va_callv (va_runV (As := [.int c9]) (rest := []) ⟨hx, hb, hml, hown, hta⟩ (k_S_put l G q0 cB ty2 (shW w cB sh by_ g n) (shW_s (w := w) (cB := cB) (sh := sh) (by_ := by_) (g := g) (n := n)) (shW_b (w := w) (cB := cB) (g := g) (n := n) hne) (by omega) c9 hc _) (cV 1 hta aw_494 aw_4 aw_491 aw_493 as_SceneTimes_Sheet_put rfl rfl (by decide +kernel) ⟨Nat.le_of_ble_eq_true rfl, Nat.le_of_ble_eq_true rfl⟩) (pZ_V hK hM rfl (shW_s (w := w) (cB := cB) (sh := sh) (by_ := by_) (g := g) (n := n))) rfl rfl hl.1 rfl (lv_room (Nat.le_of_ble_eq_true rfl)) d_S_putNumber_2 ⟨Nat.le_of_ble_eq_true rfl, Nat.le_of_ble_eq_true rfl⟩) hS (fun q _ h => hF q h) hF (fun u_r_1 t H locs ht hvm hr_1 hB hz1 hk1 hS => ?_)
  obtain ⟨hM1, hK1⟩ := hB
  rw [ht] at hM1
  have hM := mw_weaken hM1 hF
  clear hM1 hK1 hF hk1 hz1
  rw [shW_shW] at hM
  obtain ⟨g_2, eg_2⟩ : ∃ z9 : Nat → Int32, z9 = upd g n c9 := ⟨_, rfl⟩
  obtain ⟨q_3, eq_3⟩ : ∃ z9 : Nat, z9 = n + 1 := ⟨_, rfl⟩
  rw [← eg_2, ← eq_3] at hM
  refine lv_aload_n hx hb d_S_putNumber_5 rfl (lv_at hl 0 rfl) ?_
  refine lv_iload_n hx hb d_S_putNumber_6 rfl (lv_at hl 2 rfl) ?_
  have hF := mw_free hM hS hA
  refine va_callv (va_runV (As := [.int v]) (rest := []) ⟨hx, hb, hml, hown, hta⟩ (k_S_putDigits l G q0 cB ty2 (shW w cB sh by_ g_2 q_3) (shW_s (w := w) (cB := cB) (sh := sh) (by_ := by_) (g := g_2) (n := q_3)) (shW_b (w := w) (cB := cB) (g := g_2) (n := q_3) hne) v h0 hv (by omega) _) (cV 1 hta aw_498 aw_4 aw_495 aw_497 as_SceneTimes_Sheet_putDigits rfl rfl (by decide +kernel) ⟨Nat.le_of_ble_eq_true rfl, Nat.le_of_ble_eq_true rfl⟩) (pZ_V hK hM rfl (shW_s (w := w) (cB := cB) (sh := sh) (by_ := by_) (g := g_2) (n := q_3))) rfl rfl hl.1 rfl (lv_room (Nat.le_of_ble_eq_true rfl)) d_S_putNumber_7 ⟨Nat.le_of_ble_eq_true rfl, Nat.le_of_ble_eq_true rfl⟩) hS (fun q _ h => hF q h) hF (fun u_r_4 t H locs ht hvm hr_4 hB hz1 hk1 hS => ?_)
  obtain ⟨hM1, hK1⟩ := hB
  rw [ht] at hM1
  have hM := mw_weaken hM1 hF
  clear hM1 hK1 hF hk1 hz1
  rw [shW_shW] at hM
  obtain ⟨g_5, eg_5⟩ : ∃ z9 : Nat → Int32, z9 = apF g_2 q_3 (numB v) := ⟨_, rfl⟩
  obtain ⟨q_6, eq_6⟩ : ∃ z9 : Nat, z9 = q_3 + (numB v).length := ⟨_, rfl⟩
  rw [← eg_5, ← eq_6] at hM
  have hfin : g_5 = apF g n (c9 :: numB v) := by rw [eg_5, eg_2, eq_3]; rfl
  have hq : q_6 = n + ((numB v).length + 1) := by omega
  rw [hfin, hq] at hM
  exact W.vret hx hb hr (fun t ht hW => ⟨⟨(), rfl, trivial, by rw [ht]; exact hM, va_K.moved hW.alike hK⟩, hS.F ht⟩) hS.2.2 d_S_putNumber_10
set_option maxHeartbeats 4000000 in
set_option maxRecDepth 100000 in
theorem k_S_begin (l : Launch) (G : va_G) (q0 : ClassId × FieldType) (cB : ClassId) (ty2 : List (ClassId × FieldType)) (w : Nat → Option va_E) {sh by_ : Nat} {g : Nat → Int32} {n : Nat} (hs : w sh = some (eS by_ (nI n))) (hb9 : w by_ = some (aI cB 2005 g)) (v : Int32) (h0 : ¬ v < 0) (hv : v.toInt.natAbs < 100000) (sz : Nat) : Met l y_S_begin (wm y_S_begin c_S_begin 2 none) ({ frames := 3, cells := 0, slots := 0, locals := 65 }) (pZ G (q0 :: (cB, .byte) :: ty2) w sz [.ref sh, .int v]) (va_Qv (fun (u : Unit) => True) (fun _ t => mw G ncl (mA w sz) (shW w cB sh by_ (apF g 0 ((84 :: numB v) ++ [59])) ((numB v).length + 1 + 1)) t.heap ∧ va_K G ncl (q0 :: (cB, .byte) :: ty2) t) (mA w sz)) 0 0 (mA w sz) := by
  refine Met.ofW (cc := c_S_begin) (maxL := 2) (ret := none) (by decide) rfl ?_
  intro p e s m args below meth c s₁ B hml hv
  obtain ⟨rfl, hsz, hM0, hK⟩ := hv
  have hx := B.exec
  have hb := B.bytes
  have hr := B.returns
  have hts := atoms_spec (ws := (wm y_S_begin c_S_begin 2 none)) B.pre
  have hta : ∀ w ∈ AL, w.before _ s = true := fun w h => hts w (List.mem_cons_of_mem _ h)
  have hown : s.vm.findClass nR_S = some m.cls := findClass_of_methodNamed B.named
  have hlocks := B.notSynchronized
  have hl := lv_entry ([.ref sh, .int v]) (n := 2) (Nat.le_of_ble_eq_true rfl)
  rw [lg_entry_eq]
  generalize (lg_sl ([.ref sh, .int v]) ++ List.replicate (2 - (lg_sl ([.ref sh, .int v])).length) Slot.unset).toArray = ls at hl ⊢
  have hl : lv_has ls 2 [(0, .ref sh), (1, .int v)] := hl
  subst hsz
  have hM := mw_self (sz := s.heap.size) hM0
  clear hM0
  generalize hAe : mA w s.heap.size = A at hM ⊢
  have hA : ∀ q : Nat, s.heap.size ≤ q → A q := fun q h => by rw [← hAe]; exact Or.inr h
  have hS : va_S A s.heap s.heap [] := va_S.rf
  have hne : by_ ≠ sh := m_ne hb9 hs (by intro h; cases h)
  have hk4 := kdg_le v.toInt.natAbs
  have hdl := dgL_len v.toInt.natAbs (kdg v.toInt.natAbs + 1)
  rw [← numB_nn h0] at hdl
  refine lv_aload_n hx hb d_S_begin_0 rfl (lv_at hl 0 rfl) ?_
  refine lv_iconst (v := 0) hx hb d_S_begin_1 (by decide) ?_
  refine m_put (D := G) (ci := 3) (v := .int 0) (ty := .int) (C := nR_S) (T := nT_S) (N := 2) hx hb hta in_S nt_S nt_S_ok nn_S hown hK hM hS hs rfl 1 (by decide) (hta _ aw_77) (fun _ h9 => h9) rfl (by decide +kernel) rfl rfl (Nat.le_of_ble_eq_true rfl) d_S_begin_2 (fs' := [.ref by_, .int 0]) rfl (fun H locs hM hS => ?_)
  obtain ⟨w_1, hw_1⟩ : ∃ z9 : Nat → Option va_E, z9 = va_up w sh (some (.inr (3, [.ref by_, .int 0]))) := ⟨_, rfl⟩
  rw [← hw_1] at hM
  have k_2 : w_1 sh = some (.inr (3, [.ref by_, .int 0])) := by rw [hw_1, va_up_self]
  refine lv_aload_n hx hb d_S_begin_5 rfl (lv_at hl 0 rfl) ?_
  refine lv_bipush (v := 84) hx hb d_S_begin_6 (by decide) ?_
  refine lv_iload_n hx hb d_S_begin_8 rfl (lv_at hl 1 rfl) ?_
  have z8 : shW w cB sh by_ g 0 = w_1 := by
    rw [hw_1]
    unfold shW
    rw [show va_up w by_ (some (aI cB 2005 g)) = w from by funext i; unfold va_up; split; (rename_i e; rw [e]; exact hb9.symm); rfl]
    rfl
  rw [← z8] at hM
  have hF := mw_free hM hS hA
  refine va_callv (va_runV (As := [.int 84, .int v]) (rest := []) ⟨hx, hb, hml, hown, hta⟩ (k_S_putNumber l G q0 cB ty2 (shW w cB sh by_ g 0) (shW_s (w := w) (cB := cB) (sh := sh) (by_ := by_) (g := g) (n := 0)) (shW_b (w := w) (cB := cB) (g := g) (n := 0) hne) 84 v (by decide) h0 hv (by omega) _) (cV 2 hta aw_490 aw_4 aw_487 aw_489 as_SceneTimes_Sheet_putNumber rfl rfl (by decide +kernel) ⟨Nat.le_of_ble_eq_true rfl, Nat.le_of_ble_eq_true rfl⟩) (pZ_V hK hM rfl (shW_s (w := w) (cB := cB) (sh := sh) (by_ := by_) (g := g) (n := 0))) rfl rfl hl.1 rfl (lv_room (Nat.le_of_ble_eq_true rfl)) d_S_begin_9 ⟨Nat.le_of_ble_eq_true rfl, Nat.le_of_ble_eq_true rfl⟩) hS (fun q _ h => hF q h) hF (fun u_r_3 t H locs ht hvm hr_3 hB hz1 hk1 hS => ?_)
  obtain ⟨hM1, hK1⟩ := hB
  rw [ht] at hM1
  have hM := mw_weaken hM1 hF
  clear hM1 hK1 hF hk1 hz1
  rw [shW_shW] at hM
  obtain ⟨g_4, eg_4⟩ : ∃ z9 : Nat → Int32, z9 = apF g 0 (84 :: numB v) := ⟨_, rfl⟩
  obtain ⟨q_5, eq_5⟩ : ∃ z9 : Nat, z9 = 0 + ((numB v).length + 1) := ⟨_, rfl⟩
  rw [← eg_4, ← eq_5] at hM
  refine lv_aload_n hx hb d_S_begin_12 rfl (lv_at hl 0 rfl) ?_
  refine lv_bipush (v := 59) hx hb d_S_begin_13 (by decide) ?_
  have hF := mw_free hM hS hA
  refine va_callv (va_runV (As := [.int 59]) (rest := []) ⟨hx, hb, hml, hown, hta⟩ (k_S_put l G q0 cB ty2 (shW w cB sh by_ g_4 q_5) (shW_s (w := w) (cB := cB) (sh := sh) (by_ := by_) (g := g_4) (n := q_5)) (shW_b (w := w) (cB := cB) (g := g_4) (n := q_5) hne) (by omega) 59 (by decide) _) (cV 1 hta aw_494 aw_4 aw_491 aw_493 as_SceneTimes_Sheet_put rfl rfl (by decide +kernel) ⟨Nat.le_of_ble_eq_true rfl, Nat.le_of_ble_eq_true rfl⟩) (pZ_V hK hM rfl (shW_s (w := w) (cB := cB) (sh := sh) (by_ := by_) (g := g_4) (n := q_5))) rfl rfl hl.1 rfl (lv_room (Nat.le_of_ble_eq_true rfl)) d_S_begin_15 ⟨Nat.le_of_ble_eq_true rfl, Nat.le_of_ble_eq_true rfl⟩) hS (fun q _ h => hF q h) hF (fun u_r_6 t H locs ht hvm hr_6 hB hz1 hk1 hS => ?_)
  obtain ⟨hM1, hK1⟩ := hB
  rw [ht] at hM1
  have hM := mw_weaken hM1 hF
  clear hM1 hK1 hF hk1 hz1
  rw [shW_shW] at hM
  obtain ⟨g_7, eg_7⟩ : ∃ z9 : Nat → Int32, z9 = upd g_4 q_5 59 := ⟨_, rfl⟩
  obtain ⟨q_8, eq_8⟩ : ∃ z9 : Nat, z9 = q_5 + 1 := ⟨_, rfl⟩
  rw [← eg_7, ← eq_8] at hM
  have hfin : g_7 = apF g 0 ((84 :: numB v) ++ [59]) := by rw [apF_app, eg_7, eg_4, eq_5, Nat.zero_add, Nat.zero_add]; rfl
  have hq : q_8 = (numB v).length + 1 + 1 := by omega
  rw [hfin, hq] at hM
  exact W.vret hx hb hr (fun t ht hW => ⟨⟨(), rfl, trivial, by rw [ht]; exact hM, va_K.moved hW.alike hK⟩, hS.F ht⟩) hS.2.2 d_S_begin_18
