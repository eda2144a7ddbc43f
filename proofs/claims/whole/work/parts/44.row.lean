/-! the class: a row of the sheet -/
def rowL (se wr kd sc va z : Int32) : List Int32 := numB se ++ (58 :: ((119 :: numB wr) ++ ((107 :: numB kd) ++ ((115 :: numB sc) ++ ((61 :: numB va) ++ ((if z = 0 then [] else [120]) ++ [59]))))))
def abv (x : Int32) : Int32 := if 0 ≤ x then x else 0 - x
theorem abv_t {x : Int32} (h : x.toInt.natAbs < 100000) : ¬ abv x < 0 ∧ (abv x).toInt.natAbs = x.toInt.natAbs := by
  unfold abv
  split
  · rename_i h1; exact ⟨Int32.not_lt.mpr h1, rfl⟩
  · rename_i h1
    have e := (absI (v := x) (by omega)).2 h1
    rw [Int32.zero_sub, e]
    exact ⟨nI_pos (by omega), by rw [nI_toInt (by omega)]; omega⟩
theorem numB_ab {x : Int32} (h : x.toInt.natAbs < 100000) : numB x = (if x < 0 then [45] else []) ++ numB (abv x) := by
  rw [numB_nn (abv_t h).1, (abv_t h).2]; rfl
theorem rowL_x (se wr kd sc va z : Int32) (h : va.toInt.natAbs < 100000) : rowL se wr kd sc va z = numB se ++ (58 :: ((119 :: numB wr) ++ ((107 :: numB kd) ++ ((115 :: numB sc) ++ (61 :: ((if va < 0 then [45] else []) ++ (numB (abv va) ++ ((if z = 0 then [] else [120]) ++ [59])))))))) := by
  unfold rowL; rw [numB_ab h]; simp only [List.append_assoc, List.cons_append]
set_option maxHeartbeats 4000000 in
set_option maxRecDepth 100000 in
theorem k_S_putRow (l : Launch) (G : va_G) (q0 : ClassId × FieldType) (cB : ClassId) (ty2 : List (ClassId × FieldType)) (w : Nat → Option va_E) {sh by_ : Nat} {g : Nat → Int32} {n : Nat} (hs : w sh = some (eS by_ (nI n))) (hb9 : w by_ = some (aI cB 2005 g)) {a : Nat} {nu wr kd sc se : Int32} {fi la : Nat} {ac co mx : Int32} (ha : w a = some (eN nu wr kd sc se fi la ac co mx)) {b : Nat} {fr va z : Int32} {ea : Option Nat} (hb7 : w b = some (eT fr va z ea)) (hse : ¬ se < 0 ∧ se.toInt.natAbs < 100000) (hwr : ¬ wr < 0 ∧ wr.toInt.natAbs < 100000) (hkd : ¬ kd < 0 ∧ kd.toInt.natAbs < 100000) (hsc : ¬ sc < 0 ∧ sc.toInt.natAbs < 100000) (hva : va.toInt.natAbs < 100000) (hlen : n + (rowL se wr kd sc va z).length ≤ 2005) (sz : Nat) : Met l y_S_putRow (wm y_S_putRow c_S_putRow 3 none) ({ frames := 3, cells := 0, slots := 0, locals := 65 }) (pZ G (q0 :: (cB, .byte) :: ty2) w sz [.ref sh, .ref a, .ref b]) (va_Qv (fun (u : Unit) => True) (fun _ t => mw G ncl (mA w sz) (shW w cB sh by_ (apF g n (rowL se wr kd sc va z)) (n + (rowL se wr kd sc va z).length)) t.heap ∧ va_K G ncl (q0 :: (cB, .byte) :: ty2) t) (mA w sz)) 0 0 (mA w sz) := by
  refine Met.ofW (cc := c_S_putRow) (maxL := 3) (ret := none) (by decide) rfl ?_
  intro p e s m args below meth c s₁ B hml hv
  obtain ⟨rfl, hsz, hM0, hK⟩ := hv
  have hx := B.exec
  have hb := B.bytes
  have hr := B.returns
  have hts := atoms_spec (ws := (wm y_S_putRow c_S_putRow 3 none)) B.pre
  have hta : ∀ w ∈ AL, w.before _ s = true := fun w h => hts w (List.mem_cons_of_mem _ h)
  have hown : s.vm.findClass nR_S = some m.cls := findClass_of_methodNamed B.named
  have hlocks := B.notSynchronized
  have hl := lv_entry ([.ref sh, .ref a, .ref b]) (n := 3) (Nat.le_of_ble_eq_true rfl)
  rw [lg_entry_eq]
  generalize (lg_sl ([.ref sh, .ref a, .ref b]) ++ List.replicate (3 - (lg_sl ([.ref sh, .ref a, .ref b])).length) Slot.unset).toArray = ls at hl ⊢
  have hl : lv_has ls 3 [(0, .ref sh), (1, .ref a), (2, .ref b)] := hl
  subst hsz
  have hM := mw_self (sz := s.heap.size) hM0
  clear hM0
  generalize hAe : mA w s.heap.size = A at hM ⊢
  have hA : ∀ q : Nat, s.heap.size ≤ q → A q := fun q h => by rw [← hAe]; exact Or.inr h
  have hS : va_S A s.heap s.heap [] := va_S.rf
  have hne : by_ ≠ sh := m_ne hb9 hs (by intro h; cases h)
  have hM : mw G ncl A (shW w cB sh by_ g n) s.heap := by rw [shW_id hs hb9]; exact hM
  have na1 : a ≠ sh := m_ne ha hs (by intro h; cases h)
  have na2 : a ≠ by_ := m_ne ha hb9 (by intro h; cases h)
  have nb1 : b ≠ sh := m_ne hb7 hs (by intro h; cases h)
  have nb2 : b ≠ by_ := m_ne hb7 hb9 (by intro h; cases h)
  have hab := abv_t hva
  have hlen2 := hlen
  rw [rowL_x _ _ _ _ _ _ hva] at hlen2 ⊢
  simp only [List.length_append, List.length_cons] at hlen2
  refine lv_aload_n hx hb d_S_putRow_0 rfl (lv_at hl 0 rfl) ?_
  refine lv_aload_n hx hb d_S_putRow_1 rfl (lv_at hl 1 rfl) ?_
  refine m_get (D := G) (ci := 4) (v := .int se) (C := nR_N) (T := nT_N) (N := 10) hx hb hta in_N hown hK hM (by rw [shW_o na1 na2]; exact ha) rfl 4 (by decide) (hta _ aw_288) (fun _ h9 => h9) rfl d_S_putRow_2 ?_
  have hF := mw_free hM hS hA
  refine va_callv (va_runV (As := [.int se]) (rest := []) ⟨hx, hb, hml, hown, hta⟩ (k_S_putDigits l G q0 cB ty2 (shW w cB sh by_ g n) (shW_s (w := w) (cB := cB) (sh := sh) (by_ := by_) (g := g) (n := n)) (shW_b (w := w) (cB := cB) (g := g) (n := n) hne) se hse.1 hse.2 (by omega) _) (cV 1 hta aw_498 aw_4 aw_495 aw_497 as_SceneTimes_Sheet_putDigits rfl rfl (by decide +kernel) ⟨Nat.le_of_ble_eq_true rfl, Nat.le_of_ble_eq_true rfl⟩) (pZ_V hK hM rfl (shW_s (w := w) (cB := cB) (sh := sh) (by_ := by_) (g := g) (n := n))) rfl rfl hl.1 rfl (lv_room (Nat.le_of_ble_eq_true rfl)) d_S_putRow_5 ⟨Nat.le_of_ble_eq_true rfl, Nat.le_of_ble_eq_true rfl⟩) hS (fun q _ h => hF q h) hF (fun u_r_1 t H locs ht hvm hr_1 hB hz1 hk1 hS => ?_)
  obtain ⟨hM1, hK1⟩ := hB
  rw [ht] at hM1
  have hM := mw_weaken hM1 hF
  clear hM1 hK1 hF hk1 hz1
  rw [shW_shW] at hM
  obtain ⟨g_2, eg_2⟩ : ∃ z9 : Nat → Int32, z9 = apF g n (numB se) := ⟨_, rfl⟩
  obtain ⟨q_3, eq_3⟩ : ∃ z9 : Nat, z9 = n + (numB se).length := ⟨_, rfl⟩
  rw [← eg_2, ← eq_3] at hM
  refine lv_aload_n hx hb d_S_putRow_8 rfl (lv_at hl 0 rfl) ?_
  refine lv_bipush (v := 58) hx hb d_S_putRow_9 (by decide) ?_
  have hF := mw_free hM hS hA
  refine va_callv (va_runV (As := [.int 58]) (rest := []) ⟨hx, hb, hml, hown, hta⟩ (k_S_put l G q0 cB ty2 (shW w cB sh by_ g_2 q_3) (shW_s (w := w) (cB := cB) (sh := sh) (by_ := by_) (g := g_2) (n := q_3)) (shW_b (w := w) (cB := cB) (g := g_2) (n := q_3) hne) (by omega) 58 (by decide) _) (cV 1 hta aw_494 aw_4 aw_491 aw_493 as_SceneTimes_Sheet_put rfl rfl (by decide +kernel) ⟨Nat.le_of_ble_eq_true rfl, Nat.le_of_ble_eq_true rfl⟩) (pZ_V hK hM rfl (shW_s (w := w) (cB := cB) (sh := sh) (by_ := by_) (g := g_2) (n := q_3))) rfl rfl hl.1 rfl (lv_room (Nat.le_of_ble_eq_true rfl)) d_S_putRow_11 ⟨Nat.le_of_ble_eq_true rfl, Nat.le_of_ble_eq_true rfl⟩) hS (fun q _ h => hF q h) hF (fun u_r_4 t H locs ht hvm hr_4 hB hz1 hk1 hS => ?_)
  obtain ⟨hM1, hK1⟩ := hB
  rw [ht] at hM1
  have hM := mw_weaken hM1 hF
  clear hM1 hK1 hF hk1 hz1
  rw [shW_shW] at hM
  obtain ⟨g_5, eg_5⟩ : ∃ z9 : Nat → Int32, z9 = upd g_2 q_3 58 := ⟨_, rfl⟩
  obtain ⟨q_6, eq_6⟩ : ∃ z9 : Nat, z9 = q_3 + 1 := ⟨_, rfl⟩
  rw [← eg_5, ← eq_6] at hM
  refine lv_aload_n hx hb d_S_putRow_14 rfl (lv_at hl 0 rfl) ?_
  refine lv_bipush (v := 119) hx hb d_S_putRow_15 (by decide) ?_
  refine lv_aload_n hx hb d_S_putRow_17 rfl (lv_at hl 1 rfl) ?_
  refine m_get (D := G) (ci := 4) (v := .int wr) (C := nR_N) (T := nT_N) (N := 10) hx hb hta in_N hown hK hM (by rw [shW_o na1 na2]; exact ha) rfl 1 (by decide) (hta _ aw_281) (fun _ h9 => h9) rfl d_S_putRow_18 ?_
  have hF := mw_free hM hS hA
  refine va_callv (va_runV (As := [.int 119, .int wr]) (rest := []) ⟨hx, hb, hml, hown, hta⟩ (k_S_putNumber l G q0 cB ty2 (shW w cB sh by_ g_5 q_6) (shW_s (w := w) (cB := cB) (sh := sh) (by_ := by_) (g := g_5) (n := q_6)) (shW_b (w := w) (cB := cB) (g := g_5) (n := q_6) hne) 119 wr (by decide) hwr.1 hwr.2 (by omega) _) (cV 2 hta aw_490 aw_4 aw_487 aw_489 as_SceneTimes_Sheet_putNumber rfl rfl (by decide +kernel) ⟨Nat.le_of_ble_eq_true rfl, Nat.le_of_ble_eq_true rfl⟩) (pZ_V hK hM rfl (shW_s (w := w) (cB := cB) (sh := sh) (by_ := by_) (g := g_5) (n := q_6))) rfl rfl hl.1 rfl (lv_room (Nat.le_of_ble_eq_true rfl)) d_S_putRow_21 ⟨Nat.le_of_ble_eq_true rfl, Nat.le_of_ble_eq_true rfl⟩) hS (fun q _ h => hF q h) hF (fun u_r_7 t H locs ht hvm hr_7 hB hz1 hk1 hS => ?_)
  obtain ⟨hM1, hK1⟩ := hB
  rw [ht] at hM1
  have hM := mw_weaken hM1 hF
  clear hM1 hK1 hF hk1 hz1
  rw [shW_shW] at hM
  obtain ⟨g_8, eg_8⟩ : ∃ z9 : Nat → Int32, z9 = apF g_5 q_6 (119 :: numB wr) := ⟨_, rfl⟩
  obtain ⟨q_9, eq_9⟩ : ∃ z9 : Nat, z9 = q_6 + ((numB wr).length + 1) := ⟨_, rfl⟩
  rw [← eg_8, ← eq_9] at hM
  refine lv_aload_n hx hb d_S_putRow_24 rfl (lv_at hl 0 rfl) ?_
  refine lv_bipush (v := 107) hx hb d_S_putRow_25 (by decide) ?_
  refine lv_aload_n hx hb d_S_putRow_27 rfl (lv_at hl 1 rfl) ?_
  refine m_get (D := G) (ci := 4) (v := .int kd) (C := nR_N) (T := nT_N) (N := 10) hx hb hta in_N hown hK hM (by rw [shW_o na1 na2]; exact ha) rfl 2 (by decide) (hta _ aw_284) (fun _ h9 => h9) rfl d_S_putRow_28 ?_
  have hF := mw_free hM hS hA
  refine va_callv (va_runV (As := [.int 107, .int kd]) (rest := []) ⟨hx, hb, hml, hown, hta⟩ (k_S_putNumber l G q0 cB ty2 (shW w cB sh by_ g_8 q_9) (shW_s (w := w) (cB := cB) (sh := sh) (by_ := by_) (g := g_8) (n := q_9)) (shW_b (w := w) (cB := cB) (g := g_8) (n := q_9) hne) 107 kd (by decide) hkd.1 hkd.2 (by omega) _) (cV 2 hta aw_490 aw_4 aw_487 aw_489 as_SceneTimes_Sheet_putNumber rfl rfl (by decide +kernel) ⟨Nat.le_of_ble_eq_true rfl, Nat.le_of_ble_eq_true rfl⟩) (pZ_V hK hM rfl (shW_s (w := w) (cB := cB) (sh := sh) (by_ := by_) (g := g_8) (n := q_9))) rfl rfl hl.1 rfl (lv_room (Nat.le_of_ble_eq_true rfl)) d_S_putRow_31 ⟨Nat.le_of_ble_eq_true rfl, Nat.le_of_ble_eq_true rfl⟩) hS (fun q _ h => hF q h) hF (fun u_r_10 t H locs ht hvm hr_10 hB hz1 hk1 hS => ?_)
  obtain ⟨hM1, hK1⟩ := hB
  rw [ht] at hM1
  have hM := mw_weaken hM1 hF
  clear hM1 hK1 hF hk1 hz1
  rw [shW_shW] at hM
  obtain ⟨g_11, eg_11⟩ : ∃ z9 : Nat → Int32, z9 = apF g_8 q_9 (107 :: numB kd) := ⟨_, rfl⟩
  obtain ⟨q_12, eq_12⟩ : ∃ z9 : Nat, z9 = q_9 + ((numB kd).length + 1) := ⟨_, rfl⟩
  rw [← eg_11, ← eq_12] at hM
  refine lv_aload_n hx hb d_S_putRow_34 rfl (lv_at hl 0 rfl) ?_
  refine lv_bipush (v := 115) hx hb d_S_putRow_35 (by decide) ?_
  refine lv_aload_n hx hb d_S_putRow_37 rfl (lv_at hl 1 rfl) ?_
  refine m_get (D := G) (ci := 4) (v := .int sc) (C := nR_N) (T := nT_N) (N := 10) hx hb hta in_N hown hK hM (by rw [shW_o na1 na2]; exact ha) rfl 3 (by decide) (hta _ aw_286) (fun _ h9 => h9) rfl d_S_putRow_38 ?_
  have hF := mw_free hM hS hA
  refine va_callv (va_runV (As := [.int 115, .int sc]) (rest := []) ⟨hx, hb, hml, hown, hta⟩ (k_S_putNumber l G q0 cB ty2 (shW w cB sh by_ g_11 q_12) (shW_s (w := w) (cB := cB) (sh := sh) (by_ := by_) (g := g_11) (n := q_12)) (shW_b (w := w) (cB := cB) (g := g_11) (n := q_12) hne) 115 sc (by decide) hsc.1 hsc.2 (by omega) _) (cV 2 hta aw_490 aw_4 aw_487 aw_489 as_SceneTimes_Sheet_putNumber rfl rfl (by decide +kernel) ⟨Nat.le_of_ble_eq_true rfl, Nat.le_of_ble_eq_true rfl⟩) (pZ_V hK hM rfl (shW_s (w := w) (cB := cB) (sh := sh) (by_ := by_) (g := g_11) (n := q_12))) rfl rfl hl.1 rfl (lv_room (Nat.le_of_ble_eq_true rfl)) d_S_putRow_41 ⟨Nat.le_of_ble_eq_true rfl, Nat.le_of_ble_eq_true rfl⟩) hS (fun q _ h => hF q h) hF (fun u_r_13 t H locs ht hvm hr_13 hB hz1 hk1 hS => ?_)
  obtain ⟨hM1, hK1⟩ := hB
  rw [ht] at hM1
  have hM := mw_weaken hM1 hF
  clear hM1 hK1 hF hk1 hz1
  rw [shW_shW] at hM
  obtain ⟨g_14, eg_14⟩ : ∃ z9 : Nat → Int32, z9 = apF g_11 q_12 (115 :: numB sc) := ⟨_, rfl⟩
  obtain ⟨q_15, eq_15⟩ : ∃ z9 : Nat, z9 = q_12 + ((numB sc).length + 1) := ⟨_, rfl⟩
  rw [← eg_14, ← eq_15] at hM
  refine lv_aload_n hx hb d_S_putRow_44 rfl (lv_at hl 0 rfl) ?_
  refine lv_bipush (v := 61) hx hb d_S_putRow_45 (by decide) ?_
  have hF := mw_free hM hS hA
  refine va_callv (va_runV (As := [.int 61]) (rest := []) ⟨hx, hb, hml, hown, hta⟩ (k_S_put l G q0 cB ty2 (shW w cB sh by_ g_14 q_15) (shW_s (w := w) (cB := cB) (sh := sh) (by_ := by_) (g := g_14) (n := q_15)) (shW_b (w := w) (cB := cB) (g := g_14) (n := q_15) hne) (by omega) 61 (by decide) _) (cV 1 hta aw_494 aw_4 aw_491 aw_493 as_SceneTimes_Sheet_put rfl rfl (by decide +kernel) ⟨Nat.le_of_ble_eq_true rfl, Nat.le_of_ble_eq_true rfl⟩) (pZ_V hK hM rfl (shW_s (w := w) (cB := cB) (sh := sh) (by_ := by_) (g := g_14) (n := q_15))) rfl rfl hl.1 rfl (lv_room (Nat.le_of_ble_eq_true rfl)) d_S_putRow_47 ⟨Nat.le_of_ble_eq_true rfl, Nat.le_of_ble_eq_true rfl⟩) hS (fun q _ h => hF q h) hF (fun u_r_16 t H locs ht hvm hr_16 hB hz1 hk1 hS => ?_)
  obtain ⟨hM1, hK1⟩ := hB
  rw [ht] at hM1
  have hM := mw_weaken hM1 hF
  clear hM1 hK1 hF hk1 hz1
  rw [shW_shW] at hM
  obtain ⟨g_17, eg_17⟩ : ∃ z9 : Nat → Int32, z9 = upd g_14 q_15 61 := ⟨_, rfl⟩
  obtain ⟨q_18, eq_18⟩ : ∃ z9 : Nat, z9 = q_15 + 1 := ⟨_, rfl⟩
  rw [← eg_17, ← eq_18] at hM
  refine lv_aload_n hx hb d_S_putRow_50 rfl (lv_at hl 2 rfl) ?_
  refine m_get (D := G) (ci := 5) (v := .int va) (C := nR_T) (T := nT_T) (N := 4) hx hb hta in_T hown hK hM (by rw [shW_o nb1 nb2]; exact hb7) rfl 1 (by decide) (hta _ aw_256) (fun _ h9 => h9) rfl d_S_putRow_51 ?_
  refine lv_if_ge (tgt := 63) hx hb d_S_putRow_54 (by decide) (fun c_19 => ?_) (fun c_19 => ?_)
  · refine lv_aload_n hx hb d_S_putRow_63 rfl (lv_at hl 0 rfl) ?_
    refine lv_aload_n hx hb d_S_putRow_64 rfl (lv_at hl 2 rfl) ?_
    refine m_get (D := G) (ci := 5) (v := .int va) (C := nR_T) (T := nT_T) (N := 4) hx hb hta in_T hown hK hM (by rw [shW_o nb1 nb2]; exact hb7) rfl 1 (by decide) (hta _ aw_256) (fun _ h9 => h9) rfl d_S_putRow_65 ?_
    rw [if_neg (Int32.not_lt.mpr c_19)] at hlen2
    simp only [List.length_nil] at hlen2
    refine va_mabs hx hb (hml.trans hl.1.symm) hown (hta _ aw_503) (hta _ aw_504) (hta _ aw_15) (hta _ aw_505) (Nat.le_of_ble_eq_true rfl) (Nat.le_of_ble_eq_true rfl) (Nat.le_of_ble_eq_true rfl) (Nat.le_of_ble_eq_true rfl) d_S_putRow_68 ?_
    have hF := mw_free hM hS hA
    refine va_callv (va_runV (As := [.int (abv va)]) (rest := []) ⟨hx, hb, hml, hown, hta⟩ (k_S_putDigits l G q0 cB ty2 (shW w cB sh by_ g_17 q_18) (shW_s (w := w) (cB := cB) (sh := sh) (by_ := by_) (g := g_17) (n := q_18)) (shW_b (w := w) (cB := cB) (g := g_17) (n := q_18) hne) (abv va) hab.1 (by rw [hab.2]; exact hva) (by omega) _) (cV 1 hta aw_498 aw_4 aw_495 aw_497 as_SceneTimes_Sheet_putDigits rfl rfl (by decide +kernel) ⟨Nat.le_of_ble_eq_true rfl, Nat.le_of_ble_eq_true rfl⟩) (pZ_V hK hM rfl (shW_s (w := w) (cB := cB) (sh := sh) (by_ := by_) (g := g_17) (n := q_18))) rfl rfl hl.1 rfl (lv_room (Nat.le_of_ble_eq_true rfl)) d_S_putRow_71 ⟨Nat.le_of_ble_eq_true rfl, Nat.le_of_ble_eq_true rfl⟩) hS (fun q _ h => hF q h) hF (fun u_r_20 t H locs ht hvm hr_20 hB hz1 hk1 hS => ?_)
    obtain ⟨hM1, hK1⟩ := hB
    rw [ht] at hM1
    have hM := mw_weaken hM1 hF
    clear hM1 hK1 hF hk1 hz1
    rw [shW_shW] at hM
    obtain ⟨g_21, eg_21⟩ : ∃ z9 : Nat → Int32, z9 = apF g_17 q_18 (numB (abv va)) := ⟨_, rfl⟩
    obtain ⟨q_22, eq_22⟩ : ∃ z9 : Nat, z9 = q_18 + (numB (abv va)).length := ⟨_, rfl⟩
    rw [← eg_21, ← eq_22] at hM
    refine lv_aload_n hx hb d_S_putRow_74 rfl (lv_at hl 2 rfl) ?_
    refine m_get (D := G) (ci := 5) (v := .int z) (C := nR_T) (T := nT_T) (N := 4) hx hb hta in_T hown hK hM (by rw [shW_o nb1 nb2]; exact hb7) rfl 2 (by decide) (hta _ aw_261) (fun _ h9 => h9) rfl d_S_putRow_75 ?_
    refine lv_if_eq (tgt := 87) hx hb d_S_putRow_78 (by decide) (fun c_23 => ?_) (fun c_23 => ?_)
    · refine lv_aload_n hx hb d_S_putRow_87 rfl (lv_at hl 0 rfl) ?_
      refine lv_bipush (v := 59) hx hb d_S_putRow_88 (by decide) ?_
      rw [if_pos c_23] at hlen2
      simp only [List.length_nil] at hlen2
      have hF := mw_free hM hS hA
      refine va_callv (va_runV (As := [.int 59]) (rest := []) ⟨hx, hb, hml, hown, hta⟩ (k_S_put l G q0 cB ty2 (shW w cB sh by_ g_21 q_22) (shW_s (w := w) (cB := cB) (sh := sh) (by_ := by_) (g := g_21) (n := q_22)) (shW_b (w := w) (cB := cB) (g := g_21) (n := q_22) hne) (by omega) 59 (by decide) _) (cV 1 hta aw_494 aw_4 aw_491 aw_493 as_SceneTimes_Sheet_put rfl rfl (by decide +kernel) ⟨Nat.le_of_ble_eq_true rfl, Nat.le_of_ble_eq_true rfl⟩) (pZ_V hK hM rfl (shW_s (w := w) (cB := cB) (sh := sh) (by_ := by_) (g := g_21) (n := q_22))) rfl rfl hl.1 rfl (lv_room (Nat.le_of_ble_eq_true rfl)) d_S_putRow_90 ⟨Nat.le_of_ble_eq_true rfl, Nat.le_of_ble_eq_true rfl⟩) hS (fun q _ h => hF q h) hF (fun u_r_24 t H locs ht hvm hr_24 hB hz1 hk1 hS => ?_)
      obtain ⟨hM1, hK1⟩ := hB
      rw [ht] at hM1
      have hM := mw_weaken hM1 hF
      clear hM1 hK1 hF hk1 hz1
      rw [shW_shW] at hM
      obtain ⟨g_25, eg_25⟩ : ∃ z9 : Nat → Int32, z9 = upd g_21 q_22 59 := ⟨_, rfl⟩
      obtain ⟨q_26, eq_26⟩ : ∃ z9 : Nat, z9 = q_22 + 1 := ⟨_, rfl⟩
      rw [← eg_25, ← eq_26] at hM
      have hfin : apF g n (numB se ++ (58 :: ((119 :: numB wr) ++ ((107 :: numB kd) ++ ((115 :: numB sc) ++ (61 :: ((if va < 0 then [45] else []) ++ (numB (abv va) ++ ((if z = 0 then [] else [120]) ++ [59]))))))))) = g_25 := by rw [apF_app, ← eg_2, ← eq_3, apF_c, ← eg_5, ← eq_6, apF_app, ← eg_8, List.length_cons, ← eq_9, apF_app, ← eg_11, List.length_cons, ← eq_12, apF_app, ← eg_14, List.length_cons, ← eq_15, apF_c, ← eg_17, ← eq_18, if_neg (Int32.not_lt.mpr c_19), List.nil_append, apF_app, ← eg_21, ← eq_22, if_pos c_23, List.nil_append, apF_c, ← eg_25, ← eq_26]; rfl
      have hq : n + (numB se ++ (58 :: ((119 :: numB wr) ++ ((107 :: numB kd) ++ ((115 :: numB sc) ++ (61 :: ((if va < 0 then [45] else []) ++ (numB (abv va) ++ ((if z = 0 then [] else [120]) ++ [59]))))))))).length = q_26 := by simp only [List.length_append, List.length_cons, if_neg (Int32.not_lt.mpr c_19), if_pos c_23, List.length_nil]; omega
      rw [← hfin, ← hq] at hM
      exact W.vret hx hb hr (fun t ht hW => ⟨⟨(), rfl, trivial, by rw [ht]; exact hM, va_K.moved hW.alike hK⟩, hS.F ht⟩) hS.2.2 d_S_putRow_93
    · refine lv_aload_n hx hb d_S_putRow_81 rfl (lv_at hl 0 rfl) ?_
      refine lv_bipush (v := 120) hx hb d_S_putRow_82 (by decide) ?_
      rw [if_neg c_23] at hlen2
      simp only [List.length_cons, List.length_nil] at hlen2
      have hF := mw_free hM hS hA
      refine va_callv (va_runV (As := [.int 120]) (rest := []) ⟨hx, hb, hml, hown, hta⟩ (k_S_put l G q0 cB ty2 (shW w cB sh by_ g_21 q_22) (shW_s (w := w) (cB := cB) (sh := sh) (by_ := by_) (g := g_21) (n := q_22)) (shW_b (w := w) (cB := cB) (g := g_21) (n := q_22) hne) (by omega) 120 (by decide) _) (cV 1 hta aw_494 aw_4 aw_491 aw_493 as_SceneTimes_Sheet_put rfl rfl (by decide +kernel) ⟨Nat.le_of_ble_eq_true rfl, Nat.le_of_ble_eq_true rfl⟩) (pZ_V hK hM rfl (shW_s (w := w) (cB := cB) (sh := sh) (by_ := by_) (g := g_21) (n := q_22))) rfl rfl hl.1 rfl (lv_room (Nat.le_of_ble_eq_true rfl)) d_S_putRow_84 ⟨Nat.le_of_ble_eq_true rfl, Nat.le_of_ble_eq_true rfl⟩) hS (fun q _ h => hF q h) hF (fun u_r_27 t H locs ht hvm hr_27 hB hz1 hk1 hS => ?_)
      obtain ⟨hM1, hK1⟩ := hB
      rw [ht] at hM1
      have hM := mw_weaken hM1 hF
      clear hM1 hK1 hF hk1 hz1
      rw [shW_shW] at hM
      obtain ⟨g_28, eg_28⟩ : ∃ z9 : Nat → Int32, z9 = upd g_21 q_22 120 := ⟨_, rfl⟩
      obtain ⟨q_29, eq_29⟩ : ∃ z9 : Nat, z9 = q_22 + 1 := ⟨_, rfl⟩
      rw [← eg_28, ← eq_29] at hM
      refine lv_aload_n hx hb d_S_putRow_87 rfl (lv_at hl 0 rfl) ?_
      refine lv_bipush (v := 59) hx hb d_S_putRow_88 (by decide) ?_
      have hF := mw_free hM hS hA
      refine va_callv (va_runV (As := [.int 59]) (rest := []) ⟨hx, hb, hml, hown, hta⟩ (k_S_put l G q0 cB ty2 (shW w cB sh by_ g_28 q_29) (shW_s (w := w) (cB := cB) (sh := sh) (by_ := by_) (g := g_28) (n := q_29)) (shW_b (w := w) (cB := cB) (g := g_28) (n := q_29) hne) (by omega) 59 (by decide) _) (cV 1 hta aw_494 aw_4 aw_491 aw_493 as_SceneTimes_Sheet_put rfl rfl (by decide +kernel) ⟨Nat.le_of_ble_eq_true rfl, Nat.le_of_ble_eq_true rfl⟩) (pZ_V hK hM rfl (shW_s (w := w) (cB := cB) (sh := sh) (by_ := by_) (g := g_28) (n := q_29))) rfl rfl hl.1 rfl (lv_room (Nat.le_of_ble_eq_true rfl)) d_S_putRow_90 ⟨Nat.le_of_ble_eq_true rfl, Nat.le_of_ble_eq_true rfl⟩) hS (fun q _ h => hF q h) hF (fun u_r_30 t H locs ht hvm hr_30 hB hz1 hk1 hS => ?_)
      obtain ⟨hM1, hK1⟩ := hB
      rw [ht] at hM1
      have hM := mw_weaken hM1 hF
      clear hM1 hK1 hF hk1 hz1
      rw [shW_shW] at hM
      obtain ⟨g_31, eg_31⟩ : ∃ z9 : Nat → Int32, z9 = upd g_28 q_29 59 := ⟨_, rfl⟩
      obtain ⟨q_32, eq_32⟩ : ∃ z9 : Nat, z9 = q_29 + 1 := ⟨_, rfl⟩
      rw [← eg_31, ← eq_32] at hM
      have hfin : apF g n (numB se ++ (58 :: ((119 :: numB wr) ++ ((107 :: numB kd) ++ ((115 :: numB sc) ++ (61 :: ((if va < 0 then [45] else []) ++ (numB (abv va) ++ ((if z = 0 then [] else [120]) ++ [59]))))))))) = g_31 := by rw [apF_app, ← eg_2, ← eq_3, apF_c, ← eg_5, ← eq_6, apF_app, ← eg_8, List.length_cons, ← eq_9, apF_app, ← eg_11, List.length_cons, ← eq_12, apF_app, ← eg_14, List.length_cons, ← eq_15, apF_c, ← eg_17, ← eq_18, if_neg (Int32.not_lt.mpr c_19), List.nil_append, apF_app, ← eg_21, ← eq_22, if_neg c_23, List.cons_append, List.nil_append, apF_c, ← eg_28, ← eq_29, apF_c, ← eg_31, ← eq_32]; rfl
      have hq : n + (numB se ++ (58 :: ((119 :: numB wr) ++ ((107 :: numB kd) ++ ((115 :: numB sc) ++ (61 :: ((if va < 0 then [45] else []) ++ (numB (abv va) ++ ((if z = 0 then [] else [120]) ++ [59]))))))))).length = q_32 := by simp only [List.length_append, List.length_cons, if_neg (Int32.not_lt.mpr c_19), if_neg c_23, List.length_nil]; omega
      rw [← hfin, ← hq] at hM
      exact W.vret hx hb hr (fun t ht hW => ⟨⟨(), rfl, trivial, by rw [ht]; exact hM, va_K.moved hW.alike hK⟩, hS.F ht⟩) hS.2.2 d_S_putRow_93
  · refine lv_aload_n hx hb d_S_putRow_57 rfl (lv_at hl 0 rfl) ?_
    refine lv_bipush (v := 45) hx hb d_S_putRow_58 (by decide) ?_
    rw [if_pos (Int32.not_le.mp c_19)] at hlen2
    simp only [List.length_cons, List.length_nil] at hlen2
    have hF := mw_free hM hS hA
    refine va_callv (va_runV (As := [.int 45]) (rest := []) ⟨hx, hb, hml, hown, hta⟩ (k_S_put l G q0 cB ty2 (shW w cB sh by_ g_17 q_18) (shW_s (w := w) (cB := cB) (sh := sh) (by_ := by_) (g := g_17) (n := q_18)) (shW_b (w := w) (cB := cB) (g := g_17) (n := q_18) hne) (by omega) 45 (by decide) _) (cV 1 hta aw_494 aw_4 aw_491 aw_493 as_SceneTimes_Sheet_put rfl rfl (by decide +kernel) ⟨Nat.le_of_ble_eq_true rfl, Nat.le_of_ble_eq_true rfl⟩) (pZ_V hK hM rfl (shW_s (w := w) (cB := cB) (sh := sh) (by_ := by_) (g := g_17) (n := q_18))) rfl rfl hl.1 rfl (lv_room (Nat.le_of_ble_eq_true rfl)) d_S_putRow_60 ⟨Nat.le_of_ble_eq_true rfl, Nat.le_of_ble_eq_true rfl⟩) hS (fun q _ h => hF q h) hF (fun u_r_33 t H locs ht hvm hr_33 hB hz1 hk1 hS => ?_)
    obtain ⟨hM1, hK1⟩ := hB
    rw [ht] at hM1
    have hM := mw_weaken hM1 hF
    clear hM1 hK1 hF hk1 hz1
    rw [shW_shW] at hM
    obtain ⟨g_34, eg_34⟩ : ∃ z9 : Nat → Int32, z9 = upd g_17 q_18 45 := ⟨_, rfl⟩
    obtain ⟨q_35, eq_35⟩ : ∃ z9 : Nat, z9 = q_18 + 1 := ⟨_, rfl⟩
    rw [← eg_34, ← eq_35] at hM
    refine lv_aload_n hx hb d_S_putRow_63 rfl (lv_at hl 0 rfl) ?_
    refine lv_aload_n hx hb d_S_putRow_64 rfl (lv_at hl 2 rfl) ?_
    refine m_get (D := G) (ci := 5) (v := .int va) (C := nR_T) (T := nT_T) (N := 4) hx hb hta in_T hown hK hM (by rw [shW_o nb1 nb2]; exact hb7) rfl 1 (by decide) (hta _ aw_256) (fun _ h9 => h9) rfl d_S_putRow_65 ?_
    refine va_mabs hx hb (hml.trans hl.1.symm) hown (hta _ aw_503) (hta _ aw_504) (hta _ aw_15) (hta _ aw_505) (Nat.le_of_ble_eq_true rfl) (Nat.le_of_ble_eq_true rfl) (Nat.le_of_ble_eq_true rfl) (Nat.le_of_ble_eq_true rfl) d_S_putRow_68 ?_
    have hF := mw_free hM hS hA
    refine va_callv (va_runV (As := [.int (abv va)]) (rest := []) ⟨hx, hb, hml, hown, hta⟩ (k_S_putDigits l G q0 cB ty2 (shW w cB sh by_ g_34 q_35) (shW_s (w := w) (cB := cB) (sh := sh) (by_ := by_) (g := g_34) (n := q_35)) (shW_b (w := w) (cB := cB) (g := g_34) (n := q_35) hne) (abv va) hab.1 (by rw [hab.2]; exact hva) (by omega) _) (cV 1 hta aw_498 aw_4 aw_495 aw_497 as_SceneTimes_Sheet_putDigits rfl rfl (by decide +kernel) ⟨Nat.le_of_ble_eq_true rfl, Nat.le_of_ble_eq_true rfl⟩) (pZ_V hK hM rfl (shW_s (w := w) (cB := cB) (sh := sh) (by_ := by_) (g := g_34) (n := q_35))) rfl rfl hl.1 rfl (lv_room (Nat.le_of_ble_eq_true rfl)) d_S_putRow_71 ⟨Nat.le_of_ble_eq_true rfl, Nat.le_of_ble_eq_true rfl⟩) hS (fun q _ h => hF q h) hF (fun u_r_36 t H locs ht hvm hr_36 hB hz1 hk1 hS => ?_)
    obtain ⟨hM1, hK1⟩ := hB
    rw [ht] at hM1
    have hM := mw_weaken hM1 hF
    clear hM1 hK1 hF hk1 hz1
    rw [shW_shW] at hM
    obtain ⟨g_37, eg_37⟩ : ∃ z9 : Nat → Int32, z9 = apF g_34 q_35 (numB (abv va)) := ⟨_, rfl⟩
    obtain ⟨q_38, eq_38⟩ : ∃ z9 : Nat, z9 = q_35 + (numB (abv va)).length := ⟨_, rfl⟩
    rw [← eg_37, ← eq_38] at hM
    refine lv_aload_n hx hb d_S_putRow_74 rfl (lv_at hl 2 rfl) ?_
    refine m_get (D := G) (ci := 5) (v := .int z) (C := nR_T) (T := nT_T) (N := 4) hx hb hta in_T hown hK hM (by rw [shW_o nb1 nb2]; exact hb7) rfl 2 (by decide) (hta _ aw_261) (fun _ h9 => h9) rfl d_S_putRow_75 ?_
    refine lv_if_eq (tgt := 87) hx hb d_S_putRow_78 (by decide) (fun c_39 => ?_) (fun c_39 => ?_)
    · refine lv_aload_n hx hb d_S_putRow_87 rfl (lv_at hl 0 rfl) ?_
      refine lv_bipush (v := 59) hx hb d_S_putRow_88 (by decide) ?_
      rw [if_pos c_39] at hlen2
      simp only [List.length_nil] at hlen2
      have hF := mw_free hM hS hA
      refine va_callv (va_runV (As := [.int 59]) (rest := []) ⟨hx, hb, hml, hown, hta⟩ (k_S_put l G q0 cB ty2 (shW w cB sh by_ g_37 q_38) (shW_s (w := w) (cB := cB) (sh := sh) (by_ := by_) (g := g_37) (n := q_38)) (shW_b (w := w) (cB := cB) (g := g_37) (n := q_38) hne) (by omega) 59 (by decide) _) (cV 1 hta aw_494 aw_4 aw_491 aw_493 as_SceneTimes_Sheet_put rfl rfl (by decide +kernel) ⟨Nat.le_of_ble_eq_true rfl, Nat.le_of_ble_eq_true rfl⟩) (pZ_V hK hM rfl (shW_s (w := w) (cB := cB) (sh := sh) (by_ := by_) (g := g_37) (n := q_38))) rfl rfl hl.1 rfl (lv_room (Nat.le_of_ble_eq_true rfl)) d_S_putRow_90 ⟨Nat.le_of_ble_eq_true rfl, Nat.le_of_ble_eq_true rfl⟩) hS (fun q _ h => hF q h) hF (fun u_r_40 t H locs ht hvm hr_40 hB hz1 hk1 hS => ?_)
      obtain ⟨hM1, hK1⟩ := hB
      rw [ht] at hM1
      have hM := mw_weaken hM1 hF
      clear hM1 hK1 hF hk1 hz1
      rw [shW_shW] at hM
      obtain ⟨g_41, eg_41⟩ : ∃ z9 : Nat → Int32, z9 = upd g_37 q_38 59 := ⟨_, rfl⟩
      obtain ⟨q_42, eq_42⟩ : ∃ z9 : Nat, z9 = q_38 + 1 := ⟨_, rfl⟩
      rw [← eg_41, ← eq_42] at hM
      have hfin : apF g n (numB se ++ (58 :: ((119 :: numB wr) ++ ((107 :: numB kd) ++ ((115 :: numB sc) ++ (61 :: ((if va < 0 then [45] else []) ++ (numB (abv va) ++ ((if z = 0 then [] else [120]) ++ [59]))))))))) = g_41 := by rw [apF_app, ← eg_2, ← eq_3, apF_c, ← eg_5, ← eq_6, apF_app, ← eg_8, List.length_cons, ← eq_9, apF_app, ← eg_11, List.length_cons, ← eq_12, apF_app, ← eg_14, List.length_cons, ← eq_15, apF_c, ← eg_17, ← eq_18, if_pos (Int32.not_le.mp c_19), List.cons_append, List.nil_append, apF_c, ← eg_34, ← eq_35, apF_app, ← eg_37, ← eq_38, if_pos c_39, List.nil_append, apF_c, ← eg_41, ← eq_42]; rfl
      have hq : n + (numB se ++ (58 :: ((119 :: numB wr) ++ ((107 :: numB kd) ++ ((115 :: numB sc) ++ (61 :: ((if va < 0 then [45] else []) ++ (numB (abv va) ++ ((if z = 0 then [] else [120]) ++ [59]))))))))).length = q_42 := by simp only [List.length_append, List.length_cons, if_pos (Int32.not_le.mp c_19), if_pos c_39, List.length_nil]; omega
      rw [← hfin, ← hq] at hM
      exact W.vret hx hb hr (fun t ht hW => ⟨⟨(), rfl, trivial, by rw [ht]; exact hM, va_K.moved hW.alike hK⟩, hS.F ht⟩) hS.2.2 d_S_putRow_93
    · refine lv_aload_n hx hb d_S_putRow_81 rfl (lv_at hl 0 rfl) ?_
      refine lv_bipush (v := 120) hx hb d_S_putRow_82 (by decide) ?_
      rw [if_neg c_39] at hlen2
      simp only [List.length_cons, List.length_nil] at hlen2
      have hF := mw_free hM hS hA
      refine va_callv (va_runV (As := [.int 120]) (rest := []) ⟨hx, hb, hml, hown, hta⟩ (k_S_put l G q0 cB ty2 (shW w cB sh by_ g_37 q_38) (shW_s (w := w) (cB := cB) (sh := sh) (by_ := by_) (g := g_37) (n := q_38)) (shW_b (w := w) (cB := cB) (g := g_37) (n := q_38) hne) (by omega) 120 (by decide) _) (cV 1 hta aw_494 aw_4 aw_491 aw_493 as_SceneTimes_Sheet_put rfl rfl (by decide +kernel) ⟨Nat.le_of_ble_eq_true rfl, Nat.le_of_ble_eq_true rfl⟩) (pZ_V hK hM rfl (shW_s (w := w) (cB := cB) (sh := sh) (by_ := by_) (g := g_37) (n := q_38))) rfl rfl hl.1 rfl (lv_room (Nat.le_of_ble_eq_true rfl)) d_S_putRow_84 ⟨Nat.le_of_ble_eq_true rfl, Nat.le_of_ble_eq_true rfl⟩) hS (fun q _ h => hF q h) hF (fun u_r_43 t H locs ht hvm hr_43 hB hz1 hk1 hS => ?_)
      obtain ⟨hM1, hK1⟩ := hB
      rw [ht] at hM1
      have hM := mw_weaken hM1 hF
      clear hM1 hK1 hF hk1 hz1
      rw [shW_shW] at hM
      obtain ⟨g_44, eg_44⟩ : ∃ z9 : Nat → Int32, z9 = upd g_37 q_38 120 := ⟨_, rfl⟩
      obtain ⟨q_45, eq_45⟩ : ∃ z9 : Nat, z9 = q_38 + 1 := ⟨_, rfl⟩
      rw [← eg_44, ← eq_45] at hM
      refine lv_aload_n hx hb d_S_putRow_87 rfl (lv_at hl 0 rfl) ?_
      refine lv_bipush (v := 59) hx hb d_S_putRow_88 (by decide) ?_
      have hF := mw_free hM hS hA
      refine va_callv (va_runV (As := [.int 59]) (rest := []) ⟨hx, hb, hml, hown, hta⟩ (k_S_put l G q0 cB ty2 (shW w cB sh by_ g_44 q_45) (shW_s (w := w) (cB := cB) (sh := sh) (by_ := by_) (g := g_44) (n := q_45)) (shW_b (w := w) (cB := cB) (g := g_44) (n := q_45) hne) (by omega) 59 (by decide) _) (cV 1 hta aw_494 aw_4 aw_491 aw_493 as_SceneTimes_Sheet_put rfl rfl (by decide +kernel) ⟨Nat.le_of_ble_eq_true rfl, Nat.le_of_ble_eq_true rfl⟩) (pZ_V hK hM rfl (shW_s (w := w) (cB := cB) (sh := sh) (by_ := by_) (g := g_44) (n := q_45))) rfl rfl hl.1 rfl (lv_room (Nat.le_of_ble_eq_true rfl)) d_S_putRow_90 ⟨Nat.le_of_ble_eq_true rfl, Nat.le_of_ble_eq_true rfl⟩) hS (fun q _ h => hF q h) hF (fun u_r_46 t H locs ht hvm hr_46 hB hz1 hk1 hS => ?_)
      obtain ⟨hM1, hK1⟩ := hB
      rw [ht] at hM1
      have hM := mw_weaken hM1 hF
      clear hM1 hK1 hF hk1 hz1
      rw [shW_shW] at hM
      obtain ⟨g_47, eg_47⟩ : ∃ z9 : Nat → Int32, z9 = upd g_44 q_45 59 := ⟨_, rfl⟩
      obtain ⟨q_48, eq_48⟩ : ∃ z9 : Nat, z9 = q_45 + 1 := ⟨_, rfl⟩
      rw [← eg_47, ← eq_48] at hM
      have hfin : apF g n (numB se ++ (58 :: ((119 :: numB wr) ++ ((107 :: numB kd) ++ ((115 :: numB sc) ++ (61 :: ((if va < 0 then [45] else []) ++ (numB (abv va) ++ ((if z = 0 then [] else [120]) ++ [59]))))))))) = g_47 := by rw [apF_app, ← eg_2, ← eq_3, apF_c, ← eg_5, ← eq_6, apF_app, ← eg_8, List.length_cons, ← eq_9, apF_app, ← eg_11, List.length_cons, ← eq_12, apF_app, ← eg_14, List.length_cons, ← eq_15, apF_c, ← eg_17, ← eq_18, if_pos (Int32.not_le.mp c_19), List.cons_append, List.nil_append, apF_c, ← eg_34, ← eq_35, apF_app, ← eg_37, ← eq_38, if_neg c_39, List.cons_append, List.nil_append, apF_c, ← eg_44, ← eq_45, apF_c, ← eg_47, ← eq_48]; rfl
      have hq : n + (numB se ++ (58 :: ((119 :: numB wr) ++ ((107 :: numB kd) ++ ((115 :: numB sc) ++ (61 :: ((if va < 0 then [45] else []) ++ (numB (abv va) ++ ((if z = 0 then [] else [120]) ++ [59]))))))))).length = q_48 := by simp only [List.length_append, List.length_cons, if_pos (Int32.not_le.mp c_19), if_neg c_39, List.length_nil]; omega
      rw [← hfin, ← hq] at hM
      exact W.vret hx hb hr (fun t ht hW => ⟨⟨(), rfl, trivial, by rw [ht]; exact hM, va_K.moved hW.alike hK⟩, hS.F ht⟩) hS.2.2 d_S_putRow_93
