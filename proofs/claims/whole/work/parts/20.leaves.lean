/-! leaves: methods that only read and answer a number -/
set_option maxHeartbeats 4000000 in
set_option maxRecDepth 100000 in
theorem k_X_isKind (l : Launch) (k : Int32) : Met l y_X_isKind (wm y_X_isKind c_X_isKind 1 (some .boolean)) ({ frames := 0, cells := 0, slots := 0, locals := 0 }) (va_Pc [.int k] (fun _ => True)) (vp_Si (fun r => r = if ¬ k < 0 ∧ ¬ 6 ≤ k then 1 else 0)) 0 0 (fun _ => False) := by
  refine Met.ofW (cc := c_X_isKind) (maxL := 1) (ret := (some .boolean)) (by decide) rfl ?_
  intro p e s m args below meth c s₁ B hml hv
  obtain ⟨rfl, -⟩ := hv
  have hx := B.exec
  have hb := B.bytes
  have hr := B.returns
  have hts := atoms_spec (ws := (wm y_X_isKind c_X_isKind 1 (some .boolean))) B.pre
  have hta : ∀ w ∈ AL, w.before _ s = true := fun w h => hts w (List.mem_cons_of_mem _ h)
  have hown : s.vm.findClass nR_X = some m.cls := findClass_of_methodNamed B.named
  have hlocks := B.notSynchronized
  have hl := lv_entry ([.int k]) (n := 1) (Nat.le_of_ble_eq_true rfl)
  rw [lg_entry_eq]
  generalize (lg_sl ([.int k]) ++ List.replicate (1 - (lg_sl ([.int k])).length) Slot.unset).toArray = ls at hl ⊢
  have hl : lv_has ls 1 [(0, .int k)] := hl
  refine lv_iload_n hx hb d_X_isKind_0 rfl (lv_at hl 0 rfl) ?_
  refine lv_if_lt (tgt := 14) hx hb d_X_isKind_1 (by decide) (fun c_1 => ?_) (fun c_1 => ?_)
  · refine lv_iconst (v := 0) hx hb d_X_isKind_14 (by decide) ?_
    exact W.zret (v := 0) hx hb hr rfl (fun t ht hW => ⟨0, rfl, by simp [c_1], ht⟩) (fun q h => nomatch h) d_X_isKind_15
  · refine lv_iload_n hx hb d_X_isKind_4 rfl (lv_at hl 0 rfl) ?_
    refine lv_bipush (v := 6) hx hb d_X_isKind_5 (by decide) ?_
    refine lv_icmp_ge (tgt := 14) hx hb d_X_isKind_7 (by decide) (fun c_2 => ?_) (fun c_2 => ?_)
    · refine lv_iconst (v := 0) hx hb d_X_isKind_14 (by decide) ?_
      exact W.zret (v := 0) hx hb hr rfl (fun t ht hW => ⟨0, rfl, by simp [c_1, c_2], ht⟩) (fun q h => nomatch h) d_X_isKind_15
    · refine lv_iconst (v := 1) hx hb d_X_isKind_10 (by decide) ?_
      refine lv_goto (tgt := 15) hx hb d_X_isKind_11 (by decide) ?_
      exact W.zret (v := 1) hx hb hr rfl (fun t ht hW => ⟨1, rfl, by simp [c_1, c_2], ht⟩) (fun q h => nomatch h) d_X_isKind_15
set_option maxHeartbeats 4000000 in
set_option maxRecDepth 100000 in
theorem k_X_isSector (l : Launch) (k : Int32) : Met l y_X_isSector (wm y_X_isSector c_X_isSector 1 (some .boolean)) ({ frames := 0, cells := 0, slots := 0, locals := 0 }) (va_Pc [.int k] (fun _ => True)) (vp_Si (fun r => r = if ¬ k < 0 ∧ ¬ 10 ≤ k then 1 else 0)) 0 0 (fun _ => False) := by
  refine Met.ofW (cc := c_X_isSector) (maxL := 1) (ret := (some .boolean)) (by decide) rfl ?_
  intro p e s m args below meth c s₁ B hml hv
  obtain ⟨rfl, -⟩ := hv
  have hx := B.exec
  have hb := B.bytes
  have hr := B.returns
  have hts := atoms_spec (ws := (wm y_X_isSector c_X_isSector 1 (some .boolean))) B.pre
  have hta : ∀ w ∈ AL, w.before _ s = true := fun w h => hts w (List.mem_cons_of_mem _ h)
  have hown : s.vm.findClass nR_X = some m.cls := findClass_of_methodNamed B.named
  have hlocks := B.notSynchronized
  have hl := lv_entry ([.int k]) (n := 1) (Nat.le_of_ble_eq_true rfl)
  rw [lg_entry_eq]
  generalize (lg_sl ([.int k]) ++ List.replicate (1 - (lg_sl ([.int k])).length) Slot.unset).toArray = ls at hl ⊢
  have hl : lv_has ls 1 [(0, .int k)] := hl
  refine lv_iload_n hx hb d_X_isSector_0 rfl (lv_at hl 0 rfl) ?_
  refine lv_if_lt (tgt := 14) hx hb d_X_isSector_1 (by decide) (fun c_1 => ?_) (fun c_1 => ?_)
  · refine lv_iconst (v := 0) hx hb d_X_isSector_14 (by decide) ?_
    exact W.zret (v := 0) hx hb hr rfl (fun t ht hW => ⟨0, rfl, by simp [c_1], ht⟩) (fun q h => nomatch h) d_X_isSector_15
  · refine lv_iload_n hx hb d_X_isSector_4 rfl (lv_at hl 0 rfl) ?_
    refine lv_bipush (v := 10) hx hb d_X_isSector_5 (by decide) ?_
    refine lv_icmp_ge (tgt := 14) hx hb d_X_isSector_7 (by decide) (fun c_2 => ?_) (fun c_2 => ?_)
    · refine lv_iconst (v := 0) hx hb d_X_isSector_14 (by decide) ?_
      exact W.zret (v := 0) hx hb hr rfl (fun t ht hW => ⟨0, rfl, by simp [c_1, c_2], ht⟩) (fun q h => nomatch h) d_X_isSector_15
    · refine lv_iconst (v := 1) hx hb d_X_isSector_10 (by decide) ?_
      refine lv_goto (tgt := 15) hx hb d_X_isSector_11 (by decide) ?_
      exact W.zret (v := 1) hx hb hr rfl (fun t ht hW => ⟨1, rfl, by simp [c_1, c_2], ht⟩) (fun q h => nomatch h) d_X_isSector_15
set_option maxHeartbeats 4000000 in
set_option maxRecDepth 100000 in
theorem k_X_isValue (l : Launch) (k : Int32) : Met l y_X_isValue (wm y_X_isValue c_X_isValue 1 (some .boolean)) ({ frames := 0, cells := 0, slots := 0, locals := 0 }) (va_Pc [.int k] (fun _ => True)) (vp_Si (fun r => r = if ¬ k < (-9999) ∧ ¬ 9999 < k then 1 else 0)) 0 0 (fun _ => False) := by
  refine Met.ofW (cc := c_X_isValue) (maxL := 1) (ret := (some .boolean)) (by decide) rfl ?_
  intro p e s m args below meth c s₁ B hml hv
  obtain ⟨rfl, -⟩ := hv
  have hx := B.exec
  have hb := B.bytes
  have hr := B.returns
  have hts := atoms_spec (ws := (wm y_X_isValue c_X_isValue 1 (some .boolean))) B.pre
  have hta : ∀ w ∈ AL, w.before _ s = true := fun w h => hts w (List.mem_cons_of_mem _ h)
  have hown : s.vm.findClass nR_X = some m.cls := findClass_of_methodNamed B.named
  have hlocks := B.notSynchronized
  have hl := lv_entry ([.int k]) (n := 1) (Nat.le_of_ble_eq_true rfl)
  rw [lg_entry_eq]
  generalize (lg_sl ([.int k]) ++ List.replicate (1 - (lg_sl ([.int k])).length) Slot.unset).toArray = ls at hl ⊢
  have hl : lv_has ls 1 [(0, .int k)] := hl
  refine lv_iload_n hx hb d_X_isValue_0 rfl (lv_at hl 0 rfl) ?_
  refine lv_sipush (v := (-9999)) hx hb d_X_isValue_1 (by decide) ?_
  refine lv_icmp_lt (tgt := 18) hx hb d_X_isValue_4 (by decide) (fun c_1 => ?_) (fun c_1 => ?_)
  · refine lv_iconst (v := 0) hx hb d_X_isValue_18 (by decide) ?_
    exact W.zret (v := 0) hx hb hr rfl (fun t ht hW => ⟨0, rfl, by simp [c_1], ht⟩) (fun q h => nomatch h) d_X_isValue_19
  · refine lv_iload_n hx hb d_X_isValue_7 rfl (lv_at hl 0 rfl) ?_
    refine lv_sipush (v := 9999) hx hb d_X_isValue_8 (by decide) ?_
    refine lv_icmp_gt (tgt := 18) hx hb d_X_isValue_11 (by decide) (fun c_2 => ?_) (fun c_2 => ?_)
    · refine lv_iconst (v := 0) hx hb d_X_isValue_18 (by decide) ?_
      exact W.zret (v := 0) hx hb hr rfl (fun t ht hW => ⟨0, rfl, by simp [c_1, c_2], ht⟩) (fun q h => nomatch h) d_X_isValue_19
    · refine lv_iconst (v := 1) hx hb d_X_isValue_14 (by decide) ?_
      refine lv_goto (tgt := 19) hx hb d_X_isValue_15 (by decide) ?_
      exact W.zret (v := 1) hx hb hr rfl (fun t ht hW => ⟨1, rfl, by simp [c_1, c_2], ht⟩) (fun q h => nomatch h) d_X_isValue_19
set_option maxHeartbeats 4000000 in
set_option maxRecDepth 100000 in
theorem k_X_oneIf (l : Launch) (k : Int32) : Met l y_X_oneIf (wm y_X_oneIf c_X_oneIf 1 (some .int)) ({ frames := 0, cells := 0, slots := 0, locals := 0 }) (va_Pc [.int k] (fun _ => True)) (vp_Si (fun r => r = if k = 0 then 0 else 1)) 0 0 (fun _ => False) := by
  refine Met.ofW (cc := c_X_oneIf) (maxL := 1) (ret := (some .int)) (by decide) rfl ?_
  intro p e s m args below meth c s₁ B hml hv
  obtain ⟨rfl, -⟩ := hv
  have hx := B.exec
  have hb := B.bytes
  have hr := B.returns
  have hts := atoms_spec (ws := (wm y_X_oneIf c_X_oneIf 1 (some .int))) B.pre
  have hta : ∀ w ∈ AL, w.before _ s = true := fun w h => hts w (List.mem_cons_of_mem _ h)
  have hown : s.vm.findClass nR_X = some m.cls := findClass_of_methodNamed B.named
  have hlocks := B.notSynchronized
  have hl := lv_entry ([.int k]) (n := 1) (Nat.le_of_ble_eq_true rfl)
  rw [lg_entry_eq]
  generalize (lg_sl ([.int k]) ++ List.replicate (1 - (lg_sl ([.int k])).length) Slot.unset).toArray = ls at hl ⊢
  have hl : lv_has ls 1 [(0, .int k)] := hl
  refine lv_iload_n hx hb d_X_oneIf_0 rfl (lv_at hl 0 rfl) ?_
  refine lv_if_eq (tgt := 8) hx hb d_X_oneIf_1 (by decide) (fun c_1 => ?_) (fun c_1 => ?_)
  · refine lv_iconst (v := 0) hx hb d_X_oneIf_8 (by decide) ?_
    exact W.iret (v := 0) hx hb hr (fun t ht hW => ⟨0, rfl, by simp [c_1], ht⟩) (fun q h => nomatch h) d_X_oneIf_9
  · refine lv_iconst (v := 1) hx hb d_X_oneIf_4 (by decide) ?_
    refine lv_goto (tgt := 9) hx hb d_X_oneIf_5 (by decide) ?_
    exact W.iret (v := 1) hx hb hr (fun t ht hW => ⟨1, rfl, by simp [c_1], ht⟩) (fun q h => nomatch h) d_X_oneIf_9
def mixv (d v : Int32) : Int32 := (((d ^^^ v) <<< ((7 : Int32) &&& 31)) ||| ((d ^^^ v).toUInt32 >>> (Int32.toUInt32 25 &&& Int32.toUInt32 31)).toInt32) + v
set_option maxHeartbeats 4000000 in
set_option maxRecDepth 100000 in
theorem k_N_mix (l : Launch) (d v : Int32) : Met l y_N_mix (wm y_N_mix c_N_mix 3 (some .int)) ({ frames := 0, cells := 0, slots := 0, locals := 0 }) (va_Pc [.int d, .int v] (fun _ => True)) (vp_Si (fun r => r = mixv d v)) 0 0 (fun _ => False) := by
  refine Met.ofW (cc := c_N_mix) (maxL := 3) (ret := (some .int)) (by decide) rfl ?_
  intro p e s m args below meth c s₁ B hml hv
  obtain ⟨rfl, -⟩ := hv
  have hx := B.exec
  have hb := B.bytes
  have hr := B.returns
  have hts := atoms_spec (ws := (wm y_N_mix c_N_mix 3 (some .int))) B.pre
  have hta : ∀ w ∈ AL, w.before _ s = true := fun w h => hts w (List.mem_cons_of_mem _ h)
  have hown : s.vm.findClass nR_N = some m.cls := findClass_of_methodNamed B.named
  have hlocks := B.notSynchronized
  have hl := lv_entry ([.int d, .int v]) (n := 3) (Nat.le_of_ble_eq_true rfl)
  rw [lg_entry_eq]
  generalize (lg_sl ([.int d, .int v]) ++ List.replicate (3 - (lg_sl ([.int d, .int v])).length) Slot.unset).toArray = ls at hl ⊢
  have hl : lv_has ls 3 [(0, .int d), (1, .int v)] := hl
  refine lv_iload_n hx hb d_N_mix_0 rfl (lv_at hl 0 rfl) ?_
  refine lv_iload_n hx hb d_N_mix_1 rfl (lv_at hl 1 rfl) ?_
  refine lv_ixor hx hb d_N_mix_2 ?_
  refine lv_istore_n (lv' := [(2, .int (d ^^^ v)), (0, .int d), (1, .int v)]) hx hb d_N_mix_3 rfl hl (by decide) rfl (fun ls hl => ?_)
  refine lv_iload_n hx hb d_N_mix_4 rfl (lv_at hl 0 rfl) ?_
  refine lv_bipush (v := 7) hx hb d_N_mix_5 (by decide) ?_
  refine lv_ishl hx hb d_N_mix_7 ?_
  refine lv_iload_n hx hb d_N_mix_8 rfl (lv_at hl 0 rfl) ?_
  refine lv_bipush (v := 25) hx hb d_N_mix_9 (by decide) ?_
  refine lv_iushr hx hb d_N_mix_11 rfl ?_
  refine lv_ior hx hb d_N_mix_12 ?_
  refine lv_iload_n hx hb d_N_mix_13 rfl (lv_at hl 2 rfl) ?_
  refine lv_iadd hx hb d_N_mix_14 ?_
  exact W.iret (v := (((d ^^^ v) <<< (7 &&& 31)) ||| (((d ^^^ v).toUInt32 >>> (Int32.toUInt32 25 &&& Int32.toUInt32 31)).toInt32)) + v) hx hb hr (fun t ht hW => ⟨(((d ^^^ v) <<< (7 &&& 31)) ||| (((d ^^^ v).toUInt32 >>> (Int32.toUInt32 25 &&& Int32.toUInt32 31)).toInt32)) + v, rfl, rfl, ht⟩) (fun q h => nomatch h) d_N_mix_15
set_option maxHeartbeats 4000000 in
set_option maxRecDepth 100000 in
theorem k_M_mix (l : Launch) (d v : Int32) : Met l y_M_mix (wm y_M_mix c_M_mix 3 (some .int)) ({ frames := 0, cells := 0, slots := 0, locals := 0 }) (va_Pc [.int d, .int v] (fun _ => True)) (vp_Si (fun r => r = mixv d v)) 0 0 (fun _ => False) := by
  refine Met.ofW (cc := c_M_mix) (maxL := 3) (ret := (some .int)) (by decide) rfl ?_
  intro p e s m args below meth c s₁ B hml hv
  obtain ⟨rfl, -⟩ := hv
  have hx := B.exec
  have hb := B.bytes
  have hr := B.returns
  have hts := atoms_spec (ws := (wm y_M_mix c_M_mix 3 (some .int))) B.pre
  have hta : ∀ w ∈ AL, w.before _ s = true := fun w h => hts w (List.mem_cons_of_mem _ h)
  have hown : s.vm.findClass nR_M = some m.cls := findClass_of_methodNamed B.named
  have hlocks := B.notSynchronized
  have hl := lv_entry ([.int d, .int v]) (n := 3) (Nat.le_of_ble_eq_true rfl)
  rw [lg_entry_eq]
  generalize (lg_sl ([.int d, .int v]) ++ List.replicate (3 - (lg_sl ([.int d, .int v])).length) Slot.unset).toArray = ls at hl ⊢
  have hl : lv_has ls 3 [(0, .int d), (1, .int v)] := hl
  refine lv_iload_n hx hb d_M_mix_0 rfl (lv_at hl 0 rfl) ?_
  refine lv_iload_n hx hb d_M_mix_1 rfl (lv_at hl 1 rfl) ?_
  refine lv_ixor hx hb d_M_mix_2 ?_
  refine lv_istore_n (lv' := [(2, .int (d ^^^ v)), (0, .int d), (1, .int v)]) hx hb d_M_mix_3 rfl hl (by decide) rfl (fun ls hl => ?_)
  refine lv_iload_n hx hb d_M_mix_4 rfl (lv_at hl 0 rfl) ?_
  refine lv_bipush (v := 7) hx hb d_M_mix_5 (by decide) ?_
  refine lv_ishl hx hb d_M_mix_7 ?_
  refine lv_iload_n hx hb d_M_mix_8 rfl (lv_at hl 0 rfl) ?_
  refine lv_bipush (v := 25) hx hb d_M_mix_9 (by decide) ?_
  refine lv_iushr hx hb d_M_mix_11 rfl ?_
  refine lv_ior hx hb d_M_mix_12 ?_
  refine lv_iload_n hx hb d_M_mix_13 rfl (lv_at hl 2 rfl) ?_
  refine lv_iadd hx hb d_M_mix_14 ?_
  exact W.iret (v := (((d ^^^ v) <<< (7 &&& 31)) ||| (((d ^^^ v).toUInt32 >>> (Int32.toUInt32 25 &&& Int32.toUInt32 31)).toInt32)) + v) hx hb hr (fun t ht hW => ⟨(((d ^^^ v) <<< (7 &&& 31)) ||| (((d ^^^ v).toUInt32 >>> (Int32.toUInt32 25 &&& Int32.toUInt32 31)).toInt32)) + v, rfl, rfl, ht⟩) (fun q h => nomatch h) d_M_mix_15
set_option maxHeartbeats 4000000 in
set_option maxRecDepth 100000 in
theorem k_M_in (l : Launch) (x a b : Int32) : Met l y_M_in (wm y_M_in c_M_in 3 (some .boolean)) ({ frames := 0, cells := 0, slots := 0, locals := 0 }) (va_Pc [.int x, .int a, .int b] (fun _ => True)) (vp_Si (fun r => r = if ¬ x < a ∧ ¬ b < x then 1 else 0)) 0 0 (fun _ => False) := by
  refine Met.ofW (cc := c_M_in) (maxL := 3) (ret := (some .boolean)) (by decide) rfl ?_
  intro p e s m args below meth c s₁ B hml hv
  obtain ⟨rfl, -⟩ := hv
  have hx := B.exec
  have hb := B.bytes
  have hr := B.returns
  have hts := atoms_spec (ws := (wm y_M_in c_M_in 3 (some .boolean))) B.pre
  have hta : ∀ w ∈ AL, w.before _ s = true := fun w h => hts w (List.mem_cons_of_mem _ h)
  have hown : s.vm.findClass nR_M = some m.cls := findClass_of_methodNamed B.named
  have hlocks := B.notSynchronized
  have hl := lv_entry ([.int x, .int a, .int b]) (n := 3) (Nat.le_of_ble_eq_true rfl)
  rw [lg_entry_eq]
  generalize (lg_sl ([.int x, .int a, .int b]) ++ List.replicate (3 - (lg_sl ([.int x, .int a, .int b])).length) Slot.unset).toArray = ls at hl ⊢
  have hl : lv_has ls 3 [(0, .int x), (1, .int a), (2, .int b)] := hl
  refine lv_iload_n hx hb d_M_in_0 rfl (lv_at hl 0 rfl) ?_
  refine lv_iload_n hx hb d_M_in_1 rfl (lv_at hl 1 rfl) ?_
  refine lv_icmp_lt (tgt := 14) hx hb d_M_in_2 (by decide) (fun c_1 => ?_) (fun c_1 => ?_)
  · refine lv_iconst (v := 0) hx hb d_M_in_14 (by decide) ?_
    exact W.zret (v := 0) hx hb hr rfl (fun t ht hW => ⟨0, rfl, by simp [c_1], ht⟩) (fun q h => nomatch h) d_M_in_15
  · refine lv_iload_n hx hb d_M_in_5 rfl (lv_at hl 0 rfl) ?_
    refine lv_iload_n hx hb d_M_in_6 rfl (lv_at hl 2 rfl) ?_
    refine lv_icmp_gt (tgt := 14) hx hb d_M_in_7 (by decide) (fun c_2 => ?_) (fun c_2 => ?_)
    · refine lv_iconst (v := 0) hx hb d_M_in_14 (by decide) ?_
      exact W.zret (v := 0) hx hb hr rfl (fun t ht hW => ⟨0, rfl, by simp [c_1, c_2], ht⟩) (fun q h => nomatch h) d_M_in_15
    · refine lv_iconst (v := 1) hx hb d_M_in_10 (by decide) ?_
      refine lv_goto (tgt := 15) hx hb d_M_in_11 (by decide) ?_
      exact W.zret (v := 1) hx hb hr rfl (fun t ht hW => ⟨1, rfl, by simp [c_1, c_2], ht⟩) (fun q h => nomatch h) d_M_in_15
def flrv (x y : Int32) : Int32 := if x / y * y ≤ x then x / y else x / y - 1
def flrd (x y : Int32) : Int32 := if 0 ≤ x ^^^ y then x / y else if x / y * y = x then x / y else x / y - 1
set_option maxHeartbeats 4000000 in
set_option maxRecDepth 100000 in
theorem k_M_floor (l : Launch) (x y : Int32) (hy : ¬ y = 0) : Met l y_M_floor (wm y_M_floor c_M_floor 3 (some .int)) ({ frames := 0, cells := 0, slots := 0, locals := 0 }) (va_Pc [.int x, .int y] (fun _ => True)) (vp_Si (fun r => r = flrv x y)) 0 0 (fun _ => False) := by
  refine Met.ofW (cc := c_M_floor) (maxL := 3) (ret := (some .int)) (by decide) rfl ?_
  intro p e s m args below meth c s₁ B hml hv
  obtain ⟨rfl, -⟩ := hv
  have hx := B.exec
  have hb := B.bytes
  have hr := B.returns
  have hts := atoms_spec (ws := (wm y_M_floor c_M_floor 3 (some .int))) B.pre
  have hta : ∀ w ∈ AL, w.before _ s = true := fun w h => hts w (List.mem_cons_of_mem _ h)
  have hown : s.vm.findClass nR_M = some m.cls := findClass_of_methodNamed B.named
  have hlocks := B.notSynchronized
  have hl := lv_entry ([.int x, .int y]) (n := 3) (Nat.le_of_ble_eq_true rfl)
  rw [lg_entry_eq]
  generalize (lg_sl ([.int x, .int y]) ++ List.replicate (3 - (lg_sl ([.int x, .int y])).length) Slot.unset).toArray = ls at hl ⊢
  have hl : lv_has ls 3 [(0, .int x), (1, .int y)] := hl
  refine lv_iload_n hx hb d_M_floor_0 rfl (lv_at hl 0 rfl) ?_
  refine lv_iload_n hx hb d_M_floor_1 rfl (lv_at hl 1 rfl) ?_
  refine lv_idiv hx hb d_M_floor_2 (hy) ?_
  refine lv_istore_n (lv' := [(2, .int (x / y)), (0, .int x), (1, .int y)]) hx hb d_M_floor_3 rfl hl (by decide) rfl (fun ls hl => ?_)
  refine lv_iload_n hx hb d_M_floor_4 rfl (lv_at hl 0 rfl) ?_
  refine lv_iload_n hx hb d_M_floor_5 rfl (lv_at hl 2 rfl) ?_
  refine lv_imul hx hb d_M_floor_6 ?_
  refine lv_iload_n hx hb d_M_floor_7 rfl (lv_at hl 1 rfl) ?_
  refine lv_icmp_le (tgt := 17) hx hb d_M_floor_8 (by decide) (fun c_1 => ?_) (fun c_1 => ?_)
  · refine lv_iload_n hx hb d_M_floor_17 rfl (lv_at hl 0 rfl) ?_
    exact W.iret (v := x / y) hx hb hr (fun t ht hW => ⟨x / y, rfl, by simp [flrv, c_1], ht⟩) (fun q h => nomatch h) d_M_floor_18
  · refine lv_iload_n hx hb d_M_floor_11 rfl (lv_at hl 0 rfl) ?_
    refine lv_iconst (v := 1) hx hb d_M_floor_12 (by decide) ?_
    refine lv_isub hx hb d_M_floor_13 ?_
    refine lv_goto (tgt := 18) hx hb d_M_floor_14 (by decide) ?_
    exact W.iret (v := (x / y) - 1) hx hb hr (fun t ht hW => ⟨(x / y) - 1, rfl, by simp [flrv, c_1], ht⟩) (fun q h => nomatch h) d_M_floor_18
set_option maxHeartbeats 4000000 in
set_option maxRecDepth 100000 in
theorem k_J_floorDiv (l : Launch) (x y : Int32) (hy : ¬ y = 0) : Met l y_J_floorDiv (wm y_J_floorDiv c_J_floorDiv 3 (some .int)) ({ frames := 0, cells := 0, slots := 0, locals := 0 }) (va_Pc [.int x, .int y] (fun _ => True)) (vp_Si (fun r => r = flrd x y)) 0 0 (fun _ => False) := by
  refine va_MetF (cc := c_J_floorDiv) (maxL := 3) (ret := (some .int)) (by decide +kernel) rfl ?_
  intro p e s m args below meth c s₁ B hml hv
  obtain ⟨rfl, -⟩ := hv
  have hx := B.exec
  have hb := B.bytes
  have hr := B.returns
  have hts := atoms_spec (ws := (wm y_J_floorDiv c_J_floorDiv 3 (some .int))) B.pre
  have hta : ∀ w ∈ AL, w.before _ s = true := fun w h => hts w (List.mem_cons_of_mem _ h)
  have hown : s.vm.findClass nR_J = some m.cls := findClass_of_methodNamed B.named
  have hlocks := B.notSynchronized
  have hl := lv_entry ([.int x, .int y]) (n := 3) (Nat.le_of_ble_eq_true rfl)
  rw [lg_entry_eq]
  generalize (lg_sl ([.int x, .int y]) ++ List.replicate (3 - (lg_sl ([.int x, .int y])).length) Slot.unset).toArray = ls at hl ⊢
  have hl : lv_has ls 3 [(0, .int x), (1, .int y)] := hl
  refine lv_iload_n hx hb d_J_floorDiv_0 rfl (lv_at hl 0 rfl) ?_
  refine lv_iload_n hx hb d_J_floorDiv_1 rfl (lv_at hl 1 rfl) ?_
  refine lv_idiv hx hb d_J_floorDiv_2 (hy) ?_
  refine lv_istore_n (lv' := [(2, .int (x / y)), (0, .int x), (1, .int y)]) hx hb d_J_floorDiv_3 rfl hl (by decide) rfl (fun ls hl => ?_)
  refine lv_iload_n hx hb d_J_floorDiv_4 rfl (lv_at hl 1 rfl) ?_
  refine lv_iload_n hx hb d_J_floorDiv_5 rfl (lv_at hl 2 rfl) ?_
  refine lv_ixor hx hb d_J_floorDiv_6 ?_
  refine lv_if_ge (tgt := 21) hx hb d_J_floorDiv_7 (by decide) (fun c_1 => ?_) (fun c_1 => ?_)
  · refine lv_iload_n hx hb d_J_floorDiv_21 rfl (lv_at hl 0 rfl) ?_
    exact W.iret (v := x / y) hx hb hr (fun t ht hW => ⟨x / y, rfl, by simp [flrd, c_1], ht⟩) (fun q h => nomatch h) d_J_floorDiv_22
  · refine lv_iload_n hx hb d_J_floorDiv_10 rfl (lv_at hl 0 rfl) ?_
    refine lv_iload_n hx hb d_J_floorDiv_11 rfl (lv_at hl 2 rfl) ?_
    refine lv_imul hx hb d_J_floorDiv_12 ?_
    refine lv_iload_n hx hb d_J_floorDiv_13 rfl (lv_at hl 1 rfl) ?_
    refine lv_icmp_eq (tgt := 21) hx hb d_J_floorDiv_14 (by decide) (fun c_2 => ?_) (fun c_2 => ?_)
    · refine lv_iload_n hx hb d_J_floorDiv_21 rfl (lv_at hl 0 rfl) ?_
      exact W.iret (v := x / y) hx hb hr (fun t ht hW => ⟨x / y, rfl, by simp [flrd, c_1, c_2], ht⟩) (fun q h => nomatch h) d_J_floorDiv_22
    · refine lv_iload_n hx hb d_J_floorDiv_17 rfl (lv_at hl 0 rfl) ?_
      refine lv_iconst (v := 1) hx hb d_J_floorDiv_18 (by decide) ?_
      refine lv_isub hx hb d_J_floorDiv_19 ?_
      exact W.iret (v := (x / y) - 1) hx hb hr (fun t ht hW => ⟨(x / y) - 1, rfl, by simp [flrd, c_1, c_2], ht⟩) (fun q h => nomatch h) d_J_floorDiv_20
abbrev eN (nu wr kd sc se : Int32) (fi la : Nat) (ac co mx : Int32) : va_E := .inr (4, [.int nu, .int wr, .int kd, .int sc, .int se, .ref fi, .ref la, .int ac, .int co, .int mx])
abbrev eT (fr va z : Int32) (ea : Option Nat) : va_E := .inr (5, [.int fr, .int va, .int z, va_rf ea])
abbrev eX (ln qu sh : Nat) (se wr ac : Int32) : va_E := .inr (0, [.ref ln, .ref qu, .ref sh, .int se, .int wr, .int ac])
abbrev eL (bn io : Nat) (n : Int32) : va_E := .inr (1, [.ref bn, .ref io, .int n])
abbrev eQ (ro : Nat) (n kn z : Int32) : va_E := .inr (2, [.ref ro, .int n, .int kn, .int z])
abbrev eS (b : Nat) (n : Int32) : va_E := .inr (3, [.ref b, .int n])
abbrev aQ (cA : ClassId) (n : Nat) (f : Nat → Option Nat) : va_E := .inl (cA, n, .inr (.inr (.inr (.inr f))))
abbrev aI (cA : ClassId) (n : Nat) (f : Nat → Int32) : va_E := .inl (cA, n, .inl f)
abbrev aJ (cA : ClassId) (n : Nat) (f : Nat → Int64) : va_E := .inl (cA, n, .inr (.inl f))
set_option maxHeartbeats 4000000 in
set_option maxRecDepth 100000 in
theorem k_N_isWithin (l : Launch) (G : va_G) (tys : List (ClassId × FieldType)) (w : Nat → Option va_E) {a : Nat} {nu wr kd sc se : Int32} {fi la : Nat} {ac co mx : Int32} (hn : w a = some (eN nu wr kd sc se fi la ac co mx)) (f t : Int32) : Met l y_N_isWithin (wm y_N_isWithin c_N_isWithin 3 (some .boolean)) ({ frames := 0, cells := 0, slots := 0, locals := 0 }) (pW G tys w [.ref a, .int f, .int t]) (vp_Si (fun r => r = if ¬ se < f ∧ ¬ t ≤ se then 1 else 0)) 0 0 (fun _ => False) := by
  refine Met.ofW (cc := c_N_isWithin) (maxL := 3) (ret := (some .boolean)) (by decide) rfl ?_
  intro p e s m args below meth c s₁ B hml hv
  obtain ⟨rfl, hM, hK⟩ := hv
  have hx := B.exec
  have hb := B.bytes
  have hr := B.returns
  have hts := atoms_spec (ws := (wm y_N_isWithin c_N_isWithin 3 (some .boolean))) B.pre
  have hta : ∀ w ∈ AL, w.before _ s = true := fun w h => hts w (List.mem_cons_of_mem _ h)
  have hown : s.vm.findClass nR_N = some m.cls := findClass_of_methodNamed B.named
  have hlocks := B.notSynchronized
  have hl := lv_entry ([.ref a, .int f, .int t]) (n := 3) (Nat.le_of_ble_eq_true rfl)
  rw [lg_entry_eq]
  generalize (lg_sl ([.ref a, .int f, .int t]) ++ List.replicate (3 - (lg_sl ([.ref a, .int f, .int t])).length) Slot.unset).toArray = ls at hl ⊢
  have hl : lv_has ls 3 [(0, .ref a), (1, .int f), (2, .int t)] := hl
  refine lv_aload_n hx hb d_N_isWithin_0 rfl (lv_at hl 0 rfl) ?_
  refine m_get (D := G) (ci := 4) (v := .int se) (C := nR_N) (T := nT_N) (N := 10) hx hb hta in_N hown hK hM hn rfl 4 (by decide) (hta _ aw_287) (fun _ h9 => h9) rfl d_N_isWithin_1 ?_
  refine lv_iload_n hx hb d_N_isWithin_4 rfl (lv_at hl 1 rfl) ?_
  refine lv_icmp_lt (tgt := 20) hx hb d_N_isWithin_5 (by decide) (fun c_1 => ?_) (fun c_1 => ?_)
  · refine lv_iconst (v := 0) hx hb d_N_isWithin_20 (by decide) ?_
    exact W.zret (v := 0) hx hb hr rfl (fun t ht hW => ⟨0, rfl, by simp [c_1], ht⟩) (fun q h => nomatch h) d_N_isWithin_21
  · refine lv_aload_n hx hb d_N_isWithin_8 rfl (lv_at hl 0 rfl) ?_
    refine m_get (D := G) (ci := 4) (v := .int se) (C := nR_N) (T := nT_N) (N := 10) hx hb hta in_N hown hK hM hn rfl 4 (by decide) (hta _ aw_287) (fun _ h9 => h9) rfl d_N_isWithin_9 ?_
    refine lv_iload_n hx hb d_N_isWithin_12 rfl (lv_at hl 2 rfl) ?_
    refine lv_icmp_ge (tgt := 20) hx hb d_N_isWithin_13 (by decide) (fun c_2 => ?_) (fun c_2 => ?_)
    · refine lv_iconst (v := 0) hx hb d_N_isWithin_20 (by decide) ?_
      exact W.zret (v := 0) hx hb hr rfl (fun t ht hW => ⟨0, rfl, by simp [c_1, c_2], ht⟩) (fun q h => nomatch h) d_N_isWithin_21
    · refine lv_iconst (v := 1) hx hb d_N_isWithin_16 (by decide) ?_
      refine lv_goto (tgt := 21) hx hb d_N_isWithin_17 (by decide) ?_
      exact W.zret (v := 1) hx hb hr rfl (fun t ht hW => ⟨1, rfl, by simp [c_1, c_2], ht⟩) (fun q h => nomatch h) d_N_isWithin_21
set_option maxHeartbeats 4000000 in
set_option maxRecDepth 100000 in
theorem k_N_isOf (l : Launch) (G : va_G) (tys : List (ClassId × FieldType)) (w : Nat → Option va_E) {a : Nat} {nu wr kd sc se : Int32} {fi la : Nat} {ac co mx : Int32} (hn : w a = some (eN nu wr kd sc se fi la ac co mx)) (k z : Int32) : Met l y_N_isOf (wm y_N_isOf c_N_isOf 3 (some .boolean)) ({ frames := 0, cells := 0, slots := 0, locals := 0 }) (pW G tys w [.ref a, .int k, .int z]) (vp_Si (fun r => r = if (k = (-1) ∨ k = kd) ∧ (z = (-1) ∨ z = sc) then 1 else 0)) 0 0 (fun _ => False) := by
  refine Met.ofW (cc := c_N_isOf) (maxL := 3) (ret := (some .boolean)) (by decide) rfl ?_
  intro p e s m args below meth c s₁ B hml hv
  obtain ⟨rfl, hM, hK⟩ := hv
  have hx := B.exec
  have hb := B.bytes
  have hr := B.returns
  have hts := atoms_spec (ws := (wm y_N_isOf c_N_isOf 3 (some .boolean))) B.pre
  have hta : ∀ w ∈ AL, w.before _ s = true := fun w h => hts w (List.mem_cons_of_mem _ h)
  have hown : s.vm.findClass nR_N = some m.cls := findClass_of_methodNamed B.named
  have hlocks := B.notSynchronized
  have hl := lv_entry ([.ref a, .int k, .int z]) (n := 3) (Nat.le_of_ble_eq_true rfl)
  rw [lg_entry_eq]
  generalize (lg_sl ([.ref a, .int k, .int z]) ++ List.replicate (3 - (lg_sl ([.ref a, .int k, .int z])).length) Slot.unset).toArray = ls at hl ⊢
  have hl : lv_has ls 3 [(0, .ref a), (1, .int k), (2, .int z)] := hl
  refine lv_iload_n hx hb d_N_isOf_0 rfl (lv_at hl 1 rfl) ?_
  refine lv_iconst (v := (-1)) hx hb d_N_isOf_1 (by decide) ?_
  refine lv_icmp_eq (tgt := 13) hx hb d_N_isOf_2 (by decide) (fun c_1 => ?_) (fun c_1 => ?_)
  · refine lv_iload_n hx hb d_N_isOf_13 rfl (lv_at hl 2 rfl) ?_
    refine lv_iconst (v := (-1)) hx hb d_N_isOf_14 (by decide) ?_
    refine lv_icmp_eq (tgt := 26) hx hb d_N_isOf_15 (by decide) (fun c_2 => ?_) (fun c_2 => ?_)
    · refine lv_iconst (v := 1) hx hb d_N_isOf_26 (by decide) ?_
      refine lv_goto (tgt := 31) hx hb d_N_isOf_27 (by decide) ?_
      exact W.zret (v := 1) hx hb hr rfl (fun t ht hW => ⟨1, rfl, by simp [c_1, c_2], ht⟩) (fun q h => nomatch h) d_N_isOf_31
    · refine lv_iload_n hx hb d_N_isOf_18 rfl (lv_at hl 2 rfl) ?_
      refine lv_aload_n hx hb d_N_isOf_19 rfl (lv_at hl 0 rfl) ?_
      refine m_get (D := G) (ci := 4) (v := .int sc) (C := nR_N) (T := nT_N) (N := 10) hx hb hta in_N hown hK hM hn rfl 3 (by decide) (hta _ aw_285) (fun _ h9 => h9) rfl d_N_isOf_20 ?_
      refine lv_icmp_ne (tgt := 30) hx hb d_N_isOf_23 (by decide) (fun c_3 => ?_) (fun c_3 => ?_)
      · refine lv_iconst (v := 0) hx hb d_N_isOf_30 (by decide) ?_
        exact W.zret (v := 0) hx hb hr rfl (fun t ht hW => ⟨0, rfl, by simp [c_1, c_2, c_3], ht⟩) (fun q h => nomatch h) d_N_isOf_31
      · refine lv_iconst (v := 1) hx hb d_N_isOf_26 (by decide) ?_
        refine lv_goto (tgt := 31) hx hb d_N_isOf_27 (by decide) ?_
        exact W.zret (v := 1) hx hb hr rfl (fun t ht hW => ⟨1, rfl, by simp [c_1, c_2, c_3], ht⟩) (fun q h => nomatch h) d_N_isOf_31
  · refine lv_iload_n hx hb d_N_isOf_5 rfl (lv_at hl 1 rfl) ?_
    refine lv_aload_n hx hb d_N_isOf_6 rfl (lv_at hl 0 rfl) ?_
    refine m_get (D := G) (ci := 4) (v := .int kd) (C := nR_N) (T := nT_N) (N := 10) hx hb hta in_N hown hK hM hn rfl 2 (by decide) (hta _ aw_283) (fun _ h9 => h9) rfl d_N_isOf_7 ?_
    refine lv_icmp_ne (tgt := 30) hx hb d_N_isOf_10 (by decide) (fun c_4 => ?_) (fun c_4 => ?_)
    · refine lv_iconst (v := 0) hx hb d_N_isOf_30 (by decide) ?_
      exact W.zret (v := 0) hx hb hr rfl (fun t ht hW => ⟨0, rfl, by simp [c_1, c_4], ht⟩) (fun q h => nomatch h) d_N_isOf_31
    · refine lv_iload_n hx hb d_N_isOf_13 rfl (lv_at hl 2 rfl) ?_
      refine lv_iconst (v := (-1)) hx hb d_N_isOf_14 (by decide) ?_
      refine lv_icmp_eq (tgt := 26) hx hb d_N_isOf_15 (by decide) (fun c_5 => ?_) (fun c_5 => ?_)
      · refine lv_iconst (v := 1) hx hb d_N_isOf_26 (by decide) ?_
        refine lv_goto (tgt := 31) hx hb d_N_isOf_27 (by decide) ?_
        exact W.zret (v := 1) hx hb hr rfl (fun t ht hW => ⟨1, rfl, by simp [c_1, c_4, c_5], ht⟩) (fun q h => nomatch h) d_N_isOf_31
      · refine lv_iload_n hx hb d_N_isOf_18 rfl (lv_at hl 2 rfl) ?_
        refine lv_aload_n hx hb d_N_isOf_19 rfl (lv_at hl 0 rfl) ?_
        refine m_get (D := G) (ci := 4) (v := .int sc) (C := nR_N) (T := nT_N) (N := 10) hx hb hta in_N hown hK hM hn rfl 3 (by decide) (hta _ aw_285) (fun _ h9 => h9) rfl d_N_isOf_20 ?_
        refine lv_icmp_ne (tgt := 30) hx hb d_N_isOf_23 (by decide) (fun c_6 => ?_) (fun c_6 => ?_)
        · refine lv_iconst (v := 0) hx hb d_N_isOf_30 (by decide) ?_
          exact W.zret (v := 0) hx hb hr rfl (fun t ht hW => ⟨0, rfl, by simp [c_1, c_4, c_5, c_6], ht⟩) (fun q h => nomatch h) d_N_isOf_31
        · refine lv_iconst (v := 1) hx hb d_N_isOf_26 (by decide) ?_
          refine lv_goto (tgt := 31) hx hb d_N_isOf_27 (by decide) ?_
          exact W.zret (v := 1) hx hb hr rfl (fun t ht hW => ⟨1, rfl, by simp [c_1, c_4, c_5, c_6], ht⟩) (fun q h => nomatch h) d_N_isOf_31
set_option maxHeartbeats 4000000 in
set_option maxRecDepth 100000 in
theorem k_N_isReadingOf (l : Launch) (G : va_G) (tys : List (ClassId × FieldType)) (w : Nat → Option va_E) {a : Nat} {nu wr kd sc se : Int32} {fi la : Nat} {ac co mx : Int32} (hn : w a = some (eN nu wr kd sc se fi la ac co mx)) {fr va z : Int32} {ea : Option Nat} (hs : w la = some (eT fr va z ea)) (k : Int32) : Met l y_N_isReadingOf (wm y_N_isReadingOf c_N_isReadingOf 2 (some .boolean)) ({ frames := 0, cells := 0, slots := 0, locals := 0 }) (pW G tys w [.ref a, .int k]) (vp_Si (fun r => r = if kd = 2 ∧ sc = k ∧ z = 0 then 1 else 0)) 0 0 (fun _ => False) := by
  refine Met.ofW (cc := c_N_isReadingOf) (maxL := 2) (ret := (some .boolean)) (by decide) rfl ?_
  intro p e s m args below meth c s₁ B hml hv
  obtain ⟨rfl, hM, hK⟩ := hv
  have hx := B.exec
  have hb := B.bytes
  have hr := B.returns
  have hts := atoms_spec (ws := (wm y_N_isReadingOf c_N_isReadingOf 2 (some .boolean))) B.pre
  have hta : ∀ w ∈ AL, w.before _ s = true := fun w h => hts w (List.mem_cons_of_mem _ h)
  have hown : s.vm.findClass nR_N = some m.cls := findClass_of_methodNamed B.named
  have hlocks := B.notSynchronized
  have hl := lv_entry ([.ref a, .int k]) (n := 2) (Nat.le_of_ble_eq_true rfl)
  rw [lg_entry_eq]
  generalize (lg_sl ([.ref a, .int k]) ++ List.replicate (2 - (lg_sl ([.ref a, .int k])).length) Slot.unset).toArray = ls at hl ⊢
  have hl : lv_has ls 2 [(0, .ref a), (1, .int k)] := hl
  refine lv_aload_n hx hb d_N_isReadingOf_0 rfl (lv_at hl 0 rfl) ?_
  refine m_get (D := G) (ci := 4) (v := .int kd) (C := nR_N) (T := nT_N) (N := 10) hx hb hta in_N hown hK hM hn rfl 2 (by decide) (hta _ aw_283) (fun _ h9 => h9) rfl d_N_isReadingOf_1 ?_
  refine lv_iconst (v := 2) hx hb d_N_isReadingOf_4 (by decide) ?_
  refine lv_icmp_ne (tgt := 30) hx hb d_N_isReadingOf_5 (by decide) (fun c_1 => ?_) (fun c_1 => ?_)
  · refine lv_iconst (v := 0) hx hb d_N_isReadingOf_30 (by decide) ?_
    exact W.zret (v := 0) hx hb hr rfl (fun t ht hW => ⟨0, rfl, by simp [c_1], ht⟩) (fun q h => nomatch h) d_N_isReadingOf_31
  · refine lv_aload_n hx hb d_N_isReadingOf_8 rfl (lv_at hl 0 rfl) ?_
    refine m_get (D := G) (ci := 4) (v := .int sc) (C := nR_N) (T := nT_N) (N := 10) hx hb hta in_N hown hK hM hn rfl 3 (by decide) (hta _ aw_285) (fun _ h9 => h9) rfl d_N_isReadingOf_9 ?_
    refine lv_iload_n hx hb d_N_isReadingOf_12 rfl (lv_at hl 1 rfl) ?_
    refine lv_icmp_ne (tgt := 30) hx hb d_N_isReadingOf_13 (by decide) (fun c_2 => ?_) (fun c_2 => ?_)
    · refine lv_iconst (v := 0) hx hb d_N_isReadingOf_30 (by decide) ?_
      exact W.zret (v := 0) hx hb hr rfl (fun t ht hW => ⟨0, rfl, by simp [c_1, c_2], ht⟩) (fun q h => nomatch h) d_N_isReadingOf_31
    · refine lv_aload_n hx hb d_N_isReadingOf_16 rfl (lv_at hl 0 rfl) ?_
      refine m_get (D := G) (ci := 4) (v := .ref la) (C := nR_N) (T := nT_N) (N := 10) hx hb hta in_N hown hK hM hn rfl 6 (by decide) (hta _ aw_294) (fun _ h9 => h9) rfl d_N_isReadingOf_17 ?_
      refine m_get (D := G) (ci := 5) (v := .int z) (C := nR_T) (T := nT_T) (N := 4) hx hb hta in_T hown hK hM hs rfl 2 (by decide) (hta _ aw_260) (fun _ h9 => h9) rfl d_N_isReadingOf_20 ?_
      refine lv_if_ne (tgt := 30) hx hb d_N_isReadingOf_23 (by decide) (fun c_3 => ?_) (fun c_3 => ?_)
      · refine lv_iconst (v := 0) hx hb d_N_isReadingOf_30 (by decide) ?_
        exact W.zret (v := 0) hx hb hr rfl (fun t ht hW => ⟨0, rfl, by simp [c_1, c_2, c_3], ht⟩) (fun q h => nomatch h) d_N_isReadingOf_31
      · refine lv_iconst (v := 1) hx hb d_N_isReadingOf_26 (by decide) ?_
        refine lv_goto (tgt := 31) hx hb d_N_isReadingOf_27 (by decide) ?_
        exact W.zret (v := 1) hx hb hr rfl (fun t ht hW => ⟨1, rfl, by simp [c_1, c_2, c_3], ht⟩) (fun q h => nomatch h) d_N_isReadingOf_31
/-- which of two notes stands behind the other in the line -/
def behind (se wr nu se2 wr2 nu2 : Int32) : Prop := if se = se2 then (if wr = wr2 then ¬ nu ≤ nu2 else ¬ wr ≤ wr2) else ¬ se ≤ se2
set_option maxHeartbeats 4000000 in
set_option maxRecDepth 100000 in
theorem k_N_standsBehind (l : Launch) (G : va_G) (tys : List (ClassId × FieldType)) (w : Nat → Option va_E) {a : Nat} {nu wr kd sc se : Int32} {fi la : Nat} {ac co mx : Int32} (hn : w a = some (eN nu wr kd sc se fi la ac co mx)) {b : Nat} {nu2 wr2 kd2 sc2 se2 : Int32} {fi2 la2 : Nat} {ac2 co2 mx2 : Int32} (hn2 : w b = some (eN nu2 wr2 kd2 sc2 se2 fi2 la2 ac2 co2 mx2)) : Met l y_N_standsBehind (wm y_N_standsBehind c_N_standsBehind 2 (some .boolean)) ({ frames := 0, cells := 0, slots := 0, locals := 0 }) (pW G tys w [.ref a, .ref b]) (vp_Si (fun r => (r = 1 ∧ behind se wr nu se2 wr2 nu2) ∨ (r = 0 ∧ ¬ behind se wr nu se2 wr2 nu2))) 0 0 (fun _ => False) := by
  refine Met.ofW (cc := c_N_standsBehind) (maxL := 2) (ret := (some .boolean)) (by decide) rfl ?_
  intro p e s m args below meth c s₁ B hml hv
  obtain ⟨rfl, hM, hK⟩ := hv
  have hx := B.exec
  have hb := B.bytes
  have hr := B.returns
  have hts := atoms_spec (ws := (wm y_N_standsBehind c_N_standsBehind 2 (some .boolean))) B.pre
  have hta : ∀ w ∈ AL, w.before _ s = true := fun w h => hts w (List.mem_cons_of_mem _ h)
  have hown : s.vm.findClass nR_N = some m.cls := findClass_of_methodNamed B.named
  have hlocks := B.notSynchronized
  have hl := lv_entry ([.ref a, .ref b]) (n := 2) (Nat.le_of_ble_eq_true rfl)
  rw [lg_entry_eq]
  generalize (lg_sl ([.ref a, .ref b]) ++ List.replicate (2 - (lg_sl ([.ref a, .ref b])).length) Slot.unset).toArray = ls at hl ⊢
  have hl : lv_has ls 2 [(0, .ref a), (1, .ref b)] := hl
  refine lv_aload_n hx hb d_N_standsBehind_0 rfl (lv_at hl 0 rfl) ?_
  refine m_get (D := G) (ci := 4) (v := .int se) (C := nR_N) (T := nT_N) (N := 10) hx hb hta in_N hown hK hM hn rfl 4 (by decide) (hta _ aw_287) (fun _ h9 => h9) rfl d_N_standsBehind_1 ?_
  refine lv_aload_n hx hb d_N_standsBehind_4 rfl (lv_at hl 1 rfl) ?_
  refine m_get (D := G) (ci := 4) (v := .int se2) (C := nR_N) (T := nT_N) (N := 10) hx hb hta in_N hown hK hM hn2 rfl 4 (by decide) (hta _ aw_287) (fun _ h9 => h9) rfl d_N_standsBehind_5 ?_
  refine lv_icmp_eq (tgt := 28) hx hb d_N_standsBehind_8 (by decide) (fun c_1 => ?_) (fun c_1 => ?_)
  · refine lv_aload_n hx hb d_N_standsBehind_28 rfl (lv_at hl 0 rfl) ?_
    refine m_get (D := G) (ci := 4) (v := .int wr) (C := nR_N) (T := nT_N) (N := 10) hx hb hta in_N hown hK hM hn rfl 1 (by decide) (hta _ aw_280) (fun _ h9 => h9) rfl d_N_standsBehind_29 ?_
    refine lv_aload_n hx hb d_N_standsBehind_32 rfl (lv_at hl 1 rfl) ?_
    refine m_get (D := G) (ci := 4) (v := .int wr2) (C := nR_N) (T := nT_N) (N := 10) hx hb hta in_N hown hK hM hn2 rfl 1 (by decide) (hta _ aw_280) (fun _ h9 => h9) rfl d_N_standsBehind_33 ?_
    refine lv_icmp_eq (tgt := 56) hx hb d_N_standsBehind_36 (by decide) (fun c_2 => ?_) (fun c_2 => ?_)
    · refine lv_aload_n hx hb d_N_standsBehind_56 rfl (lv_at hl 0 rfl) ?_
      refine m_get (D := G) (ci := 4) (v := .int nu) (C := nR_N) (T := nT_N) (N := 10) hx hb hta in_N hown hK hM hn rfl 0 (by decide) (hta _ aw_278) (fun _ h9 => h9) rfl d_N_standsBehind_57 ?_
      refine lv_aload_n hx hb d_N_standsBehind_60 rfl (lv_at hl 1 rfl) ?_
      refine m_get (D := G) (ci := 4) (v := .int nu2) (C := nR_N) (T := nT_N) (N := 10) hx hb hta in_N hown hK hM hn2 rfl 0 (by decide) (hta _ aw_278) (fun _ h9 => h9) rfl d_N_standsBehind_61 ?_
      refine lv_icmp_le (tgt := 71) hx hb d_N_standsBehind_64 (by decide) (fun c_3 => ?_) (fun c_3 => ?_)
      · refine lv_iconst (v := 0) hx hb d_N_standsBehind_71 (by decide) ?_
        exact W.zret (v := 0) hx hb hr rfl (fun t ht hW => ⟨0, rfl, by simp [behind, c_1, c_2, c_3], ht⟩) (fun q h => nomatch h) d_N_standsBehind_72
      · refine lv_iconst (v := 1) hx hb d_N_standsBehind_67 (by decide) ?_
        refine lv_goto (tgt := 72) hx hb d_N_standsBehind_68 (by decide) ?_
        exact W.zret (v := 1) hx hb hr rfl (fun t ht hW => ⟨1, rfl, by simp [behind, c_1, c_2, c_3], ht⟩) (fun q h => nomatch h) d_N_standsBehind_72
    · refine lv_aload_n hx hb d_N_standsBehind_39 rfl (lv_at hl 0 rfl) ?_
      refine m_get (D := G) (ci := 4) (v := .int wr) (C := nR_N) (T := nT_N) (N := 10) hx hb hta in_N hown hK hM hn rfl 1 (by decide) (hta _ aw_280) (fun _ h9 => h9) rfl d_N_standsBehind_40 ?_
      refine lv_aload_n hx hb d_N_standsBehind_43 rfl (lv_at hl 1 rfl) ?_
      refine m_get (D := G) (ci := 4) (v := .int wr2) (C := nR_N) (T := nT_N) (N := 10) hx hb hta in_N hown hK hM hn2 rfl 1 (by decide) (hta _ aw_280) (fun _ h9 => h9) rfl d_N_standsBehind_44 ?_
      refine lv_icmp_le (tgt := 54) hx hb d_N_standsBehind_47 (by decide) (fun c_4 => ?_) (fun c_4 => ?_)
      · refine lv_iconst (v := 0) hx hb d_N_standsBehind_54 (by decide) ?_
        exact W.zret (v := 0) hx hb hr rfl (fun t ht hW => ⟨0, rfl, by simp [behind, c_1, c_2, c_4], ht⟩) (fun q h => nomatch h) d_N_standsBehind_55
      · refine lv_iconst (v := 1) hx hb d_N_standsBehind_50 (by decide) ?_
        refine lv_goto (tgt := 55) hx hb d_N_standsBehind_51 (by decide) ?_
        exact W.zret (v := 1) hx hb hr rfl (fun t ht hW => ⟨1, rfl, by simp [behind, c_1, c_2, c_4], ht⟩) (fun q h => nomatch h) d_N_standsBehind_55
  · refine lv_aload_n hx hb d_N_standsBehind_11 rfl (lv_at hl 0 rfl) ?_
    refine m_get (D := G) (ci := 4) (v := .int se) (C := nR_N) (T := nT_N) (N := 10) hx hb hta in_N hown hK hM hn rfl 4 (by decide) (hta _ aw_287) (fun _ h9 => h9) rfl d_N_standsBehind_12 ?_
    refine lv_aload_n hx hb d_N_standsBehind_15 rfl (lv_at hl 1 rfl) ?_
    refine m_get (D := G) (ci := 4) (v := .int se2) (C := nR_N) (T := nT_N) (N := 10) hx hb hta in_N hown hK hM hn2 rfl 4 (by decide) (hta _ aw_287) (fun _ h9 => h9) rfl d_N_standsBehind_16 ?_
    refine lv_icmp_le (tgt := 26) hx hb d_N_standsBehind_19 (by decide) (fun c_5 => ?_) (fun c_5 => ?_)
    · refine lv_iconst (v := 0) hx hb d_N_standsBehind_26 (by decide) ?_
      exact W.zret (v := 0) hx hb hr rfl (fun t ht hW => ⟨0, rfl, by simp [behind, c_1, c_5], ht⟩) (fun q h => nomatch h) d_N_standsBehind_27
    · refine lv_iconst (v := 1) hx hb d_N_standsBehind_22 (by decide) ?_
      refine lv_goto (tgt := 27) hx hb d_N_standsBehind_23 (by decide) ?_
      exact W.zret (v := 1) hx hb hr rfl (fun t ht hW => ⟨1, rfl, by simp [behind, c_1, c_5], ht⟩) (fun q h => nomatch h) d_N_standsBehind_27
set_option maxHeartbeats 4000000 in
set_option maxRecDepth 100000 in
theorem k_X_isWriter (l : Launch) (G : va_G) (tys : List (ClassId × FieldType)) (w : Nat → Option va_E) {x ln qu sh : Nat} {se wr ac : Int32} (hx0 : w x = some (eX ln qu sh se wr ac)) (k : Int32) : Met l y_X_isWriter (wm y_X_isWriter c_X_isWriter 2 (some .boolean)) ({ frames := 0, cells := 0, slots := 0, locals := 0 }) (pW G tys w [.ref x, .int k]) (vp_Si (fun r => r = if ¬ k < 0 ∧ ¬ wr ≤ k then 1 else 0)) 0 0 (fun _ => False) := by
  refine Met.ofW (cc := c_X_isWriter) (maxL := 2) (ret := (some .boolean)) (by decide) rfl ?_
  intro p e s m args below meth c s₁ B hml hv
  obtain ⟨rfl, hM, hK⟩ := hv
  have hx := B.exec
  have hb := B.bytes
  have hr := B.returns
  have hts := atoms_spec (ws := (wm y_X_isWriter c_X_isWriter 2 (some .boolean))) B.pre
  have hta : ∀ w ∈ AL, w.before _ s = true := fun w h => hts w (List.mem_cons_of_mem _ h)
  have hown : s.vm.findClass nR_X = some m.cls := findClass_of_methodNamed B.named
  have hlocks := B.notSynchronized
  have hl := lv_entry ([.ref x, .int k]) (n := 2) (Nat.le_of_ble_eq_true rfl)
  rw [lg_entry_eq]
  generalize (lg_sl ([.ref x, .int k]) ++ List.replicate (2 - (lg_sl ([.ref x, .int k])).length) Slot.unset).toArray = ls at hl ⊢
  have hl : lv_has ls 2 [(0, .ref x), (1, .int k)] := hl
  refine lv_iload_n hx hb d_X_isWriter_0 rfl (lv_at hl 1 rfl) ?_
  refine lv_if_lt (tgt := 16) hx hb d_X_isWriter_1 (by decide) (fun c_1 => ?_) (fun c_1 => ?_)
  · refine lv_iconst (v := 0) hx hb d_X_isWriter_16 (by decide) ?_
    exact W.zret (v := 0) hx hb hr rfl (fun t ht hW => ⟨0, rfl, by simp [c_1], ht⟩) (fun q h => nomatch h) d_X_isWriter_17
  · refine lv_iload_n hx hb d_X_isWriter_4 rfl (lv_at hl 1 rfl) ?_
    refine lv_aload_n hx hb d_X_isWriter_5 rfl (lv_at hl 0 rfl) ?_
    refine m_get (D := G) (ci := 0) (v := .int wr) (C := nR_X) (T := nT_X) (N := 6) hx hb hta in_X hown hK hM hx0 rfl 4 (by decide) (hta _ aw_89) (fun _ h9 => h9) rfl d_X_isWriter_6 ?_
    refine lv_icmp_ge (tgt := 16) hx hb d_X_isWriter_9 (by decide) (fun c_2 => ?_) (fun c_2 => ?_)
    · refine lv_iconst (v := 0) hx hb d_X_isWriter_16 (by decide) ?_
      exact W.zret (v := 0) hx hb hr rfl (fun t ht hW => ⟨0, rfl, by simp [c_1, c_2], ht⟩) (fun q h => nomatch h) d_X_isWriter_17
    · refine lv_iconst (v := 1) hx hb d_X_isWriter_12 (by decide) ?_
      refine lv_goto (tgt := 17) hx hb d_X_isWriter_13 (by decide) ?_
      exact W.zret (v := 1) hx hb hr rfl (fun t ht hW => ⟨1, rfl, by simp [c_1, c_2], ht⟩) (fun q h => nomatch h) d_X_isWriter_17
set_option maxHeartbeats 4000000 in
set_option maxRecDepth 100000 in
theorem k_X_hasCome (l : Launch) (G : va_G) (tys : List (ClassId × FieldType)) (w : Nat → Option va_E) {x ln qu sh : Nat} {se wr ac : Int32} (hx0 : w x = some (eX ln qu sh se wr ac)) (k : Int32) : Met l y_X_hasCome (wm y_X_hasCome c_X_hasCome 2 (some .boolean)) ({ frames := 0, cells := 0, slots := 0, locals := 0 }) (pW G tys w [.ref x, .int k]) (vp_Si (fun r => r = if ¬ k < 0 ∧ ¬ se < k then 1 else 0)) 0 0 (fun _ => False) := by
  refine Met.ofW (cc := c_X_hasCome) (maxL := 2) (ret := (some .boolean)) (by decide) rfl ?_
  intro p e s m args below meth c s₁ B hml hv
  obtain ⟨rfl, hM, hK⟩ := hv
  have hx := B.exec
  have hb := B.bytes
  have hr := B.returns
  have hts := atoms_spec (ws := (wm y_X_hasCome c_X_hasCome 2 (some .boolean))) B.pre
  have hta : ∀ w ∈ AL, w.before _ s = true := fun w h => hts w (List.mem_cons_of_mem _ h)
  have hown : s.vm.findClass nR_X = some m.cls := findClass_of_methodNamed B.named
  have hlocks := B.notSynchronized
  have hl := lv_entry ([.ref x, .int k]) (n := 2) (Nat.le_of_ble_eq_true rfl)
  rw [lg_entry_eq]
  generalize (lg_sl ([.ref x, .int k]) ++ List.replicate (2 - (lg_sl ([.ref x, .int k])).length) Slot.unset).toArray = ls at hl ⊢
  have hl : lv_has ls 2 [(0, .ref x), (1, .int k)] := hl
  refine lv_iload_n hx hb d_X_hasCome_0 rfl (lv_at hl 1 rfl) ?_
  refine lv_if_lt (tgt := 16) hx hb d_X_hasCome_1 (by decide) (fun c_1 => ?_) (fun c_1 => ?_)
  · refine lv_iconst (v := 0) hx hb d_X_hasCome_16 (by decide) ?_
    exact W.zret (v := 0) hx hb hr rfl (fun t ht hW => ⟨0, rfl, by simp [c_1], ht⟩) (fun q h => nomatch h) d_X_hasCome_17
  · refine lv_iload_n hx hb d_X_hasCome_4 rfl (lv_at hl 1 rfl) ?_
    refine lv_aload_n hx hb d_X_hasCome_5 rfl (lv_at hl 0 rfl) ?_
    refine m_get (D := G) (ci := 0) (v := .int se) (C := nR_X) (T := nT_X) (N := 6) hx hb hta in_X hown hK hM hx0 rfl 3 (by decide) (hta _ aw_88) (fun _ h9 => h9) rfl d_X_hasCome_6 ?_
    refine lv_icmp_gt (tgt := 16) hx hb d_X_hasCome_9 (by decide) (fun c_2 => ?_) (fun c_2 => ?_)
    · refine lv_iconst (v := 0) hx hb d_X_hasCome_16 (by decide) ?_
      exact W.zret (v := 0) hx hb hr rfl (fun t ht hW => ⟨0, rfl, by simp [c_1, c_2], ht⟩) (fun q h => nomatch h) d_X_hasCome_17
    · refine lv_iconst (v := 1) hx hb d_X_hasCome_12 (by decide) ?_
      refine lv_goto (tgt := 17) hx hb d_X_hasCome_13 (by decide) ?_
      exact W.zret (v := 1) hx hb hr rfl (fun t ht hW => ⟨1, rfl, by simp [c_1, c_2], ht⟩) (fun q h => nomatch h) d_X_hasCome_17
