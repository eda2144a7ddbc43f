/-! the reference made -/
set_option maxHeartbeats 4000000 in
set_option maxRecDepth 100000 in
theorem k_M_init (l : Launch) (G : va_G) (q0 q1 : ClassId × FieldType) (cI : ClassId) (ty2 : List (ClassId × FieldType)) (w : Nat → Option va_E) {a : Nat} (ha : w a = some (.inr (6, [.int 0, .int 0, .int 0, .int 0, .null, .null, .null, .null, .null, .null, .int 0, .null, .null, .null, .null, .int 0, .int 0, .int 0, .null, .int 0, .null]))) (sz : Nat) : Met l y_M_init (wm y_M_init c_M_init 1 none) ({ frames := 1, cells := 12, slots := 3900, locals := 12 }) (pZ G (q0 :: q1 :: (cI, .int) :: ty2) w sz [.ref a]) (va_Qv (fun (u : (Nat → Option va_E) × (Nat → Nat)) => (∀ i j, i < 12 → j < 12 → u.2 i = u.2 j → i = j) ∧ mPic u.1 a cI u.2 (fun _ _ => 0) 0 0 0 0 0 0 0 0 0) (fun u t => mw G ncl (mA w sz) u.1 t.heap ∧ va_K G ncl (q0 :: q1 :: (cI, .int) :: ty2) t) (mA w sz)) 12 3900 (mA w sz) := by
  refine Met.ofW (cc := c_M_init) (maxL := 1) (ret := none) (by decide) rfl ?_
  intro p e s m args below meth c s₁ B hml hv
  obtain ⟨rfl, hsz, hM0, hK⟩ := hv
  have hx := B.exec
  have hb := B.bytes
  have hr := B.returns
  have hts := atoms_spec (ws := (wm y_M_init c_M_init 1 none)) B.pre
  have hta : ∀ w ∈ AL, w.before _ s = true := fun w h => hts w (List.mem_cons_of_mem _ h)
  have hown : s.vm.findClass nR_M = some m.cls := findClass_of_methodNamed B.named
  have hlocks := B.notSynchronized
  have hl := lv_entry ([.ref a]) (n := 1) (Nat.le_of_ble_eq_true rfl)
  rw [lg_entry_eq]
  generalize (lg_sl ([.ref a]) ++ List.replicate (1 - (lg_sl ([.ref a])).length) Slot.unset).toArray = ls at hl ⊢
  have hl : lv_has ls 1 [(0, .ref a)] := hl
  subst hsz
  have hM := mw_self (sz := s.heap.size) hM0
  clear hM0
  generalize hAe : mA w s.heap.size = A at hM ⊢
  have hA : ∀ q : Nat, s.heap.size ≤ q → A q := fun q h => by rw [← hAe]; exact Or.inr h
  have hS : va_S A s.heap s.heap [] := va_S.rf
  have hin : meth.name = "<init>" := (name_of_methodNamed B.named B.method).1
  refine lv_aload_n hx hb d_M_init_0 rfl (lv_at hl 0 rfl) ?_
  refine W.objInit hx hb hown (hta _ aw_542) (hta _ aw_22) (hta _ aw_23) rfl (by rw [hml]; exact hl.1) rfl d_M_init_1 (Nat.le_of_ble_eq_true rfl) (Nat.le_of_ble_eq_true rfl) ?_
  refine lv_aload_n hx hb d_M_init_4 rfl (lv_at hl 0 rfl) ?_
  refine lv_bipush (v := 100) hx hb d_M_init_5 (by decide) ?_
  refine m_newaT (atype := .int) (ty := .int) hx hb (hta _ aw_607) rfl hK hM hS hA (t0 := 2) rfl (n := 100) (N' := 100) (a0 := (100, .inl (fun _ => 0))) (fun _ => rfl) (by decide) (by decide) (by decide) (Nat.le_of_ble_eq_true rfl) (Nat.le_of_ble_eq_true rfl) d_M_init_7 (fun q_1 H nq_1 hM hS => ?_)
  obtain ⟨w_2, hw_2⟩ : ∃ z9 : Nat → Option va_E, z9 = va_up w q_1 (some (.inl (cI, 100, .inl (fun _ => 0)))) := ⟨_, rfl⟩
  rw [← hw_2] at hM
  have k_3 : w_2 a = some (.inr (6, [.int 0, .int 0, .int 0, .int 0, .null, .null, .null, .null, .null, .null, .int 0, .null, .null, .null, .null, .int 0, .int 0, .int 0, .null, .int 0, .null])) := by rw [hw_2, va_up_ne _ _ (m_newne ha nq_1)]; exact ha
  have k_4 : w_2 q_1 = some (.inl (cI, 100, .inl (fun _ => 0))) := by rw [hw_2, va_up_self]
  refine m_putF (D := G) (ci := 6) (v := .ref q_1) (ty := .array .int) (C := nR_M) (T := nT_M) (N := 21) hx hb hta in_M nt_M nt_M_ok nn_M hown hK hM hS k_3 rfl 4 (by decide) (hta _ aw_547) (fun _ h9 => h9) rfl hin rfl (by decide +kernel) rfl rfl (Nat.le_of_ble_eq_true rfl) d_M_init_9 (fs' := [.int 0, .int 0, .int 0, .int 0, .ref q_1, .null, .null, .null, .null, .null, .int 0, .null, .null, .null, .null, .int 0, .int 0, .int 0, .null, .int 0, .null]) rfl (fun H locs hM hS => ?_)
  obtain ⟨w_5, hw_5⟩ : ∃ z9 : Nat → Option va_E, z9 = va_up w_2 a (some (.inr (6, [.int 0, .int 0, .int 0, .int 0, .ref q_1, .null, .null, .null, .null, .null, .int 0, .null, .null, .null, .null, .int 0, .int 0, .int 0, .null, .int 0, .null]))) := ⟨_, rfl⟩
  rw [← hw_5] at hM
  have k_6 : w_5 a = some (.inr (6, [.int 0, .int 0, .int 0, .int 0, .ref q_1, .null, .null, .null, .null, .null, .int 0, .null, .null, .null, .null, .int 0, .int 0, .int 0, .null, .int 0, .null])) := by rw [hw_5, va_up_self]
  have k_7 : w_5 q_1 = some (.inl (cI, 100, .inl (fun _ => 0))) := by rw [hw_5, va_up_ne _ _ (Ne.symm (m_newne ha nq_1))]; exact k_4
  refine lv_aload_n hx hb d_M_init_12 rfl (lv_at hl 0 rfl) ?_
  refine lv_bipush (v := 100) hx hb d_M_init_13 (by decide) ?_
  refine m_newaT (atype := .int) (ty := .int) hx hb (hta _ aw_607) rfl hK hM hS hA (t0 := 2) rfl (n := 100) (N' := 100) (a0 := (100, .inl (fun _ => 0))) (fun _ => rfl) (by decide) (by decide) (by decide) (Nat.le_of_ble_eq_true rfl) (Nat.le_of_ble_eq_true rfl) d_M_init_15 (fun q_8 H nq_8 hM hS => ?_)
  obtain ⟨w_9, hw_9⟩ : ∃ z9 : Nat → Option va_E, z9 = va_up w_5 q_8 (some (.inl (cI, 100, .inl (fun _ => 0)))) := ⟨_, rfl⟩
  rw [← hw_9] at hM
  have k_10 : w_9 a = some (.inr (6, [.int 0, .int 0, .int 0, .int 0, .ref q_1, .null, .null, .null, .null, .null, .int 0, .null, .null, .null, .null, .int 0, .int 0, .int 0, .null, .int 0, .null])) := by rw [hw_9, va_up_ne _ _ (m_newne k_6 nq_8)]; exact k_6
  have k_11 : w_9 q_1 = some (.inl (cI, 100, .inl (fun _ => 0))) := by rw [hw_9, va_up_ne _ _ (m_newne k_7 nq_8)]; exact k_7
  have k_12 : w_9 q_8 = some (.inl (cI, 100, .inl (fun _ => 0))) := by rw [hw_9, va_up_self]
  refine m_putF (D := G) (ci := 6) (v := .ref q_8) (ty := .array .int) (C := nR_M) (T := nT_M) (N := 21) hx hb hta in_M nt_M nt_M_ok nn_M hown hK hM hS k_10 rfl 5 (by decide) (hta _ aw_548) (fun _ h9 => h9) rfl hin rfl (by decide +kernel) rfl rfl (Nat.le_of_ble_eq_true rfl) d_M_init_17 (fs' := [.int 0, .int 0, .int 0, .int 0, .ref q_1, .ref q_8, .null, .null, .null, .null, .int 0, .null, .null, .null, .null, .int 0, .int 0, .int 0, .null, .int 0, .null]) rfl (fun H locs hM hS => ?_)
  obtain ⟨w_13, hw_13⟩ : ∃ z9 : Nat → Option va_E, z9 = va_up w_9 a (some (.inr (6, [.int 0, .int 0, .int 0, .int 0, .ref q_1, .ref q_8, .null, .null, .null, .null, .int 0, .null, .null, .null, .null, .int 0, .int 0, .int 0, .null, .int 0, .null]))) := ⟨_, rfl⟩
  rw [← hw_13] at hM
  have k_14 : w_13 a = some (.inr (6, [.int 0, .int 0, .int 0, .int 0, .ref q_1, .ref q_8, .null, .null, .null, .null, .int 0, .null, .null, .null, .null, .int 0, .int 0, .int 0, .null, .int 0, .null])) := by rw [hw_13, va_up_self]
  have k_15 : w_13 q_1 = some (.inl (cI, 100, .inl (fun _ => 0))) := by rw [hw_13, va_up_ne _ _ (Ne.symm (m_newne ha nq_1))]; exact k_11
  have k_16 : w_13 q_8 = some (.inl (cI, 100, .inl (fun _ => 0))) := by rw [hw_13, va_up_ne _ _ (Ne.symm (m_newne k_6 nq_8))]; exact k_12
  refine lv_aload_n hx hb d_M_init_20 rfl (lv_at hl 0 rfl) ?_
  refine lv_bipush (v := 100) hx hb d_M_init_21 (by decide) ?_
  refine m_newaT (atype := .int) (ty := .int) hx hb (hta _ aw_607) rfl hK hM hS hA (t0 := 2) rfl (n := 100) (N' := 100) (a0 := (100, .inl (fun _ => 0))) (fun _ => rfl) (by decide) (by decide) (by decide) (Nat.le_of_ble_eq_true rfl) (Nat.le_of_ble_eq_true rfl) d_M_init_23 (fun q_17 H nq_17 hM hS => ?_)
  obtain ⟨w_18, hw_18⟩ : ∃ z9 : Nat → Option va_E, z9 = va_up w_13 q_17 (some (.inl (cI, 100, .inl (fun _ => 0)))) := ⟨_, rfl⟩
  rw [← hw_18] at hM
  have k_19 : w_18 a = some (.inr (6, [.int 0, .int 0, .int 0, .int 0, .ref q_1, .ref q_8, .null, .null, .null, .null, .int 0, .null, .null, .null, .null, .int 0, .int 0, .int 0, .null, .int 0, .null])) := by rw [hw_18, va_up_ne _ _ (m_newne k_14 nq_17)]; exact k_14
  have k_20 : w_18 q_1 = some (.inl (cI, 100, .inl (fun _ => 0))) := by rw [hw_18, va_up_ne _ _ (m_newne k_15 nq_17)]; exact k_15
  have k_21 : w_18 q_8 = some (.inl (cI, 100, .inl (fun _ => 0))) := by rw [hw_18, va_up_ne _ _ (m_newne k_16 nq_17)]; exact k_16
  have k_22 : w_18 q_17 = some (.inl (cI, 100, .inl (fun _ => 0))) := by rw [hw_18, va_up_self]
  refine m_putF (D := G) (ci := 6) (v := .ref q_17) (ty := .array .int) (C := nR_M) (T := nT_M) (N := 21) hx hb hta in_M nt_M nt_M_ok nn_M hown hK hM hS k_19 rfl 6 (by decide) (hta _ aw_549) (fun _ h9 => h9) rfl hin rfl (by decide +kernel) rfl rfl (Nat.le_of_ble_eq_true rfl) d_M_init_25 (fs' := [.int 0, .int 0, .int 0, .int 0, .ref q_1, .ref q_8, .ref q_17, .null, .null, .null, .int 0, .null, .null, .null, .null, .int 0, .int 0, .int 0, .null, .int 0, .null]) rfl (fun H locs hM hS => ?_)
  obtain ⟨w_23, hw_23⟩ : ∃ z9 : Nat → Option va_E, z9 = va_up w_18 a (some (.inr (6, [.int 0, .int 0, .int 0, .int 0, .ref q_1, .ref q_8, .ref q_17, .null, .null, .null, .int 0, .null, .null, .null, .null, .int 0, .int 0, .int 0, .null, .int 0, .null]))) := ⟨_, rfl⟩
  rw [← hw_23] at hM
  have k_24 : w_23 a = some (.inr (6, [.int 0, .int 0, .int 0, .int 0, .ref q_1, .ref q_8, .ref q_17, .null, .null, .null, .int 0, .null, .null, .null, .null, .int 0, .int 0, .int 0, .null, .int 0, .null])) := by rw [hw_23, va_up_self]
  have k_25 : w_23 q_1 = some (.inl (cI, 100, .inl (fun _ => 0))) := by rw [hw_23, va_up_ne _ _ (Ne.symm (m_newne ha nq_1))]; exact k_20
  have k_26 : w_23 q_8 = some (.inl (cI, 100, .inl (fun _ => 0))) := by rw [hw_23, va_up_ne _ _ (Ne.symm (m_newne k_6 nq_8))]; exact k_21
  have k_27 : w_23 q_17 = some (.inl (cI, 100, .inl (fun _ => 0))) := by rw [hw_23, va_up_ne _ _ (Ne.symm (m_newne k_14 nq_17))]; exact k_22
  refine lv_aload_n hx hb d_M_init_28 rfl (lv_at hl 0 rfl) ?_
  refine lv_bipush (v := 100) hx hb d_M_init_29 (by decide) ?_
  refine m_newaT (atype := .int) (ty := .int) hx hb (hta _ aw_607) rfl hK hM hS hA (t0 := 2) rfl (n := 100) (N' := 100) (a0 := (100, .inl (fun _ => 0))) (fun _ => rfl) (by decide) (by decide) (by decide) (Nat.le_of_ble_eq_true rfl) (Nat.le_of_ble_eq_true rfl) d_M_init_31 (fun q_28 H nq_28 hM hS => ?_)
  obtain ⟨w_29, hw_29⟩ : ∃ z9 : Nat → Option va_E, z9 = va_up w_23 q_28 (some (.inl (cI, 100, .inl (fun _ => 0)))) := ⟨_, rfl⟩
  rw [← hw_29] at hM
  have k_30 : w_29 a = some (.inr (6, [.int 0, .int 0, .int 0, .int 0, .ref q_1, .ref q_8, .ref q_17, .null, .null, .null, .int 0, .null, .null, .null, .null, .int 0, .int 0, .int 0, .null, .int 0, .null])) := by rw [hw_29, va_up_ne _ _ (m_newne k_24 nq_28)]; exact k_24
  have k_31 : w_29 q_1 = some (.inl (cI, 100, .inl (fun _ => 0))) := by rw [hw_29, va_up_ne _ _ (m_newne k_25 nq_28)]; exact k_25
  have k_32 : w_29 q_8 = some (.inl (cI, 100, .inl (fun _ => 0))) := by rw [hw_29, va_up_ne _ _ (m_newne k_26 nq_28)]; exact k_26
  have k_33 : w_29 q_17 = some (.inl (cI, 100, .inl (fun _ => 0))) := by rw [hw_29, va_up_ne _ _ (m_newne k_27 nq_28)]; exact k_27
  have k_34 : w_29 q_28 = some (.inl (cI, 100, .inl (fun _ => 0))) := by rw [hw_29, va_up_self]
  refine m_putF (D := G) (ci := 6) (v := .ref q_28) (ty := .array .int) (C := nR_M) (T := nT_M) (N := 21) hx hb hta in_M nt_M nt_M_ok nn_M hown hK hM hS k_30 rfl 7 (by decide) (hta _ aw_550) (fun _ h9 => h9) rfl hin rfl (by decide +kernel) rfl rfl (Nat.le_of_ble_eq_true rfl) d_M_init_33 (fs' := [.int 0, .int 0, .int 0, .int 0, .ref q_1, .ref q_8, .ref q_17, .ref q_28, .null, .null, .int 0, .null, .null, .null, .null, .int 0, .int 0, .int 0, .null, .int 0, .null]) rfl (fun H locs hM hS => ?_)
  obtain ⟨w_35, hw_35⟩ : ∃ z9 : Nat → Option va_E, z9 = va_up w_29 a (some (.inr (6, [.int 0, .int 0, .int 0, .int 0, .ref q_1, .ref q_8, .ref q_17, .ref q_28, .null, .null, .int 0, .null, .null, .null, .null, .int 0, .int 0, .int 0, .null, .int 0, .null]))) := ⟨_, rfl⟩
  rw [← hw_35] at hM
  have k_36 : w_35 a = some (.inr (6, [.int 0, .int 0, .int 0, .int 0, .ref q_1, .ref q_8, .ref q_17, .ref q_28, .null, .null, .int 0, .null, .null, .null, .null, .int 0, .int 0, .int 0, .null, .int 0, .null])) := by rw [hw_35, va_up_self]
  have k_37 : w_35 q_1 = some (.inl (cI, 100, .inl (fun _ => 0))) := by rw [hw_35, va_up_ne _ _ (Ne.symm (m_newne ha nq_1))]; exact k_31
  have k_38 : w_35 q_8 = some (.inl (cI, 100, .inl (fun _ => 0))) := by rw [hw_35, va_up_ne _ _ (Ne.symm (m_newne k_6 nq_8))]; exact k_32
  have k_39 : w_35 q_17 = some (.inl (cI, 100, .inl (fun _ => 0))) := by rw [hw_35, va_up_ne _ _ (Ne.symm (m_newne k_14 nq_17))]; exact k_33
  have k_40 : w_35 q_28 = some (.inl (cI, 100, .inl (fun _ => 0))) := by rw [hw_35, va_up_ne _ _ (Ne.symm (m_newne k_24 nq_28))]; exact k_34
  refine lv_aload_n hx hb d_M_init_36 rfl (lv_at hl 0 rfl) ?_
  refine lv_bipush (v := 100) hx hb d_M_init_37 (by decide) ?_
  refine m_newaT (atype := .int) (ty := .int) hx hb (hta _ aw_607) rfl hK hM hS hA (t0 := 2) rfl (n := 100) (N' := 100) (a0 := (100, .inl (fun _ => 0))) (fun _ => rfl) (by decide) (by decide) (by decide) (Nat.le_of_ble_eq_true rfl) (Nat.le_of_ble_eq_true rfl) d_M_init_39 (fun q_41 H nq_41 hM hS => ?_)
  obtain ⟨w_42, hw_42⟩ : ∃ z9 : Nat → Option va_E, z9 = va_up w_35 q_41 (some (.inl (cI, 100, .inl (fun _ => 0)))) := ⟨_, rfl⟩
  rw [← hw_42] at hM
  have k_43 : w_42 a = some (.inr (6, [.int 0, .int 0, .int 0, .int 0, .ref q_1, .ref q_8, .ref q_17, .ref q_28, .null, .null, .int 0, .null, .null, .null, .null, .int 0, .int 0, .int 0, .null, .int 0, .null])) := by rw [hw_42, va_up_ne _ _ (m_newne k_36 nq_41)]; exact k_36
  have k_44 : w_42 q_1 = some (.inl (cI, 100, .inl (fun _ => 0))) := by rw [hw_42, va_up_ne _ _ (m_newne k_37 nq_41)]; exact k_37
  have k_45 : w_42 q_8 = some (.inl (cI, 100, .inl (fun _ => 0))) := by rw [hw_42, va_up_ne _ _ (m_newne k_38 nq_41)]; exact k_38
  have k_46 : w_42 q_17 = some (.inl (cI, 100, .inl (fun _ => 0))) := by rw [hw_42, va_up_ne _ _ (m_newne k_39 nq_41)]; exact k_39
  have k_47 : w_42 q_28 = some (.inl (cI, 100, .inl (fun _ => 0))) := by rw [hw_42, va_up_ne _ _ (m_newne k_40 nq_41)]; exact k_40
  have k_48 : w_42 q_41 = some (.inl (cI, 100, .inl (fun _ => 0))) := by rw [hw_42, va_up_self]
  refine m_putF (D := G) (ci := 6) (v := .ref q_41) (ty := .array .int) (C := nR_M) (T := nT_M) (N := 21) hx hb hta in_M nt_M nt_M_ok nn_M hown hK hM hS k_43 rfl 8 (by decide) (hta _ aw_551) (fun _ h9 => h9) rfl hin rfl (by decide +kernel) rfl rfl (Nat.le_of_ble_eq_true rfl) d_M_init_41 (fs' := [.int 0, .int 0, .int 0, .int 0, .ref q_1, .ref q_8, .ref q_17, .ref q_28, .ref q_41, .null, .int 0, .null, .null, .null, .null, .int 0, .int 0, .int 0, .null, .int 0, .null]) rfl (fun H locs hM hS => ?_)
  obtain ⟨w_49, hw_49⟩ : ∃ z9 : Nat → Option va_E, z9 = va_up w_42 a (some (.inr (6, [.int 0, .int 0, .int 0, .int 0, .ref q_1, .ref q_8, .ref q_17, .ref q_28, .ref q_41, .null, .int 0, .null, .null, .null, .null, .int 0, .int 0, .int 0, .null, .int 0, .null]))) := ⟨_, rfl⟩
  rw [← hw_49] at hM
  have k_50 : w_49 a = some (.inr (6, [.int 0, .int 0, .int 0, .int 0, .ref q_1, .ref q_8, .ref q_17, .ref q_28, .ref q_41, .null, .int 0, .null, .null, .null, .null, .int 0, .int 0, .int 0, .null, .int 0, .null])) := by rw [hw_49, va_up_self]
  have k_51 : w_49 q_1 = some (.inl (cI, 100, .inl (fun _ => 0))) := by rw [hw_49, va_up_ne _ _ (Ne.symm (m_newne ha nq_1))]; exact k_44
  have k_52 : w_49 q_8 = some (.inl (cI, 100, .inl (fun _ => 0))) := by rw [hw_49, va_up_ne _ _ (Ne.symm (m_newne k_6 nq_8))]; exact k_45
  have k_53 : w_49 q_17 = some (.inl (cI, 100, .inl (fun _ => 0))) := by rw [hw_49, va_up_ne _ _ (Ne.symm (m_newne k_14 nq_17))]; exact k_46
  have k_54 : w_49 q_28 = some (.inl (cI, 100, .inl (fun _ => 0))) := by rw [hw_49, va_up_ne _ _ (Ne.symm (m_newne k_24 nq_28))]; exact k_47
  have k_55 : w_49 q_41 = some (.inl (cI, 100, .inl (fun _ => 0))) := by rw [hw_49, va_up_ne _ _ (Ne.symm (m_newne k_36 nq_41))]; exact k_48
  refine lv_aload_n hx hb d_M_init_44 rfl (lv_at hl 0 rfl) ?_
  refine lv_bipush (v := 100) hx hb d_M_init_45 (by decide) ?_
  refine m_newaT (atype := .int) (ty := .int) hx hb (hta _ aw_607) rfl hK hM hS hA (t0 := 2) rfl (n := 100) (N' := 100) (a0 := (100, .inl (fun _ => 0))) (fun _ => rfl) (by decide) (by decide) (by decide) (Nat.le_of_ble_eq_true rfl) (Nat.le_of_ble_eq_true rfl) d_M_init_47 (fun q_56 H nq_56 hM hS => ?_)
  obtain ⟨w_57, hw_57⟩ : ∃ z9 : Nat → Option va_E, z9 = va_up w_49 q_56 (some (.inl (cI, 100, .inl (fun _ => 0)))) := ⟨_, rfl⟩
  rw [← hw_57] at hM
  have k_58 : w_57 a = some (.inr (6, [.int 0, .int 0, .int 0, .int 0, .ref q_1, .ref q_8, .ref q_17, .ref q_28, .ref q_41, .null, .int 0, .null, .null, .null, .null, .int 0, .int 0, .int 0, .null, .int 0, .null])) := by rw [hw_57, va_up_ne _ _ (m_newne k_50 nq_56)]; exact k_50
  have k_59 : w_57 q_1 = some (.inl (cI, 100, .inl (fun _ => 0))) := by rw [hw_57, va_up_ne _ _ (m_newne k_51 nq_56)]; exact k_51
  have k_60 : w_57 q_8 = some (.inl (cI, 100, .inl (fun _ => 0))) := by rw [hw_57, va_up_ne _ _ (m_newne k_52 nq_56)]; exact k_52
  have k_61 : w_57 q_17 = some (.inl (cI, 100, .inl (fun _ => 0))) := by rw [hw_57, va_up_ne _ _ (m_newne k_53 nq_56)]; exact k_53
  have k_62 : w_57 q_28 = some (.inl (cI, 100, .inl (fun _ => 0))) := by rw [hw_57, va_up_ne _ _ (m_newne k_54 nq_56)]; exact k_54
  have k_63 : w_57 q_41 = some (.inl (cI, 100, .inl (fun _ => 0))) := by rw [hw_57, va_up_ne _ _ (m_newne k_55 nq_56)]; exact k_55
  have k_64 : w_57 q_56 = some (.inl (cI, 100, .inl (fun _ => 0))) := by rw [hw_57, va_up_self]
  refine m_putF (D := G) (ci := 6) (v := .ref q_56) (ty := .array .int) (C := nR_M) (T := nT_M) (N := 21) hx hb hta in_M nt_M nt_M_ok nn_M hown hK hM hS k_58 rfl 9 (by decide) (hta _ aw_552) (fun _ h9 => h9) rfl hin rfl (by decide +kernel) rfl rfl (Nat.le_of_ble_eq_true rfl) d_M_init_49 (fs' := [.int 0, .int 0, .int 0, .int 0, .ref q_1, .ref q_8, .ref q_17, .ref q_28, .ref q_41, .ref q_56, .int 0, .null, .null, .null, .null, .int 0, .int 0, .int 0, .null, .int 0, .null]) rfl (fun H locs hM hS => ?_)
  obtain ⟨w_65, hw_65⟩ : ∃ z9 : Nat → Option va_E, z9 = va_up w_57 a (some (.inr (6, [.int 0, .int 0, .int 0, .int 0, .ref q_1, .ref q_8, .ref q_17, .ref q_28, .ref q_41, .ref q_56, .int 0, .null, .null, .null, .null, .int 0, .int 0, .int 0, .null, .int 0, .null]))) := ⟨_, rfl⟩
  rw [← hw_65] at hM
  have k_66 : w_65 a = some (.inr (6, [.int 0, .int 0, .int 0, .int 0, .ref q_1, .ref q_8, .ref q_17, .ref q_28, .ref q_41, .ref q_56, .int 0, .null, .null, .null, .null, .int 0, .int 0, .int 0, .null, .int 0, .null])) := by rw [hw_65, va_up_self]
  have k_67 : w_65 q_1 = some (.inl (cI, 100, .inl (fun _ => 0))) := by rw [hw_65, va_up_ne _ _ (Ne.symm (m_newne ha nq_1))]; exact k_59
  have k_68 : w_65 q_8 = some (.inl (cI, 100, .inl (fun _ => 0))) := by rw [hw_65, va_up_ne _ _ (Ne.symm (m_newne k_6 nq_8))]; exact k_60
  have k_69 : w_65 q_17 = some (.inl (cI, 100, .inl (fun _ => 0))) := by rw [hw_65, va_up_ne _ _ (Ne.symm (m_newne k_14 nq_17))]; exact k_61
  have k_70 : w_65 q_28 = some (.inl (cI, 100, .inl (fun _ => 0))) := by rw [hw_65, va_up_ne _ _ (Ne.symm (m_newne k_24 nq_28))]; exact k_62
  have k_71 : w_65 q_41 = some (.inl (cI, 100, .inl (fun _ => 0))) := by rw [hw_65, va_up_ne _ _ (Ne.symm (m_newne k_36 nq_41))]; exact k_63
  have k_72 : w_65 q_56 = some (.inl (cI, 100, .inl (fun _ => 0))) := by rw [hw_65, va_up_ne _ _ (Ne.symm (m_newne k_50 nq_56))]; exact k_64
  refine lv_aload_n hx hb d_M_init_52 rfl (lv_at hl 0 rfl) ?_
  refine lv_sipush (v := 200) hx hb d_M_init_53 (by decide) ?_
  refine m_newaT (atype := .int) (ty := .int) hx hb (hta _ aw_607) rfl hK hM hS hA (t0 := 2) rfl (n := 200) (N' := 200) (a0 := (200, .inl (fun _ => 0))) (fun _ => rfl) (by decide) (by decide) (by decide) (Nat.le_of_ble_eq_true rfl) (Nat.le_of_ble_eq_true rfl) d_M_init_56 (fun q_73 H nq_73 hM hS => ?_)
  obtain ⟨w_74, hw_74⟩ : ∃ z9 : Nat → Option va_E, z9 = va_up w_65 q_73 (some (.inl (cI, 200, .inl (fun _ => 0)))) := ⟨_, rfl⟩
  rw [← hw_74] at hM
  have k_75 : w_74 a = some (.inr (6, [.int 0, .int 0, .int 0, .int 0, .ref q_1, .ref q_8, .ref q_17, .ref q_28, .ref q_41, .ref q_56, .int 0, .null, .null, .null, .null, .int 0, .int 0, .int 0, .null, .int 0, .null])) := by rw [hw_74, va_up_ne _ _ (m_newne k_66 nq_73)]; exact k_66
  have k_76 : w_74 q_1 = some (.inl (cI, 100, .inl (fun _ => 0))) := by rw [hw_74, va_up_ne _ _ (m_newne k_67 nq_73)]; exact k_67
  have k_77 : w_74 q_8 = some (.inl (cI, 100, .inl (fun _ => 0))) := by rw [hw_74, va_up_ne _ _ (m_newne k_68 nq_73)]; exact k_68
  have k_78 : w_74 q_17 = some (.inl (cI, 100, .inl (fun _ => 0))) := by rw [hw_74, va_up_ne _ _ (m_newne k_69 nq_73)]; exact k_69
  have k_79 : w_74 q_28 = some (.inl (cI, 100, .inl (fun _ => 0))) := by rw [hw_74, va_up_ne _ _ (m_newne k_70 nq_73)]; exact k_70
  have k_80 : w_74 q_41 = some (.inl (cI, 100, .inl (fun _ => 0))) := by rw [hw_74, va_up_ne _ _ (m_newne k_71 nq_73)]; exact k_71
  have k_81 : w_74 q_56 = some (.inl (cI, 100, .inl (fun _ => 0))) := by rw [hw_74, va_up_ne _ _ (m_newne k_72 nq_73)]; exact k_72
  have k_82 : w_74 q_73 = some (.inl (cI, 200, .inl (fun _ => 0))) := by rw [hw_74, va_up_self]
  refine m_putF (D := G) (ci := 6) (v := .ref q_73) (ty := .array .int) (C := nR_M) (T := nT_M) (N := 21) hx hb hta in_M nt_M nt_M_ok nn_M hown hK hM hS k_75 rfl 11 (by decide) (hta _ aw_554) (fun _ h9 => h9) rfl hin rfl (by decide +kernel) rfl rfl (Nat.le_of_ble_eq_true rfl) d_M_init_58 (fs' := [.int 0, .int 0, .int 0, .int 0, .ref q_1, .ref q_8, .ref q_17, .ref q_28, .ref q_41, .ref q_56, .int 0, .ref q_73, .null, .null, .null, .int 0, .int 0, .int 0, .null, .int 0, .null]) rfl (fun H locs hM hS => ?_)
  obtain ⟨w_83, hw_83⟩ : ∃ z9 : Nat → Option va_E, z9 = va_up w_74 a (some (.inr (6, [.int 0, .int 0, .int 0, .int 0, .ref q_1, .ref q_8, .ref q_17, .ref q_28, .ref q_41, .ref q_56, .int 0, .ref q_73, .null, .null, .null, .int 0, .int 0, .int 0, .null, .int 0, .null]))) := ⟨_, rfl⟩
  rw [← hw_83] at hM
  have k_84 : w_83 a = some (.inr (6, [.int 0, .int 0, .int 0, .int 0, .ref q_1, .ref q_8, .ref q_17, .ref q_28, .ref q_41, .ref q_56, .int 0, .ref q_73, .null, .null, .null, .int 0, .int 0, .int 0, .null, .int 0, .null])) := by rw [hw_83, va_up_self]
  have k_85 : w_83 q_1 = some (.inl (cI, 100, .inl (fun _ => 0))) := by rw [hw_83, va_up_ne _ _ (Ne.symm (m_newne ha nq_1))]; exact k_76
  have k_86 : w_83 q_8 = some (.inl (cI, 100, .inl (fun _ => 0))) := by rw [hw_83, va_up_ne _ _ (Ne.symm (m_newne k_6 nq_8))]; exact k_77
  have k_87 : w_83 q_17 = some (.inl (cI, 100, .inl (fun _ => 0))) := by rw [hw_83, va_up_ne _ _ (Ne.symm (m_newne k_14 nq_17))]; exact k_78
  have k_88 : w_83 q_28 = some (.inl (cI, 100, .inl (fun _ => 0))) := by rw [hw_83, va_up_ne _ _ (Ne.symm (m_newne k_24 nq_28))]; exact k_79
  have k_89 : w_83 q_41 = some (.inl (cI, 100, .inl (fun _ => 0))) := by rw [hw_83, va_up_ne _ _ (Ne.symm (m_newne k_36 nq_41))]; exact k_80
  have k_90 : w_83 q_56 = some (.inl (cI, 100, .inl (fun _ => 0))) := by rw [hw_83, va_up_ne _ _ (Ne.symm (m_newne k_50 nq_56))]; exact k_81
  have k_91 : w_83 q_73 = some (.inl (cI, 200, .inl (fun _ => 0))) := by rw [hw_83, va_up_ne _ _ (Ne.symm (m_newne k_66 nq_73))]; exact k_82
  refine lv_aload_n hx hb d_M_init_61 rfl (lv_at hl 0 rfl) ?_
  refine lv_sipush (v := 200) hx hb d_M_init_62 (by decide) ?_
  refine m_newaT (atype := .int) (ty := .int) hx hb (hta _ aw_607) rfl hK hM hS hA (t0 := 2) rfl (n := 200) (N' := 200) (a0 := (200, .inl (fun _ => 0))) (fun _ => rfl) (by decide) (by decide) (by decide) (Nat.le_of_ble_eq_true rfl) (Nat.le_of_ble_eq_true rfl) d_M_init_65 (fun q_92 H nq_92 hM hS => ?_)
  obtain ⟨w_93, hw_93⟩ : ∃ z9 : Nat → Option va_E, z9 = va_up w_83 q_92 (some (.inl (cI, 200, .inl (fun _ => 0)))) := ⟨_, rfl⟩
  rw [← hw_93] at hM
  have k_94 : w_93 a = some (.inr (6, [.int 0, .int 0, .int 0, .int 0, .ref q_1, .ref q_8, .ref q_17, .ref q_28, .ref q_41, .ref q_56, .int 0, .ref q_73, .null, .null, .null, .int 0, .int 0, .int 0, .null, .int 0, .null])) := by rw [hw_93, va_up_ne _ _ (m_newne k_84 nq_92)]; exact k_84
  have k_95 : w_93 q_1 = some (.inl (cI, 100, .inl (fun _ => 0))) := by rw [hw_93, va_up_ne _ _ (m_newne k_85 nq_92)]; exact k_85
  have k_96 : w_93 q_8 = some (.inl (cI, 100, .inl (fun _ => 0))) := by rw [hw_93, va_up_ne _ _ (m_newne k_86 nq_92)]; exact k_86
  have k_97 : w_93 q_17 = some (.inl (cI, 100, .inl (fun _ => 0))) := by rw [hw_93, va_up_ne _ _ (m_newne k_87 nq_92)]; exact k_87
  have k_98 : w_93 q_28 = some (.inl (cI, 100, .inl (fun _ => 0))) := by rw [hw_93, va_up_ne _ _ (m_newne k_88 nq_92)]; exact k_88
  have k_99 : w_93 q_41 = some (.inl (cI, 100, .inl (fun _ => 0))) := by rw [hw_93, va_up_ne _ _ (m_newne k_89 nq_92)]; exact k_89
  have k_100 : w_93 q_56 = some (.inl (cI, 100, .inl (fun _ => 0))) := by rw [hw_93, va_up_ne _ _ (m_newne k_90 nq_92)]; exact k_90
  have k_101 : w_93 q_73 = some (.inl (cI, 200, .inl (fun _ => 0))) := by rw [hw_93, va_up_ne _ _ (m_newne k_91 nq_92)]; exact k_91
  have k_102 : w_93 q_92 = some (.inl (cI, 200, .inl (fun _ => 0))) := by rw [hw_93, va_up_self]
  refine m_putF (D := G) (ci := 6) (v := .ref q_92) (ty := .array .int) (C := nR_M) (T := nT_M) (N := 21) hx hb hta in_M nt_M nt_M_ok nn_M hown hK hM hS k_94 rfl 12 (by decide) (hta _ aw_555) (fun _ h9 => h9) rfl hin rfl (by decide +kernel) rfl rfl (Nat.le_of_ble_eq_true rfl) d_M_init_67 (fs' := [.int 0, .int 0, .int 0, .int 0, .ref q_1, .ref q_8, .ref q_17, .ref q_28, .ref q_41, .ref q_56, .int 0, .ref q_73, .ref q_92, .null, .null, .int 0, .int 0, .int 0, .null, .int 0, .null]) rfl (fun H locs hM hS => ?_)
  obtain ⟨w_103, hw_103⟩ : ∃ z9 : Nat → Option va_E, z9 = va_up w_93 a (some (.inr (6, [.int 0, .int 0, .int 0, .int 0, .ref q_1, .ref q_8, .ref q_17, .ref q_28, .ref q_41, .ref q_56, .int 0, .ref q_73, .ref q_92, .null, .null, .int 0, .int 0, .int 0, .null, .int 0, .null]))) := ⟨_, rfl⟩
  rw [← hw_103] at hM
  have k_104 : w_103 a = some (.inr (6, [.int 0, .int 0, .int 0, .int 0, .ref q_1, .ref q_8, .ref q_17, .ref q_28, .ref q_41, .ref q_56, .int 0, .ref q_73, .ref q_92, .null, .null, .int 0, .int 0, .int 0, .null, .int 0, .null])) := by rw [hw_103, va_up_self]
  have k_105 : w_103 q_1 = some (.inl (cI, 100, .inl (fun _ => 0))) := by rw [hw_103, va_up_ne _ _ (Ne.symm (m_newne ha nq_1))]; exact k_95
  have k_106 : w_103 q_8 = some (.inl (cI, 100, .inl (fun _ => 0))) := by rw [hw_103, va_up_ne _ _ (Ne.symm (m_newne k_6 nq_8))]; exact k_96
  have k_107 : w_103 q_17 = some (.inl (cI, 100, .inl (fun _ => 0))) := by rw [hw_103, va_up_ne _ _ (Ne.symm (m_newne k_14 nq_17))]; exact k_97
  have k_108 : w_103 q_28 = some (.inl (cI, 100, .inl (fun _ => 0))) := by rw [hw_103, va_up_ne _ _ (Ne.symm (m_newne k_24 nq_28))]; exact k_98
  have k_109 : w_103 q_41 = some (.inl (cI, 100, .inl (fun _ => 0))) := by rw [hw_103, va_up_ne _ _ (Ne.symm (m_newne k_36 nq_41))]; exact k_99
  have k_110 : w_103 q_56 = some (.inl (cI, 100, .inl (fun _ => 0))) := by rw [hw_103, va_up_ne _ _ (Ne.symm (m_newne k_50 nq_56))]; exact k_100
  have k_111 : w_103 q_73 = some (.inl (cI, 200, .inl (fun _ => 0))) := by rw [hw_103, va_up_ne _ _ (Ne.symm (m_newne k_66 nq_73))]; exact k_101
  have k_112 : w_103 q_92 = some (.inl (cI, 200, .inl (fun _ => 0))) := by rw [hw_103, va_up_ne _ _ (Ne.symm (m_newne k_84 nq_92))]; exact k_102
  refine lv_aload_n hx hb d_M_init_70 rfl (lv_at hl 0 rfl) ?_
  refine lv_sipush (v := 200) hx hb d_M_init_71 (by decide) ?_
  refine m_newaT (atype := .int) (ty := .int) hx hb (hta _ aw_607) rfl hK hM hS hA (t0 := 2) rfl (n := 200) (N' := 200) (a0 := (200, .inl (fun _ => 0))) (fun _ => rfl) (by decide) (by decide) (by decide) (Nat.le_of_ble_eq_true rfl) (Nat.le_of_ble_eq_true rfl) d_M_init_74 (fun q_113 H nq_113 hM hS => ?_)
  obtain ⟨w_114, hw_114⟩ : ∃ z9 : Nat → Option va_E, z9 = va_up w_103 q_113 (some (.inl (cI, 200, .inl (fun _ => 0)))) := ⟨_, rfl⟩
  rw [← hw_114] at hM
  have k_115 : w_114 a = some (.inr (6, [.int 0, .int 0, .int 0, .int 0, .ref q_1, .ref q_8, .ref q_17, .ref q_28, .ref q_41, .ref q_56, .int 0, .ref q_73, .ref q_92, .null, .null, .int 0, .int 0, .int 0, .null, .int 0, .null])) := by rw [hw_114, va_up_ne _ _ (m_newne k_104 nq_113)]; exact k_104
  have k_116 : w_114 q_1 = some (.inl (cI, 100, .inl (fun _ => 0))) := by rw [hw_114, va_up_ne _ _ (m_newne k_105 nq_113)]; exact k_105
  have k_117 : w_114 q_8 = some (.inl (cI, 100, .inl (fun _ => 0))) := by rw [hw_114, va_up_ne _ _ (m_newne k_106 nq_113)]; exact k_106
  have k_118 : w_114 q_17 = some (.inl (cI, 100, .inl (fun _ => 0))) := by rw [hw_114, va_up_ne _ _ (m_newne k_107 nq_113)]; exact k_107
  have k_119 : w_114 q_28 = some (.inl (cI, 100, .inl (fun _ => 0))) := by rw [hw_114, va_up_ne _ _ (m_newne k_108 nq_113)]; exact k_108
  have k_120 : w_114 q_41 = some (.inl (cI, 100, .inl (fun _ => 0))) := by rw [hw_114, va_up_ne _ _ (m_newne k_109 nq_113)]; exact k_109
  have k_121 : w_114 q_56 = some (.inl (cI, 100, .inl (fun _ => 0))) := by rw [hw_114, va_up_ne _ _ (m_newne k_110 nq_113)]; exact k_110
  have k_122 : w_114 q_73 = some (.inl (cI, 200, .inl (fun _ => 0))) := by rw [hw_114, va_up_ne _ _ (m_newne k_111 nq_113)]; exact k_111
  have k_123 : w_114 q_92 = some (.inl (cI, 200, .inl (fun _ => 0))) := by rw [hw_114, va_up_ne _ _ (m_newne k_112 nq_113)]; exact k_112
  have k_124 : w_114 q_113 = some (.inl (cI, 200, .inl (fun _ => 0))) := by rw [hw_114, va_up_self]
  refine m_putF (D := G) (ci := 6) (v := .ref q_113) (ty := .array .int) (C := nR_M) (T := nT_M) (N := 21) hx hb hta in_M nt_M nt_M_ok nn_M hown hK hM hS k_115 rfl 13 (by decide) (hta _ aw_556) (fun _ h9 => h9) rfl hin rfl (by decide +kernel) rfl rfl (Nat.le_of_ble_eq_true rfl) d_M_init_76 (fs' := [.int 0, .int 0, .int 0, .int 0, .ref q_1, .ref q_8, .ref q_17, .ref q_28, .ref q_41, .ref q_56, .int 0, .ref q_73, .ref q_92, .ref q_113, .null, .int 0, .int 0, .int 0, .null, .int 0, .null]) rfl (fun H locs hM hS => ?_)
  obtain ⟨w_125, hw_125⟩ : ∃ z9 : Nat → Option va_E, z9 = va_up w_114 a (some (.inr (6, [.int 0, .int 0, .int 0, .int 0, .ref q_1, .ref q_8, .ref q_17, .ref q_28, .ref q_41, .ref q_56, .int 0, .ref q_73, .ref q_92, .ref q_113, .null, .int 0, .int 0, .int 0, .null, .int 0, .null]))) := ⟨_, rfl⟩
  rw [← hw_125] at hM
  have k_126 : w_125 a = some (.inr (6, [.int 0, .int 0, .int 0, .int 0, .ref q_1, .ref q_8, .ref q_17, .ref q_28, .ref q_41, .ref q_56, .int 0, .ref q_73, .ref q_92, .ref q_113, .null, .int 0, .int 0, .int 0, .null, .int 0, .null])) := by rw [hw_125, va_up_self]
  have k_127 : w_125 q_1 = some (.inl (cI, 100, .inl (fun _ => 0))) := by rw [hw_125, va_up_ne _ _ (Ne.symm (m_newne ha nq_1))]; exact k_116
  have k_128 : w_125 q_8 = some (.inl (cI, 100, .inl (fun _ => 0))) := by rw [hw_125, va_up_ne _ _ (Ne.symm (m_newne k_6 nq_8))]; exact k_117
  have k_129 : w_125 q_17 = some (.inl (cI, 100, .inl (fun _ => 0))) := by rw [hw_125, va_up_ne _ _ (Ne.symm (m_newne k_14 nq_17))]; exact k_118
  have k_130 : w_125 q_28 = some (.inl (cI, 100, .inl (fun _ => 0))) := by rw [hw_125, va_up_ne _ _ (Ne.symm (m_newne k_24 nq_28))]; exact k_119
  have k_131 : w_125 q_41 = some (.inl (cI, 100, .inl (fun _ => 0))) := by rw [hw_125, va_up_ne _ _ (Ne.symm (m_newne k_36 nq_41))]; exact k_120
  have k_132 : w_125 q_56 = some (.inl (cI, 100, .inl (fun _ => 0))) := by rw [hw_125, va_up_ne _ _ (Ne.symm (m_newne k_50 nq_56))]; exact k_121
  have k_133 : w_125 q_73 = some (.inl (cI, 200, .inl (fun _ => 0))) := by rw [hw_125, va_up_ne _ _ (Ne.symm (m_newne k_66 nq_73))]; exact k_122
  have k_134 : w_125 q_92 = some (.inl (cI, 200, .inl (fun _ => 0))) := by rw [hw_125, va_up_ne _ _ (Ne.symm (m_newne k_84 nq_92))]; exact k_123
  have k_135 : w_125 q_113 = some (.inl (cI, 200, .inl (fun _ => 0))) := by rw [hw_125, va_up_ne _ _ (Ne.symm (m_newne k_104 nq_113))]; exact k_124
  refine lv_aload_n hx hb d_M_init_79 rfl (lv_at hl 0 rfl) ?_
  refine lv_sipush (v := 200) hx hb d_M_init_80 (by decide) ?_
  refine m_newaT (atype := .int) (ty := .int) hx hb (hta _ aw_607) rfl hK hM hS hA (t0 := 2) rfl (n := 200) (N' := 200) (a0 := (200, .inl (fun _ => 0))) (fun _ => rfl) (by decide) (by decide) (by decide) (Nat.le_of_ble_eq_true rfl) (Nat.le_of_ble_eq_true rfl) d_M_init_83 (fun q_136 H nq_136 hM hS => ?_)
  obtain ⟨w_137, hw_137⟩ : ∃ z9 : Nat → Option va_E, z9 = va_up w_125 q_136 (some (.inl (cI, 200, .inl (fun _ => 0)))) := ⟨_, rfl⟩
  rw [← hw_137] at hM
  have k_138 : w_137 a = some (.inr (6, [.int 0, .int 0, .int 0, .int 0, .ref q_1, .ref q_8, .ref q_17, .ref q_28, .ref q_41, .ref q_56, .int 0, .ref q_73, .ref q_92, .ref q_113, .null, .int 0, .int 0, .int 0, .null, .int 0, .null])) := by rw [hw_137, va_up_ne _ _ (m_newne k_126 nq_136)]; exact k_126
  have k_139 : w_137 q_1 = some (.inl (cI, 100, .inl (fun _ => 0))) := by rw [hw_137, va_up_ne _ _ (m_newne k_127 nq_136)]; exact k_127
  have k_140 : w_137 q_8 = some (.inl (cI, 100, .inl (fun _ => 0))) := by rw [hw_137, va_up_ne _ _ (m_newne k_128 nq_136)]; exact k_128
  have k_141 : w_137 q_17 = some (.inl (cI, 100, .inl (fun _ => 0))) := by rw [hw_137, va_up_ne _ _ (m_newne k_129 nq_136)]; exact k_129
  have k_142 : w_137 q_28 = some (.inl (cI, 100, .inl (fun _ => 0))) := by rw [hw_137, va_up_ne _ _ (m_newne k_130 nq_136)]; exact k_130
  have k_143 : w_137 q_41 = some (.inl (cI, 100, .inl (fun _ => 0))) := by rw [hw_137, va_up_ne _ _ (m_newne k_131 nq_136)]; exact k_131
  have k_144 : w_137 q_56 = some (.inl (cI, 100, .inl (fun _ => 0))) := by rw [hw_137, va_up_ne _ _ (m_newne k_132 nq_136)]; exact k_132
  have k_145 : w_137 q_73 = some (.inl (cI, 200, .inl (fun _ => 0))) := by rw [hw_137, va_up_ne _ _ (m_newne k_133 nq_136)]; exact k_133
  have k_146 : w_137 q_92 = some (.inl (cI, 200, .inl (fun _ => 0))) := by rw [hw_137, va_up_ne _ _ (m_newne k_134 nq_136)]; exact k_134
  have k_147 : w_137 q_113 = some (.inl (cI, 200, .inl (fun _ => 0))) := by rw [hw_137, va_up_ne _ _ (m_newne k_135 nq_136)]; exact k_135
  have k_148 : w_137 q_136 = some (.inl (cI, 200, .inl (fun _ => 0))) := by rw [hw_137, va_up_self]
  refine m_putF (D := G) (ci := 6) (v := .ref q_136) (ty := .array .int) (C := nR_M) (T := nT_M) (N := 21) hx hb hta in_M nt_M nt_M_ok nn_M hown hK hM hS k_138 rfl 14 (by decide) (hta _ aw_557) (fun _ h9 => h9) rfl hin rfl (by decide +kernel) rfl rfl (Nat.le_of_ble_eq_true rfl) d_M_init_85 (fs' := [.int 0, .int 0, .int 0, .int 0, .ref q_1, .ref q_8, .ref q_17, .ref q_28, .ref q_41, .ref q_56, .int 0, .ref q_73, .ref q_92, .ref q_113, .ref q_136, .int 0, .int 0, .int 0, .null, .int 0, .null]) rfl (fun H locs hM hS => ?_)
  obtain ⟨w_149, hw_149⟩ : ∃ z9 : Nat → Option va_E, z9 = va_up w_137 a (some (.inr (6, [.int 0, .int 0, .int 0, .int 0, .ref q_1, .ref q_8, .ref q_17, .ref q_28, .ref q_41, .ref q_56, .int 0, .ref q_73, .ref q_92, .ref q_113, .ref q_136, .int 0, .int 0, .int 0, .null, .int 0, .null]))) := ⟨_, rfl⟩
  rw [← hw_149] at hM
  have k_150 : w_149 a = some (.inr (6, [.int 0, .int 0, .int 0, .int 0, .ref q_1, .ref q_8, .ref q_17, .ref q_28, .ref q_41, .ref q_56, .int 0, .ref q_73, .ref q_92, .ref q_113, .ref q_136, .int 0, .int 0, .int 0, .null, .int 0, .null])) := by rw [hw_149, va_up_self]
  have k_151 : w_149 q_1 = some (.inl (cI, 100, .inl (fun _ => 0))) := by rw [hw_149, va_up_ne _ _ (Ne.symm (m_newne ha nq_1))]; exact k_139
  have k_152 : w_149 q_8 = some (.inl (cI, 100, .inl (fun _ => 0))) := by rw [hw_149, va_up_ne _ _ (Ne.symm (m_newne k_6 nq_8))]; exact k_140
  have k_153 : w_149 q_17 = some (.inl (cI, 100, .inl (fun _ => 0))) := by rw [hw_149, va_up_ne _ _ (Ne.symm (m_newne k_14 nq_17))]; exact k_141
  have k_154 : w_149 q_28 = some (.inl (cI, 100, .inl (fun _ => 0))) := by rw [hw_149, va_up_ne _ _ (Ne.symm (m_newne k_24 nq_28))]; exact k_142
  have k_155 : w_149 q_41 = some (.inl (cI, 100, .inl (fun _ => 0))) := by rw [hw_149, va_up_ne _ _ (Ne.symm (m_newne k_36 nq_41))]; exact k_143
  have k_156 : w_149 q_56 = some (.inl (cI, 100, .inl (fun _ => 0))) := by rw [hw_149, va_up_ne _ _ (Ne.symm (m_newne k_50 nq_56))]; exact k_144
  have k_157 : w_149 q_73 = some (.inl (cI, 200, .inl (fun _ => 0))) := by rw [hw_149, va_up_ne _ _ (Ne.symm (m_newne k_66 nq_73))]; exact k_145
  have k_158 : w_149 q_92 = some (.inl (cI, 200, .inl (fun _ => 0))) := by rw [hw_149, va_up_ne _ _ (Ne.symm (m_newne k_84 nq_92))]; exact k_146
  have k_159 : w_149 q_113 = some (.inl (cI, 200, .inl (fun _ => 0))) := by rw [hw_149, va_up_ne _ _ (Ne.symm (m_newne k_104 nq_113))]; exact k_147
  have k_160 : w_149 q_136 = some (.inl (cI, 200, .inl (fun _ => 0))) := by rw [hw_149, va_up_ne _ _ (Ne.symm (m_newne k_126 nq_136))]; exact k_148
  refine lv_aload_n hx hb d_M_init_88 rfl (lv_at hl 0 rfl) ?_
  refine lv_bipush (v := 100) hx hb d_M_init_89 (by decide) ?_
  refine m_newaT (atype := .int) (ty := .int) hx hb (hta _ aw_607) rfl hK hM hS hA (t0 := 2) rfl (n := 100) (N' := 100) (a0 := (100, .inl (fun _ => 0))) (fun _ => rfl) (by decide) (by decide) (by decide) (Nat.le_of_ble_eq_true rfl) (Nat.le_of_ble_eq_true rfl) d_M_init_91 (fun q_161 H nq_161 hM hS => ?_)
  obtain ⟨w_162, hw_162⟩ : ∃ z9 : Nat → Option va_E, z9 = va_up w_149 q_161 (some (.inl (cI, 100, .inl (fun _ => 0)))) := ⟨_, rfl⟩
  rw [← hw_162] at hM
  have k_163 : w_162 a = some (.inr (6, [.int 0, .int 0, .int 0, .int 0, .ref q_1, .ref q_8, .ref q_17, .ref q_28, .ref q_41, .ref q_56, .int 0, .ref q_73, .ref q_92, .ref q_113, .ref q_136, .int 0, .int 0, .int 0, .null, .int 0, .null])) := by rw [hw_162, va_up_ne _ _ (m_newne k_150 nq_161)]; exact k_150
  have k_164 : w_162 q_1 = some (.inl (cI, 100, .inl (fun _ => 0))) := by rw [hw_162, va_up_ne _ _ (m_newne k_151 nq_161)]; exact k_151
  have k_165 : w_162 q_8 = some (.inl (cI, 100, .inl (fun _ => 0))) := by rw [hw_162, va_up_ne _ _ (m_newne k_152 nq_161)]; exact k_152
  have k_166 : w_162 q_17 = some (.inl (cI, 100, .inl (fun _ => 0))) := by rw [hw_162, va_up_ne _ _ (m_newne k_153 nq_161)]; exact k_153
  have k_167 : w_162 q_28 = some (.inl (cI, 100, .inl (fun _ => 0))) := by rw [hw_162, va_up_ne _ _ (m_newne k_154 nq_161)]; exact k_154
  have k_168 : w_162 q_41 = some (.inl (cI, 100, .inl (fun _ => 0))) := by rw [hw_162, va_up_ne _ _ (m_newne k_155 nq_161)]; exact k_155
  have k_169 : w_162 q_56 = some (.inl (cI, 100, .inl (fun _ => 0))) := by rw [hw_162, va_up_ne _ _ (m_newne k_156 nq_161)]; exact k_156
  have k_170 : w_162 q_73 = some (.inl (cI, 200, .inl (fun _ => 0))) := by rw [hw_162, va_up_ne _ _ (m_newne k_157 nq_161)]; exact k_157
  have k_171 : w_162 q_92 = some (.inl (cI, 200, .inl (fun _ => 0))) := by rw [hw_162, va_up_ne _ _ (m_newne k_158 nq_161)]; exact k_158
  have k_172 : w_162 q_113 = some (.inl (cI, 200, .inl (fun _ => 0))) := by rw [hw_162, va_up_ne _ _ (m_newne k_159 nq_161)]; exact k_159
  have k_173 : w_162 q_136 = some (.inl (cI, 200, .inl (fun _ => 0))) := by rw [hw_162, va_up_ne _ _ (m_newne k_160 nq_161)]; exact k_160
  have k_174 : w_162 q_161 = some (.inl (cI, 100, .inl (fun _ => 0))) := by rw [hw_162, va_up_self]
  refine m_putF (D := G) (ci := 6) (v := .ref q_161) (ty := .array .int) (C := nR_M) (T := nT_M) (N := 21) hx hb hta in_M nt_M nt_M_ok nn_M hown hK hM hS k_163 rfl 18 (by decide) (hta _ aw_561) (fun _ h9 => h9) rfl hin rfl (by decide +kernel) rfl rfl (Nat.le_of_ble_eq_true rfl) d_M_init_93 (fs' := [.int 0, .int 0, .int 0, .int 0, .ref q_1, .ref q_8, .ref q_17, .ref q_28, .ref q_41, .ref q_56, .int 0, .ref q_73, .ref q_92, .ref q_113, .ref q_136, .int 0, .int 0, .int 0, .ref q_161, .int 0, .null]) rfl (fun H locs hM hS => ?_)
  obtain ⟨w_175, hw_175⟩ : ∃ z9 : Nat → Option va_E, z9 = va_up w_162 a (some (.inr (6, [.int 0, .int 0, .int 0, .int 0, .ref q_1, .ref q_8, .ref q_17, .ref q_28, .ref q_41, .ref q_56, .int 0, .ref q_73, .ref q_92, .ref q_113, .ref q_136, .int 0, .int 0, .int 0, .ref q_161, .int 0, .null]))) := ⟨_, rfl⟩
  rw [← hw_175] at hM
  have k_176 : w_175 a = some (.inr (6, [.int 0, .int 0, .int 0, .int 0, .ref q_1, .ref q_8, .ref q_17, .ref q_28, .ref q_41, .ref q_56, .int 0, .ref q_73, .ref q_92, .ref q_113, .ref q_136, .int 0, .int 0, .int 0, .ref q_161, .int 0, .null])) := by rw [hw_175, va_up_self]
  have k_177 : w_175 q_1 = some (.inl (cI, 100, .inl (fun _ => 0))) := by rw [hw_175, va_up_ne _ _ (Ne.symm (m_newne ha nq_1))]; exact k_164
  have k_178 : w_175 q_8 = some (.inl (cI, 100, .inl (fun _ => 0))) := by rw [hw_175, va_up_ne _ _ (Ne.symm (m_newne k_6 nq_8))]; exact k_165
  have k_179 : w_175 q_17 = some (.inl (cI, 100, .inl (fun _ => 0))) := by rw [hw_175, va_up_ne _ _ (Ne.symm (m_newne k_14 nq_17))]; exact k_166
  have k_180 : w_175 q_28 = some (.inl (cI, 100, .inl (fun _ => 0))) := by rw [hw_175, va_up_ne _ _ (Ne.symm (m_newne k_24 nq_28))]; exact k_167
  have k_181 : w_175 q_41 = some (.inl (cI, 100, .inl (fun _ => 0))) := by rw [hw_175, va_up_ne _ _ (Ne.symm (m_newne k_36 nq_41))]; exact k_168
  have k_182 : w_175 q_56 = some (.inl (cI, 100, .inl (fun _ => 0))) := by rw [hw_175, va_up_ne _ _ (Ne.symm (m_newne k_50 nq_56))]; exact k_169
  have k_183 : w_175 q_73 = some (.inl (cI, 200, .inl (fun _ => 0))) := by rw [hw_175, va_up_ne _ _ (Ne.symm (m_newne k_66 nq_73))]; exact k_170
  have k_184 : w_175 q_92 = some (.inl (cI, 200, .inl (fun _ => 0))) := by rw [hw_175, va_up_ne _ _ (Ne.symm (m_newne k_84 nq_92))]; exact k_171
  have k_185 : w_175 q_113 = some (.inl (cI, 200, .inl (fun _ => 0))) := by rw [hw_175, va_up_ne _ _ (Ne.symm (m_newne k_104 nq_113))]; exact k_172
  have k_186 : w_175 q_136 = some (.inl (cI, 200, .inl (fun _ => 0))) := by rw [hw_175, va_up_ne _ _ (Ne.symm (m_newne k_126 nq_136))]; exact k_173
  have k_187 : w_175 q_161 = some (.inl (cI, 100, .inl (fun _ => 0))) := by rw [hw_175, va_up_ne _ _ (Ne.symm (m_newne k_150 nq_161))]; exact k_174
  refine lv_aload_n hx hb d_M_init_96 rfl (lv_at hl 0 rfl) ?_
  refine lv_sipush (v := 2400) hx hb d_M_init_97 (by decide) ?_
  refine m_newaT (atype := .int) (ty := .int) hx hb (hta _ aw_607) rfl hK hM hS hA (t0 := 2) rfl (n := 2400) (N' := 2400) (a0 := (2400, .inl (fun _ => 0))) (fun _ => rfl) (by decide) (by decide) (by decide) (Nat.le_of_ble_eq_true rfl) (Nat.le_of_ble_eq_true rfl) d_M_init_100 (fun q_188 H nq_188 hM hS => ?_)
  obtain ⟨w_189, hw_189⟩ : ∃ z9 : Nat → Option va_E, z9 = va_up w_175 q_188 (some (.inl (cI, 2400, .inl (fun _ => 0)))) := ⟨_, rfl⟩
  rw [← hw_189] at hM
  have k_190 : w_189 a = some (.inr (6, [.int 0, .int 0, .int 0, .int 0, .ref q_1, .ref q_8, .ref q_17, .ref q_28, .ref q_41, .ref q_56, .int 0, .ref q_73, .ref q_92, .ref q_113, .ref q_136, .int 0, .int 0, .int 0, .ref q_161, .int 0, .null])) := by rw [hw_189, va_up_ne _ _ (m_newne k_176 nq_188)]; exact k_176
  have k_191 : w_189 q_1 = some (.inl (cI, 100, .inl (fun _ => 0))) := by rw [hw_189, va_up_ne _ _ (m_newne k_177 nq_188)]; exact k_177
  have k_192 : w_189 q_8 = some (.inl (cI, 100, .inl (fun _ => 0))) := by rw [hw_189, va_up_ne _ _ (m_newne k_178 nq_188)]; exact k_178
  have k_193 : w_189 q_17 = some (.inl (cI, 100, .inl (fun _ => 0))) := by rw [hw_189, va_up_ne _ _ (m_newne k_179 nq_188)]; exact k_179
  have k_194 : w_189 q_28 = some (.inl (cI, 100, .inl (fun _ => 0))) := by rw [hw_189, va_up_ne _ _ (m_newne k_180 nq_188)]; exact k_180
  have k_195 : w_189 q_41 = some (.inl (cI, 100, .inl (fun _ => 0))) := by rw [hw_189, va_up_ne _ _ (m_newne k_181 nq_188)]; exact k_181
  have k_196 : w_189 q_56 = some (.inl (cI, 100, .inl (fun _ => 0))) := by rw [hw_189, va_up_ne _ _ (m_newne k_182 nq_188)]; exact k_182
  have k_197 : w_189 q_73 = some (.inl (cI, 200, .inl (fun _ => 0))) := by rw [hw_189, va_up_ne _ _ (m_newne k_183 nq_188)]; exact k_183
  have k_198 : w_189 q_92 = some (.inl (cI, 200, .inl (fun _ => 0))) := by rw [hw_189, va_up_ne _ _ (m_newne k_184 nq_188)]; exact k_184
  have k_199 : w_189 q_113 = some (.inl (cI, 200, .inl (fun _ => 0))) := by rw [hw_189, va_up_ne _ _ (m_newne k_185 nq_188)]; exact k_185
  have k_200 : w_189 q_136 = some (.inl (cI, 200, .inl (fun _ => 0))) := by rw [hw_189, va_up_ne _ _ (m_newne k_186 nq_188)]; exact k_186
  have k_201 : w_189 q_161 = some (.inl (cI, 100, .inl (fun _ => 0))) := by rw [hw_189, va_up_ne _ _ (m_newne k_187 nq_188)]; exact k_187
  have k_202 : w_189 q_188 = some (.inl (cI, 2400, .inl (fun _ => 0))) := by rw [hw_189, va_up_self]
  refine m_putF (D := G) (ci := 6) (v := .ref q_188) (ty := .array .int) (C := nR_M) (T := nT_M) (N := 21) hx hb hta in_M nt_M nt_M_ok nn_M hown hK hM hS k_190 rfl 20 (by decide) (hta _ aw_563) (fun _ h9 => h9) rfl hin rfl (by decide +kernel) rfl rfl (Nat.le_of_ble_eq_true rfl) d_M_init_102 (fs' := [.int 0, .int 0, .int 0, .int 0, .ref q_1, .ref q_8, .ref q_17, .ref q_28, .ref q_41, .ref q_56, .int 0, .ref q_73, .ref q_92, .ref q_113, .ref q_136, .int 0, .int 0, .int 0, .ref q_161, .int 0, .ref q_188]) rfl (fun H locs hM hS => ?_)
  obtain ⟨w_203, hw_203⟩ : ∃ z9 : Nat → Option va_E, z9 = va_up w_189 a (some (.inr (6, [.int 0, .int 0, .int 0, .int 0, .ref q_1, .ref q_8, .ref q_17, .ref q_28, .ref q_41, .ref q_56, .int 0, .ref q_73, .ref q_92, .ref q_113, .ref q_136, .int 0, .int 0, .int 0, .ref q_161, .int 0, .ref q_188]))) := ⟨_, rfl⟩
  rw [← hw_203] at hM
  have k_204 : w_203 a = some (.inr (6, [.int 0, .int 0, .int 0, .int 0, .ref q_1, .ref q_8, .ref q_17, .ref q_28, .ref q_41, .ref q_56, .int 0, .ref q_73, .ref q_92, .ref q_113, .ref q_136, .int 0, .int 0, .int 0, .ref q_161, .int 0, .ref q_188])) := by rw [hw_203, va_up_self]
  have k_205 : w_203 q_1 = some (.inl (cI, 100, .inl (fun _ => 0))) := by rw [hw_203, va_up_ne _ _ (Ne.symm (m_newne ha nq_1))]; exact k_191
  have k_206 : w_203 q_8 = some (.inl (cI, 100, .inl (fun _ => 0))) := by rw [hw_203, va_up_ne _ _ (Ne.symm (m_newne k_6 nq_8))]; exact k_192
  have k_207 : w_203 q_17 = some (.inl (cI, 100, .inl (fun _ => 0))) := by rw [hw_203, va_up_ne _ _ (Ne.symm (m_newne k_14 nq_17))]; exact k_193
  have k_208 : w_203 q_28 = some (.inl (cI, 100, .inl (fun _ => 0))) := by rw [hw_203, va_up_ne _ _ (Ne.symm (m_newne k_24 nq_28))]; exact k_194
  have k_209 : w_203 q_41 = some (.inl (cI, 100, .inl (fun _ => 0))) := by rw [hw_203, va_up_ne _ _ (Ne.symm (m_newne k_36 nq_41))]; exact k_195
  have k_210 : w_203 q_56 = some (.inl (cI, 100, .inl (fun _ => 0))) := by rw [hw_203, va_up_ne _ _ (Ne.symm (m_newne k_50 nq_56))]; exact k_196
  have k_211 : w_203 q_73 = some (.inl (cI, 200, .inl (fun _ => 0))) := by rw [hw_203, va_up_ne _ _ (Ne.symm (m_newne k_66 nq_73))]; exact k_197
  have k_212 : w_203 q_92 = some (.inl (cI, 200, .inl (fun _ => 0))) := by rw [hw_203, va_up_ne _ _ (Ne.symm (m_newne k_84 nq_92))]; exact k_198
  have k_213 : w_203 q_113 = some (.inl (cI, 200, .inl (fun _ => 0))) := by rw [hw_203, va_up_ne _ _ (Ne.symm (m_newne k_104 nq_113))]; exact k_199
  have k_214 : w_203 q_136 = some (.inl (cI, 200, .inl (fun _ => 0))) := by rw [hw_203, va_up_ne _ _ (Ne.symm (m_newne k_126 nq_136))]; exact k_200
  have k_215 : w_203 q_161 = some (.inl (cI, 100, .inl (fun _ => 0))) := by rw [hw_203, va_up_ne _ _ (Ne.symm (m_newne k_150 nq_161))]; exact k_201
  have k_216 : w_203 q_188 = some (.inl (cI, 2400, .inl (fun _ => 0))) := by rw [hw_203, va_up_ne _ _ (Ne.symm (m_newne k_176 nq_188))]; exact k_202
  have hpw : List.Pairwise (· ≠ ·) [q_1, q_8, q_17, q_28, q_41, q_56, q_73, q_92, q_113, q_136, q_161, q_188] := (List.Pairwise.cons (List.forall_mem_cons.mpr ⟨(m_newne k_7 nq_8), (List.forall_mem_cons.mpr ⟨(m_newne k_15 nq_17), (List.forall_mem_cons.mpr ⟨(m_newne k_25 nq_28), (List.forall_mem_cons.mpr ⟨(m_newne k_37 nq_41), (List.forall_mem_cons.mpr ⟨(m_newne k_51 nq_56), (List.forall_mem_cons.mpr ⟨(m_newne k_67 nq_73), (List.forall_mem_cons.mpr ⟨(m_newne k_85 nq_92), (List.forall_mem_cons.mpr ⟨(m_newne k_105 nq_113), (List.forall_mem_cons.mpr ⟨(m_newne k_127 nq_136), (List.forall_mem_cons.mpr ⟨(m_newne k_151 nq_161), (List.forall_mem_cons.mpr ⟨(m_newne k_177 nq_188), (fun _ h => absurd h List.not_mem_nil)⟩)⟩)⟩)⟩)⟩)⟩)⟩)⟩)⟩)⟩)⟩) (List.Pairwise.cons (List.forall_mem_cons.mpr ⟨(m_newne k_16 nq_17), (List.forall_mem_cons.mpr ⟨(m_newne k_26 nq_28), (List.forall_mem_cons.mpr ⟨(m_newne k_38 nq_41), (List.forall_mem_cons.mpr ⟨(m_newne k_52 nq_56), (List.forall_mem_cons.mpr ⟨(m_newne k_68 nq_73), (List.forall_mem_cons.mpr ⟨(m_newne k_86 nq_92), (List.forall_mem_cons.mpr ⟨(m_newne k_106 nq_113), (List.forall_mem_cons.mpr ⟨(m_newne k_128 nq_136), (List.forall_mem_cons.mpr ⟨(m_newne k_152 nq_161), (List.forall_mem_cons.mpr ⟨(m_newne k_178 nq_188), (fun _ h => absurd h List.not_mem_nil)⟩)⟩)⟩)⟩)⟩)⟩)⟩)⟩)⟩)⟩) (List.Pairwise.cons (List.forall_mem_cons.mpr ⟨(m_newne k_27 nq_28), (List.forall_mem_cons.mpr ⟨(m_newne k_39 nq_41), (List.forall_mem_cons.mpr ⟨(m_newne k_53 nq_56), (List.forall_mem_cons.mpr ⟨(m_newne k_69 nq_73), (List.forall_mem_cons.mpr ⟨(m_newne k_87 nq_92), (List.forall_mem_cons.mpr ⟨(m_newne k_107 nq_113), (List.forall_mem_cons.mpr ⟨(m_newne k_129 nq_136), (List.forall_mem_cons.mpr ⟨(m_newne k_153 nq_161), (List.forall_mem_cons.mpr ⟨(m_newne k_179 nq_188), (fun _ h => absurd h List.not_mem_nil)⟩)⟩)⟩)⟩)⟩)⟩)⟩)⟩)⟩) (List.Pairwise.cons (List.forall_mem_cons.mpr ⟨(m_newne k_40 nq_41), (List.forall_mem_cons.mpr ⟨(m_newne k_54 nq_56), (List.forall_mem_cons.mpr ⟨(m_newne k_70 nq_73), (List.forall_mem_cons.mpr ⟨(m_newne k_88 nq_92), (List.forall_mem_cons.mpr ⟨(m_newne k_108 nq_113), (List.forall_mem_cons.mpr ⟨(m_newne k_130 nq_136), (List.forall_mem_cons.mpr ⟨(m_newne k_154 nq_161), (List.forall_mem_cons.mpr ⟨(m_newne k_180 nq_188), (fun _ h => absurd h List.not_mem_nil)⟩)⟩)⟩)⟩)⟩)⟩)⟩)⟩) (List.Pairwise.cons (List.forall_mem_cons.mpr ⟨(m_newne k_55 nq_56), (List.forall_mem_cons.mpr ⟨(m_newne k_71 nq_73), (List.forall_mem_cons.mpr ⟨(m_newne k_89 nq_92), (List.forall_mem_cons.mpr ⟨(m_newne k_109 nq_113), (List.forall_mem_cons.mpr ⟨(m_newne k_131 nq_136), (List.forall_mem_cons.mpr ⟨(m_newne k_155 nq_161), (List.forall_mem_cons.mpr ⟨(m_newne k_181 nq_188), (fun _ h => absurd h List.not_mem_nil)⟩)⟩)⟩)⟩)⟩)⟩)⟩) (List.Pairwise.cons (List.forall_mem_cons.mpr ⟨(m_newne k_72 nq_73), (List.forall_mem_cons.mpr ⟨(m_newne k_90 nq_92), (List.forall_mem_cons.mpr ⟨(m_newne k_110 nq_113), (List.forall_mem_cons.mpr ⟨(m_newne k_132 nq_136), (List.forall_mem_cons.mpr ⟨(m_newne k_156 nq_161), (List.forall_mem_cons.mpr ⟨(m_newne k_182 nq_188), (fun _ h => absurd h List.not_mem_nil)⟩)⟩)⟩)⟩)⟩)⟩) (List.Pairwise.cons (List.forall_mem_cons.mpr ⟨(m_newne k_91 nq_92), (List.forall_mem_cons.mpr ⟨(m_newne k_111 nq_113), (List.forall_mem_cons.mpr ⟨(m_newne k_133 nq_136), (List.forall_mem_cons.mpr ⟨(m_newne k_157 nq_161), (List.forall_mem_cons.mpr ⟨(m_newne k_183 nq_188), (fun _ h => absurd h List.not_mem_nil)⟩)⟩)⟩)⟩)⟩) (List.Pairwise.cons (List.forall_mem_cons.mpr ⟨(m_newne k_112 nq_113), (List.forall_mem_cons.mpr ⟨(m_newne k_134 nq_136), (List.forall_mem_cons.mpr ⟨(m_newne k_158 nq_161), (List.forall_mem_cons.mpr ⟨(m_newne k_184 nq_188), (fun _ h => absurd h List.not_mem_nil)⟩)⟩)⟩)⟩) (List.Pairwise.cons (List.forall_mem_cons.mpr ⟨(m_newne k_135 nq_136), (List.forall_mem_cons.mpr ⟨(m_newne k_159 nq_161), (List.forall_mem_cons.mpr ⟨(m_newne k_185 nq_188), (fun _ h => absurd h List.not_mem_nil)⟩)⟩)⟩) (List.Pairwise.cons (List.forall_mem_cons.mpr ⟨(m_newne k_160 nq_161), (List.forall_mem_cons.mpr ⟨(m_newne k_186 nq_188), (fun _ h => absurd h List.not_mem_nil)⟩)⟩) (List.Pairwise.cons (List.forall_mem_cons.mpr ⟨(m_newne k_187 nq_188), (fun _ h => absurd h List.not_mem_nil)⟩) (List.Pairwise.cons (fun _ h => absurd h List.not_mem_nil) List.Pairwise.nil))))))))))))
  have hma : ∀ i, i < 12 → w_203 ([q_1, q_8, q_17, q_28, q_41, q_56, q_73, q_92, q_113, q_136, q_161, q_188].getD i 0) = some (aI cI (msz i) (fun _ => 0)) := by
    intro i hi
    match i, hi with
    | 0, _ => exact k_205
    | 1, _ => exact k_206
    | 2, _ => exact k_207
    | 3, _ => exact k_208
    | 4, _ => exact k_209
    | 5, _ => exact k_210
    | 6, _ => exact k_211
    | 7, _ => exact k_212
    | 8, _ => exact k_213
    | 9, _ => exact k_214
    | 10, _ => exact k_215
    | 11, _ => exact k_216
    | i + 12, h => exact absurd h (by omega)
  exact W.vret hx hb hr (fun t ht hW => ⟨⟨(w_203, (fun i => [q_1, q_8, q_17, q_28, q_41, q_56, q_73, q_92, q_113, q_136, q_161, q_188].getD i 0)), rfl, ⟨inj_pw hpw, k_204, hma⟩, by rw [ht]; exact hM, va_K.moved hW.alike hK⟩, hS.F ht⟩) hS.2.2 d_M_init_105
