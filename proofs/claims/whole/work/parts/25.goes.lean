/-! the reference: does the call go on, or which refusal -/
/-- which refusal comes first: 0 none, 1 unknown number, 2 out of range, 3 not in this state, 4 no room -/
def gC (a b c d : Int32) : Nat := if a = 0 then 1 else if b = 0 then 2 else if c = 0 then 3 else if d = 0 then 4 else 0
/-- its place among those that a method has -/
def gT (kd c : Nat) : Nat := (if kd % 2 = 1 ∧ 1 ≤ c then 1 else 0) + (if kd / 2 % 2 = 1 ∧ 2 ≤ c then 1 else 0) + (if kd / 4 % 2 = 1 ∧ 3 ≤ c then 1 else 0) + (if kd / 8 % 2 = 1 ∧ 4 ≤ c then 1 else 0)
set_option maxHeartbeats 4000000 in
set_option maxRecDepth 100000 in
theorem k_M_goes_8 (l : Launch) (G : va_G) (q0 q1 : ClassId × FieldType) (cI : ClassId) (ty2 : List (ClassId × FieldType)) (w : Nat → Option va_E) {mm : Nat} {ad : Nat → Nat} {f : Nat → Nat → Int32} {th no wr n k z r so pr : Int32} (hm : w mm = some (eM ad th no wr n k z r so pr)) (hma : ∀ i, i < 12 → w (ad i) = some (aI cI (msz i) (f i))) (b1 b2 b3 b4 : Int32) (sz : Nat) : Met l y_M_goes (wm y_M_goes c_M_goes 8 (some .boolean)) ({ frames := 0, cells := 0, slots := 0, locals := 0 }) (pZ G (q0 :: q1 :: (cI, .int) :: ty2) w sz [.ref mm, .int 8, .int b1, .int b2, .int b3, .int b4]) (va_Qi (fun (r0 : Int32) (u : Unit) => r0 = if gC b1 b2 b3 b4 = 0 then 1 else 0) (fun _ t => mw G ncl (mA w sz) (va_up w mm (some (eM ad (nI (gT 8 (gC b1 b2 b3 b4))) no wr n k z r so pr))) t.heap ∧ va_K G ncl (q0 :: q1 :: (cI, .int) :: ty2) t) (mA w sz)) 0 0 (mA w sz) := by
  refine Met.ofW (cc := c_M_goes) (maxL := 8) (ret := (some .boolean)) (by decide) rfl ?_
  intro p e s m args below meth c s₁ B hml hv
  obtain ⟨rfl, hsz, hM0, hK⟩ := hv
  have hx := B.exec
  have hb := B.bytes
  have hr := B.returns
  have hts := atoms_spec (ws := (wm y_M_goes c_M_goes 8 (some .boolean))) B.pre
  have hta : ∀ w ∈ AL, w.before _ s = true := fun w h => hts w (List.mem_cons_of_mem _ h)
  have hown : s.vm.findClass nR_M = some m.cls := findClass_of_methodNamed B.named
  have hlocks := B.notSynchronized
  have hl := lv_entry ([.ref mm, .int 8, .int b1, .int b2, .int b3, .int b4]) (n := 8) (Nat.le_of_ble_eq_true rfl)
  rw [lg_entry_eq]
  generalize (lg_sl ([.ref mm, .int 8, .int b1, .int b2, .int b3, .int b4]) ++ List.replicate (8 - (lg_sl ([.ref mm, .int 8, .int b1, .int b2, .int b3, .int b4])).length) Slot.unset).toArray = ls at hl ⊢
  have hl : lv_has ls 8 [(0, .ref mm), (1, .int 8), (2, .int b1), (3, .int b2), (4, .int b3), (5, .int b4)] := hl
  subst hsz
  have hM := mw_self (sz := s.heap.size) hM0
  clear hM0
  generalize hAe : mA w s.heap.size = A at hM ⊢
  have hA : ∀ q : Nat, s.heap.size ≤ q → A q := fun q h => by rw [← hAe]; exact Or.inr h
  have hS : va_S A s.heap s.heap [] := va_S.rf
  refine lv_iload_n hx hb d_M_goes_0 rfl (lv_at hl 2 rfl) ?_
  refine lv_if_ne (tgt := 8) hx hb d_M_goes_1 (by decide) (fun c_1 => ?_) (fun c_1 => ?_)
  · refine lv_iload_n hx hb d_M_goes_8 rfl (lv_at hl 3 rfl) ?_
    refine lv_if_ne (tgt := 16) hx hb d_M_goes_9 (by decide) (fun c_2 => ?_) (fun c_2 => ?_)
    · refine lv_iload hx hb d_M_goes_16 (lv_at hl 4 rfl) ?_
      refine lv_if_ne (tgt := 25) hx hb d_M_goes_18 (by decide) (fun c_3 => ?_) (fun c_3 => ?_)
      · refine lv_iload hx hb d_M_goes_25 (lv_at hl 5 rfl) ?_
        refine lv_if_ne (tgt := 35) hx hb d_M_goes_27 (by decide) (fun c_4 => ?_) (fun c_4 => ?_)
        · refine lv_iconst (v := 0) hx hb d_M_goes_35 (by decide) ?_
          refine lv_istore (lv' := [(6, .int 0), (0, .ref mm), (1, .int 8), (2, .int b1), (3, .int b2), (4, .int b3), (5, .int b4)]) hx hb d_M_goes_36 hl (by decide) rfl (fun ls hl => ?_)
          refine lv_aload_n hx hb d_M_goes_38 rfl (lv_at hl 1 rfl) ?_
          refine lv_iconst (v := 0) hx hb d_M_goes_39 (by decide) ?_
          refine m_put (D := G) (ci := 6) (v := .int 0) (ty := .int) (C := nR_M) (T := nT_M) (N := 21) hx hb hta in_M nt_M nt_M_ok nn_M hown hK hM hS hm rfl 0 (by decide) (hta _ aw_543) (fun _ h9 => h9) rfl (by decide +kernel) rfl rfl (Nat.le_of_ble_eq_true rfl) d_M_goes_40 (fs' := [.int 0, .int no, .int wr, .int n, .ref (ad 0), .ref (ad 1), .ref (ad 2), .ref (ad 3), .ref (ad 4), .ref (ad 5), .int k, .ref (ad 6), .ref (ad 7), .ref (ad 8), .ref (ad 9), .int z, .int r, .int so, .ref (ad 10), .int pr, .ref (ad 11)]) rfl (fun H locs hM hS => ?_)
          obtain ⟨w_5, hw_5⟩ : ∃ z9 : Nat → Option va_E, z9 = va_up w mm (some (.inr (6, [.int 0, .int no, .int wr, .int n, .ref (ad 0), .ref (ad 1), .ref (ad 2), .ref (ad 3), .ref (ad 4), .ref (ad 5), .int k, .ref (ad 6), .ref (ad 7), .ref (ad 8), .ref (ad 9), .int z, .int r, .int so, .ref (ad 10), .int pr, .ref (ad 11)]))) := ⟨_, rfl⟩
          rw [← hw_5] at hM
          have k_6 : w_5 mm = some (.inr (6, [.int 0, .int no, .int wr, .int n, .ref (ad 0), .ref (ad 1), .ref (ad 2), .ref (ad 3), .ref (ad 4), .ref (ad 5), .int k, .ref (ad 6), .ref (ad 7), .ref (ad 8), .ref (ad 9), .int z, .int r, .int so, .ref (ad 10), .int pr, .ref (ad 11)])) := by rw [hw_5, va_up_self]
          refine lv_iconst (v := 1) hx hb d_M_goes_43 (by decide) ?_
          refine lv_istore (lv' := [(7, .int 1), (6, .int 0), (0, .ref mm), (1, .int 8), (2, .int b1), (3, .int b2), (4, .int b3), (5, .int b4)]) hx hb d_M_goes_44 hl (by decide) rfl (fun ls hl => ?_)
          refine lv_iload hx hb d_M_goes_46 (lv_at hl 0 rfl) ?_
          refine lv_iload hx hb d_M_goes_48 (lv_at hl 1 rfl) ?_
          refine lv_icmp_gt (tgt := 79) hx hb d_M_goes_50 (by decide) (fun c_7 => ?_) (fun c_7 => absurd (by decide) c_7)
          refine lv_iload hx hb d_M_goes_79 (lv_at hl 1 rfl) ?_
          refine lv_if_ne (tgt := 88) hx hb d_M_goes_81 (by decide) (fun c_8 => absurd (by decide) c_8) (fun c_8 => ?_)
          refine lv_iconst (v := 1) hx hb d_M_goes_84 (by decide) ?_
          refine lv_goto (tgt := 89) hx hb d_M_goes_85 (by decide) ?_
          have hg : gC b1 b2 b3 b4 = 0 := by simp [gC, c_1, c_2, c_3, c_4]
          have hM9 : mw G ncl A (va_up w mm (some (eM ad (nI (gT 8 (gC b1 b2 b3 b4))) no wr n k z r so pr))) H := by rw [hg, show nI (gT 8 0) = 0 by decide]; rw [hw_5] at hM; exact hM
          exact W.zret (v := 1) hx hb hr rfl (fun t ht hW => ⟨⟨1, (), rfl, by rw [hg]; rfl, by rw [ht]; exact hM9, va_K.moved hW.alike hK⟩, hS.F ht⟩) hS.2.2 d_M_goes_89
        · refine lv_bipush (v := 8) hx hb d_M_goes_30 (by decide) ?_
          refine lv_goto (tgt := 36) hx hb d_M_goes_32 (by decide) ?_
          refine lv_istore (lv' := [(6, .int 8), (0, .ref mm), (1, .int 8), (2, .int b1), (3, .int b2), (4, .int b3), (5, .int b4)]) hx hb d_M_goes_36 hl (by decide) rfl (fun ls hl => ?_)
          refine lv_aload_n hx hb d_M_goes_38 rfl (lv_at hl 1 rfl) ?_
          refine lv_iconst (v := 0) hx hb d_M_goes_39 (by decide) ?_
          refine m_put (D := G) (ci := 6) (v := .int 0) (ty := .int) (C := nR_M) (T := nT_M) (N := 21) hx hb hta in_M nt_M nt_M_ok nn_M hown hK hM hS hm rfl 0 (by decide) (hta _ aw_543) (fun _ h9 => h9) rfl (by decide +kernel) rfl rfl (Nat.le_of_ble_eq_true rfl) d_M_goes_40 (fs' := [.int 0, .int no, .int wr, .int n, .ref (ad 0), .ref (ad 1), .ref (ad 2), .ref (ad 3), .ref (ad 4), .ref (ad 5), .int k, .ref (ad 6), .ref (ad 7), .ref (ad 8), .ref (ad 9), .int z, .int r, .int so, .ref (ad 10), .int pr, .ref (ad 11)]) rfl (fun H locs hM hS => ?_)
          obtain ⟨w_9, hw_9⟩ : ∃ z9 : Nat → Option va_E, z9 = va_up w mm (some (.inr (6, [.int 0, .int no, .int wr, .int n, .ref (ad 0), .ref (ad 1), .ref (ad 2), .ref (ad 3), .ref (ad 4), .ref (ad 5), .int k, .ref (ad 6), .ref (ad 7), .ref (ad 8), .ref (ad 9), .int z, .int r, .int so, .ref (ad 10), .int pr, .ref (ad 11)]))) := ⟨_, rfl⟩
          rw [← hw_9] at hM
          have k_10 : w_9 mm = some (.inr (6, [.int 0, .int no, .int wr, .int n, .ref (ad 0), .ref (ad 1), .ref (ad 2), .ref (ad 3), .ref (ad 4), .ref (ad 5), .int k, .ref (ad 6), .ref (ad 7), .ref (ad 8), .ref (ad 9), .int z, .int r, .int so, .ref (ad 10), .int pr, .ref (ad 11)])) := by rw [hw_9, va_up_self]
          refine lv_iconst (v := 1) hx hb d_M_goes_43 (by decide) ?_
          refine lv_istore (lv' := [(7, .int 1), (6, .int 8), (0, .ref mm), (1, .int 8), (2, .int b1), (3, .int b2), (4, .int b3), (5, .int b4)]) hx hb d_M_goes_44 hl (by decide) rfl (fun ls hl => ?_)
          refine lv_iload hx hb d_M_goes_46 (lv_at hl 0 rfl) ?_
          refine lv_iload hx hb d_M_goes_48 (lv_at hl 1 rfl) ?_
          refine lv_icmp_gt (tgt := 79) hx hb d_M_goes_50 (by decide) (fun c_11 => absurd c_11 (by decide)) (fun c_11 => ?_)
          refine lv_iload_n hx hb d_M_goes_53 rfl (lv_at hl 3 rfl) ?_
          refine lv_iload hx hb d_M_goes_54 (lv_at hl 0 rfl) ?_
          refine lv_iand hx hb d_M_goes_56 ?_
          refine lv_if_le (tgt := 70) hx hb d_M_goes_57 (by decide) (fun c_12 => ?_) (fun c_12 => absurd (by decide) c_12)
          refine lv_iconst (v := 2) hx hb d_M_goes_70 (by decide) ?_
          refine lv_iload hx hb d_M_goes_71 (lv_at hl 0 rfl) ?_
          refine lv_imul hx hb d_M_goes_73 ?_
          refine lv_istore (lv' := [(7, .int (2 * 1)), (6, .int 8), (0, .ref mm), (1, .int 8), (2, .int b1), (3, .int b2), (4, .int b3), (5, .int b4)]) hx hb d_M_goes_74 hl (by decide) rfl (fun ls hl => ?_)
          refine lv_goto (tgt := 46) hx hb d_M_goes_76 (by decide) ?_
          refine lv_iload hx hb d_M_goes_46 (lv_at hl 0 rfl) ?_
          refine lv_iload hx hb d_M_goes_48 (lv_at hl 1 rfl) ?_
          refine lv_icmp_gt (tgt := 79) hx hb d_M_goes_50 (by decide) (fun c_13 => absurd c_13 (by decide)) (fun c_13 => ?_)
          refine lv_iload_n hx hb d_M_goes_53 rfl (lv_at hl 3 rfl) ?_
          refine lv_iload hx hb d_M_goes_54 (lv_at hl 0 rfl) ?_
          refine lv_iand hx hb d_M_goes_56 ?_
          refine lv_if_le (tgt := 70) hx hb d_M_goes_57 (by decide) (fun c_14 => ?_) (fun c_14 => absurd (by decide) c_14)
          refine lv_iconst (v := 2) hx hb d_M_goes_70 (by decide) ?_
          refine lv_iload hx hb d_M_goes_71 (lv_at hl 0 rfl) ?_
          refine lv_imul hx hb d_M_goes_73 ?_
          refine lv_istore (lv' := [(7, .int (2 * (2 * 1))), (6, .int 8), (0, .ref mm), (1, .int 8), (2, .int b1), (3, .int b2), (4, .int b3), (5, .int b4)]) hx hb d_M_goes_74 hl (by decide) rfl (fun ls hl => ?_)
          refine lv_goto (tgt := 46) hx hb d_M_goes_76 (by decide) ?_
          refine lv_iload hx hb d_M_goes_46 (lv_at hl 0 rfl) ?_
          refine lv_iload hx hb d_M_goes_48 (lv_at hl 1 rfl) ?_
          refine lv_icmp_gt (tgt := 79) hx hb d_M_goes_50 (by decide) (fun c_15 => absurd c_15 (by decide)) (fun c_15 => ?_)
          refine lv_iload_n hx hb d_M_goes_53 rfl (lv_at hl 3 rfl) ?_
          refine lv_iload hx hb d_M_goes_54 (lv_at hl 0 rfl) ?_
          refine lv_iand hx hb d_M_goes_56 ?_
          refine lv_if_le (tgt := 70) hx hb d_M_goes_57 (by decide) (fun c_16 => ?_) (fun c_16 => absurd (by decide) c_16)
          refine lv_iconst (v := 2) hx hb d_M_goes_70 (by decide) ?_
          refine lv_iload hx hb d_M_goes_71 (lv_at hl 0 rfl) ?_
          refine lv_imul hx hb d_M_goes_73 ?_
          refine lv_istore (lv' := [(7, .int (2 * (2 * (2 * 1)))), (6, .int 8), (0, .ref mm), (1, .int 8), (2, .int b1), (3, .int b2), (4, .int b3), (5, .int b4)]) hx hb d_M_goes_74 hl (by decide) rfl (fun ls hl => ?_)
          refine lv_goto (tgt := 46) hx hb d_M_goes_76 (by decide) ?_
          refine lv_iload hx hb d_M_goes_46 (lv_at hl 0 rfl) ?_
          refine lv_iload hx hb d_M_goes_48 (lv_at hl 1 rfl) ?_
          refine lv_icmp_gt (tgt := 79) hx hb d_M_goes_50 (by decide) (fun c_17 => absurd c_17 (by decide)) (fun c_17 => ?_)
          refine lv_iload_n hx hb d_M_goes_53 rfl (lv_at hl 3 rfl) ?_
          refine lv_iload hx hb d_M_goes_54 (lv_at hl 0 rfl) ?_
          refine lv_iand hx hb d_M_goes_56 ?_
          refine lv_if_le (tgt := 70) hx hb d_M_goes_57 (by decide) (fun c_18 => absurd c_18 (by decide)) (fun c_18 => ?_)
          refine lv_aload_n hx hb d_M_goes_60 rfl (lv_at hl 2 rfl) ?_
          refine lv_dup hx hb d_M_goes_61 rfl ?_
          refine m_get (D := G) (ci := 6) (v := .int 0) (C := nR_M) (T := nT_M) (N := 21) hx hb hta in_M hown hK hM k_10 rfl 0 (by decide) (hta _ aw_543) (fun _ h9 => h9) rfl d_M_goes_62 ?_
          refine lv_iconst (v := 1) hx hb d_M_goes_65 (by decide) ?_
          refine lv_iadd hx hb d_M_goes_66 ?_
          refine m_put (D := G) (ci := 6) (v := .int (0 + 1)) (ty := .int) (C := nR_M) (T := nT_M) (N := 21) hx hb hta in_M nt_M nt_M_ok nn_M hown hK hM hS k_10 rfl 0 (by decide) (hta _ aw_543) (fun _ h9 => h9) rfl (by decide +kernel) rfl rfl (Nat.le_of_ble_eq_true rfl) d_M_goes_67 (fs' := [.int (0 + 1), .int no, .int wr, .int n, .ref (ad 0), .ref (ad 1), .ref (ad 2), .ref (ad 3), .ref (ad 4), .ref (ad 5), .int k, .ref (ad 6), .ref (ad 7), .ref (ad 8), .ref (ad 9), .int z, .int r, .int so, .ref (ad 10), .int pr, .ref (ad 11)]) rfl (fun H locs hM hS => ?_)
          obtain ⟨w_19, hw_19⟩ : ∃ z9 : Nat → Option va_E, z9 = va_up w_9 mm (some (.inr (6, [.int (0 + 1), .int no, .int wr, .int n, .ref (ad 0), .ref (ad 1), .ref (ad 2), .ref (ad 3), .ref (ad 4), .ref (ad 5), .int k, .ref (ad 6), .ref (ad 7), .ref (ad 8), .ref (ad 9), .int z, .int r, .int so, .ref (ad 10), .int pr, .ref (ad 11)]))) := ⟨_, rfl⟩
          rw [← hw_19] at hM
          have k_20 : w_19 mm = some (.inr (6, [.int (0 + 1), .int no, .int wr, .int n, .ref (ad 0), .ref (ad 1), .ref (ad 2), .ref (ad 3), .ref (ad 4), .ref (ad 5), .int k, .ref (ad 6), .ref (ad 7), .ref (ad 8), .ref (ad 9), .int z, .int r, .int so, .ref (ad 10), .int pr, .ref (ad 11)])) := by rw [hw_19, va_up_self]
          refine lv_iconst (v := 2) hx hb d_M_goes_70 (by decide) ?_
          refine lv_iload hx hb d_M_goes_71 (lv_at hl 0 rfl) ?_
          refine lv_imul hx hb d_M_goes_73 ?_
          refine lv_istore (lv' := [(7, .int (2 * (2 * (2 * (2 * 1))))), (6, .int 8), (0, .ref mm), (1, .int 8), (2, .int b1), (3, .int b2), (4, .int b3), (5, .int b4)]) hx hb d_M_goes_74 hl (by decide) rfl (fun ls hl => ?_)
          refine lv_goto (tgt := 46) hx hb d_M_goes_76 (by decide) ?_
          refine lv_iload hx hb d_M_goes_46 (lv_at hl 0 rfl) ?_
          refine lv_iload hx hb d_M_goes_48 (lv_at hl 1 rfl) ?_
          refine lv_icmp_gt (tgt := 79) hx hb d_M_goes_50 (by decide) (fun c_21 => ?_) (fun c_21 => absurd (by decide) c_21)
          refine lv_iload hx hb d_M_goes_79 (lv_at hl 1 rfl) ?_
          refine lv_if_ne (tgt := 88) hx hb d_M_goes_81 (by decide) (fun c_22 => ?_) (fun c_22 => absurd c_22 (by decide))
          refine lv_iconst (v := 0) hx hb d_M_goes_88 (by decide) ?_
          have hg : gC b1 b2 b3 b4 = 4 := by simp [gC, c_1, c_2, c_3, c_4]
          have hM9 : mw G ncl A (va_up w mm (some (eM ad (nI (gT 8 (gC b1 b2 b3 b4))) no wr n k z r so pr))) H := by rw [hg, show nI (gT 8 4) = 0 + 1 by decide]; rw [hw_19, hw_9, bx_uu] at hM; exact hM
          exact W.zret (v := 0) hx hb hr rfl (fun t ht hW => ⟨⟨0, (), rfl, by rw [hg]; rfl, by rw [ht]; exact hM9, va_K.moved hW.alike hK⟩, hS.F ht⟩) hS.2.2 d_M_goes_89
      · refine lv_iconst (v := 4) hx hb d_M_goes_21 (by decide) ?_
        refine lv_goto (tgt := 36) hx hb d_M_goes_22 (by decide) ?_
        refine lv_istore (lv' := [(6, .int 4), (0, .ref mm), (1, .int 8), (2, .int b1), (3, .int b2), (4, .int b3), (5, .int b4)]) hx hb d_M_goes_36 hl (by decide) rfl (fun ls hl => ?_)
        refine lv_aload_n hx hb d_M_goes_38 rfl (lv_at hl 1 rfl) ?_
        refine lv_iconst (v := 0) hx hb d_M_goes_39 (by decide) ?_
        refine m_put (D := G) (ci := 6) (v := .int 0) (ty := .int) (C := nR_M) (T := nT_M) (N := 21) hx hb hta in_M nt_M nt_M_ok nn_M hown hK hM hS hm rfl 0 (by decide) (hta _ aw_543) (fun _ h9 => h9) rfl (by decide +kernel) rfl rfl (Nat.le_of_ble_eq_true rfl) d_M_goes_40 (fs' := [.int 0, .int no, .int wr, .int n, .ref (ad 0), .ref (ad 1), .ref (ad 2), .ref (ad 3), .ref (ad 4), .ref (ad 5), .int k, .ref (ad 6), .ref (ad 7), .ref (ad 8), .ref (ad 9), .int z, .int r, .int so, .ref (ad 10), .int pr, .ref (ad 11)]) rfl (fun H locs hM hS => ?_)
        obtain ⟨w_23, hw_23⟩ : ∃ z9 : Nat → Option va_E, z9 = va_up w mm (some (.inr (6, [.int 0, .int no, .int wr, .int n, .ref (ad 0), .ref (ad 1), .ref (ad 2), .ref (ad 3), .ref (ad 4), .ref (ad 5), .int k, .ref (ad 6), .ref (ad 7), .ref (ad 8), .ref (ad 9), .int z, .int r, .int so, .ref (ad 10), .int pr, .ref (ad 11)]))) := ⟨_, rfl⟩
        rw [← hw_23] at hM
        have k_24 : w_23 mm = some (.inr (6, [.int 0, .int no, .int wr, .int n, .ref (ad 0), .ref (ad 1), .ref (ad 2), .ref (ad 3), .ref (ad 4), .ref (ad 5), .int k, .ref (ad 6), .ref (ad 7), .ref (ad 8), .ref (ad 9), .int z, .int r, .int so, .ref (ad 10), .int pr, .ref (ad 11)])) := by rw [hw_23, va_up_self]
        refine lv_iconst (v := 1) hx hb d_M_goes_43 (by decide) ?_
        refine lv_istore (lv' := [(7, .int 1), (6, .int 4), (0, .ref mm), (1, .int 8), (2, .int b1), (3, .int b2), (4, .int b3), (5, .int b4)]) hx hb d_M_goes_44 hl (by decide) rfl (fun ls hl => ?_)
        refine lv_iload hx hb d_M_goes_46 (lv_at hl 0 rfl) ?_
        refine lv_iload hx hb d_M_goes_48 (lv_at hl 1 rfl) ?_
        refine lv_icmp_gt (tgt := 79) hx hb d_M_goes_50 (by decide) (fun c_25 => absurd c_25 (by decide)) (fun c_25 => ?_)
        refine lv_iload_n hx hb d_M_goes_53 rfl (lv_at hl 3 rfl) ?_
        refine lv_iload hx hb d_M_goes_54 (lv_at hl 0 rfl) ?_
        refine lv_iand hx hb d_M_goes_56 ?_
        refine lv_if_le (tgt := 70) hx hb d_M_goes_57 (by decide) (fun c_26 => ?_) (fun c_26 => absurd (by decide) c_26)
        refine lv_iconst (v := 2) hx hb d_M_goes_70 (by decide) ?_
        refine lv_iload hx hb d_M_goes_71 (lv_at hl 0 rfl) ?_
        refine lv_imul hx hb d_M_goes_73 ?_
        refine lv_istore (lv' := [(7, .int (2 * 1)), (6, .int 4), (0, .ref mm), (1, .int 8), (2, .int b1), (3, .int b2), (4, .int b3), (5, .int b4)]) hx hb d_M_goes_74 hl (by decide) rfl (fun ls hl => ?_)
        refine lv_goto (tgt := 46) hx hb d_M_goes_76 (by decide) ?_
        refine lv_iload hx hb d_M_goes_46 (lv_at hl 0 rfl) ?_
        refine lv_iload hx hb d_M_goes_48 (lv_at hl 1 rfl) ?_
        refine lv_icmp_gt (tgt := 79) hx hb d_M_goes_50 (by decide) (fun c_27 => absurd c_27 (by decide)) (fun c_27 => ?_)
        refine lv_iload_n hx hb d_M_goes_53 rfl (lv_at hl 3 rfl) ?_
        refine lv_iload hx hb d_M_goes_54 (lv_at hl 0 rfl) ?_
        refine lv_iand hx hb d_M_goes_56 ?_
        refine lv_if_le (tgt := 70) hx hb d_M_goes_57 (by decide) (fun c_28 => ?_) (fun c_28 => absurd (by decide) c_28)
        refine lv_iconst (v := 2) hx hb d_M_goes_70 (by decide) ?_
        refine lv_iload hx hb d_M_goes_71 (lv_at hl 0 rfl) ?_
        refine lv_imul hx hb d_M_goes_73 ?_
        refine lv_istore (lv' := [(7, .int (2 * (2 * 1))), (6, .int 4), (0, .ref mm), (1, .int 8), (2, .int b1), (3, .int b2), (4, .int b3), (5, .int b4)]) hx hb d_M_goes_74 hl (by decide) rfl (fun ls hl => ?_)
        refine lv_goto (tgt := 46) hx hb d_M_goes_76 (by decide) ?_
        refine lv_iload hx hb d_M_goes_46 (lv_at hl 0 rfl) ?_
        refine lv_iload hx hb d_M_goes_48 (lv_at hl 1 rfl) ?_
        refine lv_icmp_gt (tgt := 79) hx hb d_M_goes_50 (by decide) (fun c_29 => absurd c_29 (by decide)) (fun c_29 => ?_)
        refine lv_iload_n hx hb d_M_goes_53 rfl (lv_at hl 3 rfl) ?_
        refine lv_iload hx hb d_M_goes_54 (lv_at hl 0 rfl) ?_
        refine lv_iand hx hb d_M_goes_56 ?_
        refine lv_if_le (tgt := 70) hx hb d_M_goes_57 (by decide) (fun c_30 => ?_) (fun c_30 => absurd (by decide) c_30)
        refine lv_iconst (v := 2) hx hb d_M_goes_70 (by decide) ?_
        refine lv_iload hx hb d_M_goes_71 (lv_at hl 0 rfl) ?_
        refine lv_imul hx hb d_M_goes_73 ?_
        refine lv_istore (lv' := [(7, .int (2 * (2 * (2 * 1)))), (6, .int 4), (0, .ref mm), (1, .int 8), (2, .int b1), (3, .int b2), (4, .int b3), (5, .int b4)]) hx hb d_M_goes_74 hl (by decide) rfl (fun ls hl => ?_)
        refine lv_goto (tgt := 46) hx hb d_M_goes_76 (by decide) ?_
        refine lv_iload hx hb d_M_goes_46 (lv_at hl 0 rfl) ?_
        refine lv_iload hx hb d_M_goes_48 (lv_at hl 1 rfl) ?_
        refine lv_icmp_gt (tgt := 79) hx hb d_M_goes_50 (by decide) (fun c_31 => ?_) (fun c_31 => absurd (by decide) c_31)
        refine lv_iload hx hb d_M_goes_79 (lv_at hl 1 rfl) ?_
        refine lv_if_ne (tgt := 88) hx hb d_M_goes_81 (by decide) (fun c_32 => ?_) (fun c_32 => absurd c_32 (by decide))
        refine lv_iconst (v := 0) hx hb d_M_goes_88 (by decide) ?_
        have hg : gC b1 b2 b3 b4 = 3 := by simp [gC, c_1, c_2, c_3]
        have hM9 : mw G ncl A (va_up w mm (some (eM ad (nI (gT 8 (gC b1 b2 b3 b4))) no wr n k z r so pr))) H := by rw [hg, show nI (gT 8 3) = 0 by decide]; rw [hw_23] at hM; exact hM
        exact W.zret (v := 0) hx hb hr rfl (fun t ht hW => ⟨⟨0, (), rfl, by rw [hg]; rfl, by rw [ht]; exact hM9, va_K.moved hW.alike hK⟩, hS.F ht⟩) hS.2.2 d_M_goes_89
    · refine lv_iconst (v := 2) hx hb d_M_goes_12 (by decide) ?_
      refine lv_goto (tgt := 36) hx hb d_M_goes_13 (by decide) ?_
      refine lv_istore (lv' := [(6, .int 2), (0, .ref mm), (1, .int 8), (2, .int b1), (3, .int b2), (4, .int b3), (5, .int b4)]) hx hb d_M_goes_36 hl (by decide) rfl (fun ls hl => ?_)
      refine lv_aload_n hx hb d_M_goes_38 rfl (lv_at hl 1 rfl) ?_
      refine lv_iconst (v := 0) hx hb d_M_goes_39 (by decide) ?_
      refine m_put (D := G) (ci := 6) (v := .int 0) (ty := .int) (C := nR_M) (T := nT_M) (N := 21) hx hb hta in_M nt_M nt_M_ok nn_M hown hK hM hS hm rfl 0 (by decide) (hta _ aw_543) (fun _ h9 => h9) rfl (by decide +kernel) rfl rfl (Nat.le_of_ble_eq_true rfl) d_M_goes_40 (fs' := [.int 0, .int no, .int wr, .int n, .ref (ad 0), .ref (ad 1), .ref (ad 2), .ref (ad 3), .ref (ad 4), .ref (ad 5), .int k, .ref (ad 6), .ref (ad 7), .ref (ad 8), .ref (ad 9), .int z, .int r, .int so, .ref (ad 10), .int pr, .ref (ad 11)]) rfl (fun H locs hM hS => ?_)
      obtain ⟨w_33, hw_33⟩ : ∃ z9 : Nat → Option va_E, z9 = va_up w mm (some (.inr (6, [.int 0, .int no, .int wr, .int n, .ref (ad 0), .ref (ad 1), .ref (ad 2), .ref (ad 3), .ref (ad 4), .ref (ad 5), .int k, .ref (ad 6), .ref (ad 7), .ref (ad 8), .ref (ad 9), .int z, .int r, .int so, .ref (ad 10), .int pr, .ref (ad 11)]))) := ⟨_, rfl⟩
      rw [← hw_33] at hM
      have k_34 : w_33 mm = some (.inr (6, [.int 0, .int no, .int wr, .int n, .ref (ad 0), .ref (ad 1), .ref (ad 2), .ref (ad 3), .ref (ad 4), .ref (ad 5), .int k, .ref (ad 6), .ref (ad 7), .ref (ad 8), .ref (ad 9), .int z, .int r, .int so, .ref (ad 10), .int pr, .ref (ad 11)])) := by rw [hw_33, va_up_self]
      refine lv_iconst (v := 1) hx hb d_M_goes_43 (by decide) ?_
      refine lv_istore (lv' := [(7, .int 1), (6, .int 2), (0, .ref mm), (1, .int 8), (2, .int b1), (3, .int b2), (4, .int b3), (5, .int b4)]) hx hb d_M_goes_44 hl (by decide) rfl (fun ls hl => ?_)
      refine lv_iload hx hb d_M_goes_46 (lv_at hl 0 rfl) ?_
      refine lv_iload hx hb d_M_goes_48 (lv_at hl 1 rfl) ?_
      refine lv_icmp_gt (tgt := 79) hx hb d_M_goes_50 (by decide) (fun c_35 => absurd c_35 (by decide)) (fun c_35 => ?_)
      refine lv_iload_n hx hb d_M_goes_53 rfl (lv_at hl 3 rfl) ?_
      refine lv_iload hx hb d_M_goes_54 (lv_at hl 0 rfl) ?_
      refine lv_iand hx hb d_M_goes_56 ?_
      refine lv_if_le (tgt := 70) hx hb d_M_goes_57 (by decide) (fun c_36 => ?_) (fun c_36 => absurd (by decide) c_36)
      refine lv_iconst (v := 2) hx hb d_M_goes_70 (by decide) ?_
      refine lv_iload hx hb d_M_goes_71 (lv_at hl 0 rfl) ?_
      refine lv_imul hx hb d_M_goes_73 ?_
      refine lv_istore (lv' := [(7, .int (2 * 1)), (6, .int 2), (0, .ref mm), (1, .int 8), (2, .int b1), (3, .int b2), (4, .int b3), (5, .int b4)]) hx hb d_M_goes_74 hl (by decide) rfl (fun ls hl => ?_)
      refine lv_goto (tgt := 46) hx hb d_M_goes_76 (by decide) ?_
      refine lv_iload hx hb d_M_goes_46 (lv_at hl 0 rfl) ?_
      refine lv_iload hx hb d_M_goes_48 (lv_at hl 1 rfl) ?_
      refine lv_icmp_gt (tgt := 79) hx hb d_M_goes_50 (by decide) (fun c_37 => absurd c_37 (by decide)) (fun c_37 => ?_)
      refine lv_iload_n hx hb d_M_goes_53 rfl (lv_at hl 3 rfl) ?_
      refine lv_iload hx hb d_M_goes_54 (lv_at hl 0 rfl) ?_
      refine lv_iand hx hb d_M_goes_56 ?_
      refine lv_if_le (tgt := 70) hx hb d_M_goes_57 (by decide) (fun c_38 => ?_) (fun c_38 => absurd (by decide) c_38)
      refine lv_iconst (v := 2) hx hb d_M_goes_70 (by decide) ?_
      refine lv_iload hx hb d_M_goes_71 (lv_at hl 0 rfl) ?_
      refine lv_imul hx hb d_M_goes_73 ?_
      refine lv_istore (lv' := [(7, .int (2 * (2 * 1))), (6, .int 2), (0, .ref mm), (1, .int 8), (2, .int b1), (3, .int b2), (4, .int b3), (5, .int b4)]) hx hb d_M_goes_74 hl (by decide) rfl (fun ls hl => ?_)
      refine lv_goto (tgt := 46) hx hb d_M_goes_76 (by decide) ?_
      refine lv_iload hx hb d_M_goes_46 (lv_at hl 0 rfl) ?_
      refine lv_iload hx hb d_M_goes_48 (lv_at hl 1 rfl) ?_
      refine lv_icmp_gt (tgt := 79) hx hb d_M_goes_50 (by decide) (fun c_39 => ?_) (fun c_39 => absurd (by decide) c_39)
      refine lv_iload hx hb d_M_goes_79 (lv_at hl 1 rfl) ?_
      refine lv_if_ne (tgt := 88) hx hb d_M_goes_81 (by decide) (fun c_40 => ?_) (fun c_40 => absurd c_40 (by decide))
      refine lv_iconst (v := 0) hx hb d_M_goes_88 (by decide) ?_
      have hg : gC b1 b2 b3 b4 = 2 := by simp [gC, c_1, c_2]
      have hM9 : mw G ncl A (va_up w mm (some (eM ad (nI (gT 8 (gC b1 b2 b3 b4))) no wr n k z r so pr))) H := by rw [hg, show nI (gT 8 2) = 0 by decide]; rw [hw_33] at hM; exact hM
      exact W.zret (v := 0) hx hb hr rfl (fun t ht hW => ⟨⟨0, (), rfl, by rw [hg]; rfl, by rw [ht]; exact hM9, va_K.moved hW.alike hK⟩, hS.F ht⟩) hS.2.2 d_M_goes_89
  · refine lv_iconst (v := 1) hx hb d_M_goes_4 (by decide) ?_
    refine lv_goto (tgt := 36) hx hb d_M_goes_5 (by decide) ?_
    refine lv_istore (lv' := [(6, .int 1), (0, .ref mm), (1, .int 8), (2, .int b1), (3, .int b2), (4, .int b3), (5, .int b4)]) hx hb d_M_goes_36 hl (by decide) rfl (fun ls hl => ?_)
    refine lv_aload_n hx hb d_M_goes_38 rfl (lv_at hl 1 rfl) ?_
    refine lv_iconst (v := 0) hx hb d_M_goes_39 (by decide) ?_
    refine m_put (D := G) (ci := 6) (v := .int 0) (ty := .int) (C := nR_M) (T := nT_M) (N := 21) hx hb hta in_M nt_M nt_M_ok nn_M hown hK hM hS hm rfl 0 (by decide) (hta _ aw_543) (fun _ h9 => h9) rfl (by decide +kernel) rfl rfl (Nat.le_of_ble_eq_true rfl) d_M_goes_40 (fs' := [.int 0, .int no, .int wr, .int n, .ref (ad 0), .ref (ad 1), .ref (ad 2), .ref (ad 3), .ref (ad 4), .ref (ad 5), .int k, .ref (ad 6), .ref (ad 7), .ref (ad 8), .ref (ad 9), .int z, .int r, .int so, .ref (ad 10), .int pr, .ref (ad 11)]) rfl (fun H locs hM hS => ?_)
    obtain ⟨w_41, hw_41⟩ : ∃ z9 : Nat → Option va_E, z9 = va_up w mm (some (.inr (6, [.int 0, .int no, .int wr, .int n, .ref (ad 0), .ref (ad 1), .ref (ad 2), .ref (ad 3), .ref (ad 4), .ref (ad 5), .int k, .ref (ad 6), .ref (ad 7), .ref (ad 8), .ref (ad 9), .int z, .int r, .int so, .ref (ad 10), .int pr, .ref (ad 11)]))) := ⟨_, rfl⟩
    rw [← hw_41] at hM
    have k_42 : w_41 mm = some (.inr (6, [.int 0, .int no, .int wr, .int n, .ref (ad 0), .ref (ad 1), .ref (ad 2), .ref (ad 3), .ref (ad 4), .ref (ad 5), .int k, .ref (ad 6), .ref (ad 7), .ref (ad 8), .ref (ad 9), .int z, .int r, .int so, .ref (ad 10), .int pr, .ref (ad 11)])) := by rw [hw_41, va_up_self]
    refine lv_iconst (v := 1) hx hb d_M_goes_43 (by decide) ?_
    refine lv_istore (lv' := [(7, .int 1), (6, .int 1), (0, .ref mm), (1, .int 8), (2, .int b1), (3, .int b2), (4, .int b3), (5, .int b4)]) hx hb d_M_goes_44 hl (by decide) rfl (fun ls hl => ?_)
    refine lv_iload hx hb d_M_goes_46 (lv_at hl 0 rfl) ?_
    refine lv_iload hx hb d_M_goes_48 (lv_at hl 1 rfl) ?_
    refine lv_icmp_gt (tgt := 79) hx hb d_M_goes_50 (by decide) (fun c_43 => absurd c_43 (by decide)) (fun c_43 => ?_)
    refine lv_iload_n hx hb d_M_goes_53 rfl (lv_at hl 3 rfl) ?_
    refine lv_iload hx hb d_M_goes_54 (lv_at hl 0 rfl) ?_
    refine lv_iand hx hb d_M_goes_56 ?_
    refine lv_if_le (tgt := 70) hx hb d_M_goes_57 (by decide) (fun c_44 => ?_) (fun c_44 => absurd (by decide) c_44)
    refine lv_iconst (v := 2) hx hb d_M_goes_70 (by decide) ?_
    refine lv_iload hx hb d_M_goes_71 (lv_at hl 0 rfl) ?_
    refine lv_imul hx hb d_M_goes_73 ?_
    refine lv_istore (lv' := [(7, .int (2 * 1)), (6, .int 1), (0, .ref mm), (1, .int 8), (2, .int b1), (3, .int b2), (4, .int b3), (5, .int b4)]) hx hb d_M_goes_74 hl (by decide) rfl (fun ls hl => ?_)
    refine lv_goto (tgt := 46) hx hb d_M_goes_76 (by decide) ?_
    refine lv_iload hx hb d_M_goes_46 (lv_at hl 0 rfl) ?_
    refine lv_iload hx hb d_M_goes_48 (lv_at hl 1 rfl) ?_
    refine lv_icmp_gt (tgt := 79) hx hb d_M_goes_50 (by decide) (fun c_45 => ?_) (fun c_45 => absurd (by decide) c_45)
    refine lv_iload hx hb d_M_goes_79 (lv_at hl 1 rfl) ?_
    refine lv_if_ne (tgt := 88) hx hb d_M_goes_81 (by decide) (fun c_46 => ?_) (fun c_46 => absurd c_46 (by decide))
    refine lv_iconst (v := 0) hx hb d_M_goes_88 (by decide) ?_
    have hg : gC b1 b2 b3 b4 = 1 := by simp [gC, c_1]
    have hM9 : mw G ncl A (va_up w mm (some (eM ad (nI (gT 8 (gC b1 b2 b3 b4))) no wr n k z r so pr))) H := by rw [hg, show nI (gT 8 1) = 0 by decide]; rw [hw_41] at hM; exact hM
    exact W.zret (v := 0) hx hb hr rfl (fun t ht hW => ⟨⟨0, (), rfl, by rw [hg]; rfl, by rw [ht]; exact hM9, va_K.moved hW.alike hK⟩, hS.F ht⟩) hS.2.2 d_M_goes_89
set_option maxHeartbeats 4000000 in
set_option maxRecDepth 100000 in
theorem k_M_goes_11 (l : Launch) (G : va_G) (q0 q1 : ClassId × FieldType) (cI : ClassId) (ty2 : List (ClassId × FieldType)) (w : Nat → Option va_E) {mm : Nat} {ad : Nat → Nat} {f : Nat → Nat → Int32} {th no wr n k z r so pr : Int32} (hm : w mm = some (eM ad th no wr n k z r so pr)) (hma : ∀ i, i < 12 → w (ad i) = some (aI cI (msz i) (f i))) (b1 b2 b3 b4 : Int32) (sz : Nat) : Met l y_M_goes (wm y_M_goes c_M_goes 8 (some .boolean)) ({ frames := 0, cells := 0, slots := 0, locals := 0 }) (pZ G (q0 :: q1 :: (cI, .int) :: ty2) w sz [.ref mm, .int 11, .int b1, .int b2, .int b3, .int b4]) (va_Qi (fun (r0 : Int32) (u : Unit) => r0 = if gC b1 b2 b3 b4 = 0 then 1 else 0) (fun _ t => mw G ncl (mA w sz) (va_up w mm (some (eM ad (nI (gT 11 (gC b1 b2 b3 b4))) no wr n k z r so pr))) t.heap ∧ va_K G ncl (q0 :: q1 :: (cI, .int) :: ty2) t) (mA w sz)) 0 0 (mA w sz) := by
  refine Met.ofW (cc := c_M_goes) (maxL := 8) (ret := (some .boolean)) (by decide) rfl ?_
  intro p e s m args below meth c s₁ B hml hv
  obtain ⟨rfl, hsz, hM0, hK⟩ := hv
  have hx := B.exec
  have hb := B.bytes
  have hr := B.returns
  have hts := atoms_spec (ws := (wm y_M_goes c_M_goes 8 (some .boolean))) B.pre
  have hta : ∀ w ∈ AL, w.before _ s = true := fun w h => hts w (List.mem_cons_of_mem _ h)
  have hown : s.vm.findClass nR_M = some m.cls := findClass_of_methodNamed B.named
  have hlocks := B.notSynchronized
  have hl := lv_entry ([.ref mm, .int 11, .int b1, .int b2, .int b3, .int b4]) (n := 8) (Nat.le_of_ble_eq_true rfl)
  rw [lg_entry_eq]
  generalize (lg_sl ([.ref mm, .int 11, .int b1, .int b2, .int b3, .int b4]) ++ List.replicate (8 - (lg_sl ([.ref mm, .int 11, .int b1, .int b2, .int b3, .int b4])).length) Slot.unset).toArray = ls at hl ⊢
  have hl : lv_has ls 8 [(0, .ref mm), (1, .int 11), (2, .int b1), (3, .int b2), (4, .int b3), (5, .int b4)] := hl
  subst hsz
  have hM := mw_self (sz := s.heap.size) hM0
  clear hM0
  generalize hAe : mA w s.heap.size = A at hM ⊢
  have hA : ∀ q : Nat, s.heap.size ≤ q → A q := fun q h => by rw [← hAe]; exact Or.inr h
  have hS : va_S A s.heap s.heap [] := va_S.rf
  refine lv_iload_n hx hb d_M_goes_0 rfl (lv_at hl 2 rfl) ?_
  refine lv_if_ne (tgt := 8) hx hb d_M_goes_1 (by decide) (fun c_1 => ?_) (fun c_1 => ?_)
  · refine lv_iload_n hx hb d_M_goes_8 rfl (lv_at hl 3 rfl) ?_
    refine lv_if_ne (tgt := 16) hx hb d_M_goes_9 (by decide) (fun c_2 => ?_) (fun c_2 => ?_)
    · refine lv_iload hx hb d_M_goes_16 (lv_at hl 4 rfl) ?_
      refine lv_if_ne (tgt := 25) hx hb d_M_goes_18 (by decide) (fun c_3 => ?_) (fun c_3 => ?_)
      · refine lv_iload hx hb d_M_goes_25 (lv_at hl 5 rfl) ?_
        refine lv_if_ne (tgt := 35) hx hb d_M_goes_27 (by decide) (fun c_4 => ?_) (fun c_4 => ?_)
        · refine lv_iconst (v := 0) hx hb d_M_goes_35 (by decide) ?_
          refine lv_istore (lv' := [(6, .int 0), (0, .ref mm), (1, .int 11), (2, .int b1), (3, .int b2), (4, .int b3), (5, .int b4)]) hx hb d_M_goes_36 hl (by decide) rfl (fun ls hl => ?_)
          refine lv_aload_n hx hb d_M_goes_38 rfl (lv_at hl 1 rfl) ?_
          refine lv_iconst (v := 0) hx hb d_M_goes_39 (by decide) ?_
          refine m_put (D := G) (ci := 6) (v := .int 0) (ty := .int) (C := nR_M) (T := nT_M) (N := 21) hx hb hta in_M nt_M nt_M_ok nn_M hown hK hM hS hm rfl 0 (by decide) (hta _ aw_543) (fun _ h9 => h9) rfl (by decide +kernel) rfl rfl (Nat.le_of_ble_eq_true rfl) d_M_goes_40 (fs' := [.int 0, .int no, .int wr, .int n, .ref (ad 0), .ref (ad 1), .ref (ad 2), .ref (ad 3), .ref (ad 4), .ref (ad 5), .int k, .ref (ad 6), .ref (ad 7), .ref (ad 8), .ref (ad 9), .int z, .int r, .int so, .ref (ad 10), .int pr, .ref (ad 11)]) rfl (fun H locs hM hS => ?_)
          obtain ⟨w_5, hw_5⟩ : ∃ z9 : Nat → Option va_E, z9 = va_up w mm (some (.inr (6, [.int 0, .int no, .int wr, .int n, .ref (ad 0), .ref (ad 1), .ref (ad 2), .ref (ad 3), .ref (ad 4), .ref (ad 5), .int k, .ref (ad 6), .ref (ad 7), .ref (ad 8), .ref (ad 9), .int z, .int r, .int so, .ref (ad 10), .int pr, .ref (ad 11)]))) := ⟨_, rfl⟩
          rw [← hw_5] at hM
          have k_6 : w_5 mm = some (.inr (6, [.int 0, .int no, .int wr, .int n, .ref (ad 0), .ref (ad 1), .ref (ad 2), .ref (ad 3), .ref (ad 4), .ref (ad 5), .int k, .ref (ad 6), .ref (ad 7), .ref (ad 8), .ref (ad 9), .int z, .int r, .int so, .ref (ad 10), .int pr, .ref (ad 11)])) := by rw [hw_5, va_up_self]
          refine lv_iconst (v := 1) hx hb d_M_goes_43 (by decide) ?_
          refine lv_istore (lv' := [(7, .int 1), (6, .int 0), (0, .ref mm), (1, .int 11), (2, .int b1), (3, .int b2), (4, .int b3), (5, .int b4)]) hx hb d_M_goes_44 hl (by decide) rfl (fun ls hl => ?_)
          refine lv_iload hx hb d_M_goes_46 (lv_at hl 0 rfl) ?_
          refine lv_iload hx hb d_M_goes_48 (lv_at hl 1 rfl) ?_
          refine lv_icmp_gt (tgt := 79) hx hb d_M_goes_50 (by decide) (fun c_7 => ?_) (fun c_7 => absurd (by decide) c_7)
          refine lv_iload hx hb d_M_goes_79 (lv_at hl 1 rfl) ?_
          refine lv_if_ne (tgt := 88) hx hb d_M_goes_81 (by decide) (fun c_8 => absurd (by decide) c_8) (fun c_8 => ?_)
          refine lv_iconst (v := 1) hx hb d_M_goes_84 (by decide) ?_
          refine lv_goto (tgt := 89) hx hb d_M_goes_85 (by decide) ?_
          have hg : gC b1 b2 b3 b4 = 0 := by simp [gC, c_1, c_2, c_3, c_4]
          have hM9 : mw G ncl A (va_up w mm (some (eM ad (nI (gT 11 (gC b1 b2 b3 b4))) no wr n k z r so pr))) H := by rw [hg, show nI (gT 11 0) = 0 by decide]; rw [hw_5] at hM; exact hM
          exact W.zret (v := 1) hx hb hr rfl (fun t ht hW => ⟨⟨1, (), rfl, by rw [hg]; rfl, by rw [ht]; exact hM9, va_K.moved hW.alike hK⟩, hS.F ht⟩) hS.2.2 d_M_goes_89
        · refine lv_bipush (v := 8) hx hb d_M_goes_30 (by decide) ?_
          refine lv_goto (tgt := 36) hx hb d_M_goes_32 (by decide) ?_
          refine lv_istore (lv' := [(6, .int 8), (0, .ref mm), (1, .int 11), (2, .int b1), (3, .int b2), (4, .int b3), (5, .int b4)]) hx hb d_M_goes_36 hl (by decide) rfl (fun ls hl => ?_)
          refine lv_aload_n hx hb d_M_goes_38 rfl (lv_at hl 1 rfl) ?_
          refine lv_iconst (v := 0) hx hb d_M_goes_39 (by decide) ?_
          refine m_put (D := G) (ci := 6) (v := .int 0) (ty := .int) (C := nR_M) (T := nT_M) (N := 21) hx hb hta in_M nt_M nt_M_ok nn_M hown hK hM hS hm rfl 0 (by decide) (hta _ aw_543) (fun _ h9 => h9) rfl (by decide +kernel) rfl rfl (Nat.le_of_ble_eq_true rfl) d_M_goes_40 (fs' := [.int 0, .int no, .int wr, .int n, .ref (ad 0), .ref (ad 1), .ref (ad 2), .ref (ad 3), .ref (ad 4), .ref (ad 5), .int k, .ref (ad 6), .ref (ad 7), .ref (ad 8), .ref (ad 9), .int z, .int r, .int so, .ref (ad 10), .int pr, .ref (ad 11)]) rfl (fun H locs hM hS => ?_)
          obtain ⟨w_9, hw_9⟩ : ∃ z9 : Nat → Option va_E, z9 = va_up w mm (some (.inr (6, [.int 0, .int no, .int wr, .int n, .ref (ad 0), .ref (ad 1), .ref (ad 2), .ref (ad 3), .ref (ad 4), .ref (ad 5), .int k, .ref (ad 6), .ref (ad 7), .ref (ad 8), .ref (ad 9), .int z, .int r, .int so, .ref (ad 10), .int pr, .ref (ad 11)]))) := ⟨_, rfl⟩
          rw [← hw_9] at hM
          have k_10 : w_9 mm = some (.inr (6, [.int 0, .int no, .int wr, .int n, .ref (ad 0), .ref (ad 1), .ref (ad 2), .ref (ad 3), .ref (ad 4), .ref (ad 5), .int k, .ref (ad 6), .ref (ad 7), .ref (ad 8), .ref (ad 9), .int z, .int r, .int so, .ref (ad 10), .int pr, .ref (ad 11)])) := by rw [hw_9, va_up_self]
          refine lv_iconst (v := 1) hx hb d_M_goes_43 (by decide) ?_
          refine lv_istore (lv' := [(7, .int 1), (6, .int 8), (0, .ref mm), (1, .int 11), (2, .int b1), (3, .int b2), (4, .int b3), (5, .int b4)]) hx hb d_M_goes_44 hl (by decide) rfl (fun ls hl => ?_)
          refine lv_iload hx hb d_M_goes_46 (lv_at hl 0 rfl) ?_
          refine lv_iload hx hb d_M_goes_48 (lv_at hl 1 rfl) ?_
          refine lv_icmp_gt (tgt := 79) hx hb d_M_goes_50 (by decide) (fun c_11 => absurd c_11 (by decide)) (fun c_11 => ?_)
          refine lv_iload_n hx hb d_M_goes_53 rfl (lv_at hl 3 rfl) ?_
          refine lv_iload hx hb d_M_goes_54 (lv_at hl 0 rfl) ?_
          refine lv_iand hx hb d_M_goes_56 ?_
          refine lv_if_le (tgt := 70) hx hb d_M_goes_57 (by decide) (fun c_12 => absurd c_12 (by decide)) (fun c_12 => ?_)
          refine lv_aload_n hx hb d_M_goes_60 rfl (lv_at hl 2 rfl) ?_
          refine lv_dup hx hb d_M_goes_61 rfl ?_
          refine m_get (D := G) (ci := 6) (v := .int 0) (C := nR_M) (T := nT_M) (N := 21) hx hb hta in_M hown hK hM k_10 rfl 0 (by decide) (hta _ aw_543) (fun _ h9 => h9) rfl d_M_goes_62 ?_
          refine lv_iconst (v := 1) hx hb d_M_goes_65 (by decide) ?_
          refine lv_iadd hx hb d_M_goes_66 ?_
          refine m_put (D := G) (ci := 6) (v := .int (0 + 1)) (ty := .int) (C := nR_M) (T := nT_M) (N := 21) hx hb hta in_M nt_M nt_M_ok nn_M hown hK hM hS k_10 rfl 0 (by decide) (hta _ aw_543) (fun _ h9 => h9) rfl (by decide +kernel) rfl rfl (Nat.le_of_ble_eq_true rfl) d_M_goes_67 (fs' := [.int (0 + 1), .int no, .int wr, .int n, .ref (ad 0), .ref (ad 1), .ref (ad 2), .ref (ad 3), .ref (ad 4), .ref (ad 5), .int k, .ref (ad 6), .ref (ad 7), .ref (ad 8), .ref (ad 9), .int z, .int r, .int so, .ref (ad 10), .int pr, .ref (ad 11)]) rfl (fun H locs hM hS => ?_)
          obtain ⟨w_13, hw_13⟩ : ∃ z9 : Nat → Option va_E, z9 = va_up w_9 mm (some (.inr (6, [.int (0 + 1), .int no, .int wr, .int n, .ref (ad 0), .ref (ad 1), .ref (ad 2), .ref (ad 3), .ref (ad 4), .ref (ad 5), .int k, .ref (ad 6), .ref (ad 7), .ref (ad 8), .ref (ad 9), .int z, .int r, .int so, .ref (ad 10), .int pr, .ref (ad 11)]))) := ⟨_, rfl⟩
          rw [← hw_13] at hM
          have k_14 : w_13 mm = some (.inr (6, [.int (0 + 1), .int no, .int wr, .int n, .ref (ad 0), .ref (ad 1), .ref (ad 2), .ref (ad 3), .ref (ad 4), .ref (ad 5), .int k, .ref (ad 6), .ref (ad 7), .ref (ad 8), .ref (ad 9), .int z, .int r, .int so, .ref (ad 10), .int pr, .ref (ad 11)])) := by rw [hw_13, va_up_self]
          refine lv_iconst (v := 2) hx hb d_M_goes_70 (by decide) ?_
          refine lv_iload hx hb d_M_goes_71 (lv_at hl 0 rfl) ?_
          refine lv_imul hx hb d_M_goes_73 ?_
          refine lv_istore (lv' := [(7, .int (2 * 1)), (6, .int 8), (0, .ref mm), (1, .int 11), (2, .int b1), (3, .int b2), (4, .int b3), (5, .int b4)]) hx hb d_M_goes_74 hl (by decide) rfl (fun ls hl => ?_)
          refine lv_goto (tgt := 46) hx hb d_M_goes_76 (by decide) ?_
          refine lv_iload hx hb d_M_goes_46 (lv_at hl 0 rfl) ?_
          refine lv_iload hx hb d_M_goes_48 (lv_at hl 1 rfl) ?_
          refine lv_icmp_gt (tgt := 79) hx hb d_M_goes_50 (by decide) (fun c_15 => absurd c_15 (by decide)) (fun c_15 => ?_)
          refine lv_iload_n hx hb d_M_goes_53 rfl (lv_at hl 3 rfl) ?_
          refine lv_iload hx hb d_M_goes_54 (lv_at hl 0 rfl) ?_
          refine lv_iand hx hb d_M_goes_56 ?_
          refine lv_if_le (tgt := 70) hx hb d_M_goes_57 (by decide) (fun c_16 => absurd c_16 (by decide)) (fun c_16 => ?_)
          refine lv_aload_n hx hb d_M_goes_60 rfl (lv_at hl 2 rfl) ?_
          refine lv_dup hx hb d_M_goes_61 rfl ?_
          refine m_get (D := G) (ci := 6) (v := .int (0 + 1)) (C := nR_M) (T := nT_M) (N := 21) hx hb hta in_M hown hK hM k_14 rfl 0 (by decide) (hta _ aw_543) (fun _ h9 => h9) rfl d_M_goes_62 ?_
          refine lv_iconst (v := 1) hx hb d_M_goes_65 (by decide) ?_
          refine lv_iadd hx hb d_M_goes_66 ?_
          refine m_put (D := G) (ci := 6) (v := .int ((0 + 1) + 1)) (ty := .int) (C := nR_M) (T := nT_M) (N := 21) hx hb hta in_M nt_M nt_M_ok nn_M hown hK hM hS k_14 rfl 0 (by decide) (hta _ aw_543) (fun _ h9 => h9) rfl (by decide +kernel) rfl rfl (Nat.le_of_ble_eq_true rfl) d_M_goes_67 (fs' := [.int ((0 + 1) + 1), .int no, .int wr, .int n, .ref (ad 0), .ref (ad 1), .ref (ad 2), .ref (ad 3), .ref (ad 4), .ref (ad 5), .int k, .ref (ad 6), .ref (ad 7), .ref (ad 8), .ref (ad 9), .int z, .int r, .int so, .ref (ad 10), .int pr, .ref (ad 11)]) rfl (fun H locs hM hS => ?_)
          obtain ⟨w_17, hw_17⟩ : ∃ z9 : Nat → Option va_E, z9 = va_up w_13 mm (some (.inr (6, [.int ((0 + 1) + 1), .int no, .int wr, .int n, .ref (ad 0), .ref (ad 1), .ref (ad 2), .ref (ad 3), .ref (ad 4), .ref (ad 5), .int k, .ref (ad 6), .ref (ad 7), .ref (ad 8), .ref (ad 9), .int z, .int r, .int so, .ref (ad 10), .int pr, .ref (ad 11)]))) := ⟨_, rfl⟩
          rw [← hw_17] at hM
          have k_18 : w_17 mm = some (.inr (6, [.int ((0 + 1) + 1), .int no, .int wr, .int n, .ref (ad 0), .ref (ad 1), .ref (ad 2), .ref (ad 3), .ref (ad 4), .ref (ad 5), .int k, .ref (ad 6), .ref (ad 7), .ref (ad 8), .ref (ad 9), .int z, .int r, .int so, .ref (ad 10), .int pr, .ref (ad 11)])) := by rw [hw_17, va_up_self]
          refine lv_iconst (v := 2) hx hb d_M_goes_70 (by decide) ?_
          refine lv_iload hx hb d_M_goes_71 (lv_at hl 0 rfl) ?_
          refine lv_imul hx hb d_M_goes_73 ?_
          refine lv_istore (lv' := [(7, .int (2 * (2 * 1))), (6, .int 8), (0, .ref mm), (1, .int 11), (2, .int b1), (3, .int b2), (4, .int b3), (5, .int b4)]) hx hb d_M_goes_74 hl (by decide) rfl (fun ls hl => ?_)
          refine lv_goto (tgt := 46) hx hb d_M_goes_76 (by decide) ?_
          refine lv_iload hx hb d_M_goes_46 (lv_at hl 0 rfl) ?_
          refine lv_iload hx hb d_M_goes_48 (lv_at hl 1 rfl) ?_
          refine lv_icmp_gt (tgt := 79) hx hb d_M_goes_50 (by decide) (fun c_19 => absurd c_19 (by decide)) (fun c_19 => ?_)
          refine lv_iload_n hx hb d_M_goes_53 rfl (lv_at hl 3 rfl) ?_
          refine lv_iload hx hb d_M_goes_54 (lv_at hl 0 rfl) ?_
          refine lv_iand hx hb d_M_goes_56 ?_
          refine lv_if_le (tgt := 70) hx hb d_M_goes_57 (by decide) (fun c_20 => ?_) (fun c_20 => absurd (by decide) c_20)
          refine lv_iconst (v := 2) hx hb d_M_goes_70 (by decide) ?_
          refine lv_iload hx hb d_M_goes_71 (lv_at hl 0 rfl) ?_
          refine lv_imul hx hb d_M_goes_73 ?_
          refine lv_istore (lv' := [(7, .int (2 * (2 * (2 * 1)))), (6, .int 8), (0, .ref mm), (1, .int 11), (2, .int b1), (3, .int b2), (4, .int b3), (5, .int b4)]) hx hb d_M_goes_74 hl (by decide) rfl (fun ls hl => ?_)
          refine lv_goto (tgt := 46) hx hb d_M_goes_76 (by decide) ?_
          refine lv_iload hx hb d_M_goes_46 (lv_at hl 0 rfl) ?_
          refine lv_iload hx hb d_M_goes_48 (lv_at hl 1 rfl) ?_
          refine lv_icmp_gt (tgt := 79) hx hb d_M_goes_50 (by decide) (fun c_21 => absurd c_21 (by decide)) (fun c_21 => ?_)
          refine lv_iload_n hx hb d_M_goes_53 rfl (lv_at hl 3 rfl) ?_
          refine lv_iload hx hb d_M_goes_54 (lv_at hl 0 rfl) ?_
          refine lv_iand hx hb d_M_goes_56 ?_
          refine lv_if_le (tgt := 70) hx hb d_M_goes_57 (by decide) (fun c_22 => absurd c_22 (by decide)) (fun c_22 => ?_)
          refine lv_aload_n hx hb d_M_goes_60 rfl (lv_at hl 2 rfl) ?_
          refine lv_dup hx hb d_M_goes_61 rfl ?_
          refine m_get (D := G) (ci := 6) (v := .int ((0 + 1) + 1)) (C := nR_M) (T := nT_M) (N := 21) hx hb hta in_M hown hK hM k_18 rfl 0 (by decide) (hta _ aw_543) (fun _ h9 => h9) rfl d_M_goes_62 ?_
          refine lv_iconst (v := 1) hx hb d_M_goes_65 (by decide) ?_
          refine lv_iadd hx hb d_M_goes_66 ?_
          refine m_put (D := G) (ci := 6) (v := .int (((0 + 1) + 1) + 1)) (ty := .int) (C := nR_M) (T := nT_M) (N := 21) hx hb hta in_M nt_M nt_M_ok nn_M hown hK hM hS k_18 rfl 0 (by decide) (hta _ aw_543) (fun _ h9 => h9) rfl (by decide +kernel) rfl rfl (Nat.le_of_ble_eq_true rfl) d_M_goes_67 (fs' := [.int (((0 + 1) + 1) + 1), .int no, .int wr, .int n, .ref (ad 0), .ref (ad 1), .ref (ad 2), .ref (ad 3), .ref (ad 4), .ref (ad 5), .int k, .ref (ad 6), .ref (ad 7), .ref (ad 8), .ref (ad 9), .int z, .int r, .int so, .ref (ad 10), .int pr, .ref (ad 11)]) rfl (fun H locs hM hS => ?_)
          obtain ⟨w_23, hw_23⟩ : ∃ z9 : Nat → Option va_E, z9 = va_up w_17 mm (some (.inr (6, [.int (((0 + 1) + 1) + 1), .int no, .int wr, .int n, .ref (ad 0), .ref (ad 1), .ref (ad 2), .ref (ad 3), .ref (ad 4), .ref (ad 5), .int k, .ref (ad 6), .ref (ad 7), .ref (ad 8), .ref (ad 9), .int z, .int r, .int so, .ref (ad 10), .int pr, .ref (ad 11)]))) := ⟨_, rfl⟩
          rw [← hw_23] at hM
          have k_24 : w_23 mm = some (.inr (6, [.int (((0 + 1) + 1) + 1), .int no, .int wr, .int n, .ref (ad 0), .ref (ad 1), .ref (ad 2), .ref (ad 3), .ref (ad 4), .ref (ad 5), .int k, .ref (ad 6), .ref (ad 7), .ref (ad 8), .ref (ad 9), .int z, .int r, .int so, .ref (ad 10), .int pr, .ref (ad 11)])) := by rw [hw_23, va_up_self]
          refine lv_iconst (v := 2) hx hb d_M_goes_70 (by decide) ?_
          refine lv_iload hx hb d_M_goes_71 (lv_at hl 0 rfl) ?_
          refine lv_imul hx hb d_M_goes_73 ?_
          refine lv_istore (lv' := [(7, .int (2 * (2 * (2 * (2 * 1))))), (6, .int 8), (0, .ref mm), (1, .int 11), (2, .int b1), (3, .int b2), (4, .int b3), (5, .int b4)]) hx hb d_M_goes_74 hl (by decide) rfl (fun ls hl => ?_)
          refine lv_goto (tgt := 46) hx hb d_M_goes_76 (by decide) ?_
          refine lv_iload hx hb d_M_goes_46 (lv_at hl 0 rfl) ?_
          refine lv_iload hx hb d_M_goes_48 (lv_at hl 1 rfl) ?_
          refine lv_icmp_gt (tgt := 79) hx hb d_M_goes_50 (by decide) (fun c_25 => ?_) (fun c_25 => absurd (by decide) c_25)
          refine lv_iload hx hb d_M_goes_79 (lv_at hl 1 rfl) ?_
          refine lv_if_ne (tgt := 88) hx hb d_M_goes_81 (by decide) (fun c_26 => ?_) (fun c_26 => absurd c_26 (by decide))
          refine lv_iconst (v := 0) hx hb d_M_goes_88 (by decide) ?_
          have hg : gC b1 b2 b3 b4 = 4 := by simp [gC, c_1, c_2, c_3, c_4]
          have hM9 : mw G ncl A (va_up w mm (some (eM ad (nI (gT 11 (gC b1 b2 b3 b4))) no wr n k z r so pr))) H := by rw [hg, show nI (gT 11 4) = ((0 + 1) + 1) + 1 by decide]; rw [hw_23, hw_17, hw_13, hw_9, bx_uu, bx_uu, bx_uu] at hM; exact hM
          exact W.zret (v := 0) hx hb hr rfl (fun t ht hW => ⟨⟨0, (), rfl, by rw [hg]; rfl, by rw [ht]; exact hM9, va_K.moved hW.alike hK⟩, hS.F ht⟩) hS.2.2 d_M_goes_89
      · refine lv_iconst (v := 4) hx hb d_M_goes_21 (by decide) ?_
        refine lv_goto (tgt := 36) hx hb d_M_goes_22 (by decide) ?_
        refine lv_istore (lv' := [(6, .int 4), (0, .ref mm), (1, .int 11), (2, .int b1), (3, .int b2), (4, .int b3), (5, .int b4)]) hx hb d_M_goes_36 hl (by decide) rfl (fun ls hl => ?_)
        refine lv_aload_n hx hb d_M_goes_38 rfl (lv_at hl 1 rfl) ?_
        refine lv_iconst (v := 0) hx hb d_M_goes_39 (by decide) ?_
        refine m_put (D := G) (ci := 6) (v := .int 0) (ty := .int) (C := nR_M) (T := nT_M) (N := 21) hx hb hta in_M nt_M nt_M_ok nn_M hown hK hM hS hm rfl 0 (by decide) (hta _ aw_543) (fun _ h9 => h9) rfl (by decide +kernel) rfl rfl (Nat.le_of_ble_eq_true rfl) d_M_goes_40 (fs' := [.int 0, .int no, .int wr, .int n, .ref (ad 0), .ref (ad 1), .ref (ad 2), .ref (ad 3), .ref (ad 4), .ref (ad 5), .int k, .ref (ad 6), .ref (ad 7), .ref (ad 8), .ref (ad 9), .int z, .int r, .int so, .ref (ad 10), .int pr, .ref (ad 11)]) rfl (fun H locs hM hS => ?_)
        obtain ⟨w_27, hw_27⟩ : ∃ z9 : Nat → Option va_E, z9 = va_up w mm (some (.inr (6, [.int 0, .int no, .int wr, .int n, .ref (ad 0), .ref (ad 1), .ref (ad 2), .ref (ad 3), .ref (ad 4), .ref (ad 5), .int k, .ref (ad 6), .ref (ad 7), .ref (ad 8), .ref (ad 9), .int z, .int r, .int so, .ref (ad 10), .int pr, .ref (ad 11)]))) := ⟨_, rfl⟩
        rw [← hw_27] at hM
        have k_28 : w_27 mm = some (.inr (6, [.int 0, .int no, .int wr, .int n, .ref (ad 0), .ref (ad 1), .ref (ad 2), .ref (ad 3), .ref (ad 4), .ref (ad 5), .int k, .ref (ad 6), .ref (ad 7), .ref (ad 8), .ref (ad 9), .int z, .int r, .int so, .ref (ad 10), .int pr, .ref (ad 11)])) := by rw [hw_27, va_up_self]
        refine lv_iconst (v := 1) hx hb d_M_goes_43 (by decide) ?_
        refine lv_istore (lv' := [(7, .int 1), (6, .int 4), (0, .ref mm), (1, .int 11), (2, .int b1), (3, .int b2), (4, .int b3), (5, .int b4)]) hx hb d_M_goes_44 hl (by decide) rfl (fun ls hl => ?_)
        refine lv_iload hx hb d_M_goes_46 (lv_at hl 0 rfl) ?_
        refine lv_iload hx hb d_M_goes_48 (lv_at hl 1 rfl) ?_
        refine lv_icmp_gt (tgt := 79) hx hb d_M_goes_50 (by decide) (fun c_29 => absurd c_29 (by decide)) (fun c_29 => ?_)
        refine lv_iload_n hx hb d_M_goes_53 rfl (lv_at hl 3 rfl) ?_
        refine lv_iload hx hb d_M_goes_54 (lv_at hl 0 rfl) ?_
        refine lv_iand hx hb d_M_goes_56 ?_
        refine lv_if_le (tgt := 70) hx hb d_M_goes_57 (by decide) (fun c_30 => absurd c_30 (by decide)) (fun c_30 => ?_)
        refine lv_aload_n hx hb d_M_goes_60 rfl (lv_at hl 2 rfl) ?_
        refine lv_dup hx hb d_M_goes_61 rfl ?_
        refine m_get (D := G) (ci := 6) (v := .int 0) (C := nR_M) (T := nT_M) (N := 21) hx hb hta in_M hown hK hM k_28 rfl 0 (by decide) (hta _ aw_543) (fun _ h9 => h9) rfl d_M_goes_62 ?_
        refine lv_iconst (v := 1) hx hb d_M_goes_65 (by decide) ?_
        refine lv_iadd hx hb d_M_goes_66 ?_
        refine m_put (D := G) (ci := 6) (v := .int (0 + 1)) (ty := .int) (C := nR_M) (T := nT_M) (N := 21) hx hb hta in_M nt_M nt_M_ok nn_M hown hK hM hS k_28 rfl 0 (by decide) (hta _ aw_543) (fun _ h9 => h9) rfl (by decide +kernel) rfl rfl (Nat.le_of_ble_eq_true rfl) d_M_goes_67 (fs' := [.int (0 + 1), .int no, .int wr, .int n, .ref (ad 0), .ref (ad 1), .ref (ad 2), .ref (ad 3), .ref (ad 4), .ref (ad 5), .int k, .ref (ad 6), .ref (ad 7), .ref (ad 8), .ref (ad 9), .int z, .int r, .int so, .ref (ad 10), .int pr, .ref (ad 11)]) rfl (fun H locs hM hS => ?_)
        obtain ⟨w_31, hw_31⟩ : ∃ z9 : Nat → Option va_E, z9 = va_up w_27 mm (some (.inr (6, [.int (0 + 1), .int no, .int wr, .int n, .ref (ad 0), .ref (ad 1), .ref (ad 2), .ref (ad 3), .ref (ad 4), .ref (ad 5), .int k, .ref (ad 6), .ref (ad 7), .ref (ad 8), .ref (ad 9), .int z, .int r, .int so, .ref (ad 10), .int pr, .ref (ad 11)]))) := ⟨_, rfl⟩
        rw [← hw_31] at hM
        have k_32 : w_31 mm = some (.inr (6, [.int (0 + 1), .int no, .int wr, .int n, .ref (ad 0), .ref (ad 1), .ref (ad 2), .ref (ad 3), .ref (ad 4), .ref (ad 5), .int k, .ref (ad 6), .ref (ad 7), .ref (ad 8), .ref (ad 9), .int z, .int r, .int so, .ref (ad 10), .int pr, .ref (ad 11)])) := by rw [hw_31, va_up_self]
        refine lv_iconst (v := 2) hx hb d_M_goes_70 (by decide) ?_
        refine lv_iload hx hb d_M_goes_71 (lv_at hl 0 rfl) ?_
        refine lv_imul hx hb d_M_goes_73 ?_
        refine lv_istore (lv' := [(7, .int (2 * 1)), (6, .int 4), (0, .ref mm), (1, .int 11), (2, .int b1), (3, .int b2), (4, .int b3), (5, .int b4)]) hx hb d_M_goes_74 hl (by decide) rfl (fun ls hl => ?_)
        refine lv_goto (tgt := 46) hx hb d_M_goes_76 (by decide) ?_
        refine lv_iload hx hb d_M_goes_46 (lv_at hl 0 rfl) ?_
        refine lv_iload hx hb d_M_goes_48 (lv_at hl 1 rfl) ?_
        refine lv_icmp_gt (tgt := 79) hx hb d_M_goes_50 (by decide) (fun c_33 => absurd c_33 (by decide)) (fun c_33 => ?_)
        refine lv_iload_n hx hb d_M_goes_53 rfl (lv_at hl 3 rfl) ?_
        refine lv_iload hx hb d_M_goes_54 (lv_at hl 0 rfl) ?_
        refine lv_iand hx hb d_M_goes_56 ?_
        refine lv_if_le (tgt := 70) hx hb d_M_goes_57 (by decide) (fun c_34 => absurd c_34 (by decide)) (fun c_34 => ?_)
        refine lv_aload_n hx hb d_M_goes_60 rfl (lv_at hl 2 rfl) ?_
        refine lv_dup hx hb d_M_goes_61 rfl ?_
        refine m_get (D := G) (ci := 6) (v := .int (0 + 1)) (C := nR_M) (T := nT_M) (N := 21) hx hb hta in_M hown hK hM k_32 rfl 0 (by decide) (hta _ aw_543) (fun _ h9 => h9) rfl d_M_goes_62 ?_
        refine lv_iconst (v := 1) hx hb d_M_goes_65 (by decide) ?_
        refine lv_iadd hx hb d_M_goes_66 ?_
        refine m_put (D := G) (ci := 6) (v := .int ((0 + 1) + 1)) (ty := .int) (C := nR_M) (T := nT_M) (N := 21) hx hb hta in_M nt_M nt_M_ok nn_M hown hK hM hS k_32 rfl 0 (by decide) (hta _ aw_543) (fun _ h9 => h9) rfl (by decide +kernel) rfl rfl (Nat.le_of_ble_eq_true rfl) d_M_goes_67 (fs' := [.int ((0 + 1) + 1), .int no, .int wr, .int n, .ref (ad 0), .ref (ad 1), .ref (ad 2), .ref (ad 3), .ref (ad 4), .ref (ad 5), .int k, .ref (ad 6), .ref (ad 7), .ref (ad 8), .ref (ad 9), .int z, .int r, .int so, .ref (ad 10), .int pr, .ref (ad 11)]) rfl (fun H locs hM hS => ?_)
        obtain ⟨w_35, hw_35⟩ : ∃ z9 : Nat → Option va_E, z9 = va_up w_31 mm (some (.inr (6, [.int ((0 + 1) + 1), .int no, .int wr, .int n, .ref (ad 0), .ref (ad 1), .ref (ad 2), .ref (ad 3), .ref (ad 4), .ref (ad 5), .int k, .ref (ad 6), .ref (ad 7), .ref (ad 8), .ref (ad 9), .int z, .int r, .int so, .ref (ad 10), .int pr, .ref (ad 11)]))) := ⟨_, rfl⟩
        rw [← hw_35] at hM
        have k_36 : w_35 mm = some (.inr (6, [.int ((0 + 1) + 1), .int no, .int wr, .int n, .ref (ad 0), .ref (ad 1), .ref (ad 2), .ref (ad 3), .ref (ad 4), .ref (ad 5), .int k, .ref (ad 6), .ref (ad 7), .ref (ad 8), .ref (ad 9), .int z, .int r, .int so, .ref (ad 10), .int pr, .ref (ad 11)])) := by rw [hw_35, va_up_self]
        refine lv_iconst (v := 2) hx hb d_M_goes_70 (by decide) ?_
        refine lv_iload hx hb d_M_goes_71 (lv_at hl 0 rfl) ?_
        refine lv_imul hx hb d_M_goes_73 ?_
        refine lv_istore (lv' := [(7, .int (2 * (2 * 1))), (6, .int 4), (0, .ref mm), (1, .int 11), (2, .int b1), (3, .int b2), (4, .int b3), (5, .int b4)]) hx hb d_M_goes_74 hl (by decide) rfl (fun ls hl => ?_)
        refine lv_goto (tgt := 46) hx hb d_M_goes_76 (by decide) ?_
        refine lv_iload hx hb d_M_goes_46 (lv_at hl 0 rfl) ?_
        refine lv_iload hx hb d_M_goes_48 (lv_at hl 1 rfl) ?_
        refine lv_icmp_gt (tgt := 79) hx hb d_M_goes_50 (by decide) (fun c_37 => absurd c_37 (by decide)) (fun c_37 => ?_)
        refine lv_iload_n hx hb d_M_goes_53 rfl (lv_at hl 3 rfl) ?_
        refine lv_iload hx hb d_M_goes_54 (lv_at hl 0 rfl) ?_
        refine lv_iand hx hb d_M_goes_56 ?_
        refine lv_if_le (tgt := 70) hx hb d_M_goes_57 (by decide) (fun c_38 => ?_) (fun c_38 => absurd (by decide) c_38)
        refine lv_iconst (v := 2) hx hb d_M_goes_70 (by decide) ?_
        refine lv_iload hx hb d_M_goes_71 (lv_at hl 0 rfl) ?_
        refine lv_imul hx hb d_M_goes_73 ?_
        refine lv_istore (lv' := [(7, .int (2 * (2 * (2 * 1)))), (6, .int 4), (0, .ref mm), (1, .int 11), (2, .int b1), (3, .int b2), (4, .int b3), (5, .int b4)]) hx hb d_M_goes_74 hl (by decide) rfl (fun ls hl => ?_)
        refine lv_goto (tgt := 46) hx hb d_M_goes_76 (by decide) ?_
        refine lv_iload hx hb d_M_goes_46 (lv_at hl 0 rfl) ?_
        refine lv_iload hx hb d_M_goes_48 (lv_at hl 1 rfl) ?_
        refine lv_icmp_gt (tgt := 79) hx hb d_M_goes_50 (by decide) (fun c_39 => ?_) (fun c_39 => absurd (by decide) c_39)
        refine lv_iload hx hb d_M_goes_79 (lv_at hl 1 rfl) ?_
        refine lv_if_ne (tgt := 88) hx hb d_M_goes_81 (by decide) (fun c_40 => ?_) (fun c_40 => absurd c_40 (by decide))
        refine lv_iconst (v := 0) hx hb d_M_goes_88 (by decide) ?_
        have hg : gC b1 b2 b3 b4 = 3 := by simp [gC, c_1, c_2, c_3]
        have hM9 : mw G ncl A (va_up w mm (some (eM ad (nI (gT 11 (gC b1 b2 b3 b4))) no wr n k z r so pr))) H := by rw [hg, show nI (gT 11 3) = (0 + 1) + 1 by decide]; rw [hw_35, hw_31, hw_27, bx_uu, bx_uu] at hM; exact hM
        exact W.zret (v := 0) hx hb hr rfl (fun t ht hW => ⟨⟨0, (), rfl, by rw [hg]; rfl, by rw [ht]; exact hM9, va_K.moved hW.alike hK⟩, hS.F ht⟩) hS.2.2 d_M_goes_89
    · refine lv_iconst (v := 2) hx hb d_M_goes_12 (by decide) ?_
      refine lv_goto (tgt := 36) hx hb d_M_goes_13 (by decide) ?_
      refine lv_istore (lv' := [(6, .int 2), (0, .ref mm), (1, .int 11), (2, .int b1), (3, .int b2), (4, .int b3), (5, .int b4)]) hx hb d_M_goes_36 hl (by decide) rfl (fun ls hl => ?_)
      refine lv_aload_n hx hb d_M_goes_38 rfl (lv_at hl 1 rfl) ?_
      refine lv_iconst (v := 0) hx hb d_M_goes_39 (by decide) ?_
      refine m_put (D := G) (ci := 6) (v := .int 0) (ty := .int) (C := nR_M) (T := nT_M) (N := 21) hx hb hta in_M nt_M nt_M_ok nn_M hown hK hM hS hm rfl 0 (by decide) (hta _ aw_543) (fun _ h9 => h9) rfl (by decide +kernel) rfl rfl (Nat.le_of_ble_eq_true rfl) d_M_goes_40 (fs' := [.int 0, .int no, .int wr, .int n, .ref (ad 0), .ref (ad 1), .ref (ad 2), .ref (ad 3), .ref (ad 4), .ref (ad 5), .int k, .ref (ad 6), .ref (ad 7), .ref (ad 8), .ref (ad 9), .int z, .int r, .int so, .ref (ad 10), .int pr, .ref (ad 11)]) rfl (fun H locs hM hS => ?_)
      obtain ⟨w_41, hw_41⟩ : ∃ z9 : Nat → Option va_E, z9 = va_up w mm (some (.inr (6, [.int 0, .int no, .int wr, .int n, .ref (ad 0), .ref (ad 1), .ref (ad 2), .ref (ad 3), .ref (ad 4), .ref (ad 5), .int k, .ref (ad 6), .ref (ad 7), .ref (ad 8), .ref (ad 9), .int z, .int r, .int so, .ref (ad 10), .int pr, .ref (ad 11)]))) := ⟨_, rfl⟩
      rw [← hw_41] at hM
      have k_42 : w_41 mm = some (.inr (6, [.int 0, .int no, .int wr, .int n, .ref (ad 0), .ref (ad 1), .ref (ad 2), .ref (ad 3), .ref (ad 4), .ref (ad 5), .int k, .ref (ad 6), .ref (ad 7), .ref (ad 8), .ref (ad 9), .int z, .int r, .int so, .ref (ad 10), .int pr, .ref (ad 11)])) := by rw [hw_41, va_up_self]
      refine lv_iconst (v := 1) hx hb d_M_goes_43 (by decide) ?_
      refine lv_istore (lv' := [(7, .int 1), (6, .int 2), (0, .ref mm), (1, .int 11), (2, .int b1), (3, .int b2), (4, .int b3), (5, .int b4)]) hx hb d_M_goes_44 hl (by decide) rfl (fun ls hl => ?_)
      refine lv_iload hx hb d_M_goes_46 (lv_at hl 0 rfl) ?_
      refine lv_iload hx hb d_M_goes_48 (lv_at hl 1 rfl) ?_
      refine lv_icmp_gt (tgt := 79) hx hb d_M_goes_50 (by decide) (fun c_43 => absurd c_43 (by decide)) (fun c_43 => ?_)
      refine lv_iload_n hx hb d_M_goes_53 rfl (lv_at hl 3 rfl) ?_
      refine lv_iload hx hb d_M_goes_54 (lv_at hl 0 rfl) ?_
      refine lv_iand hx hb d_M_goes_56 ?_
      refine lv_if_le (tgt := 70) hx hb d_M_goes_57 (by decide) (fun c_44 => absurd c_44 (by decide)) (fun c_44 => ?_)
      refine lv_aload_n hx hb d_M_goes_60 rfl (lv_at hl 2 rfl) ?_
      refine lv_dup hx hb d_M_goes_61 rfl ?_
      refine m_get (D := G) (ci := 6) (v := .int 0) (C := nR_M) (T := nT_M) (N := 21) hx hb hta in_M hown hK hM k_42 rfl 0 (by decide) (hta _ aw_543) (fun _ h9 => h9) rfl d_M_goes_62 ?_
      refine lv_iconst (v := 1) hx hb d_M_goes_65 (by decide) ?_
      refine lv_iadd hx hb d_M_goes_66 ?_
      refine m_put (D := G) (ci := 6) (v := .int (0 + 1)) (ty := .int) (C := nR_M) (T := nT_M) (N := 21) hx hb hta in_M nt_M nt_M_ok nn_M hown hK hM hS k_42 rfl 0 (by decide) (hta _ aw_543) (fun _ h9 => h9) rfl (by decide +kernel) rfl rfl (Nat.le_of_ble_eq_true rfl) d_M_goes_67 (fs' := [.int (0 + 1), .int no, .int wr, .int n, .ref (ad 0), .ref (ad 1), .ref (ad 2), .ref (ad 3), .ref (ad 4), .ref (ad 5), .int k, .ref (ad 6), .ref (ad 7), .ref (ad 8), .ref (ad 9), .int z, .int r, .int so, .ref (ad 10), .int pr, .ref (ad 11)]) rfl (fun H locs hM hS => ?_)
      obtain ⟨w_45, hw_45⟩ : ∃ z9 : Nat → Option va_E, z9 = va_up w_41 mm (some (.inr (6, [.int (0 + 1), .int no, .int wr, .int n, .ref (ad 0), .ref (ad 1), .ref (ad 2), .ref (ad 3), .ref (ad 4), .ref (ad 5), .int k, .ref (ad 6), .ref (ad 7), .ref (ad 8), .ref (ad 9), .int z, .int r, .int so, .ref (ad 10), .int pr, .ref (ad 11)]))) := ⟨_, rfl⟩
      rw [← hw_45] at hM
      have k_46 : w_45 mm = some (.inr (6, [.int (0 + 1), .int no, .int wr, .int n, .ref (ad 0), .ref (ad 1), .ref (ad 2), .ref (ad 3), .ref (ad 4), .ref (ad 5), .int k, .ref (ad 6), .ref (ad 7), .ref (ad 8), .ref (ad 9), .int z, .int r, .int so, .ref (ad 10), .int pr, .ref (ad 11)])) := by rw [hw_45, va_up_self]
      refine lv_iconst (v := 2) hx hb d_M_goes_70 (by decide) ?_
      refine lv_iload hx hb d_M_goes_71 (lv_at hl 0 rfl) ?_
      refine lv_imul hx hb d_M_goes_73 ?_
      refine lv_istore (lv' := [(7, .int (2 * 1)), (6, .int 2), (0, .ref mm), (1, .int 11), (2, .int b1), (3, .int b2), (4, .int b3), (5, .int b4)]) hx hb d_M_goes_74 hl (by decide) rfl (fun ls hl => ?_)
      refine lv_goto (tgt := 46) hx hb d_M_goes_76 (by decide) ?_
      refine lv_iload hx hb d_M_goes_46 (lv_at hl 0 rfl) ?_
      refine lv_iload hx hb d_M_goes_48 (lv_at hl 1 rfl) ?_
      refine lv_icmp_gt (tgt := 79) hx hb d_M_goes_50 (by decide) (fun c_47 => absurd c_47 (by decide)) (fun c_47 => ?_)
      refine lv_iload_n hx hb d_M_goes_53 rfl (lv_at hl 3 rfl) ?_
      refine lv_iload hx hb d_M_goes_54 (lv_at hl 0 rfl) ?_
      refine lv_iand hx hb d_M_goes_56 ?_
      refine lv_if_le (tgt := 70) hx hb d_M_goes_57 (by decide) (fun c_48 => absurd c_48 (by decide)) (fun c_48 => ?_)
      refine lv_aload_n hx hb d_M_goes_60 rfl (lv_at hl 2 rfl) ?_
      refine lv_dup hx hb d_M_goes_61 rfl ?_
      refine m_get (D := G) (ci := 6) (v := .int (0 + 1)) (C := nR_M) (T := nT_M) (N := 21) hx hb hta in_M hown hK hM k_46 rfl 0 (by decide) (hta _ aw_543) (fun _ h9 => h9) rfl d_M_goes_62 ?_
      refine lv_iconst (v := 1) hx hb d_M_goes_65 (by decide) ?_
      refine lv_iadd hx hb d_M_goes_66 ?_
      refine m_put (D := G) (ci := 6) (v := .int ((0 + 1) + 1)) (ty := .int) (C := nR_M) (T := nT_M) (N := 21) hx hb hta in_M nt_M nt_M_ok nn_M hown hK hM hS k_46 rfl 0 (by decide) (hta _ aw_543) (fun _ h9 => h9) rfl (by decide +kernel) rfl rfl (Nat.le_of_ble_eq_true rfl) d_M_goes_67 (fs' := [.int ((0 + 1) + 1), .int no, .int wr, .int n, .ref (ad 0), .ref (ad 1), .ref (ad 2), .ref (ad 3), .ref (ad 4), .ref (ad 5), .int k, .ref (ad 6), .ref (ad 7), .ref (ad 8), .ref (ad 9), .int z, .int r, .int so, .ref (ad 10), .int pr, .ref (ad 11)]) rfl (fun H locs hM hS => ?_)
      obtain ⟨w_49, hw_49⟩ : ∃ z9 : Nat → Option va_E, z9 = va_up w_45 mm (some (.inr (6, [.int ((0 + 1) + 1), .int no, .int wr, .int n, .ref (ad 0), .ref (ad 1), .ref (ad 2), .ref (ad 3), .ref (ad 4), .ref (ad 5), .int k, .ref (ad 6), .ref (ad 7), .ref (ad 8), .ref (ad 9), .int z, .int r, .int so, .ref (ad 10), .int pr, .ref (ad 11)]))) := ⟨_, rfl⟩
      rw [← hw_49] at hM
      have k_50 : w_49 mm = some (.inr (6, [.int ((0 + 1) + 1), .int no, .int wr, .int n, .ref (ad 0), .ref (ad 1), .ref (ad 2), .ref (ad 3), .ref (ad 4), .ref (ad 5), .int k, .ref (ad 6), .ref (ad 7), .ref (ad 8), .ref (ad 9), .int z, .int r, .int so, .ref (ad 10), .int pr, .ref (ad 11)])) := by rw [hw_49, va_up_self]
      refine lv_iconst (v := 2) hx hb d_M_goes_70 (by decide) ?_
      refine lv_iload hx hb d_M_goes_71 (lv_at hl 0 rfl) ?_
      refine lv_imul hx hb d_M_goes_73 ?_
      refine lv_istore (lv' := [(7, .int (2 * (2 * 1))), (6, .int 2), (0, .ref mm), (1, .int 11), (2, .int b1), (3, .int b2), (4, .int b3), (5, .int b4)]) hx hb d_M_goes_74 hl (by decide) rfl (fun ls hl => ?_)
      refine lv_goto (tgt := 46) hx hb d_M_goes_76 (by decide) ?_
      refine lv_iload hx hb d_M_goes_46 (lv_at hl 0 rfl) ?_
      refine lv_iload hx hb d_M_goes_48 (lv_at hl 1 rfl) ?_
      refine lv_icmp_gt (tgt := 79) hx hb d_M_goes_50 (by decide) (fun c_51 => ?_) (fun c_51 => absurd (by decide) c_51)
      refine lv_iload hx hb d_M_goes_79 (lv_at hl 1 rfl) ?_
      refine lv_if_ne (tgt := 88) hx hb d_M_goes_81 (by decide) (fun c_52 => ?_) (fun c_52 => absurd c_52 (by decide))
      refine lv_iconst (v := 0) hx hb d_M_goes_88 (by decide) ?_
      have hg : gC b1 b2 b3 b4 = 2 := by simp [gC, c_1, c_2]
      have hM9 : mw G ncl A (va_up w mm (some (eM ad (nI (gT 11 (gC b1 b2 b3 b4))) no wr n k z r so pr))) H := by rw [hg, show nI (gT 11 2) = (0 + 1) + 1 by decide]; rw [hw_49, hw_45, hw_41, bx_uu, bx_uu] at hM; exact hM
      exact W.zret (v := 0) hx hb hr rfl (fun t ht hW => ⟨⟨0, (), rfl, by rw [hg]; rfl, by rw [ht]; exact hM9, va_K.moved hW.alike hK⟩, hS.F ht⟩) hS.2.2 d_M_goes_89
  · refine lv_iconst (v := 1) hx hb d_M_goes_4 (by decide) ?_
    refine lv_goto (tgt := 36) hx hb d_M_goes_5 (by decide) ?_
    refine lv_istore (lv' := [(6, .int 1), (0, .ref mm), (1, .int 11), (2, .int b1), (3, .int b2), (4, .int b3), (5, .int b4)]) hx hb d_M_goes_36 hl (by decide) rfl (fun ls hl => ?_)
    refine lv_aload_n hx hb d_M_goes_38 rfl (lv_at hl 1 rfl) ?_
    refine lv_iconst (v := 0) hx hb d_M_goes_39 (by decide) ?_
    refine m_put (D := G) (ci := 6) (v := .int 0) (ty := .int) (C := nR_M) (T := nT_M) (N := 21) hx hb hta in_M nt_M nt_M_ok nn_M hown hK hM hS hm rfl 0 (by decide) (hta _ aw_543) (fun _ h9 => h9) rfl (by decide +kernel) rfl rfl (Nat.le_of_ble_eq_true rfl) d_M_goes_40 (fs' := [.int 0, .int no, .int wr, .int n, .ref (ad 0), .ref (ad 1), .ref (ad 2), .ref (ad 3), .ref (ad 4), .ref (ad 5), .int k, .ref (ad 6), .ref (ad 7), .ref (ad 8), .ref (ad 9), .int z, .int r, .int so, .ref (ad 10), .int pr, .ref (ad 11)]) rfl (fun H locs hM hS => ?_)
    obtain ⟨w_53, hw_53⟩ : ∃ z9 : Nat → Option va_E, z9 = va_up w mm (some (.inr (6, [.int 0, .int no, .int wr, .int n, .ref (ad 0), .ref (ad 1), .ref (ad 2), .ref (ad 3), .ref (ad 4), .ref (ad 5), .int k, .ref (ad 6), .ref (ad 7), .ref (ad 8), .ref (ad 9), .int z, .int r, .int so, .ref (ad 10), .int pr, .ref (ad 11)]))) := ⟨_, rfl⟩
    rw [← hw_53] at hM
    have k_54 : w_53 mm = some (.inr (6, [.int 0, .int no, .int wr, .int n, .ref (ad 0), .ref (ad 1), .ref (ad 2), .ref (ad 3), .ref (ad 4), .ref (ad 5), .int k, .ref (ad 6), .ref (ad 7), .ref (ad 8), .ref (ad 9), .int z, .int r, .int so, .ref (ad 10), .int pr, .ref (ad 11)])) := by rw [hw_53, va_up_self]
    refine lv_iconst (v := 1) hx hb d_M_goes_43 (by decide) ?_
    refine lv_istore (lv' := [(7, .int 1), (6, .int 1), (0, .ref mm), (1, .int 11), (2, .int b1), (3, .int b2), (4, .int b3), (5, .int b4)]) hx hb d_M_goes_44 hl (by decide) rfl (fun ls hl => ?_)
    refine lv_iload hx hb d_M_goes_46 (lv_at hl 0 rfl) ?_
    refine lv_iload hx hb d_M_goes_48 (lv_at hl 1 rfl) ?_
    refine lv_icmp_gt (tgt := 79) hx hb d_M_goes_50 (by decide) (fun c_55 => absurd c_55 (by decide)) (fun c_55 => ?_)
    refine lv_iload_n hx hb d_M_goes_53 rfl (lv_at hl 3 rfl) ?_
    refine lv_iload hx hb d_M_goes_54 (lv_at hl 0 rfl) ?_
    refine lv_iand hx hb d_M_goes_56 ?_
    refine lv_if_le (tgt := 70) hx hb d_M_goes_57 (by decide) (fun c_56 => absurd c_56 (by decide)) (fun c_56 => ?_)
    refine lv_aload_n hx hb d_M_goes_60 rfl (lv_at hl 2 rfl) ?_
    refine lv_dup hx hb d_M_goes_61 rfl ?_
    refine m_get (D := G) (ci := 6) (v := .int 0) (C := nR_M) (T := nT_M) (N := 21) hx hb hta in_M hown hK hM k_54 rfl 0 (by decide) (hta _ aw_543) (fun _ h9 => h9) rfl d_M_goes_62 ?_
    refine lv_iconst (v := 1) hx hb d_M_goes_65 (by decide) ?_
    refine lv_iadd hx hb d_M_goes_66 ?_
    refine m_put (D := G) (ci := 6) (v := .int (0 + 1)) (ty := .int) (C := nR_M) (T := nT_M) (N := 21) hx hb hta in_M nt_M nt_M_ok nn_M hown hK hM hS k_54 rfl 0 (by decide) (hta _ aw_543) (fun _ h9 => h9) rfl (by decide +kernel) rfl rfl (Nat.le_of_ble_eq_true rfl) d_M_goes_67 (fs' := [.int (0 + 1), .int no, .int wr, .int n, .ref (ad 0), .ref (ad 1), .ref (ad 2), .ref (ad 3), .ref (ad 4), .ref (ad 5), .int k, .ref (ad 6), .ref (ad 7), .ref (ad 8), .ref (ad 9), .int z, .int r, .int so, .ref (ad 10), .int pr, .ref (ad 11)]) rfl (fun H locs hM hS => ?_)
    obtain ⟨w_57, hw_57⟩ : ∃ z9 : Nat → Option va_E, z9 = va_up w_53 mm (some (.inr (6, [.int (0 + 1), .int no, .int wr, .int n, .ref (ad 0), .ref (ad 1), .ref (ad 2), .ref (ad 3), .ref (ad 4), .ref (ad 5), .int k, .ref (ad 6), .ref (ad 7), .ref (ad 8), .ref (ad 9), .int z, .int r, .int so, .ref (ad 10), .int pr, .ref (ad 11)]))) := ⟨_, rfl⟩
    rw [← hw_57] at hM
    have k_58 : w_57 mm = some (.inr (6, [.int (0 + 1), .int no, .int wr, .int n, .ref (ad 0), .ref (ad 1), .ref (ad 2), .ref (ad 3), .ref (ad 4), .ref (ad 5), .int k, .ref (ad 6), .ref (ad 7), .ref (ad 8), .ref (ad 9), .int z, .int r, .int so, .ref (ad 10), .int pr, .ref (ad 11)])) := by rw [hw_57, va_up_self]
    refine lv_iconst (v := 2) hx hb d_M_goes_70 (by decide) ?_
    refine lv_iload hx hb d_M_goes_71 (lv_at hl 0 rfl) ?_
    refine lv_imul hx hb d_M_goes_73 ?_
    refine lv_istore (lv' := [(7, .int (2 * 1)), (6, .int 1), (0, .ref mm), (1, .int 11), (2, .int b1), (3, .int b2), (4, .int b3), (5, .int b4)]) hx hb d_M_goes_74 hl (by decide) rfl (fun ls hl => ?_)
    refine lv_goto (tgt := 46) hx hb d_M_goes_76 (by decide) ?_
    refine lv_iload hx hb d_M_goes_46 (lv_at hl 0 rfl) ?_
    refine lv_iload hx hb d_M_goes_48 (lv_at hl 1 rfl) ?_
    refine lv_icmp_gt (tgt := 79) hx hb d_M_goes_50 (by decide) (fun c_59 => ?_) (fun c_59 => absurd (by decide) c_59)
    refine lv_iload hx hb d_M_goes_79 (lv_at hl 1 rfl) ?_
    refine lv_if_ne (tgt := 88) hx hb d_M_goes_81 (by decide) (fun c_60 => ?_) (fun c_60 => absurd c_60 (by decide))
    refine lv_iconst (v := 0) hx hb d_M_goes_88 (by decide) ?_
    have hg : gC b1 b2 b3 b4 = 1 := by simp [gC, c_1]
    have hM9 : mw G ncl A (va_up w mm (some (eM ad (nI (gT 11 (gC b1 b2 b3 b4))) no wr n k z r so pr))) H := by rw [hg, show nI (gT 11 1) = 0 + 1 by decide]; rw [hw_57, hw_53, bx_uu] at hM; exact hM
    exact W.zret (v := 0) hx hb hr rfl (fun t ht hW => ⟨⟨0, (), rfl, by rw [hg]; rfl, by rw [ht]; exact hM9, va_K.moved hW.alike hK⟩, hS.F ht⟩) hS.2.2 d_M_goes_89
set_option maxHeartbeats 4000000 in
set_option maxRecDepth 100000 in
theorem k_M_goes_15 (l : Launch) (G : va_G) (q0 q1 : ClassId × FieldType) (cI : ClassId) (ty2 : List (ClassId × FieldType)) (w : Nat → Option va_E) {mm : Nat} {ad : Nat → Nat} {f : Nat → Nat → Int32} {th no wr n k z r so pr : Int32} (hm : w mm = some (eM ad th no wr n k z r so pr)) (hma : ∀ i, i < 12 → w (ad i) = some (aI cI (msz i) (f i))) (b1 b2 b3 b4 : Int32) (sz : Nat) : Met l y_M_goes (wm y_M_goes c_M_goes 8 (some .boolean)) ({ frames := 0, cells := 0, slots := 0, locals := 0 }) (pZ G (q0 :: q1 :: (cI, .int) :: ty2) w sz [.ref mm, .int 15, .int b1, .int b2, .int b3, .int b4]) (va_Qi (fun (r0 : Int32) (u : Unit) => r0 = if gC b1 b2 b3 b4 = 0 then 1 else 0) (fun _ t => mw G ncl (mA w sz) (va_up w mm (some (eM ad (nI (gT 15 (gC b1 b2 b3 b4))) no wr n k z r so pr))) t.heap ∧ va_K G ncl (q0 :: q1 :: (cI, .int) :: ty2) t) (mA w sz)) 0 0 (mA w sz) := by
  refine Met.ofW (cc := c_M_goes) (maxL := 8) (ret := (some .boolean)) (by decide) rfl ?_
  intro p e s m args below meth c s₁ B hml hv
  obtain ⟨rfl, hsz, hM0, hK⟩ := hv
  have hx := B.exec
  have hb := B.bytes
  have hr := B.returns
  have hts := atoms_spec (ws := (wm y_M_goes c_M_goes 8 (some .boolean))) B.pre
  have hta : ∀ w ∈ AL, w.before _ s = true := fun w h => hts w (List.mem_cons_of_mem _ h)
  have hown : s.vm.findClass nR_M = some m.cls := findClass_of_methodNamed B.named
  have hlocks := B.notSynchronized
  have hl := lv_entry ([.ref mm, .int 15, .int b1, .int b2, .int b3, .int b4]) (n := 8) (Nat.le_of_ble_eq_true rfl)
  rw [lg_entry_eq]
  generalize (lg_sl ([.ref mm, .int 15, .int b1, .int b2, .int b3, .int b4]) ++ List.replicate (8 - (lg_sl ([.ref mm, .int 15, .int b1, .int b2, .int b3, .int b4])).length) Slot.unset).toArray = ls at hl ⊢
  have hl : lv_has ls 8 [(0, .ref mm), (1, .int 15), (2, .int b1), (3, .int b2), (4, .int b3), (5, .int b4)] := hl
  subst hsz
  have hM := mw_self (sz := s.heap.size) hM0
  clear hM0
  generalize hAe : mA w s.heap.size = A at hM ⊢
  have hA : ∀ q : Nat, s.heap.size ≤ q → A q := fun q h => by rw [← hAe]; exact Or.inr h
  have hS : va_S A s.heap s.heap [] := va_S.rf
  refine lv_iload_n hx hb d_M_goes_0 rfl (lv_at hl 2 rfl) ?_
  refine lv_if_ne (tgt := 8) hx hb d_M_goes_1 (by decide) (fun c_1 => ?_) (fun c_1 => ?_)
  · refine lv_iload_n hx hb d_M_goes_8 rfl (lv_at hl 3 rfl) ?_
    refine lv_if_ne (tgt := 16) hx hb d_M_goes_9 (by decide) (fun c_2 => ?_) (fun c_2 => ?_)
    · refine lv_iload hx hb d_M_goes_16 (lv_at hl 4 rfl) ?_
      refine lv_if_ne (tgt := 25) hx hb d_M_goes_18 (by decide) (fun c_3 => ?_) (fun c_3 => ?_)
      · refine lv_iload hx hb d_M_goes_25 (lv_at hl 5 rfl) ?_
        refine lv_if_ne (tgt := 35) hx hb d_M_goes_27 (by decide) (fun c_4 => ?_) (fun c_4 => ?_)
        · refine lv_iconst (v := 0) hx hb d_M_goes_35 (by decide) ?_
          refine lv_istore (lv' := [(6, .int 0), (0, .ref mm), (1, .int 15), (2, .int b1), (3, .int b2), (4, .int b3), (5, .int b4)]) hx hb d_M_goes_36 hl (by decide) rfl (fun ls hl => ?_)
          refine lv_aload_n hx hb d_M_goes_38 rfl (lv_at hl 1 rfl) ?_
          refine lv_iconst (v := 0) hx hb d_M_goes_39 (by decide) ?_
          refine m_put (D := G) (ci := 6) (v := .int 0) (ty := .int) (C := nR_M) (T := nT_M) (N := 21) hx hb hta in_M nt_M nt_M_ok nn_M hown hK hM hS hm rfl 0 (by decide) (hta _ aw_543) (fun _ h9 => h9) rfl (by decide +kernel) rfl rfl (Nat.le_of_ble_eq_true rfl) d_M_goes_40 (fs' := [.int 0, .int no, .int wr, .int n, .ref (ad 0), .ref (ad 1), .ref (ad 2), .ref (ad 3), .ref (ad 4), .ref (ad 5), .int k, .ref (ad 6), .ref (ad 7), .ref (ad 8), .ref (ad 9), .int z, .int r, .int so, .ref (ad 10), .int pr, .ref (ad 11)]) rfl (fun H locs hM hS => ?_)
          obtain ⟨w_5, hw_5⟩ : ∃ z9 : Nat → Option va_E, z9 = va_up w mm (some (.inr (6, [.int 0, .int no, .int wr, .int n, .ref (ad 0), .ref (ad 1), .ref (ad 2), .ref (ad 3), .ref (ad 4), .ref (ad 5), .int k, .ref (ad 6), .ref (ad 7), .ref (ad 8), .ref (ad 9), .int z, .int r, .int so, .ref (ad 10), .int pr, .ref (ad 11)]))) := ⟨_, rfl⟩
          rw [← hw_5] at hM
          have k_6 : w_5 mm = some (.inr (6, [.int 0, .int no, .int wr, .int n, .ref (ad 0), .ref (ad 1), .ref (ad 2), .ref (ad 3), .ref (ad 4), .ref (ad 5), .int k, .ref (ad 6), .ref (ad 7), .ref (ad 8), .ref (ad 9), .int z, .int r, .int so, .ref (ad 10), .int pr, .ref (ad 11)])) := by rw [hw_5, va_up_self]
          refine lv_iconst (v := 1) hx hb d_M_goes_43 (by decide) ?_
          refine lv_istore (lv' := [(7, .int 1), (6, .int 0), (0, .ref mm), (1, .int 15), (2, .int b1), (3, .int b2), (4, .int b3), (5, .int b4)]) hx hb d_M_goes_44 hl (by decide) rfl (fun ls hl => ?_)
          refine lv_iload hx hb d_M_goes_46 (lv_at hl 0 rfl) ?_
          refine lv_iload hx hb d_M_goes_48 (lv_at hl 1 rfl) ?_
          refine lv_icmp_gt (tgt := 79) hx hb d_M_goes_50 (by decide) (fun c_7 => ?_) (fun c_7 => absurd (by decide) c_7)
          refine lv_iload hx hb d_M_goes_79 (lv_at hl 1 rfl) ?_
          refine lv_if_ne (tgt := 88) hx hb d_M_goes_81 (by decide) (fun c_8 => absurd (by decide) c_8) (fun c_8 => ?_)
          refine lv_iconst (v := 1) hx hb d_M_goes_84 (by decide) ?_
          refine lv_goto (tgt := 89) hx hb d_M_goes_85 (by decide) ?_
          have hg : gC b1 b2 b3 b4 = 0 := by simp [gC, c_1, c_2, c_3, c_4]
          have hM9 : mw G ncl A (va_up w mm (some (eM ad (nI (gT 15 (gC b1 b2 b3 b4))) no wr n k z r so pr))) H := by rw [hg, show nI (gT 15 0) = 0 by decide]; rw [hw_5] at hM; exact hM
          exact W.zret (v := 1) hx hb hr rfl (fun t ht hW => ⟨⟨1, (), rfl, by rw [hg]; rfl, by rw [ht]; exact hM9, va_K.moved hW.alike hK⟩, hS.F ht⟩) hS.2.2 d_M_goes_89
        · refine lv_bipush (v := 8) hx hb d_M_goes_30 (by decide) ?_
          refine lv_goto (tgt := 36) hx hb d_M_goes_32 (by decide) ?_
          refine lv_istore (lv' := [(6, .int 8), (0, .ref mm), (1, .int 15), (2, .int b1), (3, .int b2), (4, .int b3), (5, .int b4)]) hx hb d_M_goes_36 hl (by decide) rfl (fun ls hl => ?_)
          refine lv_aload_n hx hb d_M_goes_38 rfl (lv_at hl 1 rfl) ?_
          refine lv_iconst (v := 0) hx hb d_M_goes_39 (by decide) ?_
          refine m_put (D := G) (ci := 6) (v := .int 0) (ty := .int) (C := nR_M) (T := nT_M) (N := 21) hx hb hta in_M nt_M nt_M_ok nn_M hown hK hM hS hm rfl 0 (by decide) (hta _ aw_543) (fun _ h9 => h9) rfl (by decide +kernel) rfl rfl (Nat.le_of_ble_eq_true rfl) d_M_goes_40 (fs' := [.int 0, .int no, .int wr, .int n, .ref (ad 0), .ref (ad 1), .ref (ad 2), .ref (ad 3), .ref (ad 4), .ref (ad 5), .int k, .ref (ad 6), .ref (ad 7), .ref (ad 8), .ref (ad 9), .int z, .int r, .int so, .ref (ad 10), .int pr, .ref (ad 11)]) rfl (fun H locs hM hS => ?_)
          obtain ⟨w_9, hw_9⟩ : ∃ z9 : Nat → Option va_E, z9 = va_up w mm (some (.inr (6, [.int 0, .int no, .int wr, .int n, .ref (ad 0), .ref (ad 1), .ref (ad 2), .ref (ad 3), .ref (ad 4), .ref (ad 5), .int k, .ref (ad 6), .ref (ad 7), .ref (ad 8), .ref (ad 9), .int z, .int r, .int so, .ref (ad 10), .int pr, .ref (ad 11)]))) := ⟨_, rfl⟩
          rw [← hw_9] at hM
          have k_10 : w_9 mm = some (.inr (6, [.int 0, .int no, .int wr, .int n, .ref (ad 0), .ref (ad 1), .ref (ad 2), .ref (ad 3), .ref (ad 4), .ref (ad 5), .int k, .ref (ad 6), .ref (ad 7), .ref (ad 8), .ref (ad 9), .int z, .int r, .int so, .ref (ad 10), .int pr, .ref (ad 11)])) := by rw [hw_9, va_up_self]
          refine lv_iconst (v := 1) hx hb d_M_goes_43 (by decide) ?_
          refine lv_istore (lv' := [(7, .int 1), (6, .int 8), (0, .ref mm), (1, .int 15), (2, .int b1), (3, .int b2), (4, .int b3), (5, .int b4)]) hx hb d_M_goes_44 hl (by decide) rfl (fun ls hl => ?_)
          refine lv_iload hx hb d_M_goes_46 (lv_at hl 0 rfl) ?_
          refine lv_iload hx hb d_M_goes_48 (lv_at hl 1 rfl) ?_
          refine lv_icmp_gt (tgt := 79) hx hb d_M_goes_50 (by decide) (fun c_11 => absurd c_11 (by decide)) (fun c_11 => ?_)
          refine lv_iload_n hx hb d_M_goes_53 rfl (lv_at hl 3 rfl) ?_
          refine lv_iload hx hb d_M_goes_54 (lv_at hl 0 rfl) ?_
          refine lv_iand hx hb d_M_goes_56 ?_
          refine lv_if_le (tgt := 70) hx hb d_M_goes_57 (by decide) (fun c_12 => absurd c_12 (by decide)) (fun c_12 => ?_)
          refine lv_aload_n hx hb d_M_goes_60 rfl (lv_at hl 2 rfl) ?_
          refine lv_dup hx hb d_M_goes_61 rfl ?_
          refine m_get (D := G) (ci := 6) (v := .int 0) (C := nR_M) (T := nT_M) (N := 21) hx hb hta in_M hown hK hM k_10 rfl 0 (by decide) (hta _ aw_543) (fun _ h9 => h9) rfl d_M_goes_62 ?_
          refine lv_iconst (v := 1) hx hb d_M_goes_65 (by decide) ?_
          refine lv_iadd hx hb d_M_goes_66 ?_
          refine m_put (D := G) (ci := 6) (v := .int (0 + 1)) (ty := .int) (C := nR_M) (T := nT_M) (N := 21) hx hb hta in_M nt_M nt_M_ok nn_M hown hK hM hS k_10 rfl 0 (by decide) (hta _ aw_543) (fun _ h9 => h9) rfl (by decide +kernel) rfl rfl (Nat.le_of_ble_eq_true rfl) d_M_goes_67 (fs' := [.int (0 + 1), .int no, .int wr, .int n, .ref (ad 0), .ref (ad 1), .ref (ad 2), .ref (ad 3), .ref (ad 4), .ref (ad 5), .int k, .ref (ad 6), .ref (ad 7), .ref (ad 8), .ref (ad 9), .int z, .int r, .int so, .ref (ad 10), .int pr, .ref (ad 11)]) rfl (fun H locs hM hS => ?_)
          obtain ⟨w_13, hw_13⟩ : ∃ z9 : Nat → Option va_E, z9 = va_up w_9 mm (some (.inr (6, [.int (0 + 1), .int no, .int wr, .int n, .ref (ad 0), .ref (ad 1), .ref (ad 2), .ref (ad 3), .ref (ad 4), .ref (ad 5), .int k, .ref (ad 6), .ref (ad 7), .ref (ad 8), .ref (ad 9), .int z, .int r, .int so, .ref (ad 10), .int pr, .ref (ad 11)]))) := ⟨_, rfl⟩
          rw [← hw_13] at hM
          have k_14 : w_13 mm = some (.inr (6, [.int (0 + 1), .int no, .int wr, .int n, .ref (ad 0), .ref (ad 1), .ref (ad 2), .ref (ad 3), .ref (ad 4), .ref (ad 5), .int k, .ref (ad 6), .ref (ad 7), .ref (ad 8), .ref (ad 9), .int z, .int r, .int so, .ref (ad 10), .int pr, .ref (ad 11)])) := by rw [hw_13, va_up_self]
          refine lv_iconst (v := 2) hx hb d_M_goes_70 (by decide) ?_
          refine lv_iload hx hb d_M_goes_71 (lv_at hl 0 rfl) ?_
          refine lv_imul hx hb d_M_goes_73 ?_
          refine lv_istore (lv' := [(7, .int (2 * 1)), (6, .int 8), (0, .ref mm), (1, .int 15), (2, .int b1), (3, .int b2), (4, .int b3), (5, .int b4)]) hx hb d_M_goes_74 hl (by decide) rfl (fun ls hl => ?_)
          refine lv_goto (tgt := 46) hx hb d_M_goes_76 (by decide) ?_
          refine lv_iload hx hb d_M_goes_46 (lv_at hl 0 rfl) ?_
          refine lv_iload hx hb d_M_goes_48 (lv_at hl 1 rfl) ?_
          refine lv_icmp_gt (tgt := 79) hx hb d_M_goes_50 (by decide) (fun c_15 => absurd c_15 (by decide)) (fun c_15 => ?_)
          refine lv_iload_n hx hb d_M_goes_53 rfl (lv_at hl 3 rfl) ?_
          refine lv_iload hx hb d_M_goes_54 (lv_at hl 0 rfl) ?_
          refine lv_iand hx hb d_M_goes_56 ?_
          refine lv_if_le (tgt := 70) hx hb d_M_goes_57 (by decide) (fun c_16 => absurd c_16 (by decide)) (fun c_16 => ?_)
          refine lv_aload_n hx hb d_M_goes_60 rfl (lv_at hl 2 rfl) ?_
          refine lv_dup hx hb d_M_goes_61 rfl ?_
          refine m_get (D := G) (ci := 6) (v := .int (0 + 1)) (C := nR_M) (T := nT_M) (N := 21) hx hb hta in_M hown hK hM k_14 rfl 0 (by decide) (hta _ aw_543) (fun _ h9 => h9) rfl d_M_goes_62 ?_
          refine lv_iconst (v := 1) hx hb d_M_goes_65 (by decide) ?_
          refine lv_iadd hx hb d_M_goes_66 ?_
          refine m_put (D := G) (ci := 6) (v := .int ((0 + 1) + 1)) (ty := .int) (C := nR_M) (T := nT_M) (N := 21) hx hb hta in_M nt_M nt_M_ok nn_M hown hK hM hS k_14 rfl 0 (by decide) (hta _ aw_543) (fun _ h9 => h9) rfl (by decide +kernel) rfl rfl (Nat.le_of_ble_eq_true rfl) d_M_goes_67 (fs' := [.int ((0 + 1) + 1), .int no, .int wr, .int n, .ref (ad 0), .ref (ad 1), .ref (ad 2), .ref (ad 3), .ref (ad 4), .ref (ad 5), .int k, .ref (ad 6), .ref (ad 7), .ref (ad 8), .ref (ad 9), .int z, .int r, .int so, .ref (ad 10), .int pr, .ref (ad 11)]) rfl (fun H locs hM hS => ?_)
          obtain ⟨w_17, hw_17⟩ : ∃ z9 : Nat → Option va_E, z9 = va_up w_13 mm (some (.inr (6, [.int ((0 + 1) + 1), .int no, .int wr, .int n, .ref (ad 0), .ref (ad 1), .ref (ad 2), .ref (ad 3), .ref (ad 4), .ref (ad 5), .int k, .ref (ad 6), .ref (ad 7), .ref (ad 8), .ref (ad 9), .int z, .int r, .int so, .ref (ad 10), .int pr, .ref (ad 11)]))) := ⟨_, rfl⟩
          rw [← hw_17] at hM
          have k_18 : w_17 mm = some (.inr (6, [.int ((0 + 1) + 1), .int no, .int wr, .int n, .ref (ad 0), .ref (ad 1), .ref (ad 2), .ref (ad 3), .ref (ad 4), .ref (ad 5), .int k, .ref (ad 6), .ref (ad 7), .ref (ad 8), .ref (ad 9), .int z, .int r, .int so, .ref (ad 10), .int pr, .ref (ad 11)])) := by rw [hw_17, va_up_self]
          refine lv_iconst (v := 2) hx hb d_M_goes_70 (by decide) ?_
          refine lv_iload hx hb d_M_goes_71 (lv_at hl 0 rfl) ?_
          refine lv_imul hx hb d_M_goes_73 ?_
          refine lv_istore (lv' := [(7, .int (2 * (2 * 1))), (6, .int 8), (0, .ref mm), (1, .int 15), (2, .int b1), (3, .int b2), (4, .int b3), (5, .int b4)]) hx hb d_M_goes_74 hl (by decide) rfl (fun ls hl => ?_)
          refine lv_goto (tgt := 46) hx hb d_M_goes_76 (by decide) ?_
          refine lv_iload hx hb d_M_goes_46 (lv_at hl 0 rfl) ?_
          refine lv_iload hx hb d_M_goes_48 (lv_at hl 1 rfl) ?_
          refine lv_icmp_gt (tgt := 79) hx hb d_M_goes_50 (by decide) (fun c_19 => absurd c_19 (by decide)) (fun c_19 => ?_)
          refine lv_iload_n hx hb d_M_goes_53 rfl (lv_at hl 3 rfl) ?_
          refine lv_iload hx hb d_M_goes_54 (lv_at hl 0 rfl) ?_
          refine lv_iand hx hb d_M_goes_56 ?_
          refine lv_if_le (tgt := 70) hx hb d_M_goes_57 (by decide) (fun c_20 => absurd c_20 (by decide)) (fun c_20 => ?_)
          refine lv_aload_n hx hb d_M_goes_60 rfl (lv_at hl 2 rfl) ?_
          refine lv_dup hx hb d_M_goes_61 rfl ?_
          refine m_get (D := G) (ci := 6) (v := .int ((0 + 1) + 1)) (C := nR_M) (T := nT_M) (N := 21) hx hb hta in_M hown hK hM k_18 rfl 0 (by decide) (hta _ aw_543) (fun _ h9 => h9) rfl d_M_goes_62 ?_
          refine lv_iconst (v := 1) hx hb d_M_goes_65 (by decide) ?_
          refine lv_iadd hx hb d_M_goes_66 ?_
          refine m_put (D := G) (ci := 6) (v := .int (((0 + 1) + 1) + 1)) (ty := .int) (C := nR_M) (T := nT_M) (N := 21) hx hb hta in_M nt_M nt_M_ok nn_M hown hK hM hS k_18 rfl 0 (by decide) (hta _ aw_543) (fun _ h9 => h9) rfl (by decide +kernel) rfl rfl (Nat.le_of_ble_eq_true rfl) d_M_goes_67 (fs' := [.int (((0 + 1) + 1) + 1), .int no, .int wr, .int n, .ref (ad 0), .ref (ad 1), .ref (ad 2), .ref (ad 3), .ref (ad 4), .ref (ad 5), .int k, .ref (ad 6), .ref (ad 7), .ref (ad 8), .ref (ad 9), .int z, .int r, .int so, .ref (ad 10), .int pr, .ref (ad 11)]) rfl (fun H locs hM hS => ?_)
          obtain ⟨w_21, hw_21⟩ : ∃ z9 : Nat → Option va_E, z9 = va_up w_17 mm (some (.inr (6, [.int (((0 + 1) + 1) + 1), .int no, .int wr, .int n, .ref (ad 0), .ref (ad 1), .ref (ad 2), .ref (ad 3), .ref (ad 4), .ref (ad 5), .int k, .ref (ad 6), .ref (ad 7), .ref (ad 8), .ref (ad 9), .int z, .int r, .int so, .ref (ad 10), .int pr, .ref (ad 11)]))) := ⟨_, rfl⟩
          rw [← hw_21] at hM
          have k_22 : w_21 mm = some (.inr (6, [.int (((0 + 1) + 1) + 1), .int no, .int wr, .int n, .ref (ad 0), .ref (ad 1), .ref (ad 2), .ref (ad 3), .ref (ad 4), .ref (ad 5), .int k, .ref (ad 6), .ref (ad 7), .ref (ad 8), .ref (ad 9), .int z, .int r, .int so, .ref (ad 10), .int pr, .ref (ad 11)])) := by rw [hw_21, va_up_self]
          refine lv_iconst (v := 2) hx hb d_M_goes_70 (by decide) ?_
          refine lv_iload hx hb d_M_goes_71 (lv_at hl 0 rfl) ?_
          refine lv_imul hx hb d_M_goes_73 ?_
          refine lv_istore (lv' := [(7, .int (2 * (2 * (2 * 1)))), (6, .int 8), (0, .ref mm), (1, .int 15), (2, .int b1), (3, .int b2), (4, .int b3), (5, .int b4)]) hx hb d_M_goes_74 hl (by decide) rfl (fun ls hl => ?_)
          refine lv_goto (tgt := 46) hx hb d_M_goes_76 (by decide) ?_
          refine lv_iload hx hb d_M_goes_46 (lv_at hl 0 rfl) ?_
          refine lv_iload hx hb d_M_goes_48 (lv_at hl 1 rfl) ?_
          refine lv_icmp_gt (tgt := 79) hx hb d_M_goes_50 (by decide) (fun c_23 => absurd c_23 (by decide)) (fun c_23 => ?_)
          refine lv_iload_n hx hb d_M_goes_53 rfl (lv_at hl 3 rfl) ?_
          refine lv_iload hx hb d_M_goes_54 (lv_at hl 0 rfl) ?_
          refine lv_iand hx hb d_M_goes_56 ?_
          refine lv_if_le (tgt := 70) hx hb d_M_goes_57 (by decide) (fun c_24 => absurd c_24 (by decide)) (fun c_24 => ?_)
          refine lv_aload_n hx hb d_M_goes_60 rfl (lv_at hl 2 rfl) ?_
          refine lv_dup hx hb d_M_goes_61 rfl ?_
          refine m_get (D := G) (ci := 6) (v := .int (((0 + 1) + 1) + 1)) (C := nR_M) (T := nT_M) (N := 21) hx hb hta in_M hown hK hM k_22 rfl 0 (by decide) (hta _ aw_543) (fun _ h9 => h9) rfl d_M_goes_62 ?_
          refine lv_iconst (v := 1) hx hb d_M_goes_65 (by decide) ?_
          refine lv_iadd hx hb d_M_goes_66 ?_
          refine m_put (D := G) (ci := 6) (v := .int ((((0 + 1) + 1) + 1) + 1)) (ty := .int) (C := nR_M) (T := nT_M) (N := 21) hx hb hta in_M nt_M nt_M_ok nn_M hown hK hM hS k_22 rfl 0 (by decide) (hta _ aw_543) (fun _ h9 => h9) rfl (by decide +kernel) rfl rfl (Nat.le_of_ble_eq_true rfl) d_M_goes_67 (fs' := [.int ((((0 + 1) + 1) + 1) + 1), .int no, .int wr, .int n, .ref (ad 0), .ref (ad 1), .ref (ad 2), .ref (ad 3), .ref (ad 4), .ref (ad 5), .int k, .ref (ad 6), .ref (ad 7), .ref (ad 8), .ref (ad 9), .int z, .int r, .int so, .ref (ad 10), .int pr, .ref (ad 11)]) rfl (fun H locs hM hS => ?_)
          obtain ⟨w_25, hw_25⟩ : ∃ z9 : Nat → Option va_E, z9 = va_up w_21 mm (some (.inr (6, [.int ((((0 + 1) + 1) + 1) + 1), .int no, .int wr, .int n, .ref (ad 0), .ref (ad 1), .ref (ad 2), .ref (ad 3), .ref (ad 4), .ref (ad 5), .int k, .ref (ad 6), .ref (ad 7), .ref (ad 8), .ref (ad 9), .int z, .int r, .int so, .ref (ad 10), .int pr, .ref (ad 11)]))) := ⟨_, rfl⟩
          rw [← hw_25] at hM
          have k_26 : w_25 mm = some (.inr (6, [.int ((((0 + 1) + 1) + 1) + 1), .int no, .int wr, .int n, .ref (ad 0), .ref (ad 1), .ref (ad 2), .ref (ad 3), .ref (ad 4), .ref (ad 5), .int k, .ref (ad 6), .ref (ad 7), .ref (ad 8), .ref (ad 9), .int z, .int r, .int so, .ref (ad 10), .int pr, .ref (ad 11)])) := by rw [hw_25, va_up_self]
          refine lv_iconst (v := 2) hx hb d_M_goes_70 (by decide) ?_
          refine lv_iload hx hb d_M_goes_71 (lv_at hl 0 rfl) ?_
          refine lv_imul hx hb d_M_goes_73 ?_
          refine lv_istore (lv' := [(7, .int (2 * (2 * (2 * (2 * 1))))), (6, .int 8), (0, .ref mm), (1, .int 15), (2, .int b1), (3, .int b2), (4, .int b3), (5, .int b4)]) hx hb d_M_goes_74 hl (by decide) rfl (fun ls hl => ?_)
          refine lv_goto (tgt := 46) hx hb d_M_goes_76 (by decide) ?_
          refine lv_iload hx hb d_M_goes_46 (lv_at hl 0 rfl) ?_
          refine lv_iload hx hb d_M_goes_48 (lv_at hl 1 rfl) ?_
          refine lv_icmp_gt (tgt := 79) hx hb d_M_goes_50 (by decide) (fun c_27 => ?_) (fun c_27 => absurd (by decide) c_27)
          refine lv_iload hx hb d_M_goes_79 (lv_at hl 1 rfl) ?_
          refine lv_if_ne (tgt := 88) hx hb d_M_goes_81 (by decide) (fun c_28 => ?_) (fun c_28 => absurd c_28 (by decide))
          refine lv_iconst (v := 0) hx hb d_M_goes_88 (by decide) ?_
          have hg : gC b1 b2 b3 b4 = 4 := by simp [gC, c_1, c_2, c_3, c_4]
          have hM9 : mw G ncl A (va_up w mm (some (eM ad (nI (gT 15 (gC b1 b2 b3 b4))) no wr n k z r so pr))) H := by rw [hg, show nI (gT 15 4) = (((0 + 1) + 1) + 1) + 1 by decide]; rw [hw_25, hw_21, hw_17, hw_13, hw_9, bx_uu, bx_uu, bx_uu, bx_uu] at hM; exact hM
          exact W.zret (v := 0) hx hb hr rfl (fun t ht hW => ⟨⟨0, (), rfl, by rw [hg]; rfl, by rw [ht]; exact hM9, va_K.moved hW.alike hK⟩, hS.F ht⟩) hS.2.2 d_M_goes_89
      · refine lv_iconst (v := 4) hx hb d_M_goes_21 (by decide) ?_
        refine lv_goto (tgt := 36) hx hb d_M_goes_22 (by decide) ?_
        refine lv_istore (lv' := [(6, .int 4), (0, .ref mm), (1, .int 15), (2, .int b1), (3, .int b2), (4, .int b3), (5, .int b4)]) hx hb d_M_goes_36 hl (by decide) rfl (fun ls hl => ?_)
        refine lv_aload_n hx hb d_M_goes_38 rfl (lv_at hl 1 rfl) ?_
        refine lv_iconst (v := 0) hx hb d_M_goes_39 (by decide) ?_
        refine m_put (D := G) (ci := 6) (v := .int 0) (ty := .int) (C := nR_M) (T := nT_M) (N := 21) hx hb hta in_M nt_M nt_M_ok nn_M hown hK hM hS hm rfl 0 (by decide) (hta _ aw_543) (fun _ h9 => h9) rfl (by decide +kernel) rfl rfl (Nat.le_of_ble_eq_true rfl) d_M_goes_40 (fs' := [.int 0, .int no, .int wr, .int n, .ref (ad 0), .ref (ad 1), .ref (ad 2), .ref (ad 3), .ref (ad 4), .ref (ad 5), .int k, .ref (ad 6), .ref (ad 7), .ref (ad 8), .ref (ad 9), .int z, .int r, .int so, .ref (ad 10), .int pr, .ref (ad 11)]) rfl (fun H locs hM hS => ?_)
        obtain ⟨w_29, hw_29⟩ : ∃ z9 : Nat → Option va_E, z9 = va_up w mm (some (.inr (6, [.int 0, .int no, .int wr, .int n, .ref (ad 0), .ref (ad 1), .ref (ad 2), .ref (ad 3), .ref (ad 4), .ref (ad 5), .int k, .ref (ad 6), .ref (ad 7), .ref (ad 8), .ref (ad 9), .int z, .int r, .int so, .ref (ad 10), .int pr, .ref (ad 11)]))) := ⟨_, rfl⟩
        rw [← hw_29] at hM
        have k_30 : w_29 mm = some (.inr (6, [.int 0, .int no, .int wr, .int n, .ref (ad 0), .ref (ad 1), .ref (ad 2), .ref (ad 3), .ref (ad 4), .ref (ad 5), .int k, .ref (ad 6), .ref (ad 7), .ref (ad 8), .ref (ad 9), .int z, .int r, .int so, .ref (ad 10), .int pr, .ref (ad 11)])) := by rw [hw_29, va_up_self]
        refine lv_iconst (v := 1) hx hb d_M_goes_43 (by decide) ?_
        refine lv_istore (lv' := [(7, .int 1), (6, .int 4), (0, .ref mm), (1, .int 15), (2, .int b1), (3, .int b2), (4, .int b3), (5, .int b4)]) hx hb d_M_goes_44 hl (by decide) rfl (fun ls hl => ?_)
        refine lv_iload hx hb d_M_goes_46 (lv_at hl 0 rfl) ?_
        refine lv_iload hx hb d_M_goes_48 (lv_at hl 1 rfl) ?_
        refine lv_icmp_gt (tgt := 79) hx hb d_M_goes_50 (by decide) (fun c_31 => absurd c_31 (by decide)) (fun c_31 => ?_)
        refine lv_iload_n hx hb d_M_goes_53 rfl (lv_at hl 3 rfl) ?_
        refine lv_iload hx hb d_M_goes_54 (lv_at hl 0 rfl) ?_
        refine lv_iand hx hb d_M_goes_56 ?_
        refine lv_if_le (tgt := 70) hx hb d_M_goes_57 (by decide) (fun c_32 => absurd c_32 (by decide)) (fun c_32 => ?_)
        refine lv_aload_n hx hb d_M_goes_60 rfl (lv_at hl 2 rfl) ?_
        refine lv_dup hx hb d_M_goes_61 rfl ?_
        refine m_get (D := G) (ci := 6) (v := .int 0) (C := nR_M) (T := nT_M) (N := 21) hx hb hta in_M hown hK hM k_30 rfl 0 (by decide) (hta _ aw_543) (fun _ h9 => h9) rfl d_M_goes_62 ?_
        refine lv_iconst (v := 1) hx hb d_M_goes_65 (by decide) ?_
        refine lv_iadd hx hb d_M_goes_66 ?_
        refine m_put (D := G) (ci := 6) (v := .int (0 + 1)) (ty := .int) (C := nR_M) (T := nT_M) (N := 21) hx hb hta in_M nt_M nt_M_ok nn_M hown hK hM hS k_30 rfl 0 (by decide) (hta _ aw_543) (fun _ h9 => h9) rfl (by decide +kernel) rfl rfl (Nat.le_of_ble_eq_true rfl) d_M_goes_67 (fs' := [.int (0 + 1), .int no, .int wr, .int n, .ref (ad 0), .ref (ad 1), .ref (ad 2), .ref (ad 3), .ref (ad 4), .ref (ad 5), .int k, .ref (ad 6), .ref (ad 7), .ref (ad 8), .ref (ad 9), .int z, .int r, .int so, .ref (ad 10), .int pr, .ref (ad 11)]) rfl (fun H locs hM hS => ?_)
        obtain ⟨w_33, hw_33⟩ : ∃ z9 : Nat → Option va_E, z9 = va_up w_29 mm (some (.inr (6, [.int (0 + 1), .int no, .int wr, .int n, .ref (ad 0), .ref (ad 1), .ref (ad 2), .ref (ad 3), .ref (ad 4), .ref (ad 5), .int k, .ref (ad 6), .ref (ad 7), .ref (ad 8), .ref (ad 9), .int z, .int r, .int so, .ref (ad 10), .int pr, .ref (ad 11)]))) := ⟨_, rfl⟩
        rw [← hw_33] at hM
        have k_34 : w_33 mm = some (.inr (6, [.int (0 + 1), .int no, .int wr, .int n, .ref (ad 0), .ref (ad 1), .ref (ad 2), .ref (ad 3), .ref (ad 4), .ref (ad 5), .int k, .ref (ad 6), .ref (ad 7), .ref (ad 8), .ref (ad 9), .int z, .int r, .int so, .ref (ad 10), .int pr, .ref (ad 11)])) := by rw [hw_33, va_up_self]
        refine lv_iconst (v := 2) hx hb d_M_goes_70 (by decide) ?_
        refine lv_iload hx hb d_M_goes_71 (lv_at hl 0 rfl) ?_
        refine lv_imul hx hb d_M_goes_73 ?_
        refine lv_istore (lv' := [(7, .int (2 * 1)), (6, .int 4), (0, .ref mm), (1, .int 15), (2, .int b1), (3, .int b2), (4, .int b3), (5, .int b4)]) hx hb d_M_goes_74 hl (by decide) rfl (fun ls hl => ?_)
        refine lv_goto (tgt := 46) hx hb d_M_goes_76 (by decide) ?_
        refine lv_iload hx hb d_M_goes_46 (lv_at hl 0 rfl) ?_
        refine lv_iload hx hb d_M_goes_48 (lv_at hl 1 rfl) ?_
        refine lv_icmp_gt (tgt := 79) hx hb d_M_goes_50 (by decide) (fun c_35 => absurd c_35 (by decide)) (fun c_35 => ?_)
        refine lv_iload_n hx hb d_M_goes_53 rfl (lv_at hl 3 rfl) ?_
        refine lv_iload hx hb d_M_goes_54 (lv_at hl 0 rfl) ?_
        refine lv_iand hx hb d_M_goes_56 ?_
        refine lv_if_le (tgt := 70) hx hb d_M_goes_57 (by decide) (fun c_36 => absurd c_36 (by decide)) (fun c_36 => ?_)
        refine lv_aload_n hx hb d_M_goes_60 rfl (lv_at hl 2 rfl) ?_
        refine lv_dup hx hb d_M_goes_61 rfl ?_
        refine m_get (D := G) (ci := 6) (v := .int (0 + 1)) (C := nR_M) (T := nT_M) (N := 21) hx hb hta in_M hown hK hM k_34 rfl 0 (by decide) (hta _ aw_543) (fun _ h9 => h9) rfl d_M_goes_62 ?_
        refine lv_iconst (v := 1) hx hb d_M_goes_65 (by decide) ?_
        refine lv_iadd hx hb d_M_goes_66 ?_
        refine m_put (D := G) (ci := 6) (v := .int ((0 + 1) + 1)) (ty := .int) (C := nR_M) (T := nT_M) (N := 21) hx hb hta in_M nt_M nt_M_ok nn_M hown hK hM hS k_34 rfl 0 (by decide) (hta _ aw_543) (fun _ h9 => h9) rfl (by decide +kernel) rfl rfl (Nat.le_of_ble_eq_true rfl) d_M_goes_67 (fs' := [.int ((0 + 1) + 1), .int no, .int wr, .int n, .ref (ad 0), .ref (ad 1), .ref (ad 2), .ref (ad 3), .ref (ad 4), .ref (ad 5), .int k, .ref (ad 6), .ref (ad 7), .ref (ad 8), .ref (ad 9), .int z, .int r, .int so, .ref (ad 10), .int pr, .ref (ad 11)]) rfl (fun H locs hM hS => ?_)
        obtain ⟨w_37, hw_37⟩ : ∃ z9 : Nat → Option va_E, z9 = va_up w_33 mm (some (.inr (6, [.int ((0 + 1) + 1), .int no, .int wr, .int n, .ref (ad 0), .ref (ad 1), .ref (ad 2), .ref (ad 3), .ref (ad 4), .ref (ad 5), .int k, .ref (ad 6), .ref (ad 7), .ref (ad 8), .ref (ad 9), .int z, .int r, .int so, .ref (ad 10), .int pr, .ref (ad 11)]))) := ⟨_, rfl⟩
        rw [← hw_37] at hM
        have k_38 : w_37 mm = some (.inr (6, [.int ((0 + 1) + 1), .int no, .int wr, .int n, .ref (ad 0), .ref (ad 1), .ref (ad 2), .ref (ad 3), .ref (ad 4), .ref (ad 5), .int k, .ref (ad 6), .ref (ad 7), .ref (ad 8), .ref (ad 9), .int z, .int r, .int so, .ref (ad 10), .int pr, .ref (ad 11)])) := by rw [hw_37, va_up_self]
        refine lv_iconst (v := 2) hx hb d_M_goes_70 (by decide) ?_
        refine lv_iload hx hb d_M_goes_71 (lv_at hl 0 rfl) ?_
        refine lv_imul hx hb d_M_goes_73 ?_
        refine lv_istore (lv' := [(7, .int (2 * (2 * 1))), (6, .int 4), (0, .ref mm), (1, .int 15), (2, .int b1), (3, .int b2), (4, .int b3), (5, .int b4)]) hx hb d_M_goes_74 hl (by decide) rfl (fun ls hl => ?_)
        refine lv_goto (tgt := 46) hx hb d_M_goes_76 (by decide) ?_
        refine lv_iload hx hb d_M_goes_46 (lv_at hl 0 rfl) ?_
        refine lv_iload hx hb d_M_goes_48 (lv_at hl 1 rfl) ?_
        refine lv_icmp_gt (tgt := 79) hx hb d_M_goes_50 (by decide) (fun c_39 => absurd c_39 (by decide)) (fun c_39 => ?_)
        refine lv_iload_n hx hb d_M_goes_53 rfl (lv_at hl 3 rfl) ?_
        refine lv_iload hx hb d_M_goes_54 (lv_at hl 0 rfl) ?_
        refine lv_iand hx hb d_M_goes_56 ?_
        refine lv_if_le (tgt := 70) hx hb d_M_goes_57 (by decide) (fun c_40 => absurd c_40 (by decide)) (fun c_40 => ?_)
        refine lv_aload_n hx hb d_M_goes_60 rfl (lv_at hl 2 rfl) ?_
        refine lv_dup hx hb d_M_goes_61 rfl ?_
        refine m_get (D := G) (ci := 6) (v := .int ((0 + 1) + 1)) (C := nR_M) (T := nT_M) (N := 21) hx hb hta in_M hown hK hM k_38 rfl 0 (by decide) (hta _ aw_543) (fun _ h9 => h9) rfl d_M_goes_62 ?_
        refine lv_iconst (v := 1) hx hb d_M_goes_65 (by decide) ?_
        refine lv_iadd hx hb d_M_goes_66 ?_
        refine m_put (D := G) (ci := 6) (v := .int (((0 + 1) + 1) + 1)) (ty := .int) (C := nR_M) (T := nT_M) (N := 21) hx hb hta in_M nt_M nt_M_ok nn_M hown hK hM hS k_38 rfl 0 (by decide) (hta _ aw_543) (fun _ h9 => h9) rfl (by decide +kernel) rfl rfl (Nat.le_of_ble_eq_true rfl) d_M_goes_67 (fs' := [.int (((0 + 1) + 1) + 1), .int no, .int wr, .int n, .ref (ad 0), .ref (ad 1), .ref (ad 2), .ref (ad 3), .ref (ad 4), .ref (ad 5), .int k, .ref (ad 6), .ref (ad 7), .ref (ad 8), .ref (ad 9), .int z, .int r, .int so, .ref (ad 10), .int pr, .ref (ad 11)]) rfl (fun H locs hM hS => ?_)
        obtain ⟨w_41, hw_41⟩ : ∃ z9 : Nat → Option va_E, z9 = va_up w_37 mm (some (.inr (6, [.int (((0 + 1) + 1) + 1), .int no, .int wr, .int n, .ref (ad 0), .ref (ad 1), .ref (ad 2), .ref (ad 3), .ref (ad 4), .ref (ad 5), .int k, .ref (ad 6), .ref (ad 7), .ref (ad 8), .ref (ad 9), .int z, .int r, .int so, .ref (ad 10), .int pr, .ref (ad 11)]))) := ⟨_, rfl⟩
        rw [← hw_41] at hM
        have k_42 : w_41 mm = some (.inr (6, [.int (((0 + 1) + 1) + 1), .int no, .int wr, .int n, .ref (ad 0), .ref (ad 1), .ref (ad 2), .ref (ad 3), .ref (ad 4), .ref (ad 5), .int k, .ref (ad 6), .ref (ad 7), .ref (ad 8), .ref (ad 9), .int z, .int r, .int so, .ref (ad 10), .int pr, .ref (ad 11)])) := by rw [hw_41, va_up_self]
        refine lv_iconst (v := 2) hx hb d_M_goes_70 (by decide) ?_
        refine lv_iload hx hb d_M_goes_71 (lv_at hl 0 rfl) ?_
        refine lv_imul hx hb d_M_goes_73 ?_
        refine lv_istore (lv' := [(7, .int (2 * (2 * (2 * 1)))), (6, .int 4), (0, .ref mm), (1, .int 15), (2, .int b1), (3, .int b2), (4, .int b3), (5, .int b4)]) hx hb d_M_goes_74 hl (by decide) rfl (fun ls hl => ?_)
        refine lv_goto (tgt := 46) hx hb d_M_goes_76 (by decide) ?_
        refine lv_iload hx hb d_M_goes_46 (lv_at hl 0 rfl) ?_
        refine lv_iload hx hb d_M_goes_48 (lv_at hl 1 rfl) ?_
        refine lv_icmp_gt (tgt := 79) hx hb d_M_goes_50 (by decide) (fun c_43 => ?_) (fun c_43 => absurd (by decide) c_43)
        refine lv_iload hx hb d_M_goes_79 (lv_at hl 1 rfl) ?_
        refine lv_if_ne (tgt := 88) hx hb d_M_goes_81 (by decide) (fun c_44 => ?_) (fun c_44 => absurd c_44 (by decide))
        refine lv_iconst (v := 0) hx hb d_M_goes_88 (by decide) ?_
        have hg : gC b1 b2 b3 b4 = 3 := by simp [gC, c_1, c_2, c_3]
        have hM9 : mw G ncl A (va_up w mm (some (eM ad (nI (gT 15 (gC b1 b2 b3 b4))) no wr n k z r so pr))) H := by rw [hg, show nI (gT 15 3) = ((0 + 1) + 1) + 1 by decide]; rw [hw_41, hw_37, hw_33, hw_29, bx_uu, bx_uu, bx_uu] at hM; exact hM
        exact W.zret (v := 0) hx hb hr rfl (fun t ht hW => ⟨⟨0, (), rfl, by rw [hg]; rfl, by rw [ht]; exact hM9, va_K.moved hW.alike hK⟩, hS.F ht⟩) hS.2.2 d_M_goes_89
    · refine lv_iconst (v := 2) hx hb d_M_goes_12 (by decide) ?_
      refine lv_goto (tgt := 36) hx hb d_M_goes_13 (by decide) ?_
      refine lv_istore (lv' := [(6, .int 2), (0, .ref mm), (1, .int 15), (2, .int b1), (3, .int b2), (4, .int b3), (5, .int b4)]) hx hb d_M_goes_36 hl (by decide) rfl (fun ls hl => ?_)
      refine lv_aload_n hx hb d_M_goes_38 rfl (lv_at hl 1 rfl) ?_
      refine lv_iconst (v := 0) hx hb d_M_goes_39 (by decide) ?_
      refine m_put (D := G) (ci := 6) (v := .int 0) (ty := .int) (C := nR_M) (T := nT_M) (N := 21) hx hb hta in_M nt_M nt_M_ok nn_M hown hK hM hS hm rfl 0 (by decide) (hta _ aw_543) (fun _ h9 => h9) rfl (by decide +kernel) rfl rfl (Nat.le_of_ble_eq_true rfl) d_M_goes_40 (fs' := [.int 0, .int no, .int wr, .int n, .ref (ad 0), .ref (ad 1), .ref (ad 2), .ref (ad 3), .ref (ad 4), .ref (ad 5), .int k, .ref (ad 6), .ref (ad 7), .ref (ad 8), .ref (ad 9), .int z, .int r, .int so, .ref (ad 10), .int pr, .ref (ad 11)]) rfl (fun H locs hM hS => ?_)
      obtain ⟨w_45, hw_45⟩ : ∃ z9 : Nat → Option va_E, z9 = va_up w mm (some (.inr (6, [.int 0, .int no, .int wr, .int n, .ref (ad 0), .ref (ad 1), .ref (ad 2), .ref (ad 3), .ref (ad 4), .ref (ad 5), .int k, .ref (ad 6), .ref (ad 7), .ref (ad 8), .ref (ad 9), .int z, .int r, .int so, .ref (ad 10), .int pr, .ref (ad 11)]))) := ⟨_, rfl⟩
      rw [← hw_45] at hM
      have k_46 : w_45 mm = some (.inr (6, [.int 0, .int no, .int wr, .int n, .ref (ad 0), .ref (ad 1), .ref (ad 2), .ref (ad 3), .ref (ad 4), .ref (ad 5), .int k, .ref (ad 6), .ref (ad 7), .ref (ad 8), .ref (ad 9), .int z, .int r, .int so, .ref (ad 10), .int pr, .ref (ad 11)])) := by rw [hw_45, va_up_self]
      refine lv_iconst (v := 1) hx hb d_M_goes_43 (by decide) ?_
      refine lv_istore (lv' := [(7, .int 1), (6, .int 2), (0, .ref mm), (1, .int 15), (2, .int b1), (3, .int b2), (4, .int b3), (5, .int b4)]) hx hb d_M_goes_44 hl (by decide) rfl (fun ls hl => ?_)
      refine lv_iload hx hb d_M_goes_46 (lv_at hl 0 rfl) ?_
      refine lv_iload hx hb d_M_goes_48 (lv_at hl 1 rfl) ?_
      refine lv_icmp_gt (tgt := 79) hx hb d_M_goes_50 (by decide) (fun c_47 => absurd c_47 (by decide)) (fun c_47 => ?_)
      refine lv_iload_n hx hb d_M_goes_53 rfl (lv_at hl 3 rfl) ?_
      refine lv_iload hx hb d_M_goes_54 (lv_at hl 0 rfl) ?_
      refine lv_iand hx hb d_M_goes_56 ?_
      refine lv_if_le (tgt := 70) hx hb d_M_goes_57 (by decide) (fun c_48 => absurd c_48 (by decide)) (fun c_48 => ?_)
      refine lv_aload_n hx hb d_M_goes_60 rfl (lv_at hl 2 rfl) ?_
      refine lv_dup hx hb d_M_goes_61 rfl ?_
      refine m_get (D := G) (ci := 6) (v := .int 0) (C := nR_M) (T := nT_M) (N := 21) hx hb hta in_M hown hK hM k_46 rfl 0 (by decide) (hta _ aw_543) (fun _ h9 => h9) rfl d_M_goes_62 ?_
      refine lv_iconst (v := 1) hx hb d_M_goes_65 (by decide) ?_
      refine lv_iadd hx hb d_M_goes_66 ?_
      refine m_put (D := G) (ci := 6) (v := .int (0 + 1)) (ty := .int) (C := nR_M) (T := nT_M) (N := 21) hx hb hta in_M nt_M nt_M_ok nn_M hown hK hM hS k_46 rfl 0 (by decide) (hta _ aw_543) (fun _ h9 => h9) rfl (by decide +kernel) rfl rfl (Nat.le_of_ble_eq_true rfl) d_M_goes_67 (fs' := [.int (0 + 1), .int no, .int wr, .int n, .ref (ad 0), .ref (ad 1), .ref (ad 2), .ref (ad 3), .ref (ad 4), .ref (ad 5), .int k, .ref (ad 6), .ref (ad 7), .ref (ad 8), .ref (ad 9), .int z, .int r, .int so, .ref (ad 10), .int pr, .ref (ad 11)]) rfl (fun H locs hM hS => ?_)
      obtain ⟨w_49, hw_49⟩ : ∃ z9 : Nat → Option va_E, z9 = va_up w_45 mm (some (.inr (6, [.int (0 + 1), .int no, .int wr, .int n, .ref (ad 0), .ref (ad 1), .ref (ad 2), .ref (ad 3), .ref (ad 4), .ref (ad 5), .int k, .ref (ad 6), .ref (ad 7), .ref (ad 8), .ref (ad 9), .int z, .int r, .int so, .ref (ad 10), .int pr, .ref (ad 11)]))) := ⟨_, rfl⟩
      rw [← hw_49] at hM
      have k_50 : w_49 mm = some (.inr (6, [.int (0 + 1), .int no, .int wr, .int n, .ref (ad 0), .ref (ad 1), .ref (ad 2), .ref (ad 3), .ref (ad 4), .ref (ad 5), .int k, .ref (ad 6), .ref (ad 7), .ref (ad 8), .ref (ad 9), .int z, .int r, .int so, .ref (ad 10), .int pr, .ref (ad 11)])) := by rw [hw_49, va_up_self]
      refine lv_iconst (v := 2) hx hb d_M_goes_70 (by decide) ?_
      refine lv_iload hx hb d_M_goes_71 (lv_at hl 0 rfl) ?_
      refine lv_imul hx hb d_M_goes_73 ?_
      refine lv_istore (lv' := [(7, .int (2 * 1)), (6, .int 2), (0, .ref mm), (1, .int 15), (2, .int b1), (3, .int b2), (4, .int b3), (5, .int b4)]) hx hb d_M_goes_74 hl (by decide) rfl (fun ls hl => ?_)
      refine lv_goto (tgt := 46) hx hb d_M_goes_76 (by decide) ?_
      refine lv_iload hx hb d_M_goes_46 (lv_at hl 0 rfl) ?_
      refine lv_iload hx hb d_M_goes_48 (lv_at hl 1 rfl) ?_
      refine lv_icmp_gt (tgt := 79) hx hb d_M_goes_50 (by decide) (fun c_51 => absurd c_51 (by decide)) (fun c_51 => ?_)
      refine lv_iload_n hx hb d_M_goes_53 rfl (lv_at hl 3 rfl) ?_
      refine lv_iload hx hb d_M_goes_54 (lv_at hl 0 rfl) ?_
      refine lv_iand hx hb d_M_goes_56 ?_
      refine lv_if_le (tgt := 70) hx hb d_M_goes_57 (by decide) (fun c_52 => absurd c_52 (by decide)) (fun c_52 => ?_)
      refine lv_aload_n hx hb d_M_goes_60 rfl (lv_at hl 2 rfl) ?_
      refine lv_dup hx hb d_M_goes_61 rfl ?_
      refine m_get (D := G) (ci := 6) (v := .int (0 + 1)) (C := nR_M) (T := nT_M) (N := 21) hx hb hta in_M hown hK hM k_50 rfl 0 (by decide) (hta _ aw_543) (fun _ h9 => h9) rfl d_M_goes_62 ?_
      refine lv_iconst (v := 1) hx hb d_M_goes_65 (by decide) ?_
      refine lv_iadd hx hb d_M_goes_66 ?_
      refine m_put (D := G) (ci := 6) (v := .int ((0 + 1) + 1)) (ty := .int) (C := nR_M) (T := nT_M) (N := 21) hx hb hta in_M nt_M nt_M_ok nn_M hown hK hM hS k_50 rfl 0 (by decide) (hta _ aw_543) (fun _ h9 => h9) rfl (by decide +kernel) rfl rfl (Nat.le_of_ble_eq_true rfl) d_M_goes_67 (fs' := [.int ((0 + 1) + 1), .int no, .int wr, .int n, .ref (ad 0), .ref (ad 1), .ref (ad 2), .ref (ad 3), .ref (ad 4), .ref (ad 5), .int k, .ref (ad 6), .ref (ad 7), .ref (ad 8), .ref (ad 9), .int z, .int r, .int so, .ref (ad 10), .int pr, .ref (ad 11)]) rfl (fun H locs hM hS => ?_)
      obtain ⟨w_53, hw_53⟩ : ∃ z9 : Nat → Option va_E, z9 = va_up w_49 mm (some (.inr (6, [.int ((0 + 1) + 1), .int no, .int wr, .int n, .ref (ad 0), .ref (ad 1), .ref (ad 2), .ref (ad 3), .ref (ad 4), .ref (ad 5), .int k, .ref (ad 6), .ref (ad 7), .ref (ad 8), .ref (ad 9), .int z, .int r, .int so, .ref (ad 10), .int pr, .ref (ad 11)]))) := ⟨_, rfl⟩
      rw [← hw_53] at hM
      have k_54 : w_53 mm = some (.inr (6, [.int ((0 + 1) + 1), .int no, .int wr, .int n, .ref (ad 0), .ref (ad 1), .ref (ad 2), .ref (ad 3), .ref (ad 4), .ref (ad 5), .int k, .ref (ad 6), .ref (ad 7), .ref (ad 8), .ref (ad 9), .int z, .int r, .int so, .ref (ad 10), .int pr, .ref (ad 11)])) := by rw [hw_53, va_up_self]
      refine lv_iconst (v := 2) hx hb d_M_goes_70 (by decide) ?_
      refine lv_iload hx hb d_M_goes_71 (lv_at hl 0 rfl) ?_
      refine lv_imul hx hb d_M_goes_73 ?_
      refine lv_istore (lv' := [(7, .int (2 * (2 * 1))), (6, .int 2), (0, .ref mm), (1, .int 15), (2, .int b1), (3, .int b2), (4, .int b3), (5, .int b4)]) hx hb d_M_goes_74 hl (by decide) rfl (fun ls hl => ?_)
      refine lv_goto (tgt := 46) hx hb d_M_goes_76 (by decide) ?_
      refine lv_iload hx hb d_M_goes_46 (lv_at hl 0 rfl) ?_
      refine lv_iload hx hb d_M_goes_48 (lv_at hl 1 rfl) ?_
      refine lv_icmp_gt (tgt := 79) hx hb d_M_goes_50 (by decide) (fun c_55 => ?_) (fun c_55 => absurd (by decide) c_55)
      refine lv_iload hx hb d_M_goes_79 (lv_at hl 1 rfl) ?_
      refine lv_if_ne (tgt := 88) hx hb d_M_goes_81 (by decide) (fun c_56 => ?_) (fun c_56 => absurd c_56 (by decide))
      refine lv_iconst (v := 0) hx hb d_M_goes_88 (by decide) ?_
      have hg : gC b1 b2 b3 b4 = 2 := by simp [gC, c_1, c_2]
      have hM9 : mw G ncl A (va_up w mm (some (eM ad (nI (gT 15 (gC b1 b2 b3 b4))) no wr n k z r so pr))) H := by rw [hg, show nI (gT 15 2) = (0 + 1) + 1 by decide]; rw [hw_53, hw_49, hw_45, bx_uu, bx_uu] at hM; exact hM
      exact W.zret (v := 0) hx hb hr rfl (fun t ht hW => ⟨⟨0, (), rfl, by rw [hg]; rfl, by rw [ht]; exact hM9, va_K.moved hW.alike hK⟩, hS.F ht⟩) hS.2.2 d_M_goes_89
  · refine lv_iconst (v := 1) hx hb d_M_goes_4 (by decide) ?_
    refine lv_goto (tgt := 36) hx hb d_M_goes_5 (by decide) ?_
    refine lv_istore (lv' := [(6, .int 1), (0, .ref mm), (1, .int 15), (2, .int b1), (3, .int b2), (4, .int b3), (5, .int b4)]) hx hb d_M_goes_36 hl (by decide) rfl (fun ls hl => ?_)
    refine lv_aload_n hx hb d_M_goes_38 rfl (lv_at hl 1 rfl) ?_
    refine lv_iconst (v := 0) hx hb d_M_goes_39 (by decide) ?_
    refine m_put (D := G) (ci := 6) (v := .int 0) (ty := .int) (C := nR_M) (T := nT_M) (N := 21) hx hb hta in_M nt_M nt_M_ok nn_M hown hK hM hS hm rfl 0 (by decide) (hta _ aw_543) (fun _ h9 => h9) rfl (by decide +kernel) rfl rfl (Nat.le_of_ble_eq_true rfl) d_M_goes_40 (fs' := [.int 0, .int no, .int wr, .int n, .ref (ad 0), .ref (ad 1), .ref (ad 2), .ref (ad 3), .ref (ad 4), .ref (ad 5), .int k, .ref (ad 6), .ref (ad 7), .ref (ad 8), .ref (ad 9), .int z, .int r, .int so, .ref (ad 10), .int pr, .ref (ad 11)]) rfl (fun H locs hM hS => ?_)
    obtain ⟨w_57, hw_57⟩ : ∃ z9 : Nat → Option va_E, z9 = va_up w mm (some (.inr (6, [.int 0, .int no, .int wr, .int n, .ref (ad 0), .ref (ad 1), .ref (ad 2), .ref (ad 3), .ref (ad 4), .ref (ad 5), .int k, .ref (ad 6), .ref (ad 7), .ref (ad 8), .ref (ad 9), .int z, .int r, .int so, .ref (ad 10), .int pr, .ref (ad 11)]))) := ⟨_, rfl⟩
    rw [← hw_57] at hM
    have k_58 : w_57 mm = some (.inr (6, [.int 0, .int no, .int wr, .int n, .ref (ad 0), .ref (ad 1), .ref (ad 2), .ref (ad 3), .ref (ad 4), .ref (ad 5), .int k, .ref (ad 6), .ref (ad 7), .ref (ad 8), .ref (ad 9), .int z, .int r, .int so, .ref (ad 10), .int pr, .ref (ad 11)])) := by rw [hw_57, va_up_self]
    refine lv_iconst (v := 1) hx hb d_M_goes_43 (by decide) ?_
    refine lv_istore (lv' := [(7, .int 1), (6, .int 1), (0, .ref mm), (1, .int 15), (2, .int b1), (3, .int b2), (4, .int b3), (5, .int b4)]) hx hb d_M_goes_44 hl (by decide) rfl (fun ls hl => ?_)
    refine lv_iload hx hb d_M_goes_46 (lv_at hl 0 rfl) ?_
    refine lv_iload hx hb d_M_goes_48 (lv_at hl 1 rfl) ?_
    refine lv_icmp_gt (tgt := 79) hx hb d_M_goes_50 (by decide) (fun c_59 => absurd c_59 (by decide)) (fun c_59 => ?_)
    refine lv_iload_n hx hb d_M_goes_53 rfl (lv_at hl 3 rfl) ?_
    refine lv_iload hx hb d_M_goes_54 (lv_at hl 0 rfl) ?_
    refine lv_iand hx hb d_M_goes_56 ?_
    refine lv_if_le (tgt := 70) hx hb d_M_goes_57 (by decide) (fun c_60 => absurd c_60 (by decide)) (fun c_60 => ?_)
    refine lv_aload_n hx hb d_M_goes_60 rfl (lv_at hl 2 rfl) ?_
    refine lv_dup hx hb d_M_goes_61 rfl ?_
    refine m_get (D := G) (ci := 6) (v := .int 0) (C := nR_M) (T := nT_M) (N := 21) hx hb hta in_M hown hK hM k_58 rfl 0 (by decide) (hta _ aw_543) (fun _ h9 => h9) rfl d_M_goes_62 ?_
    refine lv_iconst (v := 1) hx hb d_M_goes_65 (by decide) ?_
    refine lv_iadd hx hb d_M_goes_66 ?_
    refine m_put (D := G) (ci := 6) (v := .int (0 + 1)) (ty := .int) (C := nR_M) (T := nT_M) (N := 21) hx hb hta in_M nt_M nt_M_ok nn_M hown hK hM hS k_58 rfl 0 (by decide) (hta _ aw_543) (fun _ h9 => h9) rfl (by decide +kernel) rfl rfl (Nat.le_of_ble_eq_true rfl) d_M_goes_67 (fs' := [.int (0 + 1), .int no, .int wr, .int n, .ref (ad 0), .ref (ad 1), .ref (ad 2), .ref (ad 3), .ref (ad 4), .ref (ad 5), .int k, .ref (ad 6), .ref (ad 7), .ref (ad 8), .ref (ad 9), .int z, .int r, .int so, .ref (ad 10), .int pr, .ref (ad 11)]) rfl (fun H locs hM hS => ?_)
    obtain ⟨w_61, hw_61⟩ : ∃ z9 : Nat → Option va_E, z9 = va_up w_57 mm (some (.inr (6, [.int (0 + 1), .int no, .int wr, .int n, .ref (ad 0), .ref (ad 1), .ref (ad 2), .ref (ad 3), .ref (ad 4), .ref (ad 5), .int k, .ref (ad 6), .ref (ad 7), .ref (ad 8), .ref (ad 9), .int z, .int r, .int so, .ref (ad 10), .int pr, .ref (ad 11)]))) := ⟨_, rfl⟩
    rw [← hw_61] at hM
    have k_62 : w_61 mm = some (.inr (6, [.int (0 + 1), .int no, .int wr, .int n, .ref (ad 0), .ref (ad 1), .ref (ad 2), .ref (ad 3), .ref (ad 4), .ref (ad 5), .int k, .ref (ad 6), .ref (ad 7), .ref (ad 8), .ref (ad 9), .int z, .int r, .int so, .ref (ad 10), .int pr, .ref (ad 11)])) := by rw [hw_61, va_up_self]
    refine lv_iconst (v := 2) hx hb d_M_goes_70 (by decide) ?_
    refine lv_iload hx hb d_M_goes_71 (lv_at hl 0 rfl) ?_
    refine lv_imul hx hb d_M_goes_73 ?_
    refine lv_istore (lv' := [(7, .int (2 * 1)), (6, .int 1), (0, .ref mm), (1, .int 15), (2, .int b1), (3, .int b2), (4, .int b3), (5, .int b4)]) hx hb d_M_goes_74 hl (by decide) rfl (fun ls hl => ?_)
    refine lv_goto (tgt := 46) hx hb d_M_goes_76 (by decide) ?_
    refine lv_iload hx hb d_M_goes_46 (lv_at hl 0 rfl) ?_
    refine lv_iload hx hb d_M_goes_48 (lv_at hl 1 rfl) ?_
    refine lv_icmp_gt (tgt := 79) hx hb d_M_goes_50 (by decide) (fun c_63 => ?_) (fun c_63 => absurd (by decide) c_63)
    refine lv_iload hx hb d_M_goes_79 (lv_at hl 1 rfl) ?_
    refine lv_if_ne (tgt := 88) hx hb d_M_goes_81 (by decide) (fun c_64 => ?_) (fun c_64 => absurd c_64 (by decide))
    refine lv_iconst (v := 0) hx hb d_M_goes_88 (by decide) ?_
    have hg : gC b1 b2 b3 b4 = 1 := by simp [gC, c_1]
    have hM9 : mw G ncl A (va_up w mm (some (eM ad (nI (gT 15 (gC b1 b2 b3 b4))) no wr n k z r so pr))) H := by rw [hg, show nI (gT 15 1) = 0 + 1 by decide]; rw [hw_61, hw_57, bx_uu] at hM; exact hM
    exact W.zret (v := 0) hx hb hr rfl (fun t ht hW => ⟨⟨0, (), rfl, by rw [hg]; rfl, by rw [ht]; exact hM9, va_K.moved hW.alike hK⟩, hS.F ht⟩) hS.2.2 d_M_goes_89
set_option maxHeartbeats 4000000 in
set_option maxRecDepth 100000 in
theorem k_M_goes_13 (l : Launch) (G : va_G) (q0 q1 : ClassId × FieldType) (cI : ClassId) (ty2 : List (ClassId × FieldType)) (w : Nat → Option va_E) {mm : Nat} {ad : Nat → Nat} {f : Nat → Nat → Int32} {th no wr n k z r so pr : Int32} (hm : w mm = some (eM ad th no wr n k z r so pr)) (hma : ∀ i, i < 12 → w (ad i) = some (aI cI (msz i) (f i))) (b1 b2 b3 b4 : Int32) (sz : Nat) : Met l y_M_goes (wm y_M_goes c_M_goes 8 (some .boolean)) ({ frames := 0, cells := 0, slots := 0, locals := 0 }) (pZ G (q0 :: q1 :: (cI, .int) :: ty2) w sz [.ref mm, .int 13, .int b1, .int b2, .int b3, .int b4]) (va_Qi (fun (r0 : Int32) (u : Unit) => r0 = if gC b1 b2 b3 b4 = 0 then 1 else 0) (fun _ t => mw G ncl (mA w sz) (va_up w mm (some (eM ad (nI (gT 13 (gC b1 b2 b3 b4))) no wr n k z r so pr))) t.heap ∧ va_K G ncl (q0 :: q1 :: (cI, .int) :: ty2) t) (mA w sz)) 0 0 (mA w sz) := by
  refine Met.ofW (cc := c_M_goes) (maxL := 8) (ret := (some .boolean)) (by decide) rfl ?_
  intro p e s m args below meth c s₁ B hml hv
  obtain ⟨rfl, hsz, hM0, hK⟩ := hv
  have hx := B.exec
  have hb := B.bytes
  have hr := B.returns
  have hts := atoms_spec (ws := (wm y_M_goes c_M_goes 8 (some .boolean))) B.pre
  have hta : ∀ w ∈ AL, w.before _ s = true := fun w h => hts w (List.mem_cons_of_mem _ h)
  have hown : s.vm.findClass nR_M = some m.cls := findClass_of_methodNamed B.named
  have hlocks := B.notSynchronized
  have hl := lv_entry ([.ref mm, .int 13, .int b1, .int b2, .int b3, .int b4]) (n := 8) (Nat.le_of_ble_eq_true rfl)
  rw [lg_entry_eq]
  generalize (lg_sl ([.ref mm, .int 13, .int b1, .int b2, .int b3, .int b4]) ++ List.replicate (8 - (lg_sl ([.ref mm, .int 13, .int b1, .int b2, .int b3, .int b4])).length) Slot.unset).toArray = ls at hl ⊢
  have hl : lv_has ls 8 [(0, .ref mm), (1, .int 13), (2, .int b1), (3, .int b2), (4, .int b3), (5, .int b4)] := hl
  subst hsz
  have hM := mw_self (sz := s.heap.size) hM0
  clear hM0
  generalize hAe : mA w s.heap.size = A at hM ⊢
  have hA : ∀ q : Nat, s.heap.size ≤ q → A q := fun q h => by rw [← hAe]; exact Or.inr h
  have hS : va_S A s.heap s.heap [] := va_S.rf
  refine lv_iload_n hx hb d_M_goes_0 rfl (lv_at hl 2 rfl) ?_
  refine lv_if_ne (tgt := 8) hx hb d_M_goes_1 (by decide) (fun c_1 => ?_) (fun c_1 => ?_)
  · refine lv_iload_n hx hb d_M_goes_8 rfl (lv_at hl 3 rfl) ?_
    refine lv_if_ne (tgt := 16) hx hb d_M_goes_9 (by decide) (fun c_2 => ?_) (fun c_2 => ?_)
    · refine lv_iload hx hb d_M_goes_16 (lv_at hl 4 rfl) ?_
      refine lv_if_ne (tgt := 25) hx hb d_M_goes_18 (by decide) (fun c_3 => ?_) (fun c_3 => ?_)
      · refine lv_iload hx hb d_M_goes_25 (lv_at hl 5 rfl) ?_
        refine lv_if_ne (tgt := 35) hx hb d_M_goes_27 (by decide) (fun c_4 => ?_) (fun c_4 => ?_)
        · refine lv_iconst (v := 0) hx hb d_M_goes_35 (by decide) ?_
          refine lv_istore (lv' := [(6, .int 0), (0, .ref mm), (1, .int 13), (2, .int b1), (3, .int b2), (4, .int b3), (5, .int b4)]) hx hb d_M_goes_36 hl (by decide) rfl (fun ls hl => ?_)
          refine lv_aload_n hx hb d_M_goes_38 rfl (lv_at hl 1 rfl) ?_
          refine lv_iconst (v := 0) hx hb d_M_goes_39 (by decide) ?_
          refine m_put (D := G) (ci := 6) (v := .int 0) (ty := .int) (C := nR_M) (T := nT_M) (N := 21) hx hb hta in_M nt_M nt_M_ok nn_M hown hK hM hS hm rfl 0 (by decide) (hta _ aw_543) (fun _ h9 => h9) rfl (by decide +kernel) rfl rfl (Nat.le_of_ble_eq_true rfl) d_M_goes_40 (fs' := [.int 0, .int no, .int wr, .int n, .ref (ad 0), .ref (ad 1), .ref (ad 2), .ref (ad 3), .ref (ad 4), .ref (ad 5), .int k, .ref (ad 6), .ref (ad 7), .ref (ad 8), .ref (ad 9), .int z, .int r, .int so, .ref (ad 10), .int pr, .ref (ad 11)]) rfl (fun H locs hM hS => ?_)
          obtain ⟨w_5, hw_5⟩ : ∃ z9 : Nat → Option va_E, z9 = va_up w mm (some (.inr (6, [.int 0, .int no, .int wr, .int n, .ref (ad 0), .ref (ad 1), .ref (ad 2), .ref (ad 3), .ref (ad 4), .ref (ad 5), .int k, .ref (ad 6), .ref (ad 7), .ref (ad 8), .ref (ad 9), .int z, .int r, .int so, .ref (ad 10), .int pr, .ref (ad 11)]))) := ⟨_, rfl⟩
          rw [← hw_5] at hM
          have k_6 : w_5 mm = some (.inr (6, [.int 0, .int no, .int wr, .int n, .ref (ad 0), .ref (ad 1), .ref (ad 2), .ref (ad 3), .ref (ad 4), .ref (ad 5), .int k, .ref (ad 6), .ref (ad 7), .ref (ad 8), .ref (ad 9), .int z, .int r, .int so, .ref (ad 10), .int pr, .ref (ad 11)])) := by rw [hw_5, va_up_self]
          refine lv_iconst (v := 1) hx hb d_M_goes_43 (by decide) ?_
          refine lv_istore (lv' := [(7, .int 1), (6, .int 0), (0, .ref mm), (1, .int 13), (2, .int b1), (3, .int b2), (4, .int b3), (5, .int b4)]) hx hb d_M_goes_44 hl (by decide) rfl (fun ls hl => ?_)
          refine lv_iload hx hb d_M_goes_46 (lv_at hl 0 rfl) ?_
          refine lv_iload hx hb d_M_goes_48 (lv_at hl 1 rfl) ?_
          refine lv_icmp_gt (tgt := 79) hx hb d_M_goes_50 (by decide) (fun c_7 => ?_) (fun c_7 => absurd (by decide) c_7)
          refine lv_iload hx hb d_M_goes_79 (lv_at hl 1 rfl) ?_
          refine lv_if_ne (tgt := 88) hx hb d_M_goes_81 (by decide) (fun c_8 => absurd (by decide) c_8) (fun c_8 => ?_)
          refine lv_iconst (v := 1) hx hb d_M_goes_84 (by decide) ?_
          refine lv_goto (tgt := 89) hx hb d_M_goes_85 (by decide) ?_
          have hg : gC b1 b2 b3 b4 = 0 := by simp [gC, c_1, c_2, c_3, c_4]
          have hM9 : mw G ncl A (va_up w mm (some (eM ad (nI (gT 13 (gC b1 b2 b3 b4))) no wr n k z r so pr))) H := by rw [hg, show nI (gT 13 0) = 0 by decide]; rw [hw_5] at hM; exact hM
          exact W.zret (v := 1) hx hb hr rfl (fun t ht hW => ⟨⟨1, (), rfl, by rw [hg]; rfl, by rw [ht]; exact hM9, va_K.moved hW.alike hK⟩, hS.F ht⟩) hS.2.2 d_M_goes_89
        · refine lv_bipush (v := 8) hx hb d_M_goes_30 (by decide) ?_
          refine lv_goto (tgt := 36) hx hb d_M_goes_32 (by decide) ?_
          refine lv_istore (lv' := [(6, .int 8), (0, .ref mm), (1, .int 13), (2, .int b1), (3, .int b2), (4, .int b3), (5, .int b4)]) hx hb d_M_goes_36 hl (by decide) rfl (fun ls hl => ?_)
          refine lv_aload_n hx hb d_M_goes_38 rfl (lv_at hl 1 rfl) ?_
          refine lv_iconst (v := 0) hx hb d_M_goes_39 (by decide) ?_
          refine m_put (D := G) (ci := 6) (v := .int 0) (ty := .int) (C := nR_M) (T := nT_M) (N := 21) hx hb hta in_M nt_M nt_M_ok nn_M hown hK hM hS hm rfl 0 (by decide) (hta _ aw_543) (fun _ h9 => h9) rfl (by decide +kernel) rfl rfl (Nat.le_of_ble_eq_true rfl) d_M_goes_40 (fs' := [.int 0, .int no, .int wr, .int n, .ref (ad 0), .ref (ad 1), .ref (ad 2), .ref (ad 3), .ref (ad 4), .ref (ad 5), .int k, .ref (ad 6), .ref (ad 7), .ref (ad 8), .ref (ad 9), .int z, .int r, .int so, .ref (ad 10), .int pr, .ref (ad 11)]) rfl (fun H locs hM hS => ?_)
          obtain ⟨w_9, hw_9⟩ : ∃ z9 : Nat → Option va_E, z9 = va_up w mm (some (.inr (6, [.int 0, .int no, .int wr, .int n, .ref (ad 0), .ref (ad 1), .ref (ad 2), .ref (ad 3), .ref (ad 4), .ref (ad 5), .int k, .ref (ad 6), .ref (ad 7), .ref (ad 8), .ref (ad 9), .int z, .int r, .int so, .ref (ad 10), .int pr, .ref (ad 11)]))) := ⟨_, rfl⟩
          rw [← hw_9] at hM
          have k_10 : w_9 mm = some (.inr (6, [.int 0, .int no, .int wr, .int n, .ref (ad 0), .ref (ad 1), .ref (ad 2), .ref (ad 3), .ref (ad 4), .ref (ad 5), .int k, .ref (ad 6), .ref (ad 7), .ref (ad 8), .ref (ad 9), .int z, .int r, .int so, .ref (ad 10), .int pr, .ref (ad 11)])) := by rw [hw_9, va_up_self]
          refine lv_iconst (v := 1) hx hb d_M_goes_43 (by decide) ?_
          refine lv_istore (lv' := [(7, .int 1), (6, .int 8), (0, .ref mm), (1, .int 13), (2, .int b1), (3, .int b2), (4, .int b3), (5, .int b4)]) hx hb d_M_goes_44 hl (by decide) rfl (fun ls hl => ?_)
          refine lv_iload hx hb d_M_goes_46 (lv_at hl 0 rfl) ?_
          refine lv_iload hx hb d_M_goes_48 (lv_at hl 1 rfl) ?_
          refine lv_icmp_gt (tgt := 79) hx hb d_M_goes_50 (by decide) (fun c_11 => absurd c_11 (by decide)) (fun c_11 => ?_)
          refine lv_iload_n hx hb d_M_goes_53 rfl (lv_at hl 3 rfl) ?_
          refine lv_iload hx hb d_M_goes_54 (lv_at hl 0 rfl) ?_
          refine lv_iand hx hb d_M_goes_56 ?_
          refine lv_if_le (tgt := 70) hx hb d_M_goes_57 (by decide) (fun c_12 => absurd c_12 (by decide)) (fun c_12 => ?_)
          refine lv_aload_n hx hb d_M_goes_60 rfl (lv_at hl 2 rfl) ?_
          refine lv_dup hx hb d_M_goes_61 rfl ?_
          refine m_get (D := G) (ci := 6) (v := .int 0) (C := nR_M) (T := nT_M) (N := 21) hx hb hta in_M hown hK hM k_10 rfl 0 (by decide) (hta _ aw_543) (fun _ h9 => h9) rfl d_M_goes_62 ?_
          refine lv_iconst (v := 1) hx hb d_M_goes_65 (by decide) ?_
          refine lv_iadd hx hb d_M_goes_66 ?_
          refine m_put (D := G) (ci := 6) (v := .int (0 + 1)) (ty := .int) (C := nR_M) (T := nT_M) (N := 21) hx hb hta in_M nt_M nt_M_ok nn_M hown hK hM hS k_10 rfl 0 (by decide) (hta _ aw_543) (fun _ h9 => h9) rfl (by decide +kernel) rfl rfl (Nat.le_of_ble_eq_true rfl) d_M_goes_67 (fs' := [.int (0 + 1), .int no, .int wr, .int n, .ref (ad 0), .ref (ad 1), .ref (ad 2), .ref (ad 3), .ref (ad 4), .ref (ad 5), .int k, .ref (ad 6), .ref (ad 7), .ref (ad 8), .ref (ad 9), .int z, .int r, .int so, .ref (ad 10), .int pr, .ref (ad 11)]) rfl (fun H locs hM hS => ?_)
          obtain ⟨w_13, hw_13⟩ : ∃ z9 : Nat → Option va_E, z9 = va_up w_9 mm (some (.inr (6, [.int (0 + 1), .int no, .int wr, .int n, .ref (ad 0), .ref (ad 1), .ref (ad 2), .ref (ad 3), .ref (ad 4), .ref (ad 5), .int k, .ref (ad 6), .ref (ad 7), .ref (ad 8), .ref (ad 9), .int z, .int r, .int so, .ref (ad 10), .int pr, .ref (ad 11)]))) := ⟨_, rfl⟩
          rw [← hw_13] at hM
          have k_14 : w_13 mm = some (.inr (6, [.int (0 + 1), .int no, .int wr, .int n, .ref (ad 0), .ref (ad 1), .ref (ad 2), .ref (ad 3), .ref (ad 4), .ref (ad 5), .int k, .ref (ad 6), .ref (ad 7), .ref (ad 8), .ref (ad 9), .int z, .int r, .int so, .ref (ad 10), .int pr, .ref (ad 11)])) := by rw [hw_13, va_up_self]
          refine lv_iconst (v := 2) hx hb d_M_goes_70 (by decide) ?_
          refine lv_iload hx hb d_M_goes_71 (lv_at hl 0 rfl) ?_
          refine lv_imul hx hb d_M_goes_73 ?_
          refine lv_istore (lv' := [(7, .int (2 * 1)), (6, .int 8), (0, .ref mm), (1, .int 13), (2, .int b1), (3, .int b2), (4, .int b3), (5, .int b4)]) hx hb d_M_goes_74 hl (by decide) rfl (fun ls hl => ?_)
          refine lv_goto (tgt := 46) hx hb d_M_goes_76 (by decide) ?_
          refine lv_iload hx hb d_M_goes_46 (lv_at hl 0 rfl) ?_
          refine lv_iload hx hb d_M_goes_48 (lv_at hl 1 rfl) ?_
          refine lv_icmp_gt (tgt := 79) hx hb d_M_goes_50 (by decide) (fun c_15 => absurd c_15 (by decide)) (fun c_15 => ?_)
          refine lv_iload_n hx hb d_M_goes_53 rfl (lv_at hl 3 rfl) ?_
          refine lv_iload hx hb d_M_goes_54 (lv_at hl 0 rfl) ?_
          refine lv_iand hx hb d_M_goes_56 ?_
          refine lv_if_le (tgt := 70) hx hb d_M_goes_57 (by decide) (fun c_16 => ?_) (fun c_16 => absurd (by decide) c_16)
          refine lv_iconst (v := 2) hx hb d_M_goes_70 (by decide) ?_
          refine lv_iload hx hb d_M_goes_71 (lv_at hl 0 rfl) ?_
          refine lv_imul hx hb d_M_goes_73 ?_
          refine lv_istore (lv' := [(7, .int (2 * (2 * 1))), (6, .int 8), (0, .ref mm), (1, .int 13), (2, .int b1), (3, .int b2), (4, .int b3), (5, .int b4)]) hx hb d_M_goes_74 hl (by decide) rfl (fun ls hl => ?_)
          refine lv_goto (tgt := 46) hx hb d_M_goes_76 (by decide) ?_
          refine lv_iload hx hb d_M_goes_46 (lv_at hl 0 rfl) ?_
          refine lv_iload hx hb d_M_goes_48 (lv_at hl 1 rfl) ?_
          refine lv_icmp_gt (tgt := 79) hx hb d_M_goes_50 (by decide) (fun c_17 => absurd c_17 (by decide)) (fun c_17 => ?_)
          refine lv_iload_n hx hb d_M_goes_53 rfl (lv_at hl 3 rfl) ?_
          refine lv_iload hx hb d_M_goes_54 (lv_at hl 0 rfl) ?_
          refine lv_iand hx hb d_M_goes_56 ?_
          refine lv_if_le (tgt := 70) hx hb d_M_goes_57 (by decide) (fun c_18 => absurd c_18 (by decide)) (fun c_18 => ?_)
          refine lv_aload_n hx hb d_M_goes_60 rfl (lv_at hl 2 rfl) ?_
          refine lv_dup hx hb d_M_goes_61 rfl ?_
          refine m_get (D := G) (ci := 6) (v := .int (0 + 1)) (C := nR_M) (T := nT_M) (N := 21) hx hb hta in_M hown hK hM k_14 rfl 0 (by decide) (hta _ aw_543) (fun _ h9 => h9) rfl d_M_goes_62 ?_
          refine lv_iconst (v := 1) hx hb d_M_goes_65 (by decide) ?_
          refine lv_iadd hx hb d_M_goes_66 ?_
          refine m_put (D := G) (ci := 6) (v := .int ((0 + 1) + 1)) (ty := .int) (C := nR_M) (T := nT_M) (N := 21) hx hb hta in_M nt_M nt_M_ok nn_M hown hK hM hS k_14 rfl 0 (by decide) (hta _ aw_543) (fun _ h9 => h9) rfl (by decide +kernel) rfl rfl (Nat.le_of_ble_eq_true rfl) d_M_goes_67 (fs' := [.int ((0 + 1) + 1), .int no, .int wr, .int n, .ref (ad 0), .ref (ad 1), .ref (ad 2), .ref (ad 3), .ref (ad 4), .ref (ad 5), .int k, .ref (ad 6), .ref (ad 7), .ref (ad 8), .ref (ad 9), .int z, .int r, .int so, .ref (ad 10), .int pr, .ref (ad 11)]) rfl (fun H locs hM hS => ?_)
          obtain ⟨w_19, hw_19⟩ : ∃ z9 : Nat → Option va_E, z9 = va_up w_13 mm (some (.inr (6, [.int ((0 + 1) + 1), .int no, .int wr, .int n, .ref (ad 0), .ref (ad 1), .ref (ad 2), .ref (ad 3), .ref (ad 4), .ref (ad 5), .int k, .ref (ad 6), .ref (ad 7), .ref (ad 8), .ref (ad 9), .int z, .int r, .int so, .ref (ad 10), .int pr, .ref (ad 11)]))) := ⟨_, rfl⟩
          rw [← hw_19] at hM
          have k_20 : w_19 mm = some (.inr (6, [.int ((0 + 1) + 1), .int no, .int wr, .int n, .ref (ad 0), .ref (ad 1), .ref (ad 2), .ref (ad 3), .ref (ad 4), .ref (ad 5), .int k, .ref (ad 6), .ref (ad 7), .ref (ad 8), .ref (ad 9), .int z, .int r, .int so, .ref (ad 10), .int pr, .ref (ad 11)])) := by rw [hw_19, va_up_self]
          refine lv_iconst (v := 2) hx hb d_M_goes_70 (by decide) ?_
          refine lv_iload hx hb d_M_goes_71 (lv_at hl 0 rfl) ?_
          refine lv_imul hx hb d_M_goes_73 ?_
          refine lv_istore (lv' := [(7, .int (2 * (2 * (2 * 1)))), (6, .int 8), (0, .ref mm), (1, .int 13), (2, .int b1), (3, .int b2), (4, .int b3), (5, .int b4)]) hx hb d_M_goes_74 hl (by decide) rfl (fun ls hl => ?_)
          refine lv_goto (tgt := 46) hx hb d_M_goes_76 (by decide) ?_
          refine lv_iload hx hb d_M_goes_46 (lv_at hl 0 rfl) ?_
          refine lv_iload hx hb d_M_goes_48 (lv_at hl 1 rfl) ?_
          refine lv_icmp_gt (tgt := 79) hx hb d_M_goes_50 (by decide) (fun c_21 => absurd c_21 (by decide)) (fun c_21 => ?_)
          refine lv_iload_n hx hb d_M_goes_53 rfl (lv_at hl 3 rfl) ?_
          refine lv_iload hx hb d_M_goes_54 (lv_at hl 0 rfl) ?_
          refine lv_iand hx hb d_M_goes_56 ?_
          refine lv_if_le (tgt := 70) hx hb d_M_goes_57 (by decide) (fun c_22 => absurd c_22 (by decide)) (fun c_22 => ?_)
          refine lv_aload_n hx hb d_M_goes_60 rfl (lv_at hl 2 rfl) ?_
          refine lv_dup hx hb d_M_goes_61 rfl ?_
          refine m_get (D := G) (ci := 6) (v := .int ((0 + 1) + 1)) (C := nR_M) (T := nT_M) (N := 21) hx hb hta in_M hown hK hM k_20 rfl 0 (by decide) (hta _ aw_543) (fun _ h9 => h9) rfl d_M_goes_62 ?_
          refine lv_iconst (v := 1) hx hb d_M_goes_65 (by decide) ?_
          refine lv_iadd hx hb d_M_goes_66 ?_
          refine m_put (D := G) (ci := 6) (v := .int (((0 + 1) + 1) + 1)) (ty := .int) (C := nR_M) (T := nT_M) (N := 21) hx hb hta in_M nt_M nt_M_ok nn_M hown hK hM hS k_20 rfl 0 (by decide) (hta _ aw_543) (fun _ h9 => h9) rfl (by decide +kernel) rfl rfl (Nat.le_of_ble_eq_true rfl) d_M_goes_67 (fs' := [.int (((0 + 1) + 1) + 1), .int no, .int wr, .int n, .ref (ad 0), .ref (ad 1), .ref (ad 2), .ref (ad 3), .ref (ad 4), .ref (ad 5), .int k, .ref (ad 6), .ref (ad 7), .ref (ad 8), .ref (ad 9), .int z, .int r, .int so, .ref (ad 10), .int pr, .ref (ad 11)]) rfl (fun H locs hM hS => ?_)
          obtain ⟨w_23, hw_23⟩ : ∃ z9 : Nat → Option va_E, z9 = va_up w_19 mm (some (.inr (6, [.int (((0 + 1) + 1) + 1), .int no, .int wr, .int n, .ref (ad 0), .ref (ad 1), .ref (ad 2), .ref (ad 3), .ref (ad 4), .ref (ad 5), .int k, .ref (ad 6), .ref (ad 7), .ref (ad 8), .ref (ad 9), .int z, .int r, .int so, .ref (ad 10), .int pr, .ref (ad 11)]))) := ⟨_, rfl⟩
          rw [← hw_23] at hM
          have k_24 : w_23 mm = some (.inr (6, [.int (((0 + 1) + 1) + 1), .int no, .int wr, .int n, .ref (ad 0), .ref (ad 1), .ref (ad 2), .ref (ad 3), .ref (ad 4), .ref (ad 5), .int k, .ref (ad 6), .ref (ad 7), .ref (ad 8), .ref (ad 9), .int z, .int r, .int so, .ref (ad 10), .int pr, .ref (ad 11)])) := by rw [hw_23, va_up_self]
          refine lv_iconst (v := 2) hx hb d_M_goes_70 (by decide) ?_
          refine lv_iload hx hb d_M_goes_71 (lv_at hl 0 rfl) ?_
          refine lv_imul hx hb d_M_goes_73 ?_
          refine lv_istore (lv' := [(7, .int (2 * (2 * (2 * (2 * 1))))), (6, .int 8), (0, .ref mm), (1, .int 13), (2, .int b1), (3, .int b2), (4, .int b3), (5, .int b4)]) hx hb d_M_goes_74 hl (by decide) rfl (fun ls hl => ?_)
          refine lv_goto (tgt := 46) hx hb d_M_goes_76 (by decide) ?_
          refine lv_iload hx hb d_M_goes_46 (lv_at hl 0 rfl) ?_
          refine lv_iload hx hb d_M_goes_48 (lv_at hl 1 rfl) ?_
          refine lv_icmp_gt (tgt := 79) hx hb d_M_goes_50 (by decide) (fun c_25 => ?_) (fun c_25 => absurd (by decide) c_25)
          refine lv_iload hx hb d_M_goes_79 (lv_at hl 1 rfl) ?_
          refine lv_if_ne (tgt := 88) hx hb d_M_goes_81 (by decide) (fun c_26 => ?_) (fun c_26 => absurd c_26 (by decide))
          refine lv_iconst (v := 0) hx hb d_M_goes_88 (by decide) ?_
          have hg : gC b1 b2 b3 b4 = 4 := by simp [gC, c_1, c_2, c_3, c_4]
          have hM9 : mw G ncl A (va_up w mm (some (eM ad (nI (gT 13 (gC b1 b2 b3 b4))) no wr n k z r so pr))) H := by rw [hg, show nI (gT 13 4) = ((0 + 1) + 1) + 1 by decide]; rw [hw_23, hw_19, hw_13, hw_9, bx_uu, bx_uu, bx_uu] at hM; exact hM
          exact W.zret (v := 0) hx hb hr rfl (fun t ht hW => ⟨⟨0, (), rfl, by rw [hg]; rfl, by rw [ht]; exact hM9, va_K.moved hW.alike hK⟩, hS.F ht⟩) hS.2.2 d_M_goes_89
      · refine lv_iconst (v := 4) hx hb d_M_goes_21 (by decide) ?_
        refine lv_goto (tgt := 36) hx hb d_M_goes_22 (by decide) ?_
        refine lv_istore (lv' := [(6, .int 4), (0, .ref mm), (1, .int 13), (2, .int b1), (3, .int b2), (4, .int b3), (5, .int b4)]) hx hb d_M_goes_36 hl (by decide) rfl (fun ls hl => ?_)
        refine lv_aload_n hx hb d_M_goes_38 rfl (lv_at hl 1 rfl) ?_
        refine lv_iconst (v := 0) hx hb d_M_goes_39 (by decide) ?_
        refine m_put (D := G) (ci := 6) (v := .int 0) (ty := .int) (C := nR_M) (T := nT_M) (N := 21) hx hb hta in_M nt_M nt_M_ok nn_M hown hK hM hS hm rfl 0 (by decide) (hta _ aw_543) (fun _ h9 => h9) rfl (by decide +kernel) rfl rfl (Nat.le_of_ble_eq_true rfl) d_M_goes_40 (fs' := [.int 0, .int no, .int wr, .int n, .ref (ad 0), .ref (ad 1), .ref (ad 2), .ref (ad 3), .ref (ad 4), .ref (ad 5), .int k, .ref (ad 6), .ref (ad 7), .ref (ad 8), .ref (ad 9), .int z, .int r, .int so, .ref (ad 10), .int pr, .ref (ad 11)]) rfl (fun H locs hM hS => ?_)
        obtain ⟨w_27, hw_27⟩ : ∃ z9 : Nat → Option va_E, z9 = va_up w mm (some (.inr (6, [.int 0, .int no, .int wr, .int n, .ref (ad 0), .ref (ad 1), .ref (ad 2), .ref (ad 3), .ref (ad 4), .ref (ad 5), .int k, .ref (ad 6), .ref (ad 7), .ref (ad 8), .ref (ad 9), .int z, .int r, .int so, .ref (ad 10), .int pr, .ref (ad 11)]))) := ⟨_, rfl⟩
        rw [← hw_27] at hM
        have k_28 : w_27 mm = some (.inr (6, [.int 0, .int no, .int wr, .int n, .ref (ad 0), .ref (ad 1), .ref (ad 2), .ref (ad 3), .ref (ad 4), .ref (ad 5), .int k, .ref (ad 6), .ref (ad 7), .ref (ad 8), .ref (ad 9), .int z, .int r, .int so, .ref (ad 10), .int pr, .ref (ad 11)])) := by rw [hw_27, va_up_self]
        refine lv_iconst (v := 1) hx hb d_M_goes_43 (by decide) ?_
        refine lv_istore (lv' := [(7, .int 1), (6, .int 4), (0, .ref mm), (1, .int 13), (2, .int b1), (3, .int b2), (4, .int b3), (5, .int b4)]) hx hb d_M_goes_44 hl (by decide) rfl (fun ls hl => ?_)
        refine lv_iload hx hb d_M_goes_46 (lv_at hl 0 rfl) ?_
        refine lv_iload hx hb d_M_goes_48 (lv_at hl 1 rfl) ?_
        refine lv_icmp_gt (tgt := 79) hx hb d_M_goes_50 (by decide) (fun c_29 => absurd c_29 (by decide)) (fun c_29 => ?_)
        refine lv_iload_n hx hb d_M_goes_53 rfl (lv_at hl 3 rfl) ?_
        refine lv_iload hx hb d_M_goes_54 (lv_at hl 0 rfl) ?_
        refine lv_iand hx hb d_M_goes_56 ?_
        refine lv_if_le (tgt := 70) hx hb d_M_goes_57 (by decide) (fun c_30 => absurd c_30 (by decide)) (fun c_30 => ?_)
        refine lv_aload_n hx hb d_M_goes_60 rfl (lv_at hl 2 rfl) ?_
        refine lv_dup hx hb d_M_goes_61 rfl ?_
        refine m_get (D := G) (ci := 6) (v := .int 0) (C := nR_M) (T := nT_M) (N := 21) hx hb hta in_M hown hK hM k_28 rfl 0 (by decide) (hta _ aw_543) (fun _ h9 => h9) rfl d_M_goes_62 ?_
        refine lv_iconst (v := 1) hx hb d_M_goes_65 (by decide) ?_
        refine lv_iadd hx hb d_M_goes_66 ?_
        refine m_put (D := G) (ci := 6) (v := .int (0 + 1)) (ty := .int) (C := nR_M) (T := nT_M) (N := 21) hx hb hta in_M nt_M nt_M_ok nn_M hown hK hM hS k_28 rfl 0 (by decide) (hta _ aw_543) (fun _ h9 => h9) rfl (by decide +kernel) rfl rfl (Nat.le_of_ble_eq_true rfl) d_M_goes_67 (fs' := [.int (0 + 1), .int no, .int wr, .int n, .ref (ad 0), .ref (ad 1), .ref (ad 2), .ref (ad 3), .ref (ad 4), .ref (ad 5), .int k, .ref (ad 6), .ref (ad 7), .ref (ad 8), .ref (ad 9), .int z, .int r, .int so, .ref (ad 10), .int pr, .ref (ad 11)]) rfl (fun H locs hM hS => ?_)
        obtain ⟨w_31, hw_31⟩ : ∃ z9 : Nat → Option va_E, z9 = va_up w_27 mm (some (.inr (6, [.int (0 + 1), .int no, .int wr, .int n, .ref (ad 0), .ref (ad 1), .ref (ad 2), .ref (ad 3), .ref (ad 4), .ref (ad 5), .int k, .ref (ad 6), .ref (ad 7), .ref (ad 8), .ref (ad 9), .int z, .int r, .int so, .ref (ad 10), .int pr, .ref (ad 11)]))) := ⟨_, rfl⟩
        rw [← hw_31] at hM
        have k_32 : w_31 mm = some (.inr (6, [.int (0 + 1), .int no, .int wr, .int n, .ref (ad 0), .ref (ad 1), .ref (ad 2), .ref (ad 3), .ref (ad 4), .ref (ad 5), .int k, .ref (ad 6), .ref (ad 7), .ref (ad 8), .ref (ad 9), .int z, .int r, .int so, .ref (ad 10), .int pr, .ref (ad 11)])) := by rw [hw_31, va_up_self]
        refine lv_iconst (v := 2) hx hb d_M_goes_70 (by decide) ?_
        refine lv_iload hx hb d_M_goes_71 (lv_at hl 0 rfl) ?_
        refine lv_imul hx hb d_M_goes_73 ?_
        refine lv_istore (lv' := [(7, .int (2 * 1)), (6, .int 4), (0, .ref mm), (1, .int 13), (2, .int b1), (3, .int b2), (4, .int b3), (5, .int b4)]) hx hb d_M_goes_74 hl (by decide) rfl (fun ls hl => ?_)
        refine lv_goto (tgt := 46) hx hb d_M_goes_76 (by decide) ?_
        refine lv_iload hx hb d_M_goes_46 (lv_at hl 0 rfl) ?_
        refine lv_iload hx hb d_M_goes_48 (lv_at hl 1 rfl) ?_
        refine lv_icmp_gt (tgt := 79) hx hb d_M_goes_50 (by decide) (fun c_33 => absurd c_33 (by decide)) (fun c_33 => ?_)
        refine lv_iload_n hx hb d_M_goes_53 rfl (lv_at hl 3 rfl) ?_
        refine lv_iload hx hb d_M_goes_54 (lv_at hl 0 rfl) ?_
        refine lv_iand hx hb d_M_goes_56 ?_
        refine lv_if_le (tgt := 70) hx hb d_M_goes_57 (by decide) (fun c_34 => ?_) (fun c_34 => absurd (by decide) c_34)
        refine lv_iconst (v := 2) hx hb d_M_goes_70 (by decide) ?_
        refine lv_iload hx hb d_M_goes_71 (lv_at hl 0 rfl) ?_
        refine lv_imul hx hb d_M_goes_73 ?_
        refine lv_istore (lv' := [(7, .int (2 * (2 * 1))), (6, .int 4), (0, .ref mm), (1, .int 13), (2, .int b1), (3, .int b2), (4, .int b3), (5, .int b4)]) hx hb d_M_goes_74 hl (by decide) rfl (fun ls hl => ?_)
        refine lv_goto (tgt := 46) hx hb d_M_goes_76 (by decide) ?_
        refine lv_iload hx hb d_M_goes_46 (lv_at hl 0 rfl) ?_
        refine lv_iload hx hb d_M_goes_48 (lv_at hl 1 rfl) ?_
        refine lv_icmp_gt (tgt := 79) hx hb d_M_goes_50 (by decide) (fun c_35 => absurd c_35 (by decide)) (fun c_35 => ?_)
        refine lv_iload_n hx hb d_M_goes_53 rfl (lv_at hl 3 rfl) ?_
        refine lv_iload hx hb d_M_goes_54 (lv_at hl 0 rfl) ?_
        refine lv_iand hx hb d_M_goes_56 ?_
        refine lv_if_le (tgt := 70) hx hb d_M_goes_57 (by decide) (fun c_36 => absurd c_36 (by decide)) (fun c_36 => ?_)
        refine lv_aload_n hx hb d_M_goes_60 rfl (lv_at hl 2 rfl) ?_
        refine lv_dup hx hb d_M_goes_61 rfl ?_
        refine m_get (D := G) (ci := 6) (v := .int (0 + 1)) (C := nR_M) (T := nT_M) (N := 21) hx hb hta in_M hown hK hM k_32 rfl 0 (by decide) (hta _ aw_543) (fun _ h9 => h9) rfl d_M_goes_62 ?_
        refine lv_iconst (v := 1) hx hb d_M_goes_65 (by decide) ?_
        refine lv_iadd hx hb d_M_goes_66 ?_
        refine m_put (D := G) (ci := 6) (v := .int ((0 + 1) + 1)) (ty := .int) (C := nR_M) (T := nT_M) (N := 21) hx hb hta in_M nt_M nt_M_ok nn_M hown hK hM hS k_32 rfl 0 (by decide) (hta _ aw_543) (fun _ h9 => h9) rfl (by decide +kernel) rfl rfl (Nat.le_of_ble_eq_true rfl) d_M_goes_67 (fs' := [.int ((0 + 1) + 1), .int no, .int wr, .int n, .ref (ad 0), .ref (ad 1), .ref (ad 2), .ref (ad 3), .ref (ad 4), .ref (ad 5), .int k, .ref (ad 6), .ref (ad 7), .ref (ad 8), .ref (ad 9), .int z, .int r, .int so, .ref (ad 10), .int pr, .ref (ad 11)]) rfl (fun H locs hM hS => ?_)
        obtain ⟨w_37, hw_37⟩ : ∃ z9 : Nat → Option va_E, z9 = va_up w_31 mm (some (.inr (6, [.int ((0 + 1) + 1), .int no, .int wr, .int n, .ref (ad 0), .ref (ad 1), .ref (ad 2), .ref (ad 3), .ref (ad 4), .ref (ad 5), .int k, .ref (ad 6), .ref (ad 7), .ref (ad 8), .ref (ad 9), .int z, .int r, .int so, .ref (ad 10), .int pr, .ref (ad 11)]))) := ⟨_, rfl⟩
        rw [← hw_37] at hM
        have k_38 : w_37 mm = some (.inr (6, [.int ((0 + 1) + 1), .int no, .int wr, .int n, .ref (ad 0), .ref (ad 1), .ref (ad 2), .ref (ad 3), .ref (ad 4), .ref (ad 5), .int k, .ref (ad 6), .ref (ad 7), .ref (ad 8), .ref (ad 9), .int z, .int r, .int so, .ref (ad 10), .int pr, .ref (ad 11)])) := by rw [hw_37, va_up_self]
        refine lv_iconst (v := 2) hx hb d_M_goes_70 (by decide) ?_
        refine lv_iload hx hb d_M_goes_71 (lv_at hl 0 rfl) ?_
        refine lv_imul hx hb d_M_goes_73 ?_
        refine lv_istore (lv' := [(7, .int (2 * (2 * (2 * 1)))), (6, .int 4), (0, .ref mm), (1, .int 13), (2, .int b1), (3, .int b2), (4, .int b3), (5, .int b4)]) hx hb d_M_goes_74 hl (by decide) rfl (fun ls hl => ?_)
        refine lv_goto (tgt := 46) hx hb d_M_goes_76 (by decide) ?_
        refine lv_iload hx hb d_M_goes_46 (lv_at hl 0 rfl) ?_
        refine lv_iload hx hb d_M_goes_48 (lv_at hl 1 rfl) ?_
        refine lv_icmp_gt (tgt := 79) hx hb d_M_goes_50 (by decide) (fun c_39 => ?_) (fun c_39 => absurd (by decide) c_39)
        refine lv_iload hx hb d_M_goes_79 (lv_at hl 1 rfl) ?_
        refine lv_if_ne (tgt := 88) hx hb d_M_goes_81 (by decide) (fun c_40 => ?_) (fun c_40 => absurd c_40 (by decide))
        refine lv_iconst (v := 0) hx hb d_M_goes_88 (by decide) ?_
        have hg : gC b1 b2 b3 b4 = 3 := by simp [gC, c_1, c_2, c_3]
        have hM9 : mw G ncl A (va_up w mm (some (eM ad (nI (gT 13 (gC b1 b2 b3 b4))) no wr n k z r so pr))) H := by rw [hg, show nI (gT 13 3) = (0 + 1) + 1 by decide]; rw [hw_37, hw_31, hw_27, bx_uu, bx_uu] at hM; exact hM
        exact W.zret (v := 0) hx hb hr rfl (fun t ht hW => ⟨⟨0, (), rfl, by rw [hg]; rfl, by rw [ht]; exact hM9, va_K.moved hW.alike hK⟩, hS.F ht⟩) hS.2.2 d_M_goes_89
    · refine lv_iconst (v := 2) hx hb d_M_goes_12 (by decide) ?_
      refine lv_goto (tgt := 36) hx hb d_M_goes_13 (by decide) ?_
      refine lv_istore (lv' := [(6, .int 2), (0, .ref mm), (1, .int 13), (2, .int b1), (3, .int b2), (4, .int b3), (5, .int b4)]) hx hb d_M_goes_36 hl (by decide) rfl (fun ls hl => ?_)
      refine lv_aload_n hx hb d_M_goes_38 rfl (lv_at hl 1 rfl) ?_
      refine lv_iconst (v := 0) hx hb d_M_goes_39 (by decide) ?_
      refine m_put (D := G) (ci := 6) (v := .int 0) (ty := .int) (C := nR_M) (T := nT_M) (N := 21) hx hb hta in_M nt_M nt_M_ok nn_M hown hK hM hS hm rfl 0 (by decide) (hta _ aw_543) (fun _ h9 => h9) rfl (by decide +kernel) rfl rfl (Nat.le_of_ble_eq_true rfl) d_M_goes_40 (fs' := [.int 0, .int no, .int wr, .int n, .ref (ad 0), .ref (ad 1), .ref (ad 2), .ref (ad 3), .ref (ad 4), .ref (ad 5), .int k, .ref (ad 6), .ref (ad 7), .ref (ad 8), .ref (ad 9), .int z, .int r, .int so, .ref (ad 10), .int pr, .ref (ad 11)]) rfl (fun H locs hM hS => ?_)
      obtain ⟨w_41, hw_41⟩ : ∃ z9 : Nat → Option va_E, z9 = va_up w mm (some (.inr (6, [.int 0, .int no, .int wr, .int n, .ref (ad 0), .ref (ad 1), .ref (ad 2), .ref (ad 3), .ref (ad 4), .ref (ad 5), .int k, .ref (ad 6), .ref (ad 7), .ref (ad 8), .ref (ad 9), .int z, .int r, .int so, .ref (ad 10), .int pr, .ref (ad 11)]))) := ⟨_, rfl⟩
      rw [← hw_41] at hM
      have k_42 : w_41 mm = some (.inr (6, [.int 0, .int no, .int wr, .int n, .ref (ad 0), .ref (ad 1), .ref (ad 2), .ref (ad 3), .ref (ad 4), .ref (ad 5), .int k, .ref (ad 6), .ref (ad 7), .ref (ad 8), .ref (ad 9), .int z, .int r, .int so, .ref (ad 10), .int pr, .ref (ad 11)])) := by rw [hw_41, va_up_self]
      refine lv_iconst (v := 1) hx hb d_M_goes_43 (by decide) ?_
      refine lv_istore (lv' := [(7, .int 1), (6, .int 2), (0, .ref mm), (1, .int 13), (2, .int b1), (3, .int b2), (4, .int b3), (5, .int b4)]) hx hb d_M_goes_44 hl (by decide) rfl (fun ls hl => ?_)
      refine lv_iload hx hb d_M_goes_46 (lv_at hl 0 rfl) ?_
      refine lv_iload hx hb d_M_goes_48 (lv_at hl 1 rfl) ?_
      refine lv_icmp_gt (tgt := 79) hx hb d_M_goes_50 (by decide) (fun c_43 => absurd c_43 (by decide)) (fun c_43 => ?_)
      refine lv_iload_n hx hb d_M_goes_53 rfl (lv_at hl 3 rfl) ?_
      refine lv_iload hx hb d_M_goes_54 (lv_at hl 0 rfl) ?_
      refine lv_iand hx hb d_M_goes_56 ?_
      refine lv_if_le (tgt := 70) hx hb d_M_goes_57 (by decide) (fun c_44 => absurd c_44 (by decide)) (fun c_44 => ?_)
      refine lv_aload_n hx hb d_M_goes_60 rfl (lv_at hl 2 rfl) ?_
      refine lv_dup hx hb d_M_goes_61 rfl ?_
      refine m_get (D := G) (ci := 6) (v := .int 0) (C := nR_M) (T := nT_M) (N := 21) hx hb hta in_M hown hK hM k_42 rfl 0 (by decide) (hta _ aw_543) (fun _ h9 => h9) rfl d_M_goes_62 ?_
      refine lv_iconst (v := 1) hx hb d_M_goes_65 (by decide) ?_
      refine lv_iadd hx hb d_M_goes_66 ?_
      refine m_put (D := G) (ci := 6) (v := .int (0 + 1)) (ty := .int) (C := nR_M) (T := nT_M) (N := 21) hx hb hta in_M nt_M nt_M_ok nn_M hown hK hM hS k_42 rfl 0 (by decide) (hta _ aw_543) (fun _ h9 => h9) rfl (by decide +kernel) rfl rfl (Nat.le_of_ble_eq_true rfl) d_M_goes_67 (fs' := [.int (0 + 1), .int no, .int wr, .int n, .ref (ad 0), .ref (ad 1), .ref (ad 2), .ref (ad 3), .ref (ad 4), .ref (ad 5), .int k, .ref (ad 6), .ref (ad 7), .ref (ad 8), .ref (ad 9), .int z, .int r, .int so, .ref (ad 10), .int pr, .ref (ad 11)]) rfl (fun H locs hM hS => ?_)
      obtain ⟨w_45, hw_45⟩ : ∃ z9 : Nat → Option va_E, z9 = va_up w_41 mm (some (.inr (6, [.int (0 + 1), .int no, .int wr, .int n, .ref (ad 0), .ref (ad 1), .ref (ad 2), .ref (ad 3), .ref (ad 4), .ref (ad 5), .int k, .ref (ad 6), .ref (ad 7), .ref (ad 8), .ref (ad 9), .int z, .int r, .int so, .ref (ad 10), .int pr, .ref (ad 11)]))) := ⟨_, rfl⟩
      rw [← hw_45] at hM
      have k_46 : w_45 mm = some (.inr (6, [.int (0 + 1), .int no, .int wr, .int n, .ref (ad 0), .ref (ad 1), .ref (ad 2), .ref (ad 3), .ref (ad 4), .ref (ad 5), .int k, .ref (ad 6), .ref (ad 7), .ref (ad 8), .ref (ad 9), .int z, .int r, .int so, .ref (ad 10), .int pr, .ref (ad 11)])) := by rw [hw_45, va_up_self]
      refine lv_iconst (v := 2) hx hb d_M_goes_70 (by decide) ?_
      refine lv_iload hx hb d_M_goes_71 (lv_at hl 0 rfl) ?_
      refine lv_imul hx hb d_M_goes_73 ?_
      refine lv_istore (lv' := [(7, .int (2 * 1)), (6, .int 2), (0, .ref mm), (1, .int 13), (2, .int b1), (3, .int b2), (4, .int b3), (5, .int b4)]) hx hb d_M_goes_74 hl (by decide) rfl (fun ls hl => ?_)
      refine lv_goto (tgt := 46) hx hb d_M_goes_76 (by decide) ?_
      refine lv_iload hx hb d_M_goes_46 (lv_at hl 0 rfl) ?_
      refine lv_iload hx hb d_M_goes_48 (lv_at hl 1 rfl) ?_
      refine lv_icmp_gt (tgt := 79) hx hb d_M_goes_50 (by decide) (fun c_47 => absurd c_47 (by decide)) (fun c_47 => ?_)
      refine lv_iload_n hx hb d_M_goes_53 rfl (lv_at hl 3 rfl) ?_
      refine lv_iload hx hb d_M_goes_54 (lv_at hl 0 rfl) ?_
      refine lv_iand hx hb d_M_goes_56 ?_
      refine lv_if_le (tgt := 70) hx hb d_M_goes_57 (by decide) (fun c_48 => ?_) (fun c_48 => absurd (by decide) c_48)
      refine lv_iconst (v := 2) hx hb d_M_goes_70 (by decide) ?_
      refine lv_iload hx hb d_M_goes_71 (lv_at hl 0 rfl) ?_
      refine lv_imul hx hb d_M_goes_73 ?_
      refine lv_istore (lv' := [(7, .int (2 * (2 * 1))), (6, .int 2), (0, .ref mm), (1, .int 13), (2, .int b1), (3, .int b2), (4, .int b3), (5, .int b4)]) hx hb d_M_goes_74 hl (by decide) rfl (fun ls hl => ?_)
      refine lv_goto (tgt := 46) hx hb d_M_goes_76 (by decide) ?_
      refine lv_iload hx hb d_M_goes_46 (lv_at hl 0 rfl) ?_
      refine lv_iload hx hb d_M_goes_48 (lv_at hl 1 rfl) ?_
      refine lv_icmp_gt (tgt := 79) hx hb d_M_goes_50 (by decide) (fun c_49 => ?_) (fun c_49 => absurd (by decide) c_49)
      refine lv_iload hx hb d_M_goes_79 (lv_at hl 1 rfl) ?_
      refine lv_if_ne (tgt := 88) hx hb d_M_goes_81 (by decide) (fun c_50 => ?_) (fun c_50 => absurd c_50 (by decide))
      refine lv_iconst (v := 0) hx hb d_M_goes_88 (by decide) ?_
      have hg : gC b1 b2 b3 b4 = 2 := by simp [gC, c_1, c_2]
      have hM9 : mw G ncl A (va_up w mm (some (eM ad (nI (gT 13 (gC b1 b2 b3 b4))) no wr n k z r so pr))) H := by rw [hg, show nI (gT 13 2) = 0 + 1 by decide]; rw [hw_45, hw_41, bx_uu] at hM; exact hM
      exact W.zret (v := 0) hx hb hr rfl (fun t ht hW => ⟨⟨0, (), rfl, by rw [hg]; rfl, by rw [ht]; exact hM9, va_K.moved hW.alike hK⟩, hS.F ht⟩) hS.2.2 d_M_goes_89
  · refine lv_iconst (v := 1) hx hb d_M_goes_4 (by decide) ?_
    refine lv_goto (tgt := 36) hx hb d_M_goes_5 (by decide) ?_
    refine lv_istore (lv' := [(6, .int 1), (0, .ref mm), (1, .int 13), (2, .int b1), (3, .int b2), (4, .int b3), (5, .int b4)]) hx hb d_M_goes_36 hl (by decide) rfl (fun ls hl => ?_)
    refine lv_aload_n hx hb d_M_goes_38 rfl (lv_at hl 1 rfl) ?_
    refine lv_iconst (v := 0) hx hb d_M_goes_39 (by decide) ?_
    refine m_put (D := G) (ci := 6) (v := .int 0) (ty := .int) (C := nR_M) (T := nT_M) (N := 21) hx hb hta in_M nt_M nt_M_ok nn_M hown hK hM hS hm rfl 0 (by decide) (hta _ aw_543) (fun _ h9 => h9) rfl (by decide +kernel) rfl rfl (Nat.le_of_ble_eq_true rfl) d_M_goes_40 (fs' := [.int 0, .int no, .int wr, .int n, .ref (ad 0), .ref (ad 1), .ref (ad 2), .ref (ad 3), .ref (ad 4), .ref (ad 5), .int k, .ref (ad 6), .ref (ad 7), .ref (ad 8), .ref (ad 9), .int z, .int r, .int so, .ref (ad 10), .int pr, .ref (ad 11)]) rfl (fun H locs hM hS => ?_)
    obtain ⟨w_51, hw_51⟩ : ∃ z9 : Nat → Option va_E, z9 = va_up w mm (some (.inr (6, [.int 0, .int no, .int wr, .int n, .ref (ad 0), .ref (ad 1), .ref (ad 2), .ref (ad 3), .ref (ad 4), .ref (ad 5), .int k, .ref (ad 6), .ref (ad 7), .ref (ad 8), .ref (ad 9), .int z, .int r, .int so, .ref (ad 10), .int pr, .ref (ad 11)]))) := ⟨_, rfl⟩
    rw [← hw_51] at hM
    have k_52 : w_51 mm = some (.inr (6, [.int 0, .int no, .int wr, .int n, .ref (ad 0), .ref (ad 1), .ref (ad 2), .ref (ad 3), .ref (ad 4), .ref (ad 5), .int k, .ref (ad 6), .ref (ad 7), .ref (ad 8), .ref (ad 9), .int z, .int r, .int so, .ref (ad 10), .int pr, .ref (ad 11)])) := by rw [hw_51, va_up_self]
    refine lv_iconst (v := 1) hx hb d_M_goes_43 (by decide) ?_
    refine lv_istore (lv' := [(7, .int 1), (6, .int 1), (0, .ref mm), (1, .int 13), (2, .int b1), (3, .int b2), (4, .int b3), (5, .int b4)]) hx hb d_M_goes_44 hl (by decide) rfl (fun ls hl => ?_)
    refine lv_iload hx hb d_M_goes_46 (lv_at hl 0 rfl) ?_
    refine lv_iload hx hb d_M_goes_48 (lv_at hl 1 rfl) ?_
    refine lv_icmp_gt (tgt := 79) hx hb d_M_goes_50 (by decide) (fun c_53 => absurd c_53 (by decide)) (fun c_53 => ?_)
    refine lv_iload_n hx hb d_M_goes_53 rfl (lv_at hl 3 rfl) ?_
    refine lv_iload hx hb d_M_goes_54 (lv_at hl 0 rfl) ?_
    refine lv_iand hx hb d_M_goes_56 ?_
    refine lv_if_le (tgt := 70) hx hb d_M_goes_57 (by decide) (fun c_54 => absurd c_54 (by decide)) (fun c_54 => ?_)
    refine lv_aload_n hx hb d_M_goes_60 rfl (lv_at hl 2 rfl) ?_
    refine lv_dup hx hb d_M_goes_61 rfl ?_
    refine m_get (D := G) (ci := 6) (v := .int 0) (C := nR_M) (T := nT_M) (N := 21) hx hb hta in_M hown hK hM k_52 rfl 0 (by decide) (hta _ aw_543) (fun _ h9 => h9) rfl d_M_goes_62 ?_
    refine lv_iconst (v := 1) hx hb d_M_goes_65 (by decide) ?_
    refine lv_iadd hx hb d_M_goes_66 ?_
    refine m_put (D := G) (ci := 6) (v := .int (0 + 1)) (ty := .int) (C := nR_M) (T := nT_M) (N := 21) hx hb hta in_M nt_M nt_M_ok nn_M hown hK hM hS k_52 rfl 0 (by decide) (hta _ aw_543) (fun _ h9 => h9) rfl (by decide +kernel) rfl rfl (Nat.le_of_ble_eq_true rfl) d_M_goes_67 (fs' := [.int (0 + 1), .int no, .int wr, .int n, .ref (ad 0), .ref (ad 1), .ref (ad 2), .ref (ad 3), .ref (ad 4), .ref (ad 5), .int k, .ref (ad 6), .ref (ad 7), .ref (ad 8), .ref (ad 9), .int z, .int r, .int so, .ref (ad 10), .int pr, .ref (ad 11)]) rfl (fun H locs hM hS => ?_)
    obtain ⟨w_55, hw_55⟩ : ∃ z9 : Nat → Option va_E, z9 = va_up w_51 mm (some (.inr (6, [.int (0 + 1), .int no, .int wr, .int n, .ref (ad 0), .ref (ad 1), .ref (ad 2), .ref (ad 3), .ref (ad 4), .ref (ad 5), .int k, .ref (ad 6), .ref (ad 7), .ref (ad 8), .ref (ad 9), .int z, .int r, .int so, .ref (ad 10), .int pr, .ref (ad 11)]))) := ⟨_, rfl⟩
    rw [← hw_55] at hM
    have k_56 : w_55 mm = some (.inr (6, [.int (0 + 1), .int no, .int wr, .int n, .ref (ad 0), .ref (ad 1), .ref (ad 2), .ref (ad 3), .ref (ad 4), .ref (ad 5), .int k, .ref (ad 6), .ref (ad 7), .ref (ad 8), .ref (ad 9), .int z, .int r, .int so, .ref (ad 10), .int pr, .ref (ad 11)])) := by rw [hw_55, va_up_self]
    refine lv_iconst (v := 2) hx hb d_M_goes_70 (by decide) ?_
    refine lv_iload hx hb d_M_goes_71 (lv_at hl 0 rfl) ?_
    refine lv_imul hx hb d_M_goes_73 ?_
    refine lv_istore (lv' := [(7, .int (2 * 1)), (6, .int 1), (0, .ref mm), (1, .int 13), (2, .int b1), (3, .int b2), (4, .int b3), (5, .int b4)]) hx hb d_M_goes_74 hl (by decide) rfl (fun ls hl => ?_)
    refine lv_goto (tgt := 46) hx hb d_M_goes_76 (by decide) ?_
    refine lv_iload hx hb d_M_goes_46 (lv_at hl 0 rfl) ?_
    refine lv_iload hx hb d_M_goes_48 (lv_at hl 1 rfl) ?_
    refine lv_icmp_gt (tgt := 79) hx hb d_M_goes_50 (by decide) (fun c_57 => ?_) (fun c_57 => absurd (by decide) c_57)
    refine lv_iload hx hb d_M_goes_79 (lv_at hl 1 rfl) ?_
    refine lv_if_ne (tgt := 88) hx hb d_M_goes_81 (by decide) (fun c_58 => ?_) (fun c_58 => absurd c_58 (by decide))
    refine lv_iconst (v := 0) hx hb d_M_goes_88 (by decide) ?_
    have hg : gC b1 b2 b3 b4 = 1 := by simp [gC, c_1]
    have hM9 : mw G ncl A (va_up w mm (some (eM ad (nI (gT 13 (gC b1 b2 b3 b4))) no wr n k z r so pr))) H := by rw [hg, show nI (gT 13 1) = 0 + 1 by decide]; rw [hw_55, hw_51, bx_uu] at hM; exact hM
    exact W.zret (v := 0) hx hb hr rfl (fun t ht hW => ⟨⟨0, (), rfl, by rw [hg]; rfl, by rw [ht]; exact hM9, va_K.moved hW.alike hK⟩, hS.F ht⟩) hS.2.2 d_M_goes_89
set_option maxHeartbeats 4000000 in
set_option maxRecDepth 100000 in
theorem k_M_goes_3 (l : Launch) (G : va_G) (q0 q1 : ClassId × FieldType) (cI : ClassId) (ty2 : List (ClassId × FieldType)) (w : Nat → Option va_E) {mm : Nat} {ad : Nat → Nat} {f : Nat → Nat → Int32} {th no wr n k z r so pr : Int32} (hm : w mm = some (eM ad th no wr n k z r so pr)) (hma : ∀ i, i < 12 → w (ad i) = some (aI cI (msz i) (f i))) (b1 b2 b3 b4 : Int32) (sz : Nat) : Met l y_M_goes (wm y_M_goes c_M_goes 8 (some .boolean)) ({ frames := 0, cells := 0, slots := 0, locals := 0 }) (pZ G (q0 :: q1 :: (cI, .int) :: ty2) w sz [.ref mm, .int 3, .int b1, .int b2, .int b3, .int b4]) (va_Qi (fun (r0 : Int32) (u : Unit) => r0 = if gC b1 b2 b3 b4 = 0 then 1 else 0) (fun _ t => mw G ncl (mA w sz) (va_up w mm (some (eM ad (nI (gT 3 (gC b1 b2 b3 b4))) no wr n k z r so pr))) t.heap ∧ va_K G ncl (q0 :: q1 :: (cI, .int) :: ty2) t) (mA w sz)) 0 0 (mA w sz) := by
  refine Met.ofW (cc := c_M_goes) (maxL := 8) (ret := (some .boolean)) (by decide) rfl ?_
  intro p e s m args below meth c s₁ B hml hv
  obtain ⟨rfl, hsz, hM0, hK⟩ := hv
  have hx := B.exec
  have hb := B.bytes
  have hr := B.returns
  have hts := atoms_spec (ws := (wm y_M_goes c_M_goes 8 (some .boolean))) B.pre
  have hta : ∀ w ∈ AL, w.before _ s = true := fun w h => hts w (List.mem_cons_of_mem _ h)
  have hown : s.vm.findClass nR_M = some m.cls := findClass_of_methodNamed B.named
  have hlocks := B.notSynchronized
  have hl := lv_entry ([.ref mm, .int 3, .int b1, .int b2, .int b3, .int b4]) (n := 8) (Nat.le_of_ble_eq_true rfl)
  rw [lg_entry_eq]
  generalize (lg_sl ([.ref mm, .int 3, .int b1, .int b2, .int b3, .int b4]) ++ List.replicate (8 - (lg_sl ([.ref mm, .int 3, .int b1, .int b2, .int b3, .int b4])).length) Slot.unset).toArray = ls at hl ⊢
  have hl : lv_has ls 8 [(0, .ref mm), (1, .int 3), (2, .int b1), (3, .int b2), (4, .int b3), (5, .int b4)] := hl
  subst hsz
  have hM := mw_self (sz := s.heap.size) hM0
  clear hM0
  generalize hAe : mA w s.heap.size = A at hM ⊢
  have hA : ∀ q : Nat, s.heap.size ≤ q → A q := fun q h => by rw [← hAe]; exact Or.inr h
  have hS : va_S A s.heap s.heap [] := va_S.rf
  refine lv_iload_n hx hb d_M_goes_0 rfl (lv_at hl 2 rfl) ?_
  refine lv_if_ne (tgt := 8) hx hb d_M_goes_1 (by decide) (fun c_1 => ?_) (fun c_1 => ?_)
  · refine lv_iload_n hx hb d_M_goes_8 rfl (lv_at hl 3 rfl) ?_
    refine lv_if_ne (tgt := 16) hx hb d_M_goes_9 (by decide) (fun c_2 => ?_) (fun c_2 => ?_)
    · refine lv_iload hx hb d_M_goes_16 (lv_at hl 4 rfl) ?_
      refine lv_if_ne (tgt := 25) hx hb d_M_goes_18 (by decide) (fun c_3 => ?_) (fun c_3 => ?_)
      · refine lv_iload hx hb d_M_goes_25 (lv_at hl 5 rfl) ?_
        refine lv_if_ne (tgt := 35) hx hb d_M_goes_27 (by decide) (fun c_4 => ?_) (fun c_4 => ?_)
        · refine lv_iconst (v := 0) hx hb d_M_goes_35 (by decide) ?_
          refine lv_istore (lv' := [(6, .int 0), (0, .ref mm), (1, .int 3), (2, .int b1), (3, .int b2), (4, .int b3), (5, .int b4)]) hx hb d_M_goes_36 hl (by decide) rfl (fun ls hl => ?_)
          refine lv_aload_n hx hb d_M_goes_38 rfl (lv_at hl 1 rfl) ?_
          refine lv_iconst (v := 0) hx hb d_M_goes_39 (by decide) ?_
          refine m_put (D := G) (ci := 6) (v := .int 0) (ty := .int) (C := nR_M) (T := nT_M) (N := 21) hx hb hta in_M nt_M nt_M_ok nn_M hown hK hM hS hm rfl 0 (by decide) (hta _ aw_543) (fun _ h9 => h9) rfl (by decide +kernel) rfl rfl (Nat.le_of_ble_eq_true rfl) d_M_goes_40 (fs' := [.int 0, .int no, .int wr, .int n, .ref (ad 0), .ref (ad 1), .ref (ad 2), .ref (ad 3), .ref (ad 4), .ref (ad 5), .int k, .ref (ad 6), .ref (ad 7), .ref (ad 8), .ref (ad 9), .int z, .int r, .int so, .ref (ad 10), .int pr, .ref (ad 11)]) rfl (fun H locs hM hS => ?_)
          obtain ⟨w_5, hw_5⟩ : ∃ z9 : Nat → Option va_E, z9 = va_up w mm (some (.inr (6, [.int 0, .int no, .int wr, .int n, .ref (ad 0), .ref (ad 1), .ref (ad 2), .ref (ad 3), .ref (ad 4), .ref (ad 5), .int k, .ref (ad 6), .ref (ad 7), .ref (ad 8), .ref (ad 9), .int z, .int r, .int so, .ref (ad 10), .int pr, .ref (ad 11)]))) := ⟨_, rfl⟩
          rw [← hw_5] at hM
          have k_6 : w_5 mm = some (.inr (6, [.int 0, .int no, .int wr, .int n, .ref (ad 0), .ref (ad 1), .ref (ad 2), .ref (ad 3), .ref (ad 4), .ref (ad 5), .int k, .ref (ad 6), .ref (ad 7), .ref (ad 8), .ref (ad 9), .int z, .int r, .int so, .ref (ad 10), .int pr, .ref (ad 11)])) := by rw [hw_5, va_up_self]
          refine lv_iconst (v := 1) hx hb d_M_goes_43 (by decide) ?_
          refine lv_istore (lv' := [(7, .int 1), (6, .int 0), (0, .ref mm), (1, .int 3), (2, .int b1), (3, .int b2), (4, .int b3), (5, .int b4)]) hx hb d_M_goes_44 hl (by decide) rfl (fun ls hl => ?_)
          refine lv_iload hx hb d_M_goes_46 (lv_at hl 0 rfl) ?_
          refine lv_iload hx hb d_M_goes_48 (lv_at hl 1 rfl) ?_
          refine lv_icmp_gt (tgt := 79) hx hb d_M_goes_50 (by decide) (fun c_7 => ?_) (fun c_7 => absurd (by decide) c_7)
          refine lv_iload hx hb d_M_goes_79 (lv_at hl 1 rfl) ?_
          refine lv_if_ne (tgt := 88) hx hb d_M_goes_81 (by decide) (fun c_8 => absurd (by decide) c_8) (fun c_8 => ?_)
          refine lv_iconst (v := 1) hx hb d_M_goes_84 (by decide) ?_
          refine lv_goto (tgt := 89) hx hb d_M_goes_85 (by decide) ?_
          have hg : gC b1 b2 b3 b4 = 0 := by simp [gC, c_1, c_2, c_3, c_4]
          have hM9 : mw G ncl A (va_up w mm (some (eM ad (nI (gT 3 (gC b1 b2 b3 b4))) no wr n k z r so pr))) H := by rw [hg, show nI (gT 3 0) = 0 by decide]; rw [hw_5] at hM; exact hM
          exact W.zret (v := 1) hx hb hr rfl (fun t ht hW => ⟨⟨1, (), rfl, by rw [hg]; rfl, by rw [ht]; exact hM9, va_K.moved hW.alike hK⟩, hS.F ht⟩) hS.2.2 d_M_goes_89
        · refine lv_bipush (v := 8) hx hb d_M_goes_30 (by decide) ?_
          refine lv_goto (tgt := 36) hx hb d_M_goes_32 (by decide) ?_
          refine lv_istore (lv' := [(6, .int 8), (0, .ref mm), (1, .int 3), (2, .int b1), (3, .int b2), (4, .int b3), (5, .int b4)]) hx hb d_M_goes_36 hl (by decide) rfl (fun ls hl => ?_)
          refine lv_aload_n hx hb d_M_goes_38 rfl (lv_at hl 1 rfl) ?_
          refine lv_iconst (v := 0) hx hb d_M_goes_39 (by decide) ?_
          refine m_put (D := G) (ci := 6) (v := .int 0) (ty := .int) (C := nR_M) (T := nT_M) (N := 21) hx hb hta in_M nt_M nt_M_ok nn_M hown hK hM hS hm rfl 0 (by decide) (hta _ aw_543) (fun _ h9 => h9) rfl (by decide +kernel) rfl rfl (Nat.le_of_ble_eq_true rfl) d_M_goes_40 (fs' := [.int 0, .int no, .int wr, .int n, .ref (ad 0), .ref (ad 1), .ref (ad 2), .ref (ad 3), .ref (ad 4), .ref (ad 5), .int k, .ref (ad 6), .ref (ad 7), .ref (ad 8), .ref (ad 9), .int z, .int r, .int so, .ref (ad 10), .int pr, .ref (ad 11)]) rfl (fun H locs hM hS => ?_)
          obtain ⟨w_9, hw_9⟩ : ∃ z9 : Nat → Option va_E, z9 = va_up w mm (some (.inr (6, [.int 0, .int no, .int wr, .int n, .ref (ad 0), .ref (ad 1), .ref (ad 2), .ref (ad 3), .ref (ad 4), .ref (ad 5), .int k, .ref (ad 6), .ref (ad 7), .ref (ad 8), .ref (ad 9), .int z, .int r, .int so, .ref (ad 10), .int pr, .ref (ad 11)]))) := ⟨_, rfl⟩
          rw [← hw_9] at hM
          have k_10 : w_9 mm = some (.inr (6, [.int 0, .int no, .int wr, .int n, .ref (ad 0), .ref (ad 1), .ref (ad 2), .ref (ad 3), .ref (ad 4), .ref (ad 5), .int k, .ref (ad 6), .ref (ad 7), .ref (ad 8), .ref (ad 9), .int z, .int r, .int so, .ref (ad 10), .int pr, .ref (ad 11)])) := by rw [hw_9, va_up_self]
          refine lv_iconst (v := 1) hx hb d_M_goes_43 (by decide) ?_
          refine lv_istore (lv' := [(7, .int 1), (6, .int 8), (0, .ref mm), (1, .int 3), (2, .int b1), (3, .int b2), (4, .int b3), (5, .int b4)]) hx hb d_M_goes_44 hl (by decide) rfl (fun ls hl => ?_)
          refine lv_iload hx hb d_M_goes_46 (lv_at hl 0 rfl) ?_
          refine lv_iload hx hb d_M_goes_48 (lv_at hl 1 rfl) ?_
          refine lv_icmp_gt (tgt := 79) hx hb d_M_goes_50 (by decide) (fun c_11 => absurd c_11 (by decide)) (fun c_11 => ?_)
          refine lv_iload_n hx hb d_M_goes_53 rfl (lv_at hl 3 rfl) ?_
          refine lv_iload hx hb d_M_goes_54 (lv_at hl 0 rfl) ?_
          refine lv_iand hx hb d_M_goes_56 ?_
          refine lv_if_le (tgt := 70) hx hb d_M_goes_57 (by decide) (fun c_12 => absurd c_12 (by decide)) (fun c_12 => ?_)
          refine lv_aload_n hx hb d_M_goes_60 rfl (lv_at hl 2 rfl) ?_
          refine lv_dup hx hb d_M_goes_61 rfl ?_
          refine m_get (D := G) (ci := 6) (v := .int 0) (C := nR_M) (T := nT_M) (N := 21) hx hb hta in_M hown hK hM k_10 rfl 0 (by decide) (hta _ aw_543) (fun _ h9 => h9) rfl d_M_goes_62 ?_
          refine lv_iconst (v := 1) hx hb d_M_goes_65 (by decide) ?_
          refine lv_iadd hx hb d_M_goes_66 ?_
          refine m_put (D := G) (ci := 6) (v := .int (0 + 1)) (ty := .int) (C := nR_M) (T := nT_M) (N := 21) hx hb hta in_M nt_M nt_M_ok nn_M hown hK hM hS k_10 rfl 0 (by decide) (hta _ aw_543) (fun _ h9 => h9) rfl (by decide +kernel) rfl rfl (Nat.le_of_ble_eq_true rfl) d_M_goes_67 (fs' := [.int (0 + 1), .int no, .int wr, .int n, .ref (ad 0), .ref (ad 1), .ref (ad 2), .ref (ad 3), .ref (ad 4), .ref (ad 5), .int k, .ref (ad 6), .ref (ad 7), .ref (ad 8), .ref (ad 9), .int z, .int r, .int so, .ref (ad 10), .int pr, .ref (ad 11)]) rfl (fun H locs hM hS => ?_)
          obtain ⟨w_13, hw_13⟩ : ∃ z9 : Nat → Option va_E, z9 = va_up w_9 mm (some (.inr (6, [.int (0 + 1), .int no, .int wr, .int n, .ref (ad 0), .ref (ad 1), .ref (ad 2), .ref (ad 3), .ref (ad 4), .ref (ad 5), .int k, .ref (ad 6), .ref (ad 7), .ref (ad 8), .ref (ad 9), .int z, .int r, .int so, .ref (ad 10), .int pr, .ref (ad 11)]))) := ⟨_, rfl⟩
          rw [← hw_13] at hM
          have k_14 : w_13 mm = some (.inr (6, [.int (0 + 1), .int no, .int wr, .int n, .ref (ad 0), .ref (ad 1), .ref (ad 2), .ref (ad 3), .ref (ad 4), .ref (ad 5), .int k, .ref (ad 6), .ref (ad 7), .ref (ad 8), .ref (ad 9), .int z, .int r, .int so, .ref (ad 10), .int pr, .ref (ad 11)])) := by rw [hw_13, va_up_self]
          refine lv_iconst (v := 2) hx hb d_M_goes_70 (by decide) ?_
          refine lv_iload hx hb d_M_goes_71 (lv_at hl 0 rfl) ?_
          refine lv_imul hx hb d_M_goes_73 ?_
          refine lv_istore (lv' := [(7, .int (2 * 1)), (6, .int 8), (0, .ref mm), (1, .int 3), (2, .int b1), (3, .int b2), (4, .int b3), (5, .int b4)]) hx hb d_M_goes_74 hl (by decide) rfl (fun ls hl => ?_)
          refine lv_goto (tgt := 46) hx hb d_M_goes_76 (by decide) ?_
          refine lv_iload hx hb d_M_goes_46 (lv_at hl 0 rfl) ?_
          refine lv_iload hx hb d_M_goes_48 (lv_at hl 1 rfl) ?_
          refine lv_icmp_gt (tgt := 79) hx hb d_M_goes_50 (by decide) (fun c_15 => absurd c_15 (by decide)) (fun c_15 => ?_)
          refine lv_iload_n hx hb d_M_goes_53 rfl (lv_at hl 3 rfl) ?_
          refine lv_iload hx hb d_M_goes_54 (lv_at hl 0 rfl) ?_
          refine lv_iand hx hb d_M_goes_56 ?_
          refine lv_if_le (tgt := 70) hx hb d_M_goes_57 (by decide) (fun c_16 => absurd c_16 (by decide)) (fun c_16 => ?_)
          refine lv_aload_n hx hb d_M_goes_60 rfl (lv_at hl 2 rfl) ?_
          refine lv_dup hx hb d_M_goes_61 rfl ?_
          refine m_get (D := G) (ci := 6) (v := .int (0 + 1)) (C := nR_M) (T := nT_M) (N := 21) hx hb hta in_M hown hK hM k_14 rfl 0 (by decide) (hta _ aw_543) (fun _ h9 => h9) rfl d_M_goes_62 ?_
          refine lv_iconst (v := 1) hx hb d_M_goes_65 (by decide) ?_
          refine lv_iadd hx hb d_M_goes_66 ?_
          refine m_put (D := G) (ci := 6) (v := .int ((0 + 1) + 1)) (ty := .int) (C := nR_M) (T := nT_M) (N := 21) hx hb hta in_M nt_M nt_M_ok nn_M hown hK hM hS k_14 rfl 0 (by decide) (hta _ aw_543) (fun _ h9 => h9) rfl (by decide +kernel) rfl rfl (Nat.le_of_ble_eq_true rfl) d_M_goes_67 (fs' := [.int ((0 + 1) + 1), .int no, .int wr, .int n, .ref (ad 0), .ref (ad 1), .ref (ad 2), .ref (ad 3), .ref (ad 4), .ref (ad 5), .int k, .ref (ad 6), .ref (ad 7), .ref (ad 8), .ref (ad 9), .int z, .int r, .int so, .ref (ad 10), .int pr, .ref (ad 11)]) rfl (fun H locs hM hS => ?_)
          obtain ⟨w_17, hw_17⟩ : ∃ z9 : Nat → Option va_E, z9 = va_up w_13 mm (some (.inr (6, [.int ((0 + 1) + 1), .int no, .int wr, .int n, .ref (ad 0), .ref (ad 1), .ref (ad 2), .ref (ad 3), .ref (ad 4), .ref (ad 5), .int k, .ref (ad 6), .ref (ad 7), .ref (ad 8), .ref (ad 9), .int z, .int r, .int so, .ref (ad 10), .int pr, .ref (ad 11)]))) := ⟨_, rfl⟩
          rw [← hw_17] at hM
          have k_18 : w_17 mm = some (.inr (6, [.int ((0 + 1) + 1), .int no, .int wr, .int n, .ref (ad 0), .ref (ad 1), .ref (ad 2), .ref (ad 3), .ref (ad 4), .ref (ad 5), .int k, .ref (ad 6), .ref (ad 7), .ref (ad 8), .ref (ad 9), .int z, .int r, .int so, .ref (ad 10), .int pr, .ref (ad 11)])) := by rw [hw_17, va_up_self]
          refine lv_iconst (v := 2) hx hb d_M_goes_70 (by decide) ?_
          refine lv_iload hx hb d_M_goes_71 (lv_at hl 0 rfl) ?_
          refine lv_imul hx hb d_M_goes_73 ?_
          refine lv_istore (lv' := [(7, .int (2 * (2 * 1))), (6, .int 8), (0, .ref mm), (1, .int 3), (2, .int b1), (3, .int b2), (4, .int b3), (5, .int b4)]) hx hb d_M_goes_74 hl (by decide) rfl (fun ls hl => ?_)
          refine lv_goto (tgt := 46) hx hb d_M_goes_76 (by decide) ?_
          refine lv_iload hx hb d_M_goes_46 (lv_at hl 0 rfl) ?_
          refine lv_iload hx hb d_M_goes_48 (lv_at hl 1 rfl) ?_
          refine lv_icmp_gt (tgt := 79) hx hb d_M_goes_50 (by decide) (fun c_19 => absurd c_19 (by decide)) (fun c_19 => ?_)
          refine lv_iload_n hx hb d_M_goes_53 rfl (lv_at hl 3 rfl) ?_
          refine lv_iload hx hb d_M_goes_54 (lv_at hl 0 rfl) ?_
          refine lv_iand hx hb d_M_goes_56 ?_
          refine lv_if_le (tgt := 70) hx hb d_M_goes_57 (by decide) (fun c_20 => ?_) (fun c_20 => absurd (by decide) c_20)
          refine lv_iconst (v := 2) hx hb d_M_goes_70 (by decide) ?_
          refine lv_iload hx hb d_M_goes_71 (lv_at hl 0 rfl) ?_
          refine lv_imul hx hb d_M_goes_73 ?_
          refine lv_istore (lv' := [(7, .int (2 * (2 * (2 * 1)))), (6, .int 8), (0, .ref mm), (1, .int 3), (2, .int b1), (3, .int b2), (4, .int b3), (5, .int b4)]) hx hb d_M_goes_74 hl (by decide) rfl (fun ls hl => ?_)
          refine lv_goto (tgt := 46) hx hb d_M_goes_76 (by decide) ?_
          refine lv_iload hx hb d_M_goes_46 (lv_at hl 0 rfl) ?_
          refine lv_iload hx hb d_M_goes_48 (lv_at hl 1 rfl) ?_
          refine lv_icmp_gt (tgt := 79) hx hb d_M_goes_50 (by decide) (fun c_21 => absurd c_21 (by decide)) (fun c_21 => ?_)
          refine lv_iload_n hx hb d_M_goes_53 rfl (lv_at hl 3 rfl) ?_
          refine lv_iload hx hb d_M_goes_54 (lv_at hl 0 rfl) ?_
          refine lv_iand hx hb d_M_goes_56 ?_
          refine lv_if_le (tgt := 70) hx hb d_M_goes_57 (by decide) (fun c_22 => ?_) (fun c_22 => absurd (by decide) c_22)
          refine lv_iconst (v := 2) hx hb d_M_goes_70 (by decide) ?_
          refine lv_iload hx hb d_M_goes_71 (lv_at hl 0 rfl) ?_
          refine lv_imul hx hb d_M_goes_73 ?_
          refine lv_istore (lv' := [(7, .int (2 * (2 * (2 * (2 * 1))))), (6, .int 8), (0, .ref mm), (1, .int 3), (2, .int b1), (3, .int b2), (4, .int b3), (5, .int b4)]) hx hb d_M_goes_74 hl (by decide) rfl (fun ls hl => ?_)
          refine lv_goto (tgt := 46) hx hb d_M_goes_76 (by decide) ?_
          refine lv_iload hx hb d_M_goes_46 (lv_at hl 0 rfl) ?_
          refine lv_iload hx hb d_M_goes_48 (lv_at hl 1 rfl) ?_
          refine lv_icmp_gt (tgt := 79) hx hb d_M_goes_50 (by decide) (fun c_23 => ?_) (fun c_23 => absurd (by decide) c_23)
          refine lv_iload hx hb d_M_goes_79 (lv_at hl 1 rfl) ?_
          refine lv_if_ne (tgt := 88) hx hb d_M_goes_81 (by decide) (fun c_24 => ?_) (fun c_24 => absurd c_24 (by decide))
          refine lv_iconst (v := 0) hx hb d_M_goes_88 (by decide) ?_
          have hg : gC b1 b2 b3 b4 = 4 := by simp [gC, c_1, c_2, c_3, c_4]
          have hM9 : mw G ncl A (va_up w mm (some (eM ad (nI (gT 3 (gC b1 b2 b3 b4))) no wr n k z r so pr))) H := by rw [hg, show nI (gT 3 4) = (0 + 1) + 1 by decide]; rw [hw_17, hw_13, hw_9, bx_uu, bx_uu] at hM; exact hM
          exact W.zret (v := 0) hx hb hr rfl (fun t ht hW => ⟨⟨0, (), rfl, by rw [hg]; rfl, by rw [ht]; exact hM9, va_K.moved hW.alike hK⟩, hS.F ht⟩) hS.2.2 d_M_goes_89
      · refine lv_iconst (v := 4) hx hb d_M_goes_21 (by decide) ?_
        refine lv_goto (tgt := 36) hx hb d_M_goes_22 (by decide) ?_
        refine lv_istore (lv' := [(6, .int 4), (0, .ref mm), (1, .int 3), (2, .int b1), (3, .int b2), (4, .int b3), (5, .int b4)]) hx hb d_M_goes_36 hl (by decide) rfl (fun ls hl => ?_)
        refine lv_aload_n hx hb d_M_goes_38 rfl (lv_at hl 1 rfl) ?_
        refine lv_iconst (v := 0) hx hb d_M_goes_39 (by decide) ?_
        refine m_put (D := G) (ci := 6) (v := .int 0) (ty := .int) (C := nR_M) (T := nT_M) (N := 21) hx hb hta in_M nt_M nt_M_ok nn_M hown hK hM hS hm rfl 0 (by decide) (hta _ aw_543) (fun _ h9 => h9) rfl (by decide +kernel) rfl rfl (Nat.le_of_ble_eq_true rfl) d_M_goes_40 (fs' := [.int 0, .int no, .int wr, .int n, .ref (ad 0), .ref (ad 1), .ref (ad 2), .ref (ad 3), .ref (ad 4), .ref (ad 5), .int k, .ref (ad 6), .ref (ad 7), .ref (ad 8), .ref (ad 9), .int z, .int r, .int so, .ref (ad 10), .int pr, .ref (ad 11)]) rfl (fun H locs hM hS => ?_)
        obtain ⟨w_25, hw_25⟩ : ∃ z9 : Nat → Option va_E, z9 = va_up w mm (some (.inr (6, [.int 0, .int no, .int wr, .int n, .ref (ad 0), .ref (ad 1), .ref (ad 2), .ref (ad 3), .ref (ad 4), .ref (ad 5), .int k, .ref (ad 6), .ref (ad 7), .ref (ad 8), .ref (ad 9), .int z, .int r, .int so, .ref (ad 10), .int pr, .ref (ad 11)]))) := ⟨_, rfl⟩
        rw [← hw_25] at hM
        have k_26 : w_25 mm = some (.inr (6, [.int 0, .int no, .int wr, .int n, .ref (ad 0), .ref (ad 1), .ref (ad 2), .ref (ad 3), .ref (ad 4), .ref (ad 5), .int k, .ref (ad 6), .ref (ad 7), .ref (ad 8), .ref (ad 9), .int z, .int r, .int so, .ref (ad 10), .int pr, .ref (ad 11)])) := by rw [hw_25, va_up_self]
        refine lv_iconst (v := 1) hx hb d_M_goes_43 (by decide) ?_
        refine lv_istore (lv' := [(7, .int 1), (6, .int 4), (0, .ref mm), (1, .int 3), (2, .int b1), (3, .int b2), (4, .int b3), (5, .int b4)]) hx hb d_M_goes_44 hl (by decide) rfl (fun ls hl => ?_)
        refine lv_iload hx hb d_M_goes_46 (lv_at hl 0 rfl) ?_
        refine lv_iload hx hb d_M_goes_48 (lv_at hl 1 rfl) ?_
        refine lv_icmp_gt (tgt := 79) hx hb d_M_goes_50 (by decide) (fun c_27 => absurd c_27 (by decide)) (fun c_27 => ?_)
        refine lv_iload_n hx hb d_M_goes_53 rfl (lv_at hl 3 rfl) ?_
        refine lv_iload hx hb d_M_goes_54 (lv_at hl 0 rfl) ?_
        refine lv_iand hx hb d_M_goes_56 ?_
        refine lv_if_le (tgt := 70) hx hb d_M_goes_57 (by decide) (fun c_28 => absurd c_28 (by decide)) (fun c_28 => ?_)
        refine lv_aload_n hx hb d_M_goes_60 rfl (lv_at hl 2 rfl) ?_
        refine lv_dup hx hb d_M_goes_61 rfl ?_
        refine m_get (D := G) (ci := 6) (v := .int 0) (C := nR_M) (T := nT_M) (N := 21) hx hb hta in_M hown hK hM k_26 rfl 0 (by decide) (hta _ aw_543) (fun _ h9 => h9) rfl d_M_goes_62 ?_
        refine lv_iconst (v := 1) hx hb d_M_goes_65 (by decide) ?_
        refine lv_iadd hx hb d_M_goes_66 ?_
        refine m_put (D := G) (ci := 6) (v := .int (0 + 1)) (ty := .int) (C := nR_M) (T := nT_M) (N := 21) hx hb hta in_M nt_M nt_M_ok nn_M hown hK hM hS k_26 rfl 0 (by decide) (hta _ aw_543) (fun _ h9 => h9) rfl (by decide +kernel) rfl rfl (Nat.le_of_ble_eq_true rfl) d_M_goes_67 (fs' := [.int (0 + 1), .int no, .int wr, .int n, .ref (ad 0), .ref (ad 1), .ref (ad 2), .ref (ad 3), .ref (ad 4), .ref (ad 5), .int k, .ref (ad 6), .ref (ad 7), .ref (ad 8), .ref (ad 9), .int z, .int r, .int so, .ref (ad 10), .int pr, .ref (ad 11)]) rfl (fun H locs hM hS => ?_)
        obtain ⟨w_29, hw_29⟩ : ∃ z9 : Nat → Option va_E, z9 = va_up w_25 mm (some (.inr (6, [.int (0 + 1), .int no, .int wr, .int n, .ref (ad 0), .ref (ad 1), .ref (ad 2), .ref (ad 3), .ref (ad 4), .ref (ad 5), .int k, .ref (ad 6), .ref (ad 7), .ref (ad 8), .ref (ad 9), .int z, .int r, .int so, .ref (ad 10), .int pr, .ref (ad 11)]))) := ⟨_, rfl⟩
        rw [← hw_29] at hM
        have k_30 : w_29 mm = some (.inr (6, [.int (0 + 1), .int no, .int wr, .int n, .ref (ad 0), .ref (ad 1), .ref (ad 2), .ref (ad 3), .ref (ad 4), .ref (ad 5), .int k, .ref (ad 6), .ref (ad 7), .ref (ad 8), .ref (ad 9), .int z, .int r, .int so, .ref (ad 10), .int pr, .ref (ad 11)])) := by rw [hw_29, va_up_self]
        refine lv_iconst (v := 2) hx hb d_M_goes_70 (by decide) ?_
        refine lv_iload hx hb d_M_goes_71 (lv_at hl 0 rfl) ?_
        refine lv_imul hx hb d_M_goes_73 ?_
        refine lv_istore (lv' := [(7, .int (2 * 1)), (6, .int 4), (0, .ref mm), (1, .int 3), (2, .int b1), (3, .int b2), (4, .int b3), (5, .int b4)]) hx hb d_M_goes_74 hl (by decide) rfl (fun ls hl => ?_)
        refine lv_goto (tgt := 46) hx hb d_M_goes_76 (by decide) ?_
        refine lv_iload hx hb d_M_goes_46 (lv_at hl 0 rfl) ?_
        refine lv_iload hx hb d_M_goes_48 (lv_at hl 1 rfl) ?_
        refine lv_icmp_gt (tgt := 79) hx hb d_M_goes_50 (by decide) (fun c_31 => absurd c_31 (by decide)) (fun c_31 => ?_)
        refine lv_iload_n hx hb d_M_goes_53 rfl (lv_at hl 3 rfl) ?_
        refine lv_iload hx hb d_M_goes_54 (lv_at hl 0 rfl) ?_
        refine lv_iand hx hb d_M_goes_56 ?_
        refine lv_if_le (tgt := 70) hx hb d_M_goes_57 (by decide) (fun c_32 => absurd c_32 (by decide)) (fun c_32 => ?_)
        refine lv_aload_n hx hb d_M_goes_60 rfl (lv_at hl 2 rfl) ?_
        refine lv_dup hx hb d_M_goes_61 rfl ?_
        refine m_get (D := G) (ci := 6) (v := .int (0 + 1)) (C := nR_M) (T := nT_M) (N := 21) hx hb hta in_M hown hK hM k_30 rfl 0 (by decide) (hta _ aw_543) (fun _ h9 => h9) rfl d_M_goes_62 ?_
        refine lv_iconst (v := 1) hx hb d_M_goes_65 (by decide) ?_
        refine lv_iadd hx hb d_M_goes_66 ?_
        refine m_put (D := G) (ci := 6) (v := .int ((0 + 1) + 1)) (ty := .int) (C := nR_M) (T := nT_M) (N := 21) hx hb hta in_M nt_M nt_M_ok nn_M hown hK hM hS k_30 rfl 0 (by decide) (hta _ aw_543) (fun _ h9 => h9) rfl (by decide +kernel) rfl rfl (Nat.le_of_ble_eq_true rfl) d_M_goes_67 (fs' := [.int ((0 + 1) + 1), .int no, .int wr, .int n, .ref (ad 0), .ref (ad 1), .ref (ad 2), .ref (ad 3), .ref (ad 4), .ref (ad 5), .int k, .ref (ad 6), .ref (ad 7), .ref (ad 8), .ref (ad 9), .int z, .int r, .int so, .ref (ad 10), .int pr, .ref (ad 11)]) rfl (fun H locs hM hS => ?_)
        obtain ⟨w_33, hw_33⟩ : ∃ z9 : Nat → Option va_E, z9 = va_up w_29 mm (some (.inr (6, [.int ((0 + 1) + 1), .int no, .int wr, .int n, .ref (ad 0), .ref (ad 1), .ref (ad 2), .ref (ad 3), .ref (ad 4), .ref (ad 5), .int k, .ref (ad 6), .ref (ad 7), .ref (ad 8), .ref (ad 9), .int z, .int r, .int so, .ref (ad 10), .int pr, .ref (ad 11)]))) := ⟨_, rfl⟩
        rw [← hw_33] at hM
        have k_34 : w_33 mm = some (.inr (6, [.int ((0 + 1) + 1), .int no, .int wr, .int n, .ref (ad 0), .ref (ad 1), .ref (ad 2), .ref (ad 3), .ref (ad 4), .ref (ad 5), .int k, .ref (ad 6), .ref (ad 7), .ref (ad 8), .ref (ad 9), .int z, .int r, .int so, .ref (ad 10), .int pr, .ref (ad 11)])) := by rw [hw_33, va_up_self]
        refine lv_iconst (v := 2) hx hb d_M_goes_70 (by decide) ?_
        refine lv_iload hx hb d_M_goes_71 (lv_at hl 0 rfl) ?_
        refine lv_imul hx hb d_M_goes_73 ?_
        refine lv_istore (lv' := [(7, .int (2 * (2 * 1))), (6, .int 4), (0, .ref mm), (1, .int 3), (2, .int b1), (3, .int b2), (4, .int b3), (5, .int b4)]) hx hb d_M_goes_74 hl (by decide) rfl (fun ls hl => ?_)
        refine lv_goto (tgt := 46) hx hb d_M_goes_76 (by decide) ?_
        refine lv_iload hx hb d_M_goes_46 (lv_at hl 0 rfl) ?_
        refine lv_iload hx hb d_M_goes_48 (lv_at hl 1 rfl) ?_
        refine lv_icmp_gt (tgt := 79) hx hb d_M_goes_50 (by decide) (fun c_35 => absurd c_35 (by decide)) (fun c_35 => ?_)
        refine lv_iload_n hx hb d_M_goes_53 rfl (lv_at hl 3 rfl) ?_
        refine lv_iload hx hb d_M_goes_54 (lv_at hl 0 rfl) ?_
        refine lv_iand hx hb d_M_goes_56 ?_
        refine lv_if_le (tgt := 70) hx hb d_M_goes_57 (by decide) (fun c_36 => ?_) (fun c_36 => absurd (by decide) c_36)
        refine lv_iconst (v := 2) hx hb d_M_goes_70 (by decide) ?_
        refine lv_iload hx hb d_M_goes_71 (lv_at hl 0 rfl) ?_
        refine lv_imul hx hb d_M_goes_73 ?_
        refine lv_istore (lv' := [(7, .int (2 * (2 * (2 * 1)))), (6, .int 4), (0, .ref mm), (1, .int 3), (2, .int b1), (3, .int b2), (4, .int b3), (5, .int b4)]) hx hb d_M_goes_74 hl (by decide) rfl (fun ls hl => ?_)
        refine lv_goto (tgt := 46) hx hb d_M_goes_76 (by decide) ?_
        refine lv_iload hx hb d_M_goes_46 (lv_at hl 0 rfl) ?_
        refine lv_iload hx hb d_M_goes_48 (lv_at hl 1 rfl) ?_
        refine lv_icmp_gt (tgt := 79) hx hb d_M_goes_50 (by decide) (fun c_37 => ?_) (fun c_37 => absurd (by decide) c_37)
        refine lv_iload hx hb d_M_goes_79 (lv_at hl 1 rfl) ?_
        refine lv_if_ne (tgt := 88) hx hb d_M_goes_81 (by decide) (fun c_38 => ?_) (fun c_38 => absurd c_38 (by decide))
        refine lv_iconst (v := 0) hx hb d_M_goes_88 (by decide) ?_
        have hg : gC b1 b2 b3 b4 = 3 := by simp [gC, c_1, c_2, c_3]
        have hM9 : mw G ncl A (va_up w mm (some (eM ad (nI (gT 3 (gC b1 b2 b3 b4))) no wr n k z r so pr))) H := by rw [hg, show nI (gT 3 3) = (0 + 1) + 1 by decide]; rw [hw_33, hw_29, hw_25, bx_uu, bx_uu] at hM; exact hM
        exact W.zret (v := 0) hx hb hr rfl (fun t ht hW => ⟨⟨0, (), rfl, by rw [hg]; rfl, by rw [ht]; exact hM9, va_K.moved hW.alike hK⟩, hS.F ht⟩) hS.2.2 d_M_goes_89
    · refine lv_iconst (v := 2) hx hb d_M_goes_12 (by decide) ?_
      refine lv_goto (tgt := 36) hx hb d_M_goes_13 (by decide) ?_
      refine lv_istore (lv' := [(6, .int 2), (0, .ref mm), (1, .int 3), (2, .int b1), (3, .int b2), (4, .int b3), (5, .int b4)]) hx hb d_M_goes_36 hl (by decide) rfl (fun ls hl => ?_)
      refine lv_aload_n hx hb d_M_goes_38 rfl (lv_at hl 1 rfl) ?_
      refine lv_iconst (v := 0) hx hb d_M_goes_39 (by decide) ?_
      refine m_put (D := G) (ci := 6) (v := .int 0) (ty := .int) (C := nR_M) (T := nT_M) (N := 21) hx hb hta in_M nt_M nt_M_ok nn_M hown hK hM hS hm rfl 0 (by decide) (hta _ aw_543) (fun _ h9 => h9) rfl (by decide +kernel) rfl rfl (Nat.le_of_ble_eq_true rfl) d_M_goes_40 (fs' := [.int 0, .int no, .int wr, .int n, .ref (ad 0), .ref (ad 1), .ref (ad 2), .ref (ad 3), .ref (ad 4), .ref (ad 5), .int k, .ref (ad 6), .ref (ad 7), .ref (ad 8), .ref (ad 9), .int z, .int r, .int so, .ref (ad 10), .int pr, .ref (ad 11)]) rfl (fun H locs hM hS => ?_)
      obtain ⟨w_39, hw_39⟩ : ∃ z9 : Nat → Option va_E, z9 = va_up w mm (some (.inr (6, [.int 0, .int no, .int wr, .int n, .ref (ad 0), .ref (ad 1), .ref (ad 2), .ref (ad 3), .ref (ad 4), .ref (ad 5), .int k, .ref (ad 6), .ref (ad 7), .ref (ad 8), .ref (ad 9), .int z, .int r, .int so, .ref (ad 10), .int pr, .ref (ad 11)]))) := ⟨_, rfl⟩
      rw [← hw_39] at hM
      have k_40 : w_39 mm = some (.inr (6, [.int 0, .int no, .int wr, .int n, .ref (ad 0), .ref (ad 1), .ref (ad 2), .ref (ad 3), .ref (ad 4), .ref (ad 5), .int k, .ref (ad 6), .ref (ad 7), .ref (ad 8), .ref (ad 9), .int z, .int r, .int so, .ref (ad 10), .int pr, .ref (ad 11)])) := by rw [hw_39, va_up_self]
      refine lv_iconst (v := 1) hx hb d_M_goes_43 (by decide) ?_
      refine lv_istore (lv' := [(7, .int 1), (6, .int 2), (0, .ref mm), (1, .int 3), (2, .int b1), (3, .int b2), (4, .int b3), (5, .int b4)]) hx hb d_M_goes_44 hl (by decide) rfl (fun ls hl => ?_)
      refine lv_iload hx hb d_M_goes_46 (lv_at hl 0 rfl) ?_
      refine lv_iload hx hb d_M_goes_48 (lv_at hl 1 rfl) ?_
      refine lv_icmp_gt (tgt := 79) hx hb d_M_goes_50 (by decide) (fun c_41 => absurd c_41 (by decide)) (fun c_41 => ?_)
      refine lv_iload_n hx hb d_M_goes_53 rfl (lv_at hl 3 rfl) ?_
      refine lv_iload hx hb d_M_goes_54 (lv_at hl 0 rfl) ?_
      refine lv_iand hx hb d_M_goes_56 ?_
      refine lv_if_le (tgt := 70) hx hb d_M_goes_57 (by decide) (fun c_42 => absurd c_42 (by decide)) (fun c_42 => ?_)
      refine lv_aload_n hx hb d_M_goes_60 rfl (lv_at hl 2 rfl) ?_
      refine lv_dup hx hb d_M_goes_61 rfl ?_
      refine m_get (D := G) (ci := 6) (v := .int 0) (C := nR_M) (T := nT_M) (N := 21) hx hb hta in_M hown hK hM k_40 rfl 0 (by decide) (hta _ aw_543) (fun _ h9 => h9) rfl d_M_goes_62 ?_
      refine lv_iconst (v := 1) hx hb d_M_goes_65 (by decide) ?_
      refine lv_iadd hx hb d_M_goes_66 ?_
      refine m_put (D := G) (ci := 6) (v := .int (0 + 1)) (ty := .int) (C := nR_M) (T := nT_M) (N := 21) hx hb hta in_M nt_M nt_M_ok nn_M hown hK hM hS k_40 rfl 0 (by decide) (hta _ aw_543) (fun _ h9 => h9) rfl (by decide +kernel) rfl rfl (Nat.le_of_ble_eq_true rfl) d_M_goes_67 (fs' := [.int (0 + 1), .int no, .int wr, .int n, .ref (ad 0), .ref (ad 1), .ref (ad 2), .ref (ad 3), .ref (ad 4), .ref (ad 5), .int k, .ref (ad 6), .ref (ad 7), .ref (ad 8), .ref (ad 9), .int z, .int r, .int so, .ref (ad 10), .int pr, .ref (ad 11)]) rfl (fun H locs hM hS => ?_)
      obtain ⟨w_43, hw_43⟩ : ∃ z9 : Nat → Option va_E, z9 = va_up w_39 mm (some (.inr (6, [.int (0 + 1), .int no, .int wr, .int n, .ref (ad 0), .ref (ad 1), .ref (ad 2), .ref (ad 3), .ref (ad 4), .ref (ad 5), .int k, .ref (ad 6), .ref (ad 7), .ref (ad 8), .ref (ad 9), .int z, .int r, .int so, .ref (ad 10), .int pr, .ref (ad 11)]))) := ⟨_, rfl⟩
      rw [← hw_43] at hM
      have k_44 : w_43 mm = some (.inr (6, [.int (0 + 1), .int no, .int wr, .int n, .ref (ad 0), .ref (ad 1), .ref (ad 2), .ref (ad 3), .ref (ad 4), .ref (ad 5), .int k, .ref (ad 6), .ref (ad 7), .ref (ad 8), .ref (ad 9), .int z, .int r, .int so, .ref (ad 10), .int pr, .ref (ad 11)])) := by rw [hw_43, va_up_self]
      refine lv_iconst (v := 2) hx hb d_M_goes_70 (by decide) ?_
      refine lv_iload hx hb d_M_goes_71 (lv_at hl 0 rfl) ?_
      refine lv_imul hx hb d_M_goes_73 ?_
      refine lv_istore (lv' := [(7, .int (2 * 1)), (6, .int 2), (0, .ref mm), (1, .int 3), (2, .int b1), (3, .int b2), (4, .int b3), (5, .int b4)]) hx hb d_M_goes_74 hl (by decide) rfl (fun ls hl => ?_)
      refine lv_goto (tgt := 46) hx hb d_M_goes_76 (by decide) ?_
      refine lv_iload hx hb d_M_goes_46 (lv_at hl 0 rfl) ?_
      refine lv_iload hx hb d_M_goes_48 (lv_at hl 1 rfl) ?_
      refine lv_icmp_gt (tgt := 79) hx hb d_M_goes_50 (by decide) (fun c_45 => absurd c_45 (by decide)) (fun c_45 => ?_)
      refine lv_iload_n hx hb d_M_goes_53 rfl (lv_at hl 3 rfl) ?_
      refine lv_iload hx hb d_M_goes_54 (lv_at hl 0 rfl) ?_
      refine lv_iand hx hb d_M_goes_56 ?_
      refine lv_if_le (tgt := 70) hx hb d_M_goes_57 (by decide) (fun c_46 => absurd c_46 (by decide)) (fun c_46 => ?_)
      refine lv_aload_n hx hb d_M_goes_60 rfl (lv_at hl 2 rfl) ?_
      refine lv_dup hx hb d_M_goes_61 rfl ?_
      refine m_get (D := G) (ci := 6) (v := .int (0 + 1)) (C := nR_M) (T := nT_M) (N := 21) hx hb hta in_M hown hK hM k_44 rfl 0 (by decide) (hta _ aw_543) (fun _ h9 => h9) rfl d_M_goes_62 ?_
      refine lv_iconst (v := 1) hx hb d_M_goes_65 (by decide) ?_
      refine lv_iadd hx hb d_M_goes_66 ?_
      refine m_put (D := G) (ci := 6) (v := .int ((0 + 1) + 1)) (ty := .int) (C := nR_M) (T := nT_M) (N := 21) hx hb hta in_M nt_M nt_M_ok nn_M hown hK hM hS k_44 rfl 0 (by decide) (hta _ aw_543) (fun _ h9 => h9) rfl (by decide +kernel) rfl rfl (Nat.le_of_ble_eq_true rfl) d_M_goes_67 (fs' := [.int ((0 + 1) + 1), .int no, .int wr, .int n, .ref (ad 0), .ref (ad 1), .ref (ad 2), .ref (ad 3), .ref (ad 4), .ref (ad 5), .int k, .ref (ad 6), .ref (ad 7), .ref (ad 8), .ref (ad 9), .int z, .int r, .int so, .ref (ad 10), .int pr, .ref (ad 11)]) rfl (fun H locs hM hS => ?_)
      obtain ⟨w_47, hw_47⟩ : ∃ z9 : Nat → Option va_E, z9 = va_up w_43 mm (some (.inr (6, [.int ((0 + 1) + 1), .int no, .int wr, .int n, .ref (ad 0), .ref (ad 1), .ref (ad 2), .ref (ad 3), .ref (ad 4), .ref (ad 5), .int k, .ref (ad 6), .ref (ad 7), .ref (ad 8), .ref (ad 9), .int z, .int r, .int so, .ref (ad 10), .int pr, .ref (ad 11)]))) := ⟨_, rfl⟩
      rw [← hw_47] at hM
      have k_48 : w_47 mm = some (.inr (6, [.int ((0 + 1) + 1), .int no, .int wr, .int n, .ref (ad 0), .ref (ad 1), .ref (ad 2), .ref (ad 3), .ref (ad 4), .ref (ad 5), .int k, .ref (ad 6), .ref (ad 7), .ref (ad 8), .ref (ad 9), .int z, .int r, .int so, .ref (ad 10), .int pr, .ref (ad 11)])) := by rw [hw_47, va_up_self]
      refine lv_iconst (v := 2) hx hb d_M_goes_70 (by decide) ?_
      refine lv_iload hx hb d_M_goes_71 (lv_at hl 0 rfl) ?_
      refine lv_imul hx hb d_M_goes_73 ?_
      refine lv_istore (lv' := [(7, .int (2 * (2 * 1))), (6, .int 2), (0, .ref mm), (1, .int 3), (2, .int b1), (3, .int b2), (4, .int b3), (5, .int b4)]) hx hb d_M_goes_74 hl (by decide) rfl (fun ls hl => ?_)
      refine lv_goto (tgt := 46) hx hb d_M_goes_76 (by decide) ?_
      refine lv_iload hx hb d_M_goes_46 (lv_at hl 0 rfl) ?_
      refine lv_iload hx hb d_M_goes_48 (lv_at hl 1 rfl) ?_
      refine lv_icmp_gt (tgt := 79) hx hb d_M_goes_50 (by decide) (fun c_49 => ?_) (fun c_49 => absurd (by decide) c_49)
      refine lv_iload hx hb d_M_goes_79 (lv_at hl 1 rfl) ?_
      refine lv_if_ne (tgt := 88) hx hb d_M_goes_81 (by decide) (fun c_50 => ?_) (fun c_50 => absurd c_50 (by decide))
      refine lv_iconst (v := 0) hx hb d_M_goes_88 (by decide) ?_
      have hg : gC b1 b2 b3 b4 = 2 := by simp [gC, c_1, c_2]
      have hM9 : mw G ncl A (va_up w mm (some (eM ad (nI (gT 3 (gC b1 b2 b3 b4))) no wr n k z r so pr))) H := by rw [hg, show nI (gT 3 2) = (0 + 1) + 1 by decide]; rw [hw_47, hw_43, hw_39, bx_uu, bx_uu] at hM; exact hM
      exact W.zret (v := 0) hx hb hr rfl (fun t ht hW => ⟨⟨0, (), rfl, by rw [hg]; rfl, by rw [ht]; exact hM9, va_K.moved hW.alike hK⟩, hS.F ht⟩) hS.2.2 d_M_goes_89
  · refine lv_iconst (v := 1) hx hb d_M_goes_4 (by decide) ?_
    refine lv_goto (tgt := 36) hx hb d_M_goes_5 (by decide) ?_
    refine lv_istore (lv' := [(6, .int 1), (0, .ref mm), (1, .int 3), (2, .int b1), (3, .int b2), (4, .int b3), (5, .int b4)]) hx hb d_M_goes_36 hl (by decide) rfl (fun ls hl => ?_)
    refine lv_aload_n hx hb d_M_goes_38 rfl (lv_at hl 1 rfl) ?_
    refine lv_iconst (v := 0) hx hb d_M_goes_39 (by decide) ?_
    refine m_put (D := G) (ci := 6) (v := .int 0) (ty := .int) (C := nR_M) (T := nT_M) (N := 21) hx hb hta in_M nt_M nt_M_ok nn_M hown hK hM hS hm rfl 0 (by decide) (hta _ aw_543) (fun _ h9 => h9) rfl (by decide +kernel) rfl rfl (Nat.le_of_ble_eq_true rfl) d_M_goes_40 (fs' := [.int 0, .int no, .int wr, .int n, .ref (ad 0), .ref (ad 1), .ref (ad 2), .ref (ad 3), .ref (ad 4), .ref (ad 5), .int k, .ref (ad 6), .ref (ad 7), .ref (ad 8), .ref (ad 9), .int z, .int r, .int so, .ref (ad 10), .int pr, .ref (ad 11)]) rfl (fun H locs hM hS => ?_)
    obtain ⟨w_51, hw_51⟩ : ∃ z9 : Nat → Option va_E, z9 = va_up w mm (some (.inr (6, [.int 0, .int no, .int wr, .int n, .ref (ad 0), .ref (ad 1), .ref (ad 2), .ref (ad 3), .ref (ad 4), .ref (ad 5), .int k, .ref (ad 6), .ref (ad 7), .ref (ad 8), .ref (ad 9), .int z, .int r, .int so, .ref (ad 10), .int pr, .ref (ad 11)]))) := ⟨_, rfl⟩
    rw [← hw_51] at hM
    have k_52 : w_51 mm = some (.inr (6, [.int 0, .int no, .int wr, .int n, .ref (ad 0), .ref (ad 1), .ref (ad 2), .ref (ad 3), .ref (ad 4), .ref (ad 5), .int k, .ref (ad 6), .ref (ad 7), .ref (ad 8), .ref (ad 9), .int z, .int r, .int so, .ref (ad 10), .int pr, .ref (ad 11)])) := by rw [hw_51, va_up_self]
    refine lv_iconst (v := 1) hx hb d_M_goes_43 (by decide) ?_
    refine lv_istore (lv' := [(7, .int 1), (6, .int 1), (0, .ref mm), (1, .int 3), (2, .int b1), (3, .int b2), (4, .int b3), (5, .int b4)]) hx hb d_M_goes_44 hl (by decide) rfl (fun ls hl => ?_)
    refine lv_iload hx hb d_M_goes_46 (lv_at hl 0 rfl) ?_
    refine lv_iload hx hb d_M_goes_48 (lv_at hl 1 rfl) ?_
    refine lv_icmp_gt (tgt := 79) hx hb d_M_goes_50 (by decide) (fun c_53 => absurd c_53 (by decide)) (fun c_53 => ?_)
    refine lv_iload_n hx hb d_M_goes_53 rfl (lv_at hl 3 rfl) ?_
    refine lv_iload hx hb d_M_goes_54 (lv_at hl 0 rfl) ?_
    refine lv_iand hx hb d_M_goes_56 ?_
    refine lv_if_le (tgt := 70) hx hb d_M_goes_57 (by decide) (fun c_54 => absurd c_54 (by decide)) (fun c_54 => ?_)
    refine lv_aload_n hx hb d_M_goes_60 rfl (lv_at hl 2 rfl) ?_
    refine lv_dup hx hb d_M_goes_61 rfl ?_
    refine m_get (D := G) (ci := 6) (v := .int 0) (C := nR_M) (T := nT_M) (N := 21) hx hb hta in_M hown hK hM k_52 rfl 0 (by decide) (hta _ aw_543) (fun _ h9 => h9) rfl d_M_goes_62 ?_
    refine lv_iconst (v := 1) hx hb d_M_goes_65 (by decide) ?_
    refine lv_iadd hx hb d_M_goes_66 ?_
    refine m_put (D := G) (ci := 6) (v := .int (0 + 1)) (ty := .int) (C := nR_M) (T := nT_M) (N := 21) hx hb hta in_M nt_M nt_M_ok nn_M hown hK hM hS k_52 rfl 0 (by decide) (hta _ aw_543) (fun _ h9 => h9) rfl (by decide +kernel) rfl rfl (Nat.le_of_ble_eq_true rfl) d_M_goes_67 (fs' := [.int (0 + 1), .int no, .int wr, .int n, .ref (ad 0), .ref (ad 1), .ref (ad 2), .ref (ad 3), .ref (ad 4), .ref (ad 5), .int k, .ref (ad 6), .ref (ad 7), .ref (ad 8), .ref (ad 9), .int z, .int r, .int so, .ref (ad 10), .int pr, .ref (ad 11)]) rfl (fun H locs hM hS => ?_)
    obtain ⟨w_55, hw_55⟩ : ∃ z9 : Nat → Option va_E, z9 = va_up w_51 mm (some (.inr (6, [.int (0 + 1), .int no, .int wr, .int n, .ref (ad 0), .ref (ad 1), .ref (ad 2), .ref (ad 3), .ref (ad 4), .ref (ad 5), .int k, .ref (ad 6), .ref (ad 7), .ref (ad 8), .ref (ad 9), .int z, .int r, .int so, .ref (ad 10), .int pr, .ref (ad 11)]))) := ⟨_, rfl⟩
    rw [← hw_55] at hM
    have k_56 : w_55 mm = some (.inr (6, [.int (0 + 1), .int no, .int wr, .int n, .ref (ad 0), .ref (ad 1), .ref (ad 2), .ref (ad 3), .ref (ad 4), .ref (ad 5), .int k, .ref (ad 6), .ref (ad 7), .ref (ad 8), .ref (ad 9), .int z, .int r, .int so, .ref (ad 10), .int pr, .ref (ad 11)])) := by rw [hw_55, va_up_self]
    refine lv_iconst (v := 2) hx hb d_M_goes_70 (by decide) ?_
    refine lv_iload hx hb d_M_goes_71 (lv_at hl 0 rfl) ?_
    refine lv_imul hx hb d_M_goes_73 ?_
    refine lv_istore (lv' := [(7, .int (2 * 1)), (6, .int 1), (0, .ref mm), (1, .int 3), (2, .int b1), (3, .int b2), (4, .int b3), (5, .int b4)]) hx hb d_M_goes_74 hl (by decide) rfl (fun ls hl => ?_)
    refine lv_goto (tgt := 46) hx hb d_M_goes_76 (by decide) ?_
    refine lv_iload hx hb d_M_goes_46 (lv_at hl 0 rfl) ?_
    refine lv_iload hx hb d_M_goes_48 (lv_at hl 1 rfl) ?_
    refine lv_icmp_gt (tgt := 79) hx hb d_M_goes_50 (by decide) (fun c_57 => ?_) (fun c_57 => absurd (by decide) c_57)
    refine lv_iload hx hb d_M_goes_79 (lv_at hl 1 rfl) ?_
    refine lv_if_ne (tgt := 88) hx hb d_M_goes_81 (by decide) (fun c_58 => ?_) (fun c_58 => absurd c_58 (by decide))
    refine lv_iconst (v := 0) hx hb d_M_goes_88 (by decide) ?_
    have hg : gC b1 b2 b3 b4 = 1 := by simp [gC, c_1]
    have hM9 : mw G ncl A (va_up w mm (some (eM ad (nI (gT 3 (gC b1 b2 b3 b4))) no wr n k z r so pr))) H := by rw [hg, show nI (gT 3 1) = 0 + 1 by decide]; rw [hw_55, hw_51, bx_uu] at hM; exact hM
    exact W.zret (v := 0) hx hb hr rfl (fun t ht hW => ⟨⟨0, (), rfl, by rw [hg]; rfl, by rw [ht]; exact hM9, va_K.moved hW.alike hK⟩, hS.F ht⟩) hS.2.2 d_M_goes_89
set_option maxHeartbeats 4000000 in
set_option maxRecDepth 100000 in
theorem k_M_goes_1 (l : Launch) (G : va_G) (q0 q1 : ClassId × FieldType) (cI : ClassId) (ty2 : List (ClassId × FieldType)) (w : Nat → Option va_E) {mm : Nat} {ad : Nat → Nat} {f : Nat → Nat → Int32} {th no wr n k z r so pr : Int32} (hm : w mm = some (eM ad th no wr n k z r so pr)) (hma : ∀ i, i < 12 → w (ad i) = some (aI cI (msz i) (f i))) (b1 b2 b3 b4 : Int32) (sz : Nat) : Met l y_M_goes (wm y_M_goes c_M_goes 8 (some .boolean)) ({ frames := 0, cells := 0, slots := 0, locals := 0 }) (pZ G (q0 :: q1 :: (cI, .int) :: ty2) w sz [.ref mm, .int 1, .int b1, .int b2, .int b3, .int b4]) (va_Qi (fun (r0 : Int32) (u : Unit) => r0 = if gC b1 b2 b3 b4 = 0 then 1 else 0) (fun _ t => mw G ncl (mA w sz) (va_up w mm (some (eM ad (nI (gT 1 (gC b1 b2 b3 b4))) no wr n k z r so pr))) t.heap ∧ va_K G ncl (q0 :: q1 :: (cI, .int) :: ty2) t) (mA w sz)) 0 0 (mA w sz) := by
  refine Met.ofW (cc := c_M_goes) (maxL := 8) (ret := (some .boolean)) (by decide) rfl ?_
  intro p e s m args below meth c s₁ B hml hv
  obtain ⟨rfl, hsz, hM0, hK⟩ := hv
  have hx := B.exec
  have hb := B.bytes
  have hr := B.returns
  have hts := atoms_spec (ws := (wm y_M_goes c_M_goes 8 (some .boolean))) B.pre
  have hta : ∀ w ∈ AL, w.before _ s = true := fun w h => hts w (List.mem_cons_of_mem _ h)
  have hown : s.vm.findClass nR_M = some m.cls := findClass_of_methodNamed B.named
  have hlocks := B.notSynchronized
  have hl := lv_entry ([.ref mm, .int 1, .int b1, .int b2, .int b3, .int b4]) (n := 8) (Nat.le_of_ble_eq_true rfl)
  rw [lg_entry_eq]
  generalize (lg_sl ([.ref mm, .int 1, .int b1, .int b2, .int b3, .int b4]) ++ List.replicate (8 - (lg_sl ([.ref mm, .int 1, .int b1, .int b2, .int b3, .int b4])).length) Slot.unset).toArray = ls at hl ⊢
  have hl : lv_has ls 8 [(0, .ref mm), (1, .int 1), (2, .int b1), (3, .int b2), (4, .int b3), (5, .int b4)] := hl
  subst hsz
  have hM := mw_self (sz := s.heap.size) hM0
  clear hM0
  generalize hAe : mA w s.heap.size = A at hM ⊢
  have hA : ∀ q : Nat, s.heap.size ≤ q → A q := fun q h => by rw [← hAe]; exact Or.inr h
  have hS : va_S A s.heap s.heap [] := va_S.rf
  refine lv_iload_n hx hb d_M_goes_0 rfl (lv_at hl 2 rfl) ?_
  refine lv_if_ne (tgt := 8) hx hb d_M_goes_1 (by decide) (fun c_1 => ?_) (fun c_1 => ?_)
  · refine lv_iload_n hx hb d_M_goes_8 rfl (lv_at hl 3 rfl) ?_
    refine lv_if_ne (tgt := 16) hx hb d_M_goes_9 (by decide) (fun c_2 => ?_) (fun c_2 => ?_)
    · refine lv_iload hx hb d_M_goes_16 (lv_at hl 4 rfl) ?_
      refine lv_if_ne (tgt := 25) hx hb d_M_goes_18 (by decide) (fun c_3 => ?_) (fun c_3 => ?_)
      · refine lv_iload hx hb d_M_goes_25 (lv_at hl 5 rfl) ?_
        refine lv_if_ne (tgt := 35) hx hb d_M_goes_27 (by decide) (fun c_4 => ?_) (fun c_4 => ?_)
        · refine lv_iconst (v := 0) hx hb d_M_goes_35 (by decide) ?_
          refine lv_istore (lv' := [(6, .int 0), (0, .ref mm), (1, .int 1), (2, .int b1), (3, .int b2), (4, .int b3), (5, .int b4)]) hx hb d_M_goes_36 hl (by decide) rfl (fun ls hl => ?_)
          refine lv_aload_n hx hb d_M_goes_38 rfl (lv_at hl 1 rfl) ?_
          refine lv_iconst (v := 0) hx hb d_M_goes_39 (by decide) ?_
          refine m_put (D := G) (ci := 6) (v := .int 0) (ty := .int) (C := nR_M) (T := nT_M) (N := 21) hx hb hta in_M nt_M nt_M_ok nn_M hown hK hM hS hm rfl 0 (by decide) (hta _ aw_543) (fun _ h9 => h9) rfl (by decide +kernel) rfl rfl (Nat.le_of_ble_eq_true rfl) d_M_goes_40 (fs' := [.int 0, .int no, .int wr, .int n, .ref (ad 0), .ref (ad 1), .ref (ad 2), .ref (ad 3), .ref (ad 4), .ref (ad 5), .int k, .ref (ad 6), .ref (ad 7), .ref (ad 8), .ref (ad 9), .int z, .int r, .int so, .ref (ad 10), .int pr, .ref (ad 11)]) rfl (fun H locs hM hS => ?_)
          obtain ⟨w_5, hw_5⟩ : ∃ z9 : Nat → Option va_E, z9 = va_up w mm (some (.inr (6, [.int 0, .int no, .int wr, .int n, .ref (ad 0), .ref (ad 1), .ref (ad 2), .ref (ad 3), .ref (ad 4), .ref (ad 5), .int k, .ref (ad 6), .ref (ad 7), .ref (ad 8), .ref (ad 9), .int z, .int r, .int so, .ref (ad 10), .int pr, .ref (ad 11)]))) := ⟨_, rfl⟩
          rw [← hw_5] at hM
          have k_6 : w_5 mm = some (.inr (6, [.int 0, .int no, .int wr, .int n, .ref (ad 0), .ref (ad 1), .ref (ad 2), .ref (ad 3), .ref (ad 4), .ref (ad 5), .int k, .ref (ad 6), .ref (ad 7), .ref (ad 8), .ref (ad 9), .int z, .int r, .int so, .ref (ad 10), .int pr, .ref (ad 11)])) := by rw [hw_5, va_up_self]
          refine lv_iconst (v := 1) hx hb d_M_goes_43 (by decide) ?_
          refine lv_istore (lv' := [(7, .int 1), (6, .int 0), (0, .ref mm), (1, .int 1), (2, .int b1), (3, .int b2), (4, .int b3), (5, .int b4)]) hx hb d_M_goes_44 hl (by decide) rfl (fun ls hl => ?_)
          refine lv_iload hx hb d_M_goes_46 (lv_at hl 0 rfl) ?_
          refine lv_iload hx hb d_M_goes_48 (lv_at hl 1 rfl) ?_
          refine lv_icmp_gt (tgt := 79) hx hb d_M_goes_50 (by decide) (fun c_7 => ?_) (fun c_7 => absurd (by decide) c_7)
          refine lv_iload hx hb d_M_goes_79 (lv_at hl 1 rfl) ?_
          refine lv_if_ne (tgt := 88) hx hb d_M_goes_81 (by decide) (fun c_8 => absurd (by decide) c_8) (fun c_8 => ?_)
          refine lv_iconst (v := 1) hx hb d_M_goes_84 (by decide) ?_
          refine lv_goto (tgt := 89) hx hb d_M_goes_85 (by decide) ?_
          have hg : gC b1 b2 b3 b4 = 0 := by simp [gC, c_1, c_2, c_3, c_4]
          have hM9 : mw G ncl A (va_up w mm (some (eM ad (nI (gT 1 (gC b1 b2 b3 b4))) no wr n k z r so pr))) H := by rw [hg, show nI (gT 1 0) = 0 by decide]; rw [hw_5] at hM; exact hM
          exact W.zret (v := 1) hx hb hr rfl (fun t ht hW => ⟨⟨1, (), rfl, by rw [hg]; rfl, by rw [ht]; exact hM9, va_K.moved hW.alike hK⟩, hS.F ht⟩) hS.2.2 d_M_goes_89
        · refine lv_bipush (v := 8) hx hb d_M_goes_30 (by decide) ?_
          refine lv_goto (tgt := 36) hx hb d_M_goes_32 (by decide) ?_
          refine lv_istore (lv' := [(6, .int 8), (0, .ref mm), (1, .int 1), (2, .int b1), (3, .int b2), (4, .int b3), (5, .int b4)]) hx hb d_M_goes_36 hl (by decide) rfl (fun ls hl => ?_)
          refine lv_aload_n hx hb d_M_goes_38 rfl (lv_at hl 1 rfl) ?_
          refine lv_iconst (v := 0) hx hb d_M_goes_39 (by decide) ?_
          refine m_put (D := G) (ci := 6) (v := .int 0) (ty := .int) (C := nR_M) (T := nT_M) (N := 21) hx hb hta in_M nt_M nt_M_ok nn_M hown hK hM hS hm rfl 0 (by decide) (hta _ aw_543) (fun _ h9 => h9) rfl (by decide +kernel) rfl rfl (Nat.le_of_ble_eq_true rfl) d_M_goes_40 (fs' := [.int 0, .int no, .int wr, .int n, .ref (ad 0), .ref (ad 1), .ref (ad 2), .ref (ad 3), .ref (ad 4), .ref (ad 5), .int k, .ref (ad 6), .ref (ad 7), .ref (ad 8), .ref (ad 9), .int z, .int r, .int so, .ref (ad 10), .int pr, .ref (ad 11)]) rfl (fun H locs hM hS => ?_)
          obtain ⟨w_9, hw_9⟩ : ∃ z9 : Nat → Option va_E, z9 = va_up w mm (some (.inr (6, [.int 0, .int no, .int wr, .int n, .ref (ad 0), .ref (ad 1), .ref (ad 2), .ref (ad 3), .ref (ad 4), .ref (ad 5), .int k, .ref (ad 6), .ref (ad 7), .ref (ad 8), .ref (ad 9), .int z, .int r, .int so, .ref (ad 10), .int pr, .ref (ad 11)]))) := ⟨_, rfl⟩
          rw [← hw_9] at hM
          have k_10 : w_9 mm = some (.inr (6, [.int 0, .int no, .int wr, .int n, .ref (ad 0), .ref (ad 1), .ref (ad 2), .ref (ad 3), .ref (ad 4), .ref (ad 5), .int k, .ref (ad 6), .ref (ad 7), .ref (ad 8), .ref (ad 9), .int z, .int r, .int so, .ref (ad 10), .int pr, .ref (ad 11)])) := by rw [hw_9, va_up_self]
          refine lv_iconst (v := 1) hx hb d_M_goes_43 (by decide) ?_
          refine lv_istore (lv' := [(7, .int 1), (6, .int 8), (0, .ref mm), (1, .int 1), (2, .int b1), (3, .int b2), (4, .int b3), (5, .int b4)]) hx hb d_M_goes_44 hl (by decide) rfl (fun ls hl => ?_)
          refine lv_iload hx hb d_M_goes_46 (lv_at hl 0 rfl) ?_
          refine lv_iload hx hb d_M_goes_48 (lv_at hl 1 rfl) ?_
          refine lv_icmp_gt (tgt := 79) hx hb d_M_goes_50 (by decide) (fun c_11 => absurd c_11 (by decide)) (fun c_11 => ?_)
          refine lv_iload_n hx hb d_M_goes_53 rfl (lv_at hl 3 rfl) ?_
          refine lv_iload hx hb d_M_goes_54 (lv_at hl 0 rfl) ?_
          refine lv_iand hx hb d_M_goes_56 ?_
          refine lv_if_le (tgt := 70) hx hb d_M_goes_57 (by decide) (fun c_12 => absurd c_12 (by decide)) (fun c_12 => ?_)
          refine lv_aload_n hx hb d_M_goes_60 rfl (lv_at hl 2 rfl) ?_
          refine lv_dup hx hb d_M_goes_61 rfl ?_
          refine m_get (D := G) (ci := 6) (v := .int 0) (C := nR_M) (T := nT_M) (N := 21) hx hb hta in_M hown hK hM k_10 rfl 0 (by decide) (hta _ aw_543) (fun _ h9 => h9) rfl d_M_goes_62 ?_
          refine lv_iconst (v := 1) hx hb d_M_goes_65 (by decide) ?_
          refine lv_iadd hx hb d_M_goes_66 ?_
          refine m_put (D := G) (ci := 6) (v := .int (0 + 1)) (ty := .int) (C := nR_M) (T := nT_M) (N := 21) hx hb hta in_M nt_M nt_M_ok nn_M hown hK hM hS k_10 rfl 0 (by decide) (hta _ aw_543) (fun _ h9 => h9) rfl (by decide +kernel) rfl rfl (Nat.le_of_ble_eq_true rfl) d_M_goes_67 (fs' := [.int (0 + 1), .int no, .int wr, .int n, .ref (ad 0), .ref (ad 1), .ref (ad 2), .ref (ad 3), .ref (ad 4), .ref (ad 5), .int k, .ref (ad 6), .ref (ad 7), .ref (ad 8), .ref (ad 9), .int z, .int r, .int so, .ref (ad 10), .int pr, .ref (ad 11)]) rfl (fun H locs hM hS => ?_)
          obtain ⟨w_13, hw_13⟩ : ∃ z9 : Nat → Option va_E, z9 = va_up w_9 mm (some (.inr (6, [.int (0 + 1), .int no, .int wr, .int n, .ref (ad 0), .ref (ad 1), .ref (ad 2), .ref (ad 3), .ref (ad 4), .ref (ad 5), .int k, .ref (ad 6), .ref (ad 7), .ref (ad 8), .ref (ad 9), .int z, .int r, .int so, .ref (ad 10), .int pr, .ref (ad 11)]))) := ⟨_, rfl⟩
          rw [← hw_13] at hM
          have k_14 : w_13 mm = some (.inr (6, [.int (0 + 1), .int no, .int wr, .int n, .ref (ad 0), .ref (ad 1), .ref (ad 2), .ref (ad 3), .ref (ad 4), .ref (ad 5), .int k, .ref (ad 6), .ref (ad 7), .ref (ad 8), .ref (ad 9), .int z, .int r, .int so, .ref (ad 10), .int pr, .ref (ad 11)])) := by rw [hw_13, va_up_self]
          refine lv_iconst (v := 2) hx hb d_M_goes_70 (by decide) ?_
          refine lv_iload hx hb d_M_goes_71 (lv_at hl 0 rfl) ?_
          refine lv_imul hx hb d_M_goes_73 ?_
          refine lv_istore (lv' := [(7, .int (2 * 1)), (6, .int 8), (0, .ref mm), (1, .int 1), (2, .int b1), (3, .int b2), (4, .int b3), (5, .int b4)]) hx hb d_M_goes_74 hl (by decide) rfl (fun ls hl => ?_)
          refine lv_goto (tgt := 46) hx hb d_M_goes_76 (by decide) ?_
          refine lv_iload hx hb d_M_goes_46 (lv_at hl 0 rfl) ?_
          refine lv_iload hx hb d_M_goes_48 (lv_at hl 1 rfl) ?_
          refine lv_icmp_gt (tgt := 79) hx hb d_M_goes_50 (by decide) (fun c_15 => absurd c_15 (by decide)) (fun c_15 => ?_)
          refine lv_iload_n hx hb d_M_goes_53 rfl (lv_at hl 3 rfl) ?_
          refine lv_iload hx hb d_M_goes_54 (lv_at hl 0 rfl) ?_
          refine lv_iand hx hb d_M_goes_56 ?_
          refine lv_if_le (tgt := 70) hx hb d_M_goes_57 (by decide) (fun c_16 => ?_) (fun c_16 => absurd (by decide) c_16)
          refine lv_iconst (v := 2) hx hb d_M_goes_70 (by decide) ?_
          refine lv_iload hx hb d_M_goes_71 (lv_at hl 0 rfl) ?_
          refine lv_imul hx hb d_M_goes_73 ?_
          refine lv_istore (lv' := [(7, .int (2 * (2 * 1))), (6, .int 8), (0, .ref mm), (1, .int 1), (2, .int b1), (3, .int b2), (4, .int b3), (5, .int b4)]) hx hb d_M_goes_74 hl (by decide) rfl (fun ls hl => ?_)
          refine lv_goto (tgt := 46) hx hb d_M_goes_76 (by decide) ?_
          refine lv_iload hx hb d_M_goes_46 (lv_at hl 0 rfl) ?_
          refine lv_iload hx hb d_M_goes_48 (lv_at hl 1 rfl) ?_
          refine lv_icmp_gt (tgt := 79) hx hb d_M_goes_50 (by decide) (fun c_17 => absurd c_17 (by decide)) (fun c_17 => ?_)
          refine lv_iload_n hx hb d_M_goes_53 rfl (lv_at hl 3 rfl) ?_
          refine lv_iload hx hb d_M_goes_54 (lv_at hl 0 rfl) ?_
          refine lv_iand hx hb d_M_goes_56 ?_
          refine lv_if_le (tgt := 70) hx hb d_M_goes_57 (by decide) (fun c_18 => ?_) (fun c_18 => absurd (by decide) c_18)
          refine lv_iconst (v := 2) hx hb d_M_goes_70 (by decide) ?_
          refine lv_iload hx hb d_M_goes_71 (lv_at hl 0 rfl) ?_
          refine lv_imul hx hb d_M_goes_73 ?_
          refine lv_istore (lv' := [(7, .int (2 * (2 * (2 * 1)))), (6, .int 8), (0, .ref mm), (1, .int 1), (2, .int b1), (3, .int b2), (4, .int b3), (5, .int b4)]) hx hb d_M_goes_74 hl (by decide) rfl (fun ls hl => ?_)
          refine lv_goto (tgt := 46) hx hb d_M_goes_76 (by decide) ?_
          refine lv_iload hx hb d_M_goes_46 (lv_at hl 0 rfl) ?_
          refine lv_iload hx hb d_M_goes_48 (lv_at hl 1 rfl) ?_
          refine lv_icmp_gt (tgt := 79) hx hb d_M_goes_50 (by decide) (fun c_19 => absurd c_19 (by decide)) (fun c_19 => ?_)
          refine lv_iload_n hx hb d_M_goes_53 rfl (lv_at hl 3 rfl) ?_
          refine lv_iload hx hb d_M_goes_54 (lv_at hl 0 rfl) ?_
          refine lv_iand hx hb d_M_goes_56 ?_
          refine lv_if_le (tgt := 70) hx hb d_M_goes_57 (by decide) (fun c_20 => ?_) (fun c_20 => absurd (by decide) c_20)
          refine lv_iconst (v := 2) hx hb d_M_goes_70 (by decide) ?_
          refine lv_iload hx hb d_M_goes_71 (lv_at hl 0 rfl) ?_
          refine lv_imul hx hb d_M_goes_73 ?_
          refine lv_istore (lv' := [(7, .int (2 * (2 * (2 * (2 * 1))))), (6, .int 8), (0, .ref mm), (1, .int 1), (2, .int b1), (3, .int b2), (4, .int b3), (5, .int b4)]) hx hb d_M_goes_74 hl (by decide) rfl (fun ls hl => ?_)
          refine lv_goto (tgt := 46) hx hb d_M_goes_76 (by decide) ?_
          refine lv_iload hx hb d_M_goes_46 (lv_at hl 0 rfl) ?_
          refine lv_iload hx hb d_M_goes_48 (lv_at hl 1 rfl) ?_
          refine lv_icmp_gt (tgt := 79) hx hb d_M_goes_50 (by decide) (fun c_21 => ?_) (fun c_21 => absurd (by decide) c_21)
          refine lv_iload hx hb d_M_goes_79 (lv_at hl 1 rfl) ?_
          refine lv_if_ne (tgt := 88) hx hb d_M_goes_81 (by decide) (fun c_22 => ?_) (fun c_22 => absurd c_22 (by decide))
          refine lv_iconst (v := 0) hx hb d_M_goes_88 (by decide) ?_
          have hg : gC b1 b2 b3 b4 = 4 := by simp [gC, c_1, c_2, c_3, c_4]
          have hM9 : mw G ncl A (va_up w mm (some (eM ad (nI (gT 1 (gC b1 b2 b3 b4))) no wr n k z r so pr))) H := by rw [hg, show nI (gT 1 4) = 0 + 1 by decide]; rw [hw_13, hw_9, bx_uu] at hM; exact hM
          exact W.zret (v := 0) hx hb hr rfl (fun t ht hW => ⟨⟨0, (), rfl, by rw [hg]; rfl, by rw [ht]; exact hM9, va_K.moved hW.alike hK⟩, hS.F ht⟩) hS.2.2 d_M_goes_89
      · refine lv_iconst (v := 4) hx hb d_M_goes_21 (by decide) ?_
        refine lv_goto (tgt := 36) hx hb d_M_goes_22 (by decide) ?_
        refine lv_istore (lv' := [(6, .int 4), (0, .ref mm), (1, .int 1), (2, .int b1), (3, .int b2), (4, .int b3), (5, .int b4)]) hx hb d_M_goes_36 hl (by decide) rfl (fun ls hl => ?_)
        refine lv_aload_n hx hb d_M_goes_38 rfl (lv_at hl 1 rfl) ?_
        refine lv_iconst (v := 0) hx hb d_M_goes_39 (by decide) ?_
        refine m_put (D := G) (ci := 6) (v := .int 0) (ty := .int) (C := nR_M) (T := nT_M) (N := 21) hx hb hta in_M nt_M nt_M_ok nn_M hown hK hM hS hm rfl 0 (by decide) (hta _ aw_543) (fun _ h9 => h9) rfl (by decide +kernel) rfl rfl (Nat.le_of_ble_eq_true rfl) d_M_goes_40 (fs' := [.int 0, .int no, .int wr, .int n, .ref (ad 0), .ref (ad 1), .ref (ad 2), .ref (ad 3), .ref (ad 4), .ref (ad 5), .int k, .ref (ad 6), .ref (ad 7), .ref (ad 8), .ref (ad 9), .int z, .int r, .int so, .ref (ad 10), .int pr, .ref (ad 11)]) rfl (fun H locs hM hS => ?_)
        obtain ⟨w_23, hw_23⟩ : ∃ z9 : Nat → Option va_E, z9 = va_up w mm (some (.inr (6, [.int 0, .int no, .int wr, .int n, .ref (ad 0), .ref (ad 1), .ref (ad 2), .ref (ad 3), .ref (ad 4), .ref (ad 5), .int k, .ref (ad 6), .ref (ad 7), .ref (ad 8), .ref (ad 9), .int z, .int r, .int so, .ref (ad 10), .int pr, .ref (ad 11)]))) := ⟨_, rfl⟩
        rw [← hw_23] at hM
        have k_24 : w_23 mm = some (.inr (6, [.int 0, .int no, .int wr, .int n, .ref (ad 0), .ref (ad 1), .ref (ad 2), .ref (ad 3), .ref (ad 4), .ref (ad 5), .int k, .ref (ad 6), .ref (ad 7), .ref (ad 8), .ref (ad 9), .int z, .int r, .int so, .ref (ad 10), .int pr, .ref (ad 11)])) := by rw [hw_23, va_up_self]
        refine lv_iconst (v := 1) hx hb d_M_goes_43 (by decide) ?_
        refine lv_istore (lv' := [(7, .int 1), (6, .int 4), (0, .ref mm), (1, .int 1), (2, .int b1), (3, .int b2), (4, .int b3), (5, .int b4)]) hx hb d_M_goes_44 hl (by decide) rfl (fun ls hl => ?_)
        refine lv_iload hx hb d_M_goes_46 (lv_at hl 0 rfl) ?_
        refine lv_iload hx hb d_M_goes_48 (lv_at hl 1 rfl) ?_
        refine lv_icmp_gt (tgt := 79) hx hb d_M_goes_50 (by decide) (fun c_25 => absurd c_25 (by decide)) (fun c_25 => ?_)
        refine lv_iload_n hx hb d_M_goes_53 rfl (lv_at hl 3 rfl) ?_
        refine lv_iload hx hb d_M_goes_54 (lv_at hl 0 rfl) ?_
        refine lv_iand hx hb d_M_goes_56 ?_
        refine lv_if_le (tgt := 70) hx hb d_M_goes_57 (by decide) (fun c_26 => absurd c_26 (by decide)) (fun c_26 => ?_)
        refine lv_aload_n hx hb d_M_goes_60 rfl (lv_at hl 2 rfl) ?_
        refine lv_dup hx hb d_M_goes_61 rfl ?_
        refine m_get (D := G) (ci := 6) (v := .int 0) (C := nR_M) (T := nT_M) (N := 21) hx hb hta in_M hown hK hM k_24 rfl 0 (by decide) (hta _ aw_543) (fun _ h9 => h9) rfl d_M_goes_62 ?_
        refine lv_iconst (v := 1) hx hb d_M_goes_65 (by decide) ?_
        refine lv_iadd hx hb d_M_goes_66 ?_
        refine m_put (D := G) (ci := 6) (v := .int (0 + 1)) (ty := .int) (C := nR_M) (T := nT_M) (N := 21) hx hb hta in_M nt_M nt_M_ok nn_M hown hK hM hS k_24 rfl 0 (by decide) (hta _ aw_543) (fun _ h9 => h9) rfl (by decide +kernel) rfl rfl (Nat.le_of_ble_eq_true rfl) d_M_goes_67 (fs' := [.int (0 + 1), .int no, .int wr, .int n, .ref (ad 0), .ref (ad 1), .ref (ad 2), .ref (ad 3), .ref (ad 4), .ref (ad 5), .int k, .ref (ad 6), .ref (ad 7), .ref (ad 8), .ref (ad 9), .int z, .int r, .int so, .ref (ad 10), .int pr, .ref (ad 11)]) rfl (fun H locs hM hS => ?_)
        obtain ⟨w_27, hw_27⟩ : ∃ z9 : Nat → Option va_E, z9 = va_up w_23 mm (some (.inr (6, [.int (0 + 1), .int no, .int wr, .int n, .ref (ad 0), .ref (ad 1), .ref (ad 2), .ref (ad 3), .ref (ad 4), .ref (ad 5), .int k, .ref (ad 6), .ref (ad 7), .ref (ad 8), .ref (ad 9), .int z, .int r, .int so, .ref (ad 10), .int pr, .ref (ad 11)]))) := ⟨_, rfl⟩
        rw [← hw_27] at hM
        have k_28 : w_27 mm = some (.inr (6, [.int (0 + 1), .int no, .int wr, .int n, .ref (ad 0), .ref (ad 1), .ref (ad 2), .ref (ad 3), .ref (ad 4), .ref (ad 5), .int k, .ref (ad 6), .ref (ad 7), .ref (ad 8), .ref (ad 9), .int z, .int r, .int so, .ref (ad 10), .int pr, .ref (ad 11)])) := by rw [hw_27, va_up_self]
        refine lv_iconst (v := 2) hx hb d_M_goes_70 (by decide) ?_
        refine lv_iload hx hb d_M_goes_71 (lv_at hl 0 rfl) ?_
        refine lv_imul hx hb d_M_goes_73 ?_
        refine lv_istore (lv' := [(7, .int (2 * 1)), (6, .int 4), (0, .ref mm), (1, .int 1), (2, .int b1), (3, .int b2), (4, .int b3), (5, .int b4)]) hx hb d_M_goes_74 hl (by decide) rfl (fun ls hl => ?_)
        refine lv_goto (tgt := 46) hx hb d_M_goes_76 (by decide) ?_
        refine lv_iload hx hb d_M_goes_46 (lv_at hl 0 rfl) ?_
        refine lv_iload hx hb d_M_goes_48 (lv_at hl 1 rfl) ?_
        refine lv_icmp_gt (tgt := 79) hx hb d_M_goes_50 (by decide) (fun c_29 => absurd c_29 (by decide)) (fun c_29 => ?_)
        refine lv_iload_n hx hb d_M_goes_53 rfl (lv_at hl 3 rfl) ?_
        refine lv_iload hx hb d_M_goes_54 (lv_at hl 0 rfl) ?_
        refine lv_iand hx hb d_M_goes_56 ?_
        refine lv_if_le (tgt := 70) hx hb d_M_goes_57 (by decide) (fun c_30 => ?_) (fun c_30 => absurd (by decide) c_30)
        refine lv_iconst (v := 2) hx hb d_M_goes_70 (by decide) ?_
        refine lv_iload hx hb d_M_goes_71 (lv_at hl 0 rfl) ?_
        refine lv_imul hx hb d_M_goes_73 ?_
        refine lv_istore (lv' := [(7, .int (2 * (2 * 1))), (6, .int 4), (0, .ref mm), (1, .int 1), (2, .int b1), (3, .int b2), (4, .int b3), (5, .int b4)]) hx hb d_M_goes_74 hl (by decide) rfl (fun ls hl => ?_)
        refine lv_goto (tgt := 46) hx hb d_M_goes_76 (by decide) ?_
        refine lv_iload hx hb d_M_goes_46 (lv_at hl 0 rfl) ?_
        refine lv_iload hx hb d_M_goes_48 (lv_at hl 1 rfl) ?_
        refine lv_icmp_gt (tgt := 79) hx hb d_M_goes_50 (by decide) (fun c_31 => absurd c_31 (by decide)) (fun c_31 => ?_)
        refine lv_iload_n hx hb d_M_goes_53 rfl (lv_at hl 3 rfl) ?_
        refine lv_iload hx hb d_M_goes_54 (lv_at hl 0 rfl) ?_
        refine lv_iand hx hb d_M_goes_56 ?_
        refine lv_if_le (tgt := 70) hx hb d_M_goes_57 (by decide) (fun c_32 => ?_) (fun c_32 => absurd (by decide) c_32)
        refine lv_iconst (v := 2) hx hb d_M_goes_70 (by decide) ?_
        refine lv_iload hx hb d_M_goes_71 (lv_at hl 0 rfl) ?_
        refine lv_imul hx hb d_M_goes_73 ?_
        refine lv_istore (lv' := [(7, .int (2 * (2 * (2 * 1)))), (6, .int 4), (0, .ref mm), (1, .int 1), (2, .int b1), (3, .int b2), (4, .int b3), (5, .int b4)]) hx hb d_M_goes_74 hl (by decide) rfl (fun ls hl => ?_)
        refine lv_goto (tgt := 46) hx hb d_M_goes_76 (by decide) ?_
        refine lv_iload hx hb d_M_goes_46 (lv_at hl 0 rfl) ?_
        refine lv_iload hx hb d_M_goes_48 (lv_at hl 1 rfl) ?_
        refine lv_icmp_gt (tgt := 79) hx hb d_M_goes_50 (by decide) (fun c_33 => ?_) (fun c_33 => absurd (by decide) c_33)
        refine lv_iload hx hb d_M_goes_79 (lv_at hl 1 rfl) ?_
        refine lv_if_ne (tgt := 88) hx hb d_M_goes_81 (by decide) (fun c_34 => ?_) (fun c_34 => absurd c_34 (by decide))
        refine lv_iconst (v := 0) hx hb d_M_goes_88 (by decide) ?_
        have hg : gC b1 b2 b3 b4 = 3 := by simp [gC, c_1, c_2, c_3]
        have hM9 : mw G ncl A (va_up w mm (some (eM ad (nI (gT 1 (gC b1 b2 b3 b4))) no wr n k z r so pr))) H := by rw [hg, show nI (gT 1 3) = 0 + 1 by decide]; rw [hw_27, hw_23, bx_uu] at hM; exact hM
        exact W.zret (v := 0) hx hb hr rfl (fun t ht hW => ⟨⟨0, (), rfl, by rw [hg]; rfl, by rw [ht]; exact hM9, va_K.moved hW.alike hK⟩, hS.F ht⟩) hS.2.2 d_M_goes_89
    · refine lv_iconst (v := 2) hx hb d_M_goes_12 (by decide) ?_
      refine lv_goto (tgt := 36) hx hb d_M_goes_13 (by decide) ?_
      refine lv_istore (lv' := [(6, .int 2), (0, .ref mm), (1, .int 1), (2, .int b1), (3, .int b2), (4, .int b3), (5, .int b4)]) hx hb d_M_goes_36 hl (by decide) rfl (fun ls hl => ?_)
      refine lv_aload_n hx hb d_M_goes_38 rfl (lv_at hl 1 rfl) ?_
      refine lv_iconst (v := 0) hx hb d_M_goes_39 (by decide) ?_
      refine m_put (D := G) (ci := 6) (v := .int 0) (ty := .int) (C := nR_M) (T := nT_M) (N := 21) hx hb hta in_M nt_M nt_M_ok nn_M hown hK hM hS hm rfl 0 (by decide) (hta _ aw_543) (fun _ h9 => h9) rfl (by decide +kernel) rfl rfl (Nat.le_of_ble_eq_true rfl) d_M_goes_40 (fs' := [.int 0, .int no, .int wr, .int n, .ref (ad 0), .ref (ad 1), .ref (ad 2), .ref (ad 3), .ref (ad 4), .ref (ad 5), .int k, .ref (ad 6), .ref (ad 7), .ref (ad 8), .ref (ad 9), .int z, .int r, .int so, .ref (ad 10), .int pr, .ref (ad 11)]) rfl (fun H locs hM hS => ?_)
      obtain ⟨w_35, hw_35⟩ : ∃ z9 : Nat → Option va_E, z9 = va_up w mm (some (.inr (6, [.int 0, .int no, .int wr, .int n, .ref (ad 0), .ref (ad 1), .ref (ad 2), .ref (ad 3), .ref (ad 4), .ref (ad 5), .int k, .ref (ad 6), .ref (ad 7), .ref (ad 8), .ref (ad 9), .int z, .int r, .int so, .ref (ad 10), .int pr, .ref (ad 11)]))) := ⟨_, rfl⟩
      rw [← hw_35] at hM
      have k_36 : w_35 mm = some (.inr (6, [.int 0, .int no, .int wr, .int n, .ref (ad 0), .ref (ad 1), .ref (ad 2), .ref (ad 3), .ref (ad 4), .ref (ad 5), .int k, .ref (ad 6), .ref (ad 7), .ref (ad 8), .ref (ad 9), .int z, .int r, .int so, .ref (ad 10), .int pr, .ref (ad 11)])) := by rw [hw_35, va_up_self]
      refine lv_iconst (v := 1) hx hb d_M_goes_43 (by decide) ?_
      refine lv_istore (lv' := [(7, .int 1), (6, .int 2), (0, .ref mm), (1, .int 1), (2, .int b1), (3, .int b2), (4, .int b3), (5, .int b4)]) hx hb d_M_goes_44 hl (by decide) rfl (fun ls hl => ?_)
      refine lv_iload hx hb d_M_goes_46 (lv_at hl 0 rfl) ?_
      refine lv_iload hx hb d_M_goes_48 (lv_at hl 1 rfl) ?_
      refine lv_icmp_gt (tgt := 79) hx hb d_M_goes_50 (by decide) (fun c_37 => absurd c_37 (by decide)) (fun c_37 => ?_)
      refine lv_iload_n hx hb d_M_goes_53 rfl (lv_at hl 3 rfl) ?_
      refine lv_iload hx hb d_M_goes_54 (lv_at hl 0 rfl) ?_
      refine lv_iand hx hb d_M_goes_56 ?_
      refine lv_if_le (tgt := 70) hx hb d_M_goes_57 (by decide) (fun c_38 => absurd c_38 (by decide)) (fun c_38 => ?_)
      refine lv_aload_n hx hb d_M_goes_60 rfl (lv_at hl 2 rfl) ?_
      refine lv_dup hx hb d_M_goes_61 rfl ?_
      refine m_get (D := G) (ci := 6) (v := .int 0) (C := nR_M) (T := nT_M) (N := 21) hx hb hta in_M hown hK hM k_36 rfl 0 (by decide) (hta _ aw_543) (fun _ h9 => h9) rfl d_M_goes_62 ?_
      refine lv_iconst (v := 1) hx hb d_M_goes_65 (by decide) ?_
      refine lv_iadd hx hb d_M_goes_66 ?_
      refine m_put (D := G) (ci := 6) (v := .int (0 + 1)) (ty := .int) (C := nR_M) (T := nT_M) (N := 21) hx hb hta in_M nt_M nt_M_ok nn_M hown hK hM hS k_36 rfl 0 (by decide) (hta _ aw_543) (fun _ h9 => h9) rfl (by decide +kernel) rfl rfl (Nat.le_of_ble_eq_true rfl) d_M_goes_67 (fs' := [.int (0 + 1), .int no, .int wr, .int n, .ref (ad 0), .ref (ad 1), .ref (ad 2), .ref (ad 3), .ref (ad 4), .ref (ad 5), .int k, .ref (ad 6), .ref (ad 7), .ref (ad 8), .ref (ad 9), .int z, .int r, .int so, .ref (ad 10), .int pr, .ref (ad 11)]) rfl (fun H locs hM hS => ?_)
      obtain ⟨w_39, hw_39⟩ : ∃ z9 : Nat → Option va_E, z9 = va_up w_35 mm (some (.inr (6, [.int (0 + 1), .int no, .int wr, .int n, .ref (ad 0), .ref (ad 1), .ref (ad 2), .ref (ad 3), .ref (ad 4), .ref (ad 5), .int k, .ref (ad 6), .ref (ad 7), .ref (ad 8), .ref (ad 9), .int z, .int r, .int so, .ref (ad 10), .int pr, .ref (ad 11)]))) := ⟨_, rfl⟩
      rw [← hw_39] at hM
      have k_40 : w_39 mm = some (.inr (6, [.int (0 + 1), .int no, .int wr, .int n, .ref (ad 0), .ref (ad 1), .ref (ad 2), .ref (ad 3), .ref (ad 4), .ref (ad 5), .int k, .ref (ad 6), .ref (ad 7), .ref (ad 8), .ref (ad 9), .int z, .int r, .int so, .ref (ad 10), .int pr, .ref (ad 11)])) := by rw [hw_39, va_up_self]
      refine lv_iconst (v := 2) hx hb d_M_goes_70 (by decide) ?_
      refine lv_iload hx hb d_M_goes_71 (lv_at hl 0 rfl) ?_
      refine lv_imul hx hb d_M_goes_73 ?_
      refine lv_istore (lv' := [(7, .int (2 * 1)), (6, .int 2), (0, .ref mm), (1, .int 1), (2, .int b1), (3, .int b2), (4, .int b3), (5, .int b4)]) hx hb d_M_goes_74 hl (by decide) rfl (fun ls hl => ?_)
      refine lv_goto (tgt := 46) hx hb d_M_goes_76 (by decide) ?_
      refine lv_iload hx hb d_M_goes_46 (lv_at hl 0 rfl) ?_
      refine lv_iload hx hb d_M_goes_48 (lv_at hl 1 rfl) ?_
      refine lv_icmp_gt (tgt := 79) hx hb d_M_goes_50 (by decide) (fun c_41 => absurd c_41 (by decide)) (fun c_41 => ?_)
      refine lv_iload_n hx hb d_M_goes_53 rfl (lv_at hl 3 rfl) ?_
      refine lv_iload hx hb d_M_goes_54 (lv_at hl 0 rfl) ?_
      refine lv_iand hx hb d_M_goes_56 ?_
      refine lv_if_le (tgt := 70) hx hb d_M_goes_57 (by decide) (fun c_42 => ?_) (fun c_42 => absurd (by decide) c_42)
      refine lv_iconst (v := 2) hx hb d_M_goes_70 (by decide) ?_
      refine lv_iload hx hb d_M_goes_71 (lv_at hl 0 rfl) ?_
      refine lv_imul hx hb d_M_goes_73 ?_
      refine lv_istore (lv' := [(7, .int (2 * (2 * 1))), (6, .int 2), (0, .ref mm), (1, .int 1), (2, .int b1), (3, .int b2), (4, .int b3), (5, .int b4)]) hx hb d_M_goes_74 hl (by decide) rfl (fun ls hl => ?_)
      refine lv_goto (tgt := 46) hx hb d_M_goes_76 (by decide) ?_
      refine lv_iload hx hb d_M_goes_46 (lv_at hl 0 rfl) ?_
      refine lv_iload hx hb d_M_goes_48 (lv_at hl 1 rfl) ?_
      refine lv_icmp_gt (tgt := 79) hx hb d_M_goes_50 (by decide) (fun c_43 => ?_) (fun c_43 => absurd (by decide) c_43)
      refine lv_iload hx hb d_M_goes_79 (lv_at hl 1 rfl) ?_
      refine lv_if_ne (tgt := 88) hx hb d_M_goes_81 (by decide) (fun c_44 => ?_) (fun c_44 => absurd c_44 (by decide))
      refine lv_iconst (v := 0) hx hb d_M_goes_88 (by decide) ?_
      have hg : gC b1 b2 b3 b4 = 2 := by simp [gC, c_1, c_2]
      have hM9 : mw G ncl A (va_up w mm (some (eM ad (nI (gT 1 (gC b1 b2 b3 b4))) no wr n k z r so pr))) H := by rw [hg, show nI (gT 1 2) = 0 + 1 by decide]; rw [hw_39, hw_35, bx_uu] at hM; exact hM
      exact W.zret (v := 0) hx hb hr rfl (fun t ht hW => ⟨⟨0, (), rfl, by rw [hg]; rfl, by rw [ht]; exact hM9, va_K.moved hW.alike hK⟩, hS.F ht⟩) hS.2.2 d_M_goes_89
  · refine lv_iconst (v := 1) hx hb d_M_goes_4 (by decide) ?_
    refine lv_goto (tgt := 36) hx hb d_M_goes_5 (by decide) ?_
    refine lv_istore (lv' := [(6, .int 1), (0, .ref mm), (1, .int 1), (2, .int b1), (3, .int b2), (4, .int b3), (5, .int b4)]) hx hb d_M_goes_36 hl (by decide) rfl (fun ls hl => ?_)
    refine lv_aload_n hx hb d_M_goes_38 rfl (lv_at hl 1 rfl) ?_
    refine lv_iconst (v := 0) hx hb d_M_goes_39 (by decide) ?_
    refine m_put (D := G) (ci := 6) (v := .int 0) (ty := .int) (C := nR_M) (T := nT_M) (N := 21) hx hb hta in_M nt_M nt_M_ok nn_M hown hK hM hS hm rfl 0 (by decide) (hta _ aw_543) (fun _ h9 => h9) rfl (by decide +kernel) rfl rfl (Nat.le_of_ble_eq_true rfl) d_M_goes_40 (fs' := [.int 0, .int no, .int wr, .int n, .ref (ad 0), .ref (ad 1), .ref (ad 2), .ref (ad 3), .ref (ad 4), .ref (ad 5), .int k, .ref (ad 6), .ref (ad 7), .ref (ad 8), .ref (ad 9), .int z, .int r, .int so, .ref (ad 10), .int pr, .ref (ad 11)]) rfl (fun H locs hM hS => ?_)
    obtain ⟨w_45, hw_45⟩ : ∃ z9 : Nat → Option va_E, z9 = va_up w mm (some (.inr (6, [.int 0, .int no, .int wr, .int n, .ref (ad 0), .ref (ad 1), .ref (ad 2), .ref (ad 3), .ref (ad 4), .ref (ad 5), .int k, .ref (ad 6), .ref (ad 7), .ref (ad 8), .ref (ad 9), .int z, .int r, .int so, .ref (ad 10), .int pr, .ref (ad 11)]))) := ⟨_, rfl⟩
    rw [← hw_45] at hM
    have k_46 : w_45 mm = some (.inr (6, [.int 0, .int no, .int wr, .int n, .ref (ad 0), .ref (ad 1), .ref (ad 2), .ref (ad 3), .ref (ad 4), .ref (ad 5), .int k, .ref (ad 6), .ref (ad 7), .ref (ad 8), .ref (ad 9), .int z, .int r, .int so, .ref (ad 10), .int pr, .ref (ad 11)])) := by rw [hw_45, va_up_self]
    refine lv_iconst (v := 1) hx hb d_M_goes_43 (by decide) ?_
    refine lv_istore (lv' := [(7, .int 1), (6, .int 1), (0, .ref mm), (1, .int 1), (2, .int b1), (3, .int b2), (4, .int b3), (5, .int b4)]) hx hb d_M_goes_44 hl (by decide) rfl (fun ls hl => ?_)
    refine lv_iload hx hb d_M_goes_46 (lv_at hl 0 rfl) ?_
    refine lv_iload hx hb d_M_goes_48 (lv_at hl 1 rfl) ?_
    refine lv_icmp_gt (tgt := 79) hx hb d_M_goes_50 (by decide) (fun c_47 => absurd c_47 (by decide)) (fun c_47 => ?_)
    refine lv_iload_n hx hb d_M_goes_53 rfl (lv_at hl 3 rfl) ?_
    refine lv_iload hx hb d_M_goes_54 (lv_at hl 0 rfl) ?_
    refine lv_iand hx hb d_M_goes_56 ?_
    refine lv_if_le (tgt := 70) hx hb d_M_goes_57 (by decide) (fun c_48 => absurd c_48 (by decide)) (fun c_48 => ?_)
    refine lv_aload_n hx hb d_M_goes_60 rfl (lv_at hl 2 rfl) ?_
    refine lv_dup hx hb d_M_goes_61 rfl ?_
    refine m_get (D := G) (ci := 6) (v := .int 0) (C := nR_M) (T := nT_M) (N := 21) hx hb hta in_M hown hK hM k_46 rfl 0 (by decide) (hta _ aw_543) (fun _ h9 => h9) rfl d_M_goes_62 ?_
    refine lv_iconst (v := 1) hx hb d_M_goes_65 (by decide) ?_
    refine lv_iadd hx hb d_M_goes_66 ?_
    refine m_put (D := G) (ci := 6) (v := .int (0 + 1)) (ty := .int) (C := nR_M) (T := nT_M) (N := 21) hx hb hta in_M nt_M nt_M_ok nn_M hown hK hM hS k_46 rfl 0 (by decide) (hta _ aw_543) (fun _ h9 => h9) rfl (by decide +kernel) rfl rfl (Nat.le_of_ble_eq_true rfl) d_M_goes_67 (fs' := [.int (0 + 1), .int no, .int wr, .int n, .ref (ad 0), .ref (ad 1), .ref (ad 2), .ref (ad 3), .ref (ad 4), .ref (ad 5), .int k, .ref (ad 6), .ref (ad 7), .ref (ad 8), .ref (ad 9), .int z, .int r, .int so, .ref (ad 10), .int pr, .ref (ad 11)]) rfl (fun H locs hM hS => ?_)
    obtain ⟨w_49, hw_49⟩ : ∃ z9 : Nat → Option va_E, z9 = va_up w_45 mm (some (.inr (6, [.int (0 + 1), .int no, .int wr, .int n, .ref (ad 0), .ref (ad 1), .ref (ad 2), .ref (ad 3), .ref (ad 4), .ref (ad 5), .int k, .ref (ad 6), .ref (ad 7), .ref (ad 8), .ref (ad 9), .int z, .int r, .int so, .ref (ad 10), .int pr, .ref (ad 11)]))) := ⟨_, rfl⟩
    rw [← hw_49] at hM
    have k_50 : w_49 mm = some (.inr (6, [.int (0 + 1), .int no, .int wr, .int n, .ref (ad 0), .ref (ad 1), .ref (ad 2), .ref (ad 3), .ref (ad 4), .ref (ad 5), .int k, .ref (ad 6), .ref (ad 7), .ref (ad 8), .ref (ad 9), .int z, .int r, .int so, .ref (ad 10), .int pr, .ref (ad 11)])) := by rw [hw_49, va_up_self]
    refine lv_iconst (v := 2) hx hb d_M_goes_70 (by decide) ?_
    refine lv_iload hx hb d_M_goes_71 (lv_at hl 0 rfl) ?_
    refine lv_imul hx hb d_M_goes_73 ?_
    refine lv_istore (lv' := [(7, .int (2 * 1)), (6, .int 1), (0, .ref mm), (1, .int 1), (2, .int b1), (3, .int b2), (4, .int b3), (5, .int b4)]) hx hb d_M_goes_74 hl (by decide) rfl (fun ls hl => ?_)
    refine lv_goto (tgt := 46) hx hb d_M_goes_76 (by decide) ?_
    refine lv_iload hx hb d_M_goes_46 (lv_at hl 0 rfl) ?_
    refine lv_iload hx hb d_M_goes_48 (lv_at hl 1 rfl) ?_
    refine lv_icmp_gt (tgt := 79) hx hb d_M_goes_50 (by decide) (fun c_51 => ?_) (fun c_51 => absurd (by decide) c_51)
    refine lv_iload hx hb d_M_goes_79 (lv_at hl 1 rfl) ?_
    refine lv_if_ne (tgt := 88) hx hb d_M_goes_81 (by decide) (fun c_52 => ?_) (fun c_52 => absurd c_52 (by decide))
    refine lv_iconst (v := 0) hx hb d_M_goes_88 (by decide) ?_
    have hg : gC b1 b2 b3 b4 = 1 := by simp [gC, c_1]
    have hM9 : mw G ncl A (va_up w mm (some (eM ad (nI (gT 1 (gC b1 b2 b3 b4))) no wr n k z r so pr))) H := by rw [hg, show nI (gT 1 1) = 0 + 1 by decide]; rw [hw_49, hw_45, bx_uu] at hM; exact hM
    exact W.zret (v := 0) hx hb hr rfl (fun t ht hW => ⟨⟨0, (), rfl, by rw [hg]; rfl, by rw [ht]; exact hM9, va_K.moved hW.alike hK⟩, hS.F ht⟩) hS.2.2 d_M_goes_89
set_option maxHeartbeats 4000000 in
set_option maxRecDepth 100000 in
theorem k_M_goes_7 (l : Launch) (G : va_G) (q0 q1 : ClassId × FieldType) (cI : ClassId) (ty2 : List (ClassId × FieldType)) (w : Nat → Option va_E) {mm : Nat} {ad : Nat → Nat} {f : Nat → Nat → Int32} {th no wr n k z r so pr : Int32} (hm : w mm = some (eM ad th no wr n k z r so pr)) (hma : ∀ i, i < 12 → w (ad i) = some (aI cI (msz i) (f i))) (b1 b2 b3 b4 : Int32) (sz : Nat) : Met l y_M_goes (wm y_M_goes c_M_goes 8 (some .boolean)) ({ frames := 0, cells := 0, slots := 0, locals := 0 }) (pZ G (q0 :: q1 :: (cI, .int) :: ty2) w sz [.ref mm, .int 7, .int b1, .int b2, .int b3, .int b4]) (va_Qi (fun (r0 : Int32) (u : Unit) => r0 = if gC b1 b2 b3 b4 = 0 then 1 else 0) (fun _ t => mw G ncl (mA w sz) (va_up w mm (some (eM ad (nI (gT 7 (gC b1 b2 b3 b4))) no wr n k z r so pr))) t.heap ∧ va_K G ncl (q0 :: q1 :: (cI, .int) :: ty2) t) (mA w sz)) 0 0 (mA w sz) := by
  refine Met.ofW (cc := c_M_goes) (maxL := 8) (ret := (some .boolean)) (by decide) rfl ?_
  intro p e s m args below meth c s₁ B hml hv
  obtain ⟨rfl, hsz, hM0, hK⟩ := hv
  have hx := B.exec
  have hb := B.bytes
  have hr := B.returns
  have hts := atoms_spec (ws := (wm y_M_goes c_M_goes 8 (some .boolean))) B.pre
  have hta : ∀ w ∈ AL, w.before _ s = true := fun w h => hts w (List.mem_cons_of_mem _ h)
  have hown : s.vm.findClass nR_M = some m.cls := findClass_of_methodNamed B.named
  have hlocks := B.notSynchronized
  have hl := lv_entry ([.ref mm, .int 7, .int b1, .int b2, .int b3, .int b4]) (n := 8) (Nat.le_of_ble_eq_true rfl)
  rw [lg_entry_eq]
  generalize (lg_sl ([.ref mm, .int 7, .int b1, .int b2, .int b3, .int b4]) ++ List.replicate (8 - (lg_sl ([.ref mm, .int 7, .int b1, .int b2, .int b3, .int b4])).length) Slot.unset).toArray = ls at hl ⊢
  have hl : lv_has ls 8 [(0, .ref mm), (1, .int 7), (2, .int b1), (3, .int b2), (4, .int b3), (5, .int b4)] := hl
  subst hsz
  have hM := mw_self (sz := s.heap.size) hM0
  clear hM0
  generalize hAe : mA w s.heap.size = A at hM ⊢
  have hA : ∀ q : Nat, s.heap.size ≤ q → A q := fun q h => by rw [← hAe]; exact Or.inr h
  have hS : va_S A s.heap s.heap [] := va_S.rf
  refine lv_iload_n hx hb d_M_goes_0 rfl (lv_at hl 2 rfl) ?_
  refine lv_if_ne (tgt := 8) hx hb d_M_goes_1 (by decide) (fun c_1 => ?_) (fun c_1 => ?_)
  · refine lv_iload_n hx hb d_M_goes_8 rfl (lv_at hl 3 rfl) ?_
    refine lv_if_ne (tgt := 16) hx hb d_M_goes_9 (by decide) (fun c_2 => ?_) (fun c_2 => ?_)
    · refine lv_iload hx hb d_M_goes_16 (lv_at hl 4 rfl) ?_
      refine lv_if_ne (tgt := 25) hx hb d_M_goes_18 (by decide) (fun c_3 => ?_) (fun c_3 => ?_)
      · refine lv_iload hx hb d_M_goes_25 (lv_at hl 5 rfl) ?_
        refine lv_if_ne (tgt := 35) hx hb d_M_goes_27 (by decide) (fun c_4 => ?_) (fun c_4 => ?_)
        · refine lv_iconst (v := 0) hx hb d_M_goes_35 (by decide) ?_
          refine lv_istore (lv' := [(6, .int 0), (0, .ref mm), (1, .int 7), (2, .int b1), (3, .int b2), (4, .int b3), (5, .int b4)]) hx hb d_M_goes_36 hl (by decide) rfl (fun ls hl => ?_)
          refine lv_aload_n hx hb d_M_goes_38 rfl (lv_at hl 1 rfl) ?_
          refine lv_iconst (v := 0) hx hb d_M_goes_39 (by decide) ?_
          refine m_put (D := G) (ci := 6) (v := .int 0) (ty := .int) (C := nR_M) (T := nT_M) (N := 21) hx hb hta in_M nt_M nt_M_ok nn_M hown hK hM hS hm rfl 0 (by decide) (hta _ aw_543) (fun _ h9 => h9) rfl (by decide +kernel) rfl rfl (Nat.le_of_ble_eq_true rfl) d_M_goes_40 (fs' := [.int 0, .int no, .int wr, .int n, .ref (ad 0), .ref (ad 1), .ref (ad 2), .ref (ad 3), .ref (ad 4), .ref (ad 5), .int k, .ref (ad 6), .ref (ad 7), .ref (ad 8), .ref (ad 9), .int z, .int r, .int so, .ref (ad 10), .int pr, .ref (ad 11)]) rfl (fun H locs hM hS => ?_)
          obtain ⟨w_5, hw_5⟩ : ∃ z9 : Nat → Option va_E, z9 = va_up w mm (some (.inr (6, [.int 0, .int no, .int wr, .int n, .ref (ad 0), .ref (ad 1), .ref (ad 2), .ref (ad 3), .ref (ad 4), .ref (ad 5), .int k, .ref (ad 6), .ref (ad 7), .ref (ad 8), .ref (ad 9), .int z, .int r, .int so, .ref (ad 10), .int pr, .ref (ad 11)]))) := ⟨_, rfl⟩
          rw [← hw_5] at hM
          have k_6 : w_5 mm = some (.inr (6, [.int 0, .int no, .int wr, .int n, .ref (ad 0), .ref (ad 1), .ref (ad 2), .ref (ad 3), .ref (ad 4), .ref (ad 5), .int k, .ref (ad 6), .ref (ad 7), .ref (ad 8), .ref (ad 9), .int z, .int r, .int so, .ref (ad 10), .int pr, .ref (ad 11)])) := by rw [hw_5, va_up_self]
          refine lv_iconst (v := 1) hx hb d_M_goes_43 (by decide) ?_
          refine lv_istore (lv' := [(7, .int 1), (6, .int 0), (0, .ref mm), (1, .int 7), (2, .int b1), (3, .int b2), (4, .int b3), (5, .int b4)]) hx hb d_M_goes_44 hl (by decide) rfl (fun ls hl => ?_)
          refine lv_iload hx hb d_M_goes_46 (lv_at hl 0 rfl) ?_
          refine lv_iload hx hb d_M_goes_48 (lv_at hl 1 rfl) ?_
          refine lv_icmp_gt (tgt := 79) hx hb d_M_goes_50 (by decide) (fun c_7 => ?_) (fun c_7 => absurd (by decide) c_7)
          refine lv_iload hx hb d_M_goes_79 (lv_at hl 1 rfl) ?_
          refine lv_if_ne (tgt := 88) hx hb d_M_goes_81 (by decide) (fun c_8 => absurd (by decide) c_8) (fun c_8 => ?_)
          refine lv_iconst (v := 1) hx hb d_M_goes_84 (by decide) ?_
          refine lv_goto (tgt := 89) hx hb d_M_goes_85 (by decide) ?_
          have hg : gC b1 b2 b3 b4 = 0 := by simp [gC, c_1, c_2, c_3, c_4]
          have hM9 : mw G ncl A (va_up w mm (some (eM ad (nI (gT 7 (gC b1 b2 b3 b4))) no wr n k z r so pr))) H := by rw [hg, show nI (gT 7 0) = 0 by decide]; rw [hw_5] at hM; exact hM
          exact W.zret (v := 1) hx hb hr rfl (fun t ht hW => ⟨⟨1, (), rfl, by rw [hg]; rfl, by rw [ht]; exact hM9, va_K.moved hW.alike hK⟩, hS.F ht⟩) hS.2.2 d_M_goes_89
        · refine lv_bipush (v := 8) hx hb d_M_goes_30 (by decide) ?_
          refine lv_goto (tgt := 36) hx hb d_M_goes_32 (by decide) ?_
          refine lv_istore (lv' := [(6, .int 8), (0, .ref mm), (1, .int 7), (2, .int b1), (3, .int b2), (4, .int b3), (5, .int b4)]) hx hb d_M_goes_36 hl (by decide) rfl (fun ls hl => ?_)
          refine lv_aload_n hx hb d_M_goes_38 rfl (lv_at hl 1 rfl) ?_
          refine lv_iconst (v := 0) hx hb d_M_goes_39 (by decide) ?_
          refine m_put (D := G) (ci := 6) (v := .int 0) (ty := .int) (C := nR_M) (T := nT_M) (N := 21) hx hb hta in_M nt_M nt_M_ok nn_M hown hK hM hS hm rfl 0 (by decide) (hta _ aw_543) (fun _ h9 => h9) rfl (by decide +kernel) rfl rfl (Nat.le_of_ble_eq_true rfl) d_M_goes_40 (fs' := [.int 0, .int no, .int wr, .int n, .ref (ad 0), .ref (ad 1), .ref (ad 2), .ref (ad 3), .ref (ad 4), .ref (ad 5), .int k, .ref (ad 6), .ref (ad 7), .ref (ad 8), .ref (ad 9), .int z, .int r, .int so, .ref (ad 10), .int pr, .ref (ad 11)]) rfl (fun H locs hM hS => ?_)
          obtain ⟨w_9, hw_9⟩ : ∃ z9 : Nat → Option va_E, z9 = va_up w mm (some (.inr (6, [.int 0, .int no, .int wr, .int n, .ref (ad 0), .ref (ad 1), .ref (ad 2), .ref (ad 3), .ref (ad 4), .ref (ad 5), .int k, .ref (ad 6), .ref (ad 7), .ref (ad 8), .ref (ad 9), .int z, .int r, .int so, .ref (ad 10), .int pr, .ref (ad 11)]))) := ⟨_, rfl⟩
          rw [← hw_9] at hM
          have k_10 : w_9 mm = some (.inr (6, [.int 0, .int no, .int wr, .int n, .ref (ad 0), .ref (ad 1), .ref (ad 2), .ref (ad 3), .ref (ad 4), .ref (ad 5), .int k, .ref (ad 6), .ref (ad 7), .ref (ad 8), .ref (ad 9), .int z, .int r, .int so, .ref (ad 10), .int pr, .ref (ad 11)])) := by rw [hw_9, va_up_self]
          refine lv_iconst (v := 1) hx hb d_M_goes_43 (by decide) ?_
          refine lv_istore (lv' := [(7, .int 1), (6, .int 8), (0, .ref mm), (1, .int 7), (2, .int b1), (3, .int b2), (4, .int b3), (5, .int b4)]) hx hb d_M_goes_44 hl (by decide) rfl (fun ls hl => ?_)
          refine lv_iload hx hb d_M_goes_46 (lv_at hl 0 rfl) ?_
          refine lv_iload hx hb d_M_goes_48 (lv_at hl 1 rfl) ?_
          refine lv_icmp_gt (tgt := 79) hx hb d_M_goes_50 (by decide) (fun c_11 => absurd c_11 (by decide)) (fun c_11 => ?_)
          refine lv_iload_n hx hb d_M_goes_53 rfl (lv_at hl 3 rfl) ?_
          refine lv_iload hx hb d_M_goes_54 (lv_at hl 0 rfl) ?_
          refine lv_iand hx hb d_M_goes_56 ?_
          refine lv_if_le (tgt := 70) hx hb d_M_goes_57 (by decide) (fun c_12 => absurd c_12 (by decide)) (fun c_12 => ?_)
          refine lv_aload_n hx hb d_M_goes_60 rfl (lv_at hl 2 rfl) ?_
          refine lv_dup hx hb d_M_goes_61 rfl ?_
          refine m_get (D := G) (ci := 6) (v := .int 0) (C := nR_M) (T := nT_M) (N := 21) hx hb hta in_M hown hK hM k_10 rfl 0 (by decide) (hta _ aw_543) (fun _ h9 => h9) rfl d_M_goes_62 ?_
          refine lv_iconst (v := 1) hx hb d_M_goes_65 (by decide) ?_
          refine lv_iadd hx hb d_M_goes_66 ?_
          refine m_put (D := G) (ci := 6) (v := .int (0 + 1)) (ty := .int) (C := nR_M) (T := nT_M) (N := 21) hx hb hta in_M nt_M nt_M_ok nn_M hown hK hM hS k_10 rfl 0 (by decide) (hta _ aw_543) (fun _ h9 => h9) rfl (by decide +kernel) rfl rfl (Nat.le_of_ble_eq_true rfl) d_M_goes_67 (fs' := [.int (0 + 1), .int no, .int wr, .int n, .ref (ad 0), .ref (ad 1), .ref (ad 2), .ref (ad 3), .ref (ad 4), .ref (ad 5), .int k, .ref (ad 6), .ref (ad 7), .ref (ad 8), .ref (ad 9), .int z, .int r, .int so, .ref (ad 10), .int pr, .ref (ad 11)]) rfl (fun H locs hM hS => ?_)
          obtain ⟨w_13, hw_13⟩ : ∃ z9 : Nat → Option va_E, z9 = va_up w_9 mm (some (.inr (6, [.int (0 + 1), .int no, .int wr, .int n, .ref (ad 0), .ref (ad 1), .ref (ad 2), .ref (ad 3), .ref (ad 4), .ref (ad 5), .int k, .ref (ad 6), .ref (ad 7), .ref (ad 8), .ref (ad 9), .int z, .int r, .int so, .ref (ad 10), .int pr, .ref (ad 11)]))) := ⟨_, rfl⟩
          rw [← hw_13] at hM
          have k_14 : w_13 mm = some (.inr (6, [.int (0 + 1), .int no, .int wr, .int n, .ref (ad 0), .ref (ad 1), .ref (ad 2), .ref (ad 3), .ref (ad 4), .ref (ad 5), .int k, .ref (ad 6), .ref (ad 7), .ref (ad 8), .ref (ad 9), .int z, .int r, .int so, .ref (ad 10), .int pr, .ref (ad 11)])) := by rw [hw_13, va_up_self]
          refine lv_iconst (v := 2) hx hb d_M_goes_70 (by decide) ?_
          refine lv_iload hx hb d_M_goes_71 (lv_at hl 0 rfl) ?_
          refine lv_imul hx hb d_M_goes_73 ?_
          refine lv_istore (lv' := [(7, .int (2 * 1)), (6, .int 8), (0, .ref mm), (1, .int 7), (2, .int b1), (3, .int b2), (4, .int b3), (5, .int b4)]) hx hb d_M_goes_74 hl (by decide) rfl (fun ls hl => ?_)
          refine lv_goto (tgt := 46) hx hb d_M_goes_76 (by decide) ?_
          refine lv_iload hx hb d_M_goes_46 (lv_at hl 0 rfl) ?_
          refine lv_iload hx hb d_M_goes_48 (lv_at hl 1 rfl) ?_
          refine lv_icmp_gt (tgt := 79) hx hb d_M_goes_50 (by decide) (fun c_15 => absurd c_15 (by decide)) (fun c_15 => ?_)
          refine lv_iload_n hx hb d_M_goes_53 rfl (lv_at hl 3 rfl) ?_
          refine lv_iload hx hb d_M_goes_54 (lv_at hl 0 rfl) ?_
          refine lv_iand hx hb d_M_goes_56 ?_
          refine lv_if_le (tgt := 70) hx hb d_M_goes_57 (by decide) (fun c_16 => absurd c_16 (by decide)) (fun c_16 => ?_)
          refine lv_aload_n hx hb d_M_goes_60 rfl (lv_at hl 2 rfl) ?_
          refine lv_dup hx hb d_M_goes_61 rfl ?_
          refine m_get (D := G) (ci := 6) (v := .int (0 + 1)) (C := nR_M) (T := nT_M) (N := 21) hx hb hta in_M hown hK hM k_14 rfl 0 (by decide) (hta _ aw_543) (fun _ h9 => h9) rfl d_M_goes_62 ?_
          refine lv_iconst (v := 1) hx hb d_M_goes_65 (by decide) ?_
          refine lv_iadd hx hb d_M_goes_66 ?_
          refine m_put (D := G) (ci := 6) (v := .int ((0 + 1) + 1)) (ty := .int) (C := nR_M) (T := nT_M) (N := 21) hx hb hta in_M nt_M nt_M_ok nn_M hown hK hM hS k_14 rfl 0 (by decide) (hta _ aw_543) (fun _ h9 => h9) rfl (by decide +kernel) rfl rfl (Nat.le_of_ble_eq_true rfl) d_M_goes_67 (fs' := [.int ((0 + 1) + 1), .int no, .int wr, .int n, .ref (ad 0), .ref (ad 1), .ref (ad 2), .ref (ad 3), .ref (ad 4), .ref (ad 5), .int k, .ref (ad 6), .ref (ad 7), .ref (ad 8), .ref (ad 9), .int z, .int r, .int so, .ref (ad 10), .int pr, .ref (ad 11)]) rfl (fun H locs hM hS => ?_)
          obtain ⟨w_17, hw_17⟩ : ∃ z9 : Nat → Option va_E, z9 = va_up w_13 mm (some (.inr (6, [.int ((0 + 1) + 1), .int no, .int wr, .int n, .ref (ad 0), .ref (ad 1), .ref (ad 2), .ref (ad 3), .ref (ad 4), .ref (ad 5), .int k, .ref (ad 6), .ref (ad 7), .ref (ad 8), .ref (ad 9), .int z, .int r, .int so, .ref (ad 10), .int pr, .ref (ad 11)]))) := ⟨_, rfl⟩
          rw [← hw_17] at hM
          have k_18 : w_17 mm = some (.inr (6, [.int ((0 + 1) + 1), .int no, .int wr, .int n, .ref (ad 0), .ref (ad 1), .ref (ad 2), .ref (ad 3), .ref (ad 4), .ref (ad 5), .int k, .ref (ad 6), .ref (ad 7), .ref (ad 8), .ref (ad 9), .int z, .int r, .int so, .ref (ad 10), .int pr, .ref (ad 11)])) := by rw [hw_17, va_up_self]
          refine lv_iconst (v := 2) hx hb d_M_goes_70 (by decide) ?_
          refine lv_iload hx hb d_M_goes_71 (lv_at hl 0 rfl) ?_
          refine lv_imul hx hb d_M_goes_73 ?_
          refine lv_istore (lv' := [(7, .int (2 * (2 * 1))), (6, .int 8), (0, .ref mm), (1, .int 7), (2, .int b1), (3, .int b2), (4, .int b3), (5, .int b4)]) hx hb d_M_goes_74 hl (by decide) rfl (fun ls hl => ?_)
          refine lv_goto (tgt := 46) hx hb d_M_goes_76 (by decide) ?_
          refine lv_iload hx hb d_M_goes_46 (lv_at hl 0 rfl) ?_
          refine lv_iload hx hb d_M_goes_48 (lv_at hl 1 rfl) ?_
          refine lv_icmp_gt (tgt := 79) hx hb d_M_goes_50 (by decide) (fun c_19 => absurd c_19 (by decide)) (fun c_19 => ?_)
          refine lv_iload_n hx hb d_M_goes_53 rfl (lv_at hl 3 rfl) ?_
          refine lv_iload hx hb d_M_goes_54 (lv_at hl 0 rfl) ?_
          refine lv_iand hx hb d_M_goes_56 ?_
          refine lv_if_le (tgt := 70) hx hb d_M_goes_57 (by decide) (fun c_20 => absurd c_20 (by decide)) (fun c_20 => ?_)
          refine lv_aload_n hx hb d_M_goes_60 rfl (lv_at hl 2 rfl) ?_
          refine lv_dup hx hb d_M_goes_61 rfl ?_
          refine m_get (D := G) (ci := 6) (v := .int ((0 + 1) + 1)) (C := nR_M) (T := nT_M) (N := 21) hx hb hta in_M hown hK hM k_18 rfl 0 (by decide) (hta _ aw_543) (fun _ h9 => h9) rfl d_M_goes_62 ?_
          refine lv_iconst (v := 1) hx hb d_M_goes_65 (by decide) ?_
          refine lv_iadd hx hb d_M_goes_66 ?_
          refine m_put (D := G) (ci := 6) (v := .int (((0 + 1) + 1) + 1)) (ty := .int) (C := nR_M) (T := nT_M) (N := 21) hx hb hta in_M nt_M nt_M_ok nn_M hown hK hM hS k_18 rfl 0 (by decide) (hta _ aw_543) (fun _ h9 => h9) rfl (by decide +kernel) rfl rfl (Nat.le_of_ble_eq_true rfl) d_M_goes_67 (fs' := [.int (((0 + 1) + 1) + 1), .int no, .int wr, .int n, .ref (ad 0), .ref (ad 1), .ref (ad 2), .ref (ad 3), .ref (ad 4), .ref (ad 5), .int k, .ref (ad 6), .ref (ad 7), .ref (ad 8), .ref (ad 9), .int z, .int r, .int so, .ref (ad 10), .int pr, .ref (ad 11)]) rfl (fun H locs hM hS => ?_)
          obtain ⟨w_21, hw_21⟩ : ∃ z9 : Nat → Option va_E, z9 = va_up w_17 mm (some (.inr (6, [.int (((0 + 1) + 1) + 1), .int no, .int wr, .int n, .ref (ad 0), .ref (ad 1), .ref (ad 2), .ref (ad 3), .ref (ad 4), .ref (ad 5), .int k, .ref (ad 6), .ref (ad 7), .ref (ad 8), .ref (ad 9), .int z, .int r, .int so, .ref (ad 10), .int pr, .ref (ad 11)]))) := ⟨_, rfl⟩
          rw [← hw_21] at hM
          have k_22 : w_21 mm = some (.inr (6, [.int (((0 + 1) + 1) + 1), .int no, .int wr, .int n, .ref (ad 0), .ref (ad 1), .ref (ad 2), .ref (ad 3), .ref (ad 4), .ref (ad 5), .int k, .ref (ad 6), .ref (ad 7), .ref (ad 8), .ref (ad 9), .int z, .int r, .int so, .ref (ad 10), .int pr, .ref (ad 11)])) := by rw [hw_21, va_up_self]
          refine lv_iconst (v := 2) hx hb d_M_goes_70 (by decide) ?_
          refine lv_iload hx hb d_M_goes_71 (lv_at hl 0 rfl) ?_
          refine lv_imul hx hb d_M_goes_73 ?_
          refine lv_istore (lv' := [(7, .int (2 * (2 * (2 * 1)))), (6, .int 8), (0, .ref mm), (1, .int 7), (2, .int b1), (3, .int b2), (4, .int b3), (5, .int b4)]) hx hb d_M_goes_74 hl (by decide) rfl (fun ls hl => ?_)
          refine lv_goto (tgt := 46) hx hb d_M_goes_76 (by decide) ?_
          refine lv_iload hx hb d_M_goes_46 (lv_at hl 0 rfl) ?_
          refine lv_iload hx hb d_M_goes_48 (lv_at hl 1 rfl) ?_
          refine lv_icmp_gt (tgt := 79) hx hb d_M_goes_50 (by decide) (fun c_23 => absurd c_23 (by decide)) (fun c_23 => ?_)
          refine lv_iload_n hx hb d_M_goes_53 rfl (lv_at hl 3 rfl) ?_
          refine lv_iload hx hb d_M_goes_54 (lv_at hl 0 rfl) ?_
          refine lv_iand hx hb d_M_goes_56 ?_
          refine lv_if_le (tgt := 70) hx hb d_M_goes_57 (by decide) (fun c_24 => ?_) (fun c_24 => absurd (by decide) c_24)
          refine lv_iconst (v := 2) hx hb d_M_goes_70 (by decide) ?_
          refine lv_iload hx hb d_M_goes_71 (lv_at hl 0 rfl) ?_
          refine lv_imul hx hb d_M_goes_73 ?_
          refine lv_istore (lv' := [(7, .int (2 * (2 * (2 * (2 * 1))))), (6, .int 8), (0, .ref mm), (1, .int 7), (2, .int b1), (3, .int b2), (4, .int b3), (5, .int b4)]) hx hb d_M_goes_74 hl (by decide) rfl (fun ls hl => ?_)
          refine lv_goto (tgt := 46) hx hb d_M_goes_76 (by decide) ?_
          refine lv_iload hx hb d_M_goes_46 (lv_at hl 0 rfl) ?_
          refine lv_iload hx hb d_M_goes_48 (lv_at hl 1 rfl) ?_
          refine lv_icmp_gt (tgt := 79) hx hb d_M_goes_50 (by decide) (fun c_25 => ?_) (fun c_25 => absurd (by decide) c_25)
          refine lv_iload hx hb d_M_goes_79 (lv_at hl 1 rfl) ?_
          refine lv_if_ne (tgt := 88) hx hb d_M_goes_81 (by decide) (fun c_26 => ?_) (fun c_26 => absurd c_26 (by decide))
          refine lv_iconst (v := 0) hx hb d_M_goes_88 (by decide) ?_
          have hg : gC b1 b2 b3 b4 = 4 := by simp [gC, c_1, c_2, c_3, c_4]
          have hM9 : mw G ncl A (va_up w mm (some (eM ad (nI (gT 7 (gC b1 b2 b3 b4))) no wr n k z r so pr))) H := by rw [hg, show nI (gT 7 4) = ((0 + 1) + 1) + 1 by decide]; rw [hw_21, hw_17, hw_13, hw_9, bx_uu, bx_uu, bx_uu] at hM; exact hM
          exact W.zret (v := 0) hx hb hr rfl (fun t ht hW => ⟨⟨0, (), rfl, by rw [hg]; rfl, by rw [ht]; exact hM9, va_K.moved hW.alike hK⟩, hS.F ht⟩) hS.2.2 d_M_goes_89
      · refine lv_iconst (v := 4) hx hb d_M_goes_21 (by decide) ?_
        refine lv_goto (tgt := 36) hx hb d_M_goes_22 (by decide) ?_
        refine lv_istore (lv' := [(6, .int 4), (0, .ref mm), (1, .int 7), (2, .int b1), (3, .int b2), (4, .int b3), (5, .int b4)]) hx hb d_M_goes_36 hl (by decide) rfl (fun ls hl => ?_)
        refine lv_aload_n hx hb d_M_goes_38 rfl (lv_at hl 1 rfl) ?_
        refine lv_iconst (v := 0) hx hb d_M_goes_39 (by decide) ?_
        refine m_put (D := G) (ci := 6) (v := .int 0) (ty := .int) (C := nR_M) (T := nT_M) (N := 21) hx hb hta in_M nt_M nt_M_ok nn_M hown hK hM hS hm rfl 0 (by decide) (hta _ aw_543) (fun _ h9 => h9) rfl (by decide +kernel) rfl rfl (Nat.le_of_ble_eq_true rfl) d_M_goes_40 (fs' := [.int 0, .int no, .int wr, .int n, .ref (ad 0), .ref (ad 1), .ref (ad 2), .ref (ad 3), .ref (ad 4), .ref (ad 5), .int k, .ref (ad 6), .ref (ad 7), .ref (ad 8), .ref (ad 9), .int z, .int r, .int so, .ref (ad 10), .int pr, .ref (ad 11)]) rfl (fun H locs hM hS => ?_)
        obtain ⟨w_27, hw_27⟩ : ∃ z9 : Nat → Option va_E, z9 = va_up w mm (some (.inr (6, [.int 0, .int no, .int wr, .int n, .ref (ad 0), .ref (ad 1), .ref (ad 2), .ref (ad 3), .ref (ad 4), .ref (ad 5), .int k, .ref (ad 6), .ref (ad 7), .ref (ad 8), .ref (ad 9), .int z, .int r, .int so, .ref (ad 10), .int pr, .ref (ad 11)]))) := ⟨_, rfl⟩
        rw [← hw_27] at hM
        have k_28 : w_27 mm = some (.inr (6, [.int 0, .int no, .int wr, .int n, .ref (ad 0), .ref (ad 1), .ref (ad 2), .ref (ad 3), .ref (ad 4), .ref (ad 5), .int k, .ref (ad 6), .ref (ad 7), .ref (ad 8), .ref (ad 9), .int z, .int r, .int so, .ref (ad 10), .int pr, .ref (ad 11)])) := by rw [hw_27, va_up_self]
        refine lv_iconst (v := 1) hx hb d_M_goes_43 (by decide) ?_
        refine lv_istore (lv' := [(7, .int 1), (6, .int 4), (0, .ref mm), (1, .int 7), (2, .int b1), (3, .int b2), (4, .int b3), (5, .int b4)]) hx hb d_M_goes_44 hl (by decide) rfl (fun ls hl => ?_)
        refine lv_iload hx hb d_M_goes_46 (lv_at hl 0 rfl) ?_
        refine lv_iload hx hb d_M_goes_48 (lv_at hl 1 rfl) ?_
        refine lv_icmp_gt (tgt := 79) hx hb d_M_goes_50 (by decide) (fun c_29 => absurd c_29 (by decide)) (fun c_29 => ?_)
        refine lv_iload_n hx hb d_M_goes_53 rfl (lv_at hl 3 rfl) ?_
        refine lv_iload hx hb d_M_goes_54 (lv_at hl 0 rfl) ?_
        refine lv_iand hx hb d_M_goes_56 ?_
        refine lv_if_le (tgt := 70) hx hb d_M_goes_57 (by decide) (fun c_30 => absurd c_30 (by decide)) (fun c_30 => ?_)
        refine lv_aload_n hx hb d_M_goes_60 rfl (lv_at hl 2 rfl) ?_
        refine lv_dup hx hb d_M_goes_61 rfl ?_
        refine m_get (D := G) (ci := 6) (v := .int 0) (C := nR_M) (T := nT_M) (N := 21) hx hb hta in_M hown hK hM k_28 rfl 0 (by decide) (hta _ aw_543) (fun _ h9 => h9) rfl d_M_goes_62 ?_
        refine lv_iconst (v := 1) hx hb d_M_goes_65 (by decide) ?_
        refine lv_iadd hx hb d_M_goes_66 ?_
        refine m_put (D := G) (ci := 6) (v := .int (0 + 1)) (ty := .int) (C := nR_M) (T := nT_M) (N := 21) hx hb hta in_M nt_M nt_M_ok nn_M hown hK hM hS k_28 rfl 0 (by decide) (hta _ aw_543) (fun _ h9 => h9) rfl (by decide +kernel) rfl rfl (Nat.le_of_ble_eq_true rfl) d_M_goes_67 (fs' := [.int (0 + 1), .int no, .int wr, .int n, .ref (ad 0), .ref (ad 1), .ref (ad 2), .ref (ad 3), .ref (ad 4), .ref (ad 5), .int k, .ref (ad 6), .ref (ad 7), .ref (ad 8), .ref (ad 9), .int z, .int r, .int so, .ref (ad 10), .int pr, .ref (ad 11)]) rfl (fun H locs hM hS => ?_)
        obtain ⟨w_31, hw_31⟩ : ∃ z9 : Nat → Option va_E, z9 = va_up w_27 mm (some (.inr (6, [.int (0 + 1), .int no, .int wr, .int n, .ref (ad 0), .ref (ad 1), .ref (ad 2), .ref (ad 3), .ref (ad 4), .ref (ad 5), .int k, .ref (ad 6), .ref (ad 7), .ref (ad 8), .ref (ad 9), .int z, .int r, .int so, .ref (ad 10), .int pr, .ref (ad 11)]))) := ⟨_, rfl⟩
        rw [← hw_31] at hM
        have k_32 : w_31 mm = some (.inr (6, [.int (0 + 1), .int no, .int wr, .int n, .ref (ad 0), .ref (ad 1), .ref (ad 2), .ref (ad 3), .ref (ad 4), .ref (ad 5), .int k, .ref (ad 6), .ref (ad 7), .ref (ad 8), .ref (ad 9), .int z, .int r, .int so, .ref (ad 10), .int pr, .ref (ad 11)])) := by rw [hw_31, va_up_self]
        refine lv_iconst (v := 2) hx hb d_M_goes_70 (by decide) ?_
        refine lv_iload hx hb d_M_goes_71 (lv_at hl 0 rfl) ?_
        refine lv_imul hx hb d_M_goes_73 ?_
        refine lv_istore (lv' := [(7, .int (2 * 1)), (6, .int 4), (0, .ref mm), (1, .int 7), (2, .int b1), (3, .int b2), (4, .int b3), (5, .int b4)]) hx hb d_M_goes_74 hl (by decide) rfl (fun ls hl => ?_)
        refine lv_goto (tgt := 46) hx hb d_M_goes_76 (by decide) ?_
        refine lv_iload hx hb d_M_goes_46 (lv_at hl 0 rfl) ?_
        refine lv_iload hx hb d_M_goes_48 (lv_at hl 1 rfl) ?_
        refine lv_icmp_gt (tgt := 79) hx hb d_M_goes_50 (by decide) (fun c_33 => absurd c_33 (by decide)) (fun c_33 => ?_)
        refine lv_iload_n hx hb d_M_goes_53 rfl (lv_at hl 3 rfl) ?_
        refine lv_iload hx hb d_M_goes_54 (lv_at hl 0 rfl) ?_
        refine lv_iand hx hb d_M_goes_56 ?_
        refine lv_if_le (tgt := 70) hx hb d_M_goes_57 (by decide) (fun c_34 => absurd c_34 (by decide)) (fun c_34 => ?_)
        refine lv_aload_n hx hb d_M_goes_60 rfl (lv_at hl 2 rfl) ?_
        refine lv_dup hx hb d_M_goes_61 rfl ?_
        refine m_get (D := G) (ci := 6) (v := .int (0 + 1)) (C := nR_M) (T := nT_M) (N := 21) hx hb hta in_M hown hK hM k_32 rfl 0 (by decide) (hta _ aw_543) (fun _ h9 => h9) rfl d_M_goes_62 ?_
        refine lv_iconst (v := 1) hx hb d_M_goes_65 (by decide) ?_
        refine lv_iadd hx hb d_M_goes_66 ?_
        refine m_put (D := G) (ci := 6) (v := .int ((0 + 1) + 1)) (ty := .int) (C := nR_M) (T := nT_M) (N := 21) hx hb hta in_M nt_M nt_M_ok nn_M hown hK hM hS k_32 rfl 0 (by decide) (hta _ aw_543) (fun _ h9 => h9) rfl (by decide +kernel) rfl rfl (Nat.le_of_ble_eq_true rfl) d_M_goes_67 (fs' := [.int ((0 + 1) + 1), .int no, .int wr, .int n, .ref (ad 0), .ref (ad 1), .ref (ad 2), .ref (ad 3), .ref (ad 4), .ref (ad 5), .int k, .ref (ad 6), .ref (ad 7), .ref (ad 8), .ref (ad 9), .int z, .int r, .int so, .ref (ad 10), .int pr, .ref (ad 11)]) rfl (fun H locs hM hS => ?_)
        obtain ⟨w_35, hw_35⟩ : ∃ z9 : Nat → Option va_E, z9 = va_up w_31 mm (some (.inr (6, [.int ((0 + 1) + 1), .int no, .int wr, .int n, .ref (ad 0), .ref (ad 1), .ref (ad 2), .ref (ad 3), .ref (ad 4), .ref (ad 5), .int k, .ref (ad 6), .ref (ad 7), .ref (ad 8), .ref (ad 9), .int z, .int r, .int so, .ref (ad 10), .int pr, .ref (ad 11)]))) := ⟨_, rfl⟩
        rw [← hw_35] at hM
        have k_36 : w_35 mm = some (.inr (6, [.int ((0 + 1) + 1), .int no, .int wr, .int n, .ref (ad 0), .ref (ad 1), .ref (ad 2), .ref (ad 3), .ref (ad 4), .ref (ad 5), .int k, .ref (ad 6), .ref (ad 7), .ref (ad 8), .ref (ad 9), .int z, .int r, .int so, .ref (ad 10), .int pr, .ref (ad 11)])) := by rw [hw_35, va_up_self]
        refine lv_iconst (v := 2) hx hb d_M_goes_70 (by decide) ?_
        refine lv_iload hx hb d_M_goes_71 (lv_at hl 0 rfl) ?_
        refine lv_imul hx hb d_M_goes_73 ?_
        refine lv_istore (lv' := [(7, .int (2 * (2 * 1))), (6, .int 4), (0, .ref mm), (1, .int 7), (2, .int b1), (3, .int b2), (4, .int b3), (5, .int b4)]) hx hb d_M_goes_74 hl (by decide) rfl (fun ls hl => ?_)
        refine lv_goto (tgt := 46) hx hb d_M_goes_76 (by decide) ?_
        refine lv_iload hx hb d_M_goes_46 (lv_at hl 0 rfl) ?_
        refine lv_iload hx hb d_M_goes_48 (lv_at hl 1 rfl) ?_
        refine lv_icmp_gt (tgt := 79) hx hb d_M_goes_50 (by decide) (fun c_37 => absurd c_37 (by decide)) (fun c_37 => ?_)
        refine lv_iload_n hx hb d_M_goes_53 rfl (lv_at hl 3 rfl) ?_
        refine lv_iload hx hb d_M_goes_54 (lv_at hl 0 rfl) ?_
        refine lv_iand hx hb d_M_goes_56 ?_
        refine lv_if_le (tgt := 70) hx hb d_M_goes_57 (by decide) (fun c_38 => absurd c_38 (by decide)) (fun c_38 => ?_)
        refine lv_aload_n hx hb d_M_goes_60 rfl (lv_at hl 2 rfl) ?_
        refine lv_dup hx hb d_M_goes_61 rfl ?_
        refine m_get (D := G) (ci := 6) (v := .int ((0 + 1) + 1)) (C := nR_M) (T := nT_M) (N := 21) hx hb hta in_M hown hK hM k_36 rfl 0 (by decide) (hta _ aw_543) (fun _ h9 => h9) rfl d_M_goes_62 ?_
        refine lv_iconst (v := 1) hx hb d_M_goes_65 (by decide) ?_
        refine lv_iadd hx hb d_M_goes_66 ?_
        refine m_put (D := G) (ci := 6) (v := .int (((0 + 1) + 1) + 1)) (ty := .int) (C := nR_M) (T := nT_M) (N := 21) hx hb hta in_M nt_M nt_M_ok nn_M hown hK hM hS k_36 rfl 0 (by decide) (hta _ aw_543) (fun _ h9 => h9) rfl (by decide +kernel) rfl rfl (Nat.le_of_ble_eq_true rfl) d_M_goes_67 (fs' := [.int (((0 + 1) + 1) + 1), .int no, .int wr, .int n, .ref (ad 0), .ref (ad 1), .ref (ad 2), .ref (ad 3), .ref (ad 4), .ref (ad 5), .int k, .ref (ad 6), .ref (ad 7), .ref (ad 8), .ref (ad 9), .int z, .int r, .int so, .ref (ad 10), .int pr, .ref (ad 11)]) rfl (fun H locs hM hS => ?_)
        obtain ⟨w_39, hw_39⟩ : ∃ z9 : Nat → Option va_E, z9 = va_up w_35 mm (some (.inr (6, [.int (((0 + 1) + 1) + 1), .int no, .int wr, .int n, .ref (ad 0), .ref (ad 1), .ref (ad 2), .ref (ad 3), .ref (ad 4), .ref (ad 5), .int k, .ref (ad 6), .ref (ad 7), .ref (ad 8), .ref (ad 9), .int z, .int r, .int so, .ref (ad 10), .int pr, .ref (ad 11)]))) := ⟨_, rfl⟩
        rw [← hw_39] at hM
        have k_40 : w_39 mm = some (.inr (6, [.int (((0 + 1) + 1) + 1), .int no, .int wr, .int n, .ref (ad 0), .ref (ad 1), .ref (ad 2), .ref (ad 3), .ref (ad 4), .ref (ad 5), .int k, .ref (ad 6), .ref (ad 7), .ref (ad 8), .ref (ad 9), .int z, .int r, .int so, .ref (ad 10), .int pr, .ref (ad 11)])) := by rw [hw_39, va_up_self]
        refine lv_iconst (v := 2) hx hb d_M_goes_70 (by decide) ?_
        refine lv_iload hx hb d_M_goes_71 (lv_at hl 0 rfl) ?_
        refine lv_imul hx hb d_M_goes_73 ?_
        refine lv_istore (lv' := [(7, .int (2 * (2 * (2 * 1)))), (6, .int 4), (0, .ref mm), (1, .int 7), (2, .int b1), (3, .int b2), (4, .int b3), (5, .int b4)]) hx hb d_M_goes_74 hl (by decide) rfl (fun ls hl => ?_)
        refine lv_goto (tgt := 46) hx hb d_M_goes_76 (by decide) ?_
        refine lv_iload hx hb d_M_goes_46 (lv_at hl 0 rfl) ?_
        refine lv_iload hx hb d_M_goes_48 (lv_at hl 1 rfl) ?_
        refine lv_icmp_gt (tgt := 79) hx hb d_M_goes_50 (by decide) (fun c_41 => ?_) (fun c_41 => absurd (by decide) c_41)
        refine lv_iload hx hb d_M_goes_79 (lv_at hl 1 rfl) ?_
        refine lv_if_ne (tgt := 88) hx hb d_M_goes_81 (by decide) (fun c_42 => ?_) (fun c_42 => absurd c_42 (by decide))
        refine lv_iconst (v := 0) hx hb d_M_goes_88 (by decide) ?_
        have hg : gC b1 b2 b3 b4 = 3 := by simp [gC, c_1, c_2, c_3]
        have hM9 : mw G ncl A (va_up w mm (some (eM ad (nI (gT 7 (gC b1 b2 b3 b4))) no wr n k z r so pr))) H := by rw [hg, show nI (gT 7 3) = ((0 + 1) + 1) + 1 by decide]; rw [hw_39, hw_35, hw_31, hw_27, bx_uu, bx_uu, bx_uu] at hM; exact hM
        exact W.zret (v := 0) hx hb hr rfl (fun t ht hW => ⟨⟨0, (), rfl, by rw [hg]; rfl, by rw [ht]; exact hM9, va_K.moved hW.alike hK⟩, hS.F ht⟩) hS.2.2 d_M_goes_89
    · refine lv_iconst (v := 2) hx hb d_M_goes_12 (by decide) ?_
      refine lv_goto (tgt := 36) hx hb d_M_goes_13 (by decide) ?_
      refine lv_istore (lv' := [(6, .int 2), (0, .ref mm), (1, .int 7), (2, .int b1), (3, .int b2), (4, .int b3), (5, .int b4)]) hx hb d_M_goes_36 hl (by decide) rfl (fun ls hl => ?_)
      refine lv_aload_n hx hb d_M_goes_38 rfl (lv_at hl 1 rfl) ?_
      refine lv_iconst (v := 0) hx hb d_M_goes_39 (by decide) ?_
      refine m_put (D := G) (ci := 6) (v := .int 0) (ty := .int) (C := nR_M) (T := nT_M) (N := 21) hx hb hta in_M nt_M nt_M_ok nn_M hown hK hM hS hm rfl 0 (by decide) (hta _ aw_543) (fun _ h9 => h9) rfl (by decide +kernel) rfl rfl (Nat.le_of_ble_eq_true rfl) d_M_goes_40 (fs' := [.int 0, .int no, .int wr, .int n, .ref (ad 0), .ref (ad 1), .ref (ad 2), .ref (ad 3), .ref (ad 4), .ref (ad 5), .int k, .ref (ad 6), .ref (ad 7), .ref (ad 8), .ref (ad 9), .int z, .int r, .int so, .ref (ad 10), .int pr, .ref (ad 11)]) rfl (fun H locs hM hS => ?_)
      obtain ⟨w_43, hw_43⟩ : ∃ z9 : Nat → Option va_E, z9 = va_up w mm (some (.inr (6, [.int 0, .int no, .int wr, .int n, .ref (ad 0), .ref (ad 1), .ref (ad 2), .ref (ad 3), .ref (ad 4), .ref (ad 5), .int k, .ref (ad 6), .ref (ad 7), .ref (ad 8), .ref (ad 9), .int z, .int r, .int so, .ref (ad 10), .int pr, .ref (ad 11)]))) := ⟨_, rfl⟩
      rw [← hw_43] at hM
      have k_44 : w_43 mm = some (.inr (6, [.int 0, .int no, .int wr, .int n, .ref (ad 0), .ref (ad 1), .ref (ad 2), .ref (ad 3), .ref (ad 4), .ref (ad 5), .int k, .ref (ad 6), .ref (ad 7), .ref (ad 8), .ref (ad 9), .int z, .int r, .int so, .ref (ad 10), .int pr, .ref (ad 11)])) := by rw [hw_43, va_up_self]
      refine lv_iconst (v := 1) hx hb d_M_goes_43 (by decide) ?_
      refine lv_istore (lv' := [(7, .int 1), (6, .int 2), (0, .ref mm), (1, .int 7), (2, .int b1), (3, .int b2), (4, .int b3), (5, .int b4)]) hx hb d_M_goes_44 hl (by decide) rfl (fun ls hl => ?_)
      refine lv_iload hx hb d_M_goes_46 (lv_at hl 0 rfl) ?_
      refine lv_iload hx hb d_M_goes_48 (lv_at hl 1 rfl) ?_
      refine lv_icmp_gt (tgt := 79) hx hb d_M_goes_50 (by decide) (fun c_45 => absurd c_45 (by decide)) (fun c_45 => ?_)
      refine lv_iload_n hx hb d_M_goes_53 rfl (lv_at hl 3 rfl) ?_
      refine lv_iload hx hb d_M_goes_54 (lv_at hl 0 rfl) ?_
      refine lv_iand hx hb d_M_goes_56 ?_
      refine lv_if_le (tgt := 70) hx hb d_M_goes_57 (by decide) (fun c_46 => absurd c_46 (by decide)) (fun c_46 => ?_)
      refine lv_aload_n hx hb d_M_goes_60 rfl (lv_at hl 2 rfl) ?_
      refine lv_dup hx hb d_M_goes_61 rfl ?_
      refine m_get (D := G) (ci := 6) (v := .int 0) (C := nR_M) (T := nT_M) (N := 21) hx hb hta in_M hown hK hM k_44 rfl 0 (by decide) (hta _ aw_543) (fun _ h9 => h9) rfl d_M_goes_62 ?_
      refine lv_iconst (v := 1) hx hb d_M_goes_65 (by decide) ?_
      refine lv_iadd hx hb d_M_goes_66 ?_
      refine m_put (D := G) (ci := 6) (v := .int (0 + 1)) (ty := .int) (C := nR_M) (T := nT_M) (N := 21) hx hb hta in_M nt_M nt_M_ok nn_M hown hK hM hS k_44 rfl 0 (by decide) (hta _ aw_543) (fun _ h9 => h9) rfl (by decide +kernel) rfl rfl (Nat.le_of_ble_eq_true rfl) d_M_goes_67 (fs' := [.int (0 + 1), .int no, .int wr, .int n, .ref (ad 0), .ref (ad 1), .ref (ad 2), .ref (ad 3), .ref (ad 4), .ref (ad 5), .int k, .ref (ad 6), .ref (ad 7), .ref (ad 8), .ref (ad 9), .int z, .int r, .int so, .ref (ad 10), .int pr, .ref (ad 11)]) rfl (fun H locs hM hS => ?_)
      obtain ⟨w_47, hw_47⟩ : ∃ z9 : Nat → Option va_E, z9 = va_up w_43 mm (some (.inr (6, [.int (0 + 1), .int no, .int wr, .int n, .ref (ad 0), .ref (ad 1), .ref (ad 2), .ref (ad 3), .ref (ad 4), .ref (ad 5), .int k, .ref (ad 6), .ref (ad 7), .ref (ad 8), .ref (ad 9), .int z, .int r, .int so, .ref (ad 10), .int pr, .ref (ad 11)]))) := ⟨_, rfl⟩
      rw [← hw_47] at hM
      have k_48 : w_47 mm = some (.inr (6, [.int (0 + 1), .int no, .int wr, .int n, .ref (ad 0), .ref (ad 1), .ref (ad 2), .ref (ad 3), .ref (ad 4), .ref (ad 5), .int k, .ref (ad 6), .ref (ad 7), .ref (ad 8), .ref (ad 9), .int z, .int r, .int so, .ref (ad 10), .int pr, .ref (ad 11)])) := by rw [hw_47, va_up_self]
      refine lv_iconst (v := 2) hx hb d_M_goes_70 (by decide) ?_
      refine lv_iload hx hb d_M_goes_71 (lv_at hl 0 rfl) ?_
      refine lv_imul hx hb d_M_goes_73 ?_
      refine lv_istore (lv' := [(7, .int (2 * 1)), (6, .int 2), (0, .ref mm), (1, .int 7), (2, .int b1), (3, .int b2), (4, .int b3), (5, .int b4)]) hx hb d_M_goes_74 hl (by decide) rfl (fun ls hl => ?_)
      refine lv_goto (tgt := 46) hx hb d_M_goes_76 (by decide) ?_
      refine lv_iload hx hb d_M_goes_46 (lv_at hl 0 rfl) ?_
      refine lv_iload hx hb d_M_goes_48 (lv_at hl 1 rfl) ?_
      refine lv_icmp_gt (tgt := 79) hx hb d_M_goes_50 (by decide) (fun c_49 => absurd c_49 (by decide)) (fun c_49 => ?_)
      refine lv_iload_n hx hb d_M_goes_53 rfl (lv_at hl 3 rfl) ?_
      refine lv_iload hx hb d_M_goes_54 (lv_at hl 0 rfl) ?_
      refine lv_iand hx hb d_M_goes_56 ?_
      refine lv_if_le (tgt := 70) hx hb d_M_goes_57 (by decide) (fun c_50 => absurd c_50 (by decide)) (fun c_50 => ?_)
      refine lv_aload_n hx hb d_M_goes_60 rfl (lv_at hl 2 rfl) ?_
      refine lv_dup hx hb d_M_goes_61 rfl ?_
      refine m_get (D := G) (ci := 6) (v := .int (0 + 1)) (C := nR_M) (T := nT_M) (N := 21) hx hb hta in_M hown hK hM k_48 rfl 0 (by decide) (hta _ aw_543) (fun _ h9 => h9) rfl d_M_goes_62 ?_
      refine lv_iconst (v := 1) hx hb d_M_goes_65 (by decide) ?_
      refine lv_iadd hx hb d_M_goes_66 ?_
      refine m_put (D := G) (ci := 6) (v := .int ((0 + 1) + 1)) (ty := .int) (C := nR_M) (T := nT_M) (N := 21) hx hb hta in_M nt_M nt_M_ok nn_M hown hK hM hS k_48 rfl 0 (by decide) (hta _ aw_543) (fun _ h9 => h9) rfl (by decide +kernel) rfl rfl (Nat.le_of_ble_eq_true rfl) d_M_goes_67 (fs' := [.int ((0 + 1) + 1), .int no, .int wr, .int n, .ref (ad 0), .ref (ad 1), .ref (ad 2), .ref (ad 3), .ref (ad 4), .ref (ad 5), .int k, .ref (ad 6), .ref (ad 7), .ref (ad 8), .ref (ad 9), .int z, .int r, .int so, .ref (ad 10), .int pr, .ref (ad 11)]) rfl (fun H locs hM hS => ?_)
      obtain ⟨w_51, hw_51⟩ : ∃ z9 : Nat → Option va_E, z9 = va_up w_47 mm (some (.inr (6, [.int ((0 + 1) + 1), .int no, .int wr, .int n, .ref (ad 0), .ref (ad 1), .ref (ad 2), .ref (ad 3), .ref (ad 4), .ref (ad 5), .int k, .ref (ad 6), .ref (ad 7), .ref (ad 8), .ref (ad 9), .int z, .int r, .int so, .ref (ad 10), .int pr, .ref (ad 11)]))) := ⟨_, rfl⟩
      rw [← hw_51] at hM
      have k_52 : w_51 mm = some (.inr (6, [.int ((0 + 1) + 1), .int no, .int wr, .int n, .ref (ad 0), .ref (ad 1), .ref (ad 2), .ref (ad 3), .ref (ad 4), .ref (ad 5), .int k, .ref (ad 6), .ref (ad 7), .ref (ad 8), .ref (ad 9), .int z, .int r, .int so, .ref (ad 10), .int pr, .ref (ad 11)])) := by rw [hw_51, va_up_self]
      refine lv_iconst (v := 2) hx hb d_M_goes_70 (by decide) ?_
      refine lv_iload hx hb d_M_goes_71 (lv_at hl 0 rfl) ?_
      refine lv_imul hx hb d_M_goes_73 ?_
      refine lv_istore (lv' := [(7, .int (2 * (2 * 1))), (6, .int 2), (0, .ref mm), (1, .int 7), (2, .int b1), (3, .int b2), (4, .int b3), (5, .int b4)]) hx hb d_M_goes_74 hl (by decide) rfl (fun ls hl => ?_)
      refine lv_goto (tgt := 46) hx hb d_M_goes_76 (by decide) ?_
      refine lv_iload hx hb d_M_goes_46 (lv_at hl 0 rfl) ?_
      refine lv_iload hx hb d_M_goes_48 (lv_at hl 1 rfl) ?_
      refine lv_icmp_gt (tgt := 79) hx hb d_M_goes_50 (by decide) (fun c_53 => ?_) (fun c_53 => absurd (by decide) c_53)
      refine lv_iload hx hb d_M_goes_79 (lv_at hl 1 rfl) ?_
      refine lv_if_ne (tgt := 88) hx hb d_M_goes_81 (by decide) (fun c_54 => ?_) (fun c_54 => absurd c_54 (by decide))
      refine lv_iconst (v := 0) hx hb d_M_goes_88 (by decide) ?_
      have hg : gC b1 b2 b3 b4 = 2 := by simp [gC, c_1, c_2]
      have hM9 : mw G ncl A (va_up w mm (some (eM ad (nI (gT 7 (gC b1 b2 b3 b4))) no wr n k z r so pr))) H := by rw [hg, show nI (gT 7 2) = (0 + 1) + 1 by decide]; rw [hw_51, hw_47, hw_43, bx_uu, bx_uu] at hM; exact hM
      exact W.zret (v := 0) hx hb hr rfl (fun t ht hW => ⟨⟨0, (), rfl, by rw [hg]; rfl, by rw [ht]; exact hM9, va_K.moved hW.alike hK⟩, hS.F ht⟩) hS.2.2 d_M_goes_89
  · refine lv_iconst (v := 1) hx hb d_M_goes_4 (by decide) ?_
    refine lv_goto (tgt := 36) hx hb d_M_goes_5 (by decide) ?_
    refine lv_istore (lv' := [(6, .int 1), (0, .ref mm), (1, .int 7), (2, .int b1), (3, .int b2), (4, .int b3), (5, .int b4)]) hx hb d_M_goes_36 hl (by decide) rfl (fun ls hl => ?_)
    refine lv_aload_n hx hb d_M_goes_38 rfl (lv_at hl 1 rfl) ?_
    refine lv_iconst (v := 0) hx hb d_M_goes_39 (by decide) ?_
    refine m_put (D := G) (ci := 6) (v := .int 0) (ty := .int) (C := nR_M) (T := nT_M) (N := 21) hx hb hta in_M nt_M nt_M_ok nn_M hown hK hM hS hm rfl 0 (by decide) (hta _ aw_543) (fun _ h9 => h9) rfl (by decide +kernel) rfl rfl (Nat.le_of_ble_eq_true rfl) d_M_goes_40 (fs' := [.int 0, .int no, .int wr, .int n, .ref (ad 0), .ref (ad 1), .ref (ad 2), .ref (ad 3), .ref (ad 4), .ref (ad 5), .int k, .ref (ad 6), .ref (ad 7), .ref (ad 8), .ref (ad 9), .int z, .int r, .int so, .ref (ad 10), .int pr, .ref (ad 11)]) rfl (fun H locs hM hS => ?_)
    obtain ⟨w_55, hw_55⟩ : ∃ z9 : Nat → Option va_E, z9 = va_up w mm (some (.inr (6, [.int 0, .int no, .int wr, .int n, .ref (ad 0), .ref (ad 1), .ref (ad 2), .ref (ad 3), .ref (ad 4), .ref (ad 5), .int k, .ref (ad 6), .ref (ad 7), .ref (ad 8), .ref (ad 9), .int z, .int r, .int so, .ref (ad 10), .int pr, .ref (ad 11)]))) := ⟨_, rfl⟩
    rw [← hw_55] at hM
    have k_56 : w_55 mm = some (.inr (6, [.int 0, .int no, .int wr, .int n, .ref (ad 0), .ref (ad 1), .ref (ad 2), .ref (ad 3), .ref (ad 4), .ref (ad 5), .int k, .ref (ad 6), .ref (ad 7), .ref (ad 8), .ref (ad 9), .int z, .int r, .int so, .ref (ad 10), .int pr, .ref (ad 11)])) := by rw [hw_55, va_up_self]
    refine lv_iconst (v := 1) hx hb d_M_goes_43 (by decide) ?_
    refine lv_istore (lv' := [(7, .int 1), (6, .int 1), (0, .ref mm), (1, .int 7), (2, .int b1), (3, .int b2), (4, .int b3), (5, .int b4)]) hx hb d_M_goes_44 hl (by decide) rfl (fun ls hl => ?_)
    refine lv_iload hx hb d_M_goes_46 (lv_at hl 0 rfl) ?_
    refine lv_iload hx hb d_M_goes_48 (lv_at hl 1 rfl) ?_
    refine lv_icmp_gt (tgt := 79) hx hb d_M_goes_50 (by decide) (fun c_57 => absurd c_57 (by decide)) (fun c_57 => ?_)
    refine lv_iload_n hx hb d_M_goes_53 rfl (lv_at hl 3 rfl) ?_
    refine lv_iload hx hb d_M_goes_54 (lv_at hl 0 rfl) ?_
    refine lv_iand hx hb d_M_goes_56 ?_
    refine lv_if_le (tgt := 70) hx hb d_M_goes_57 (by decide) (fun c_58 => absurd c_58 (by decide)) (fun c_58 => ?_)
    refine lv_aload_n hx hb d_M_goes_60 rfl (lv_at hl 2 rfl) ?_
    refine lv_dup hx hb d_M_goes_61 rfl ?_
    refine m_get (D := G) (ci := 6) (v := .int 0) (C := nR_M) (T := nT_M) (N := 21) hx hb hta in_M hown hK hM k_56 rfl 0 (by decide) (hta _ aw_543) (fun _ h9 => h9) rfl d_M_goes_62 ?_
    refine lv_iconst (v := 1) hx hb d_M_goes_65 (by decide) ?_
    refine lv_iadd hx hb d_M_goes_66 ?_
    refine m_put (D := G) (ci := 6) (v := .int (0 + 1)) (ty := .int) (C := nR_M) (T := nT_M) (N := 21) hx hb hta in_M nt_M nt_M_ok nn_M hown hK hM hS k_56 rfl 0 (by decide) (hta _ aw_543) (fun _ h9 => h9) rfl (by decide +kernel) rfl rfl (Nat.le_of_ble_eq_true rfl) d_M_goes_67 (fs' := [.int (0 + 1), .int no, .int wr, .int n, .ref (ad 0), .ref (ad 1), .ref (ad 2), .ref (ad 3), .ref (ad 4), .ref (ad 5), .int k, .ref (ad 6), .ref (ad 7), .ref (ad 8), .ref (ad 9), .int z, .int r, .int so, .ref (ad 10), .int pr, .ref (ad 11)]) rfl (fun H locs hM hS => ?_)
    obtain ⟨w_59, hw_59⟩ : ∃ z9 : Nat → Option va_E, z9 = va_up w_55 mm (some (.inr (6, [.int (0 + 1), .int no, .int wr, .int n, .ref (ad 0), .ref (ad 1), .ref (ad 2), .ref (ad 3), .ref (ad 4), .ref (ad 5), .int k, .ref (ad 6), .ref (ad 7), .ref (ad 8), .ref (ad 9), .int z, .int r, .int so, .ref (ad 10), .int pr, .ref (ad 11)]))) := ⟨_, rfl⟩
    rw [← hw_59] at hM
    have k_60 : w_59 mm = some (.inr (6, [.int (0 + 1), .int no, .int wr, .int n, .ref (ad 0), .ref (ad 1), .ref (ad 2), .ref (ad 3), .ref (ad 4), .ref (ad 5), .int k, .ref (ad 6), .ref (ad 7), .ref (ad 8), .ref (ad 9), .int z, .int r, .int so, .ref (ad 10), .int pr, .ref (ad 11)])) := by rw [hw_59, va_up_self]
    refine lv_iconst (v := 2) hx hb d_M_goes_70 (by decide) ?_
    refine lv_iload hx hb d_M_goes_71 (lv_at hl 0 rfl) ?_
    refine lv_imul hx hb d_M_goes_73 ?_
    refine lv_istore (lv' := [(7, .int (2 * 1)), (6, .int 1), (0, .ref mm), (1, .int 7), (2, .int b1), (3, .int b2), (4, .int b3), (5, .int b4)]) hx hb d_M_goes_74 hl (by decide) rfl (fun ls hl => ?_)
    refine lv_goto (tgt := 46) hx hb d_M_goes_76 (by decide) ?_
    refine lv_iload hx hb d_M_goes_46 (lv_at hl 0 rfl) ?_
    refine lv_iload hx hb d_M_goes_48 (lv_at hl 1 rfl) ?_
    refine lv_icmp_gt (tgt := 79) hx hb d_M_goes_50 (by decide) (fun c_61 => ?_) (fun c_61 => absurd (by decide) c_61)
    refine lv_iload hx hb d_M_goes_79 (lv_at hl 1 rfl) ?_
    refine lv_if_ne (tgt := 88) hx hb d_M_goes_81 (by decide) (fun c_62 => ?_) (fun c_62 => absurd c_62 (by decide))
    refine lv_iconst (v := 0) hx hb d_M_goes_88 (by decide) ?_
    have hg : gC b1 b2 b3 b4 = 1 := by simp [gC, c_1]
    have hM9 : mw G ncl A (va_up w mm (some (eM ad (nI (gT 7 (gC b1 b2 b3 b4))) no wr n k z r so pr))) H := by rw [hg, show nI (gT 7 1) = 0 + 1 by decide]; rw [hw_59, hw_55, bx_uu] at hM; exact hM
    exact W.zret (v := 0) hx hb hr rfl (fun t ht hW => ⟨⟨0, (), rfl, by rw [hg]; rfl, by rw [ht]; exact hM9, va_K.moved hW.alike hK⟩, hS.F ht⟩) hS.2.2 d_M_goes_89
set_option maxHeartbeats 4000000 in
set_option maxRecDepth 100000 in
theorem k_M_goes_2 (l : Launch) (G : va_G) (q0 q1 : ClassId × FieldType) (cI : ClassId) (ty2 : List (ClassId × FieldType)) (w : Nat → Option va_E) {mm : Nat} {ad : Nat → Nat} {f : Nat → Nat → Int32} {th no wr n k z r so pr : Int32} (hm : w mm = some (eM ad th no wr n k z r so pr)) (hma : ∀ i, i < 12 → w (ad i) = some (aI cI (msz i) (f i))) (b1 b2 b3 b4 : Int32) (sz : Nat) : Met l y_M_goes (wm y_M_goes c_M_goes 8 (some .boolean)) ({ frames := 0, cells := 0, slots := 0, locals := 0 }) (pZ G (q0 :: q1 :: (cI, .int) :: ty2) w sz [.ref mm, .int 2, .int b1, .int b2, .int b3, .int b4]) (va_Qi (fun (r0 : Int32) (u : Unit) => r0 = if gC b1 b2 b3 b4 = 0 then 1 else 0) (fun _ t => mw G ncl (mA w sz) (va_up w mm (some (eM ad (nI (gT 2 (gC b1 b2 b3 b4))) no wr n k z r so pr))) t.heap ∧ va_K G ncl (q0 :: q1 :: (cI, .int) :: ty2) t) (mA w sz)) 0 0 (mA w sz) := by
  refine Met.ofW (cc := c_M_goes) (maxL := 8) (ret := (some .boolean)) (by decide) rfl ?_
  intro p e s m args below meth c s₁ B hml hv
  obtain ⟨rfl, hsz, hM0, hK⟩ := hv
  have hx := B.exec
  have hb := B.bytes
  have hr := B.returns
  have hts := atoms_spec (ws := (wm y_M_goes c_M_goes 8 (some .boolean))) B.pre
  have hta : ∀ w ∈ AL, w.before _ s = true := fun w h => hts w (List.mem_cons_of_mem _ h)
  have hown : s.vm.findClass nR_M = some m.cls := findClass_of_methodNamed B.named
  have hlocks := B.notSynchronized
  have hl := lv_entry ([.ref mm, .int 2, .int b1, .int b2, .int b3, .int b4]) (n := 8) (Nat.le_of_ble_eq_true rfl)
  rw [lg_entry_eq]
  generalize (lg_sl ([.ref mm, .int 2, .int b1, .int b2, .int b3, .int b4]) ++ List.replicate (8 - (lg_sl ([.ref mm, .int 2, .int b1, .int b2, .int b3, .int b4])).length) Slot.unset).toArray = ls at hl ⊢
  have hl : lv_has ls 8 [(0, .ref mm), (1, .int 2), (2, .int b1), (3, .int b2), (4, .int b3), (5, .int b4)] := hl
  subst hsz
  have hM := mw_self (sz := s.heap.size) hM0
  clear hM0
  generalize hAe : mA w s.heap.size = A at hM ⊢
  have hA : ∀ q : Nat, s.heap.size ≤ q → A q := fun q h => by rw [← hAe]; exact Or.inr h
  have hS : va_S A s.heap s.heap [] := va_S.rf
  refine lv_iload_n hx hb d_M_goes_0 rfl (lv_at hl 2 rfl) ?_
  refine lv_if_ne (tgt := 8) hx hb d_M_goes_1 (by decide) (fun c_1 => ?_) (fun c_1 => ?_)
  · refine lv_iload_n hx hb d_M_goes_8 rfl (lv_at hl 3 rfl) ?_
    refine lv_if_ne (tgt := 16) hx hb d_M_goes_9 (by decide) (fun c_2 => ?_) (fun c_2 => ?_)
    · refine lv_iload hx hb d_M_goes_16 (lv_at hl 4 rfl) ?_
      refine lv_if_ne (tgt := 25) hx hb d_M_goes_18 (by decide) (fun c_3 => ?_) (fun c_3 => ?_)
      · refine lv_iload hx hb d_M_goes_25 (lv_at hl 5 rfl) ?_
        refine lv_if_ne (tgt := 35) hx hb d_M_goes_27 (by decide) (fun c_4 => ?_) (fun c_4 => ?_)
        · refine lv_iconst (v := 0) hx hb d_M_goes_35 (by decide) ?_
          refine lv_istore (lv' := [(6, .int 0), (0, .ref mm), (1, .int 2), (2, .int b1), (3, .int b2), (4, .int b3), (5, .int b4)]) hx hb d_M_goes_36 hl (by decide) rfl (fun ls hl => ?_)
          refine lv_aload_n hx hb d_M_goes_38 rfl (lv_at hl 1 rfl) ?_
          refine lv_iconst (v := 0) hx hb d_M_goes_39 (by decide) ?_
          refine m_put (D := G) (ci := 6) (v := .int 0) (ty := .int) (C := nR_M) (T := nT_M) (N := 21) hx hb hta in_M nt_M nt_M_ok nn_M hown hK hM hS hm rfl 0 (by decide) (hta _ aw_543) (fun _ h9 => h9) rfl (by decide +kernel) rfl rfl (Nat.le_of_ble_eq_true rfl) d_M_goes_40 (fs' := [.int 0, .int no, .int wr, .int n, .ref (ad 0), .ref (ad 1), .ref (ad 2), .ref (ad 3), .ref (ad 4), .ref (ad 5), .int k, .ref (ad 6), .ref (ad 7), .ref (ad 8), .ref (ad 9), .int z, .int r, .int so, .ref (ad 10), .int pr, .ref (ad 11)]) rfl (fun H locs hM hS => ?_)
          obtain ⟨w_5, hw_5⟩ : ∃ z9 : Nat → Option va_E, z9 = va_up w mm (some (.inr (6, [.int 0, .int no, .int wr, .int n, .ref (ad 0), .ref (ad 1), .ref (ad 2), .ref (ad 3), .ref (ad 4), .ref (ad 5), .int k, .ref (ad 6), .ref (ad 7), .ref (ad 8), .ref (ad 9), .int z, .int r, .int so, .ref (ad 10), .int pr, .ref (ad 11)]))) := ⟨_, rfl⟩
          rw [← hw_5] at hM
          have k_6 : w_5 mm = some (.inr (6, [.int 0, .int no, .int wr, .int n, .ref (ad 0), .ref (ad 1), .ref (ad 2), .ref (ad 3), .ref (ad 4), .ref (ad 5), .int k, .ref (ad 6), .ref (ad 7), .ref (ad 8), .ref (ad 9), .int z, .int r, .int so, .ref (ad 10), .int pr, .ref (ad 11)])) := by rw [hw_5, va_up_self]
          refine lv_iconst (v := 1) hx hb d_M_goes_43 (by decide) ?_
          refine lv_istore (lv' := [(7, .int 1), (6, .int 0), (0, .ref mm), (1, .int 2), (2, .int b1), (3, .int b2), (4, .int b3), (5, .int b4)]) hx hb d_M_goes_44 hl (by decide) rfl (fun ls hl => ?_)
          refine lv_iload hx hb d_M_goes_46 (lv_at hl 0 rfl) ?_
          refine lv_iload hx hb d_M_goes_48 (lv_at hl 1 rfl) ?_
          refine lv_icmp_gt (tgt := 79) hx hb d_M_goes_50 (by decide) (fun c_7 => ?_) (fun c_7 => absurd (by decide) c_7)
          refine lv_iload hx hb d_M_goes_79 (lv_at hl 1 rfl) ?_
          refine lv_if_ne (tgt := 88) hx hb d_M_goes_81 (by decide) (fun c_8 => absurd (by decide) c_8) (fun c_8 => ?_)
          refine lv_iconst (v := 1) hx hb d_M_goes_84 (by decide) ?_
          refine lv_goto (tgt := 89) hx hb d_M_goes_85 (by decide) ?_
          have hg : gC b1 b2 b3 b4 = 0 := by simp [gC, c_1, c_2, c_3, c_4]
          have hM9 : mw G ncl A (va_up w mm (some (eM ad (nI (gT 2 (gC b1 b2 b3 b4))) no wr n k z r so pr))) H := by rw [hg, show nI (gT 2 0) = 0 by decide]; rw [hw_5] at hM; exact hM
          exact W.zret (v := 1) hx hb hr rfl (fun t ht hW => ⟨⟨1, (), rfl, by rw [hg]; rfl, by rw [ht]; exact hM9, va_K.moved hW.alike hK⟩, hS.F ht⟩) hS.2.2 d_M_goes_89
        · refine lv_bipush (v := 8) hx hb d_M_goes_30 (by decide) ?_
          refine lv_goto (tgt := 36) hx hb d_M_goes_32 (by decide) ?_
          refine lv_istore (lv' := [(6, .int 8), (0, .ref mm), (1, .int 2), (2, .int b1), (3, .int b2), (4, .int b3), (5, .int b4)]) hx hb d_M_goes_36 hl (by decide) rfl (fun ls hl => ?_)
          refine lv_aload_n hx hb d_M_goes_38 rfl (lv_at hl 1 rfl) ?_
          refine lv_iconst (v := 0) hx hb d_M_goes_39 (by decide) ?_
          refine m_put (D := G) (ci := 6) (v := .int 0) (ty := .int) (C := nR_M) (T := nT_M) (N := 21) hx hb hta in_M nt_M nt_M_ok nn_M hown hK hM hS hm rfl 0 (by decide) (hta _ aw_543) (fun _ h9 => h9) rfl (by decide +kernel) rfl rfl (Nat.le_of_ble_eq_true rfl) d_M_goes_40 (fs' := [.int 0, .int no, .int wr, .int n, .ref (ad 0), .ref (ad 1), .ref (ad 2), .ref (ad 3), .ref (ad 4), .ref (ad 5), .int k, .ref (ad 6), .ref (ad 7), .ref (ad 8), .ref (ad 9), .int z, .int r, .int so, .ref (ad 10), .int pr, .ref (ad 11)]) rfl (fun H locs hM hS => ?_)
          obtain ⟨w_9, hw_9⟩ : ∃ z9 : Nat → Option va_E, z9 = va_up w mm (some (.inr (6, [.int 0, .int no, .int wr, .int n, .ref (ad 0), .ref (ad 1), .ref (ad 2), .ref (ad 3), .ref (ad 4), .ref (ad 5), .int k, .ref (ad 6), .ref (ad 7), .ref (ad 8), .ref (ad 9), .int z, .int r, .int so, .ref (ad 10), .int pr, .ref (ad 11)]))) := ⟨_, rfl⟩
          rw [← hw_9] at hM
          have k_10 : w_9 mm = some (.inr (6, [.int 0, .int no, .int wr, .int n, .ref (ad 0), .ref (ad 1), .ref (ad 2), .ref (ad 3), .ref (ad 4), .ref (ad 5), .int k, .ref (ad 6), .ref (ad 7), .ref (ad 8), .ref (ad 9), .int z, .int r, .int so, .ref (ad 10), .int pr, .ref (ad 11)])) := by rw [hw_9, va_up_self]
          refine lv_iconst (v := 1) hx hb d_M_goes_43 (by decide) ?_
          refine lv_istore (lv' := [(7, .int 1), (6, .int 8), (0, .ref mm), (1, .int 2), (2, .int b1), (3, .int b2), (4, .int b3), (5, .int b4)]) hx hb d_M_goes_44 hl (by decide) rfl (fun ls hl => ?_)
          refine lv_iload hx hb d_M_goes_46 (lv_at hl 0 rfl) ?_
          refine lv_iload hx hb d_M_goes_48 (lv_at hl 1 rfl) ?_
          refine lv_icmp_gt (tgt := 79) hx hb d_M_goes_50 (by decide) (fun c_11 => absurd c_11 (by decide)) (fun c_11 => ?_)
          refine lv_iload_n hx hb d_M_goes_53 rfl (lv_at hl 3 rfl) ?_
          refine lv_iload hx hb d_M_goes_54 (lv_at hl 0 rfl) ?_
          refine lv_iand hx hb d_M_goes_56 ?_
          refine lv_if_le (tgt := 70) hx hb d_M_goes_57 (by decide) (fun c_12 => ?_) (fun c_12 => absurd (by decide) c_12)
          refine lv_iconst (v := 2) hx hb d_M_goes_70 (by decide) ?_
          refine lv_iload hx hb d_M_goes_71 (lv_at hl 0 rfl) ?_
          refine lv_imul hx hb d_M_goes_73 ?_
          refine lv_istore (lv' := [(7, .int (2 * 1)), (6, .int 8), (0, .ref mm), (1, .int 2), (2, .int b1), (3, .int b2), (4, .int b3), (5, .int b4)]) hx hb d_M_goes_74 hl (by decide) rfl (fun ls hl => ?_)
          refine lv_goto (tgt := 46) hx hb d_M_goes_76 (by decide) ?_
          refine lv_iload hx hb d_M_goes_46 (lv_at hl 0 rfl) ?_
          refine lv_iload hx hb d_M_goes_48 (lv_at hl 1 rfl) ?_
          refine lv_icmp_gt (tgt := 79) hx hb d_M_goes_50 (by decide) (fun c_13 => absurd c_13 (by decide)) (fun c_13 => ?_)
          refine lv_iload_n hx hb d_M_goes_53 rfl (lv_at hl 3 rfl) ?_
          refine lv_iload hx hb d_M_goes_54 (lv_at hl 0 rfl) ?_
          refine lv_iand hx hb d_M_goes_56 ?_
          refine lv_if_le (tgt := 70) hx hb d_M_goes_57 (by decide) (fun c_14 => absurd c_14 (by decide)) (fun c_14 => ?_)
          refine lv_aload_n hx hb d_M_goes_60 rfl (lv_at hl 2 rfl) ?_
          refine lv_dup hx hb d_M_goes_61 rfl ?_
          refine m_get (D := G) (ci := 6) (v := .int 0) (C := nR_M) (T := nT_M) (N := 21) hx hb hta in_M hown hK hM k_10 rfl 0 (by decide) (hta _ aw_543) (fun _ h9 => h9) rfl d_M_goes_62 ?_
          refine lv_iconst (v := 1) hx hb d_M_goes_65 (by decide) ?_
          refine lv_iadd hx hb d_M_goes_66 ?_
          refine m_put (D := G) (ci := 6) (v := .int (0 + 1)) (ty := .int) (C := nR_M) (T := nT_M) (N := 21) hx hb hta in_M nt_M nt_M_ok nn_M hown hK hM hS k_10 rfl 0 (by decide) (hta _ aw_543) (fun _ h9 => h9) rfl (by decide +kernel) rfl rfl (Nat.le_of_ble_eq_true rfl) d_M_goes_67 (fs' := [.int (0 + 1), .int no, .int wr, .int n, .ref (ad 0), .ref (ad 1), .ref (ad 2), .ref (ad 3), .ref (ad 4), .ref (ad 5), .int k, .ref (ad 6), .ref (ad 7), .ref (ad 8), .ref (ad 9), .int z, .int r, .int so, .ref (ad 10), .int pr, .ref (ad 11)]) rfl (fun H locs hM hS => ?_)
          obtain ⟨w_15, hw_15⟩ : ∃ z9 : Nat → Option va_E, z9 = va_up w_9 mm (some (.inr (6, [.int (0 + 1), .int no, .int wr, .int n, .ref (ad 0), .ref (ad 1), .ref (ad 2), .ref (ad 3), .ref (ad 4), .ref (ad 5), .int k, .ref (ad 6), .ref (ad 7), .ref (ad 8), .ref (ad 9), .int z, .int r, .int so, .ref (ad 10), .int pr, .ref (ad 11)]))) := ⟨_, rfl⟩
          rw [← hw_15] at hM
          have k_16 : w_15 mm = some (.inr (6, [.int (0 + 1), .int no, .int wr, .int n, .ref (ad 0), .ref (ad 1), .ref (ad 2), .ref (ad 3), .ref (ad 4), .ref (ad 5), .int k, .ref (ad 6), .ref (ad 7), .ref (ad 8), .ref (ad 9), .int z, .int r, .int so, .ref (ad 10), .int pr, .ref (ad 11)])) := by rw [hw_15, va_up_self]
          refine lv_iconst (v := 2) hx hb d_M_goes_70 (by decide) ?_
          refine lv_iload hx hb d_M_goes_71 (lv_at hl 0 rfl) ?_
          refine lv_imul hx hb d_M_goes_73 ?_
          refine lv_istore (lv' := [(7, .int (2 * (2 * 1))), (6, .int 8), (0, .ref mm), (1, .int 2), (2, .int b1), (3, .int b2), (4, .int b3), (5, .int b4)]) hx hb d_M_goes_74 hl (by decide) rfl (fun ls hl => ?_)
          refine lv_goto (tgt := 46) hx hb d_M_goes_76 (by decide) ?_
          refine lv_iload hx hb d_M_goes_46 (lv_at hl 0 rfl) ?_
          refine lv_iload hx hb d_M_goes_48 (lv_at hl 1 rfl) ?_
          refine lv_icmp_gt (tgt := 79) hx hb d_M_goes_50 (by decide) (fun c_17 => absurd c_17 (by decide)) (fun c_17 => ?_)
          refine lv_iload_n hx hb d_M_goes_53 rfl (lv_at hl 3 rfl) ?_
          refine lv_iload hx hb d_M_goes_54 (lv_at hl 0 rfl) ?_
          refine lv_iand hx hb d_M_goes_56 ?_
          refine lv_if_le (tgt := 70) hx hb d_M_goes_57 (by decide) (fun c_18 => ?_) (fun c_18 => absurd (by decide) c_18)
          refine lv_iconst (v := 2) hx hb d_M_goes_70 (by decide) ?_
          refine lv_iload hx hb d_M_goes_71 (lv_at hl 0 rfl) ?_
          refine lv_imul hx hb d_M_goes_73 ?_
          refine lv_istore (lv' := [(7, .int (2 * (2 * (2 * 1)))), (6, .int 8), (0, .ref mm), (1, .int 2), (2, .int b1), (3, .int b2), (4, .int b3), (5, .int b4)]) hx hb d_M_goes_74 hl (by decide) rfl (fun ls hl => ?_)
          refine lv_goto (tgt := 46) hx hb d_M_goes_76 (by decide) ?_
          refine lv_iload hx hb d_M_goes_46 (lv_at hl 0 rfl) ?_
          refine lv_iload hx hb d_M_goes_48 (lv_at hl 1 rfl) ?_
          refine lv_icmp_gt (tgt := 79) hx hb d_M_goes_50 (by decide) (fun c_19 => absurd c_19 (by decide)) (fun c_19 => ?_)
          refine lv_iload_n hx hb d_M_goes_53 rfl (lv_at hl 3 rfl) ?_
          refine lv_iload hx hb d_M_goes_54 (lv_at hl 0 rfl) ?_
          refine lv_iand hx hb d_M_goes_56 ?_
          refine lv_if_le (tgt := 70) hx hb d_M_goes_57 (by decide) (fun c_20 => ?_) (fun c_20 => absurd (by decide) c_20)
          refine lv_iconst (v := 2) hx hb d_M_goes_70 (by decide) ?_
          refine lv_iload hx hb d_M_goes_71 (lv_at hl 0 rfl) ?_
          refine lv_imul hx hb d_M_goes_73 ?_
          refine lv_istore (lv' := [(7, .int (2 * (2 * (2 * (2 * 1))))), (6, .int 8), (0, .ref mm), (1, .int 2), (2, .int b1), (3, .int b2), (4, .int b3), (5, .int b4)]) hx hb d_M_goes_74 hl (by decide) rfl (fun ls hl => ?_)
          refine lv_goto (tgt := 46) hx hb d_M_goes_76 (by decide) ?_
          refine lv_iload hx hb d_M_goes_46 (lv_at hl 0 rfl) ?_
          refine lv_iload hx hb d_M_goes_48 (lv_at hl 1 rfl) ?_
          refine lv_icmp_gt (tgt := 79) hx hb d_M_goes_50 (by decide) (fun c_21 => ?_) (fun c_21 => absurd (by decide) c_21)
          refine lv_iload hx hb d_M_goes_79 (lv_at hl 1 rfl) ?_
          refine lv_if_ne (tgt := 88) hx hb d_M_goes_81 (by decide) (fun c_22 => ?_) (fun c_22 => absurd c_22 (by decide))
          refine lv_iconst (v := 0) hx hb d_M_goes_88 (by decide) ?_
          have hg : gC b1 b2 b3 b4 = 4 := by simp [gC, c_1, c_2, c_3, c_4]
          have hM9 : mw G ncl A (va_up w mm (some (eM ad (nI (gT 2 (gC b1 b2 b3 b4))) no wr n k z r so pr))) H := by rw [hg, show nI (gT 2 4) = 0 + 1 by decide]; rw [hw_15, hw_9, bx_uu] at hM; exact hM
          exact W.zret (v := 0) hx hb hr rfl (fun t ht hW => ⟨⟨0, (), rfl, by rw [hg]; rfl, by rw [ht]; exact hM9, va_K.moved hW.alike hK⟩, hS.F ht⟩) hS.2.2 d_M_goes_89
      · refine lv_iconst (v := 4) hx hb d_M_goes_21 (by decide) ?_
        refine lv_goto (tgt := 36) hx hb d_M_goes_22 (by decide) ?_
        refine lv_istore (lv' := [(6, .int 4), (0, .ref mm), (1, .int 2), (2, .int b1), (3, .int b2), (4, .int b3), (5, .int b4)]) hx hb d_M_goes_36 hl (by decide) rfl (fun ls hl => ?_)
        refine lv_aload_n hx hb d_M_goes_38 rfl (lv_at hl 1 rfl) ?_
        refine lv_iconst (v := 0) hx hb d_M_goes_39 (by decide) ?_
        refine m_put (D := G) (ci := 6) (v := .int 0) (ty := .int) (C := nR_M) (T := nT_M) (N := 21) hx hb hta in_M nt_M nt_M_ok nn_M hown hK hM hS hm rfl 0 (by decide) (hta _ aw_543) (fun _ h9 => h9) rfl (by decide +kernel) rfl rfl (Nat.le_of_ble_eq_true rfl) d_M_goes_40 (fs' := [.int 0, .int no, .int wr, .int n, .ref (ad 0), .ref (ad 1), .ref (ad 2), .ref (ad 3), .ref (ad 4), .ref (ad 5), .int k, .ref (ad 6), .ref (ad 7), .ref (ad 8), .ref (ad 9), .int z, .int r, .int so, .ref (ad 10), .int pr, .ref (ad 11)]) rfl (fun H locs hM hS => ?_)
        obtain ⟨w_23, hw_23⟩ : ∃ z9 : Nat → Option va_E, z9 = va_up w mm (some (.inr (6, [.int 0, .int no, .int wr, .int n, .ref (ad 0), .ref (ad 1), .ref (ad 2), .ref (ad 3), .ref (ad 4), .ref (ad 5), .int k, .ref (ad 6), .ref (ad 7), .ref (ad 8), .ref (ad 9), .int z, .int r, .int so, .ref (ad 10), .int pr, .ref (ad 11)]))) := ⟨_, rfl⟩
        rw [← hw_23] at hM
        have k_24 : w_23 mm = some (.inr (6, [.int 0, .int no, .int wr, .int n, .ref (ad 0), .ref (ad 1), .ref (ad 2), .ref (ad 3), .ref (ad 4), .ref (ad 5), .int k, .ref (ad 6), .ref (ad 7), .ref (ad 8), .ref (ad 9), .int z, .int r, .int so, .ref (ad 10), .int pr, .ref (ad 11)])) := by rw [hw_23, va_up_self]
        refine lv_iconst (v := 1) hx hb d_M_goes_43 (by decide) ?_
        refine lv_istore (lv' := [(7, .int 1), (6, .int 4), (0, .ref mm), (1, .int 2), (2, .int b1), (3, .int b2), (4, .int b3), (5, .int b4)]) hx hb d_M_goes_44 hl (by decide) rfl (fun ls hl => ?_)
        refine lv_iload hx hb d_M_goes_46 (lv_at hl 0 rfl) ?_
        refine lv_iload hx hb d_M_goes_48 (lv_at hl 1 rfl) ?_
        refine lv_icmp_gt (tgt := 79) hx hb d_M_goes_50 (by decide) (fun c_25 => absurd c_25 (by decide)) (fun c_25 => ?_)
        refine lv_iload_n hx hb d_M_goes_53 rfl (lv_at hl 3 rfl) ?_
        refine lv_iload hx hb d_M_goes_54 (lv_at hl 0 rfl) ?_
        refine lv_iand hx hb d_M_goes_56 ?_
        refine lv_if_le (tgt := 70) hx hb d_M_goes_57 (by decide) (fun c_26 => ?_) (fun c_26 => absurd (by decide) c_26)
        refine lv_iconst (v := 2) hx hb d_M_goes_70 (by decide) ?_
        refine lv_iload hx hb d_M_goes_71 (lv_at hl 0 rfl) ?_
        refine lv_imul hx hb d_M_goes_73 ?_
        refine lv_istore (lv' := [(7, .int (2 * 1)), (6, .int 4), (0, .ref mm), (1, .int 2), (2, .int b1), (3, .int b2), (4, .int b3), (5, .int b4)]) hx hb d_M_goes_74 hl (by decide) rfl (fun ls hl => ?_)
        refine lv_goto (tgt := 46) hx hb d_M_goes_76 (by decide) ?_
        refine lv_iload hx hb d_M_goes_46 (lv_at hl 0 rfl) ?_
        refine lv_iload hx hb d_M_goes_48 (lv_at hl 1 rfl) ?_
        refine lv_icmp_gt (tgt := 79) hx hb d_M_goes_50 (by decide) (fun c_27 => absurd c_27 (by decide)) (fun c_27 => ?_)
        refine lv_iload_n hx hb d_M_goes_53 rfl (lv_at hl 3 rfl) ?_
        refine lv_iload hx hb d_M_goes_54 (lv_at hl 0 rfl) ?_
        refine lv_iand hx hb d_M_goes_56 ?_
        refine lv_if_le (tgt := 70) hx hb d_M_goes_57 (by decide) (fun c_28 => absurd c_28 (by decide)) (fun c_28 => ?_)
        refine lv_aload_n hx hb d_M_goes_60 rfl (lv_at hl 2 rfl) ?_
        refine lv_dup hx hb d_M_goes_61 rfl ?_
        refine m_get (D := G) (ci := 6) (v := .int 0) (C := nR_M) (T := nT_M) (N := 21) hx hb hta in_M hown hK hM k_24 rfl 0 (by decide) (hta _ aw_543) (fun _ h9 => h9) rfl d_M_goes_62 ?_
        refine lv_iconst (v := 1) hx hb d_M_goes_65 (by decide) ?_
        refine lv_iadd hx hb d_M_goes_66 ?_
        refine m_put (D := G) (ci := 6) (v := .int (0 + 1)) (ty := .int) (C := nR_M) (T := nT_M) (N := 21) hx hb hta in_M nt_M nt_M_ok nn_M hown hK hM hS k_24 rfl 0 (by decide) (hta _ aw_543) (fun _ h9 => h9) rfl (by decide +kernel) rfl rfl (Nat.le_of_ble_eq_true rfl) d_M_goes_67 (fs' := [.int (0 + 1), .int no, .int wr, .int n, .ref (ad 0), .ref (ad 1), .ref (ad 2), .ref (ad 3), .ref (ad 4), .ref (ad 5), .int k, .ref (ad 6), .ref (ad 7), .ref (ad 8), .ref (ad 9), .int z, .int r, .int so, .ref (ad 10), .int pr, .ref (ad 11)]) rfl (fun H locs hM hS => ?_)
        obtain ⟨w_29, hw_29⟩ : ∃ z9 : Nat → Option va_E, z9 = va_up w_23 mm (some (.inr (6, [.int (0 + 1), .int no, .int wr, .int n, .ref (ad 0), .ref (ad 1), .ref (ad 2), .ref (ad 3), .ref (ad 4), .ref (ad 5), .int k, .ref (ad 6), .ref (ad 7), .ref (ad 8), .ref (ad 9), .int z, .int r, .int so, .ref (ad 10), .int pr, .ref (ad 11)]))) := ⟨_, rfl⟩
        rw [← hw_29] at hM
        have k_30 : w_29 mm = some (.inr (6, [.int (0 + 1), .int no, .int wr, .int n, .ref (ad 0), .ref (ad 1), .ref (ad 2), .ref (ad 3), .ref (ad 4), .ref (ad 5), .int k, .ref (ad 6), .ref (ad 7), .ref (ad 8), .ref (ad 9), .int z, .int r, .int so, .ref (ad 10), .int pr, .ref (ad 11)])) := by rw [hw_29, va_up_self]
        refine lv_iconst (v := 2) hx hb d_M_goes_70 (by decide) ?_
        refine lv_iload hx hb d_M_goes_71 (lv_at hl 0 rfl) ?_
        refine lv_imul hx hb d_M_goes_73 ?_
        refine lv_istore (lv' := [(7, .int (2 * (2 * 1))), (6, .int 4), (0, .ref mm), (1, .int 2), (2, .int b1), (3, .int b2), (4, .int b3), (5, .int b4)]) hx hb d_M_goes_74 hl (by decide) rfl (fun ls hl => ?_)
        refine lv_goto (tgt := 46) hx hb d_M_goes_76 (by decide) ?_
        refine lv_iload hx hb d_M_goes_46 (lv_at hl 0 rfl) ?_
        refine lv_iload hx hb d_M_goes_48 (lv_at hl 1 rfl) ?_
        refine lv_icmp_gt (tgt := 79) hx hb d_M_goes_50 (by decide) (fun c_31 => absurd c_31 (by decide)) (fun c_31 => ?_)
        refine lv_iload_n hx hb d_M_goes_53 rfl (lv_at hl 3 rfl) ?_
        refine lv_iload hx hb d_M_goes_54 (lv_at hl 0 rfl) ?_
        refine lv_iand hx hb d_M_goes_56 ?_
        refine lv_if_le (tgt := 70) hx hb d_M_goes_57 (by decide) (fun c_32 => ?_) (fun c_32 => absurd (by decide) c_32)
        refine lv_iconst (v := 2) hx hb d_M_goes_70 (by decide) ?_
        refine lv_iload hx hb d_M_goes_71 (lv_at hl 0 rfl) ?_
        refine lv_imul hx hb d_M_goes_73 ?_
        refine lv_istore (lv' := [(7, .int (2 * (2 * (2 * 1)))), (6, .int 4), (0, .ref mm), (1, .int 2), (2, .int b1), (3, .int b2), (4, .int b3), (5, .int b4)]) hx hb d_M_goes_74 hl (by decide) rfl (fun ls hl => ?_)
        refine lv_goto (tgt := 46) hx hb d_M_goes_76 (by decide) ?_
        refine lv_iload hx hb d_M_goes_46 (lv_at hl 0 rfl) ?_
        refine lv_iload hx hb d_M_goes_48 (lv_at hl 1 rfl) ?_
        refine lv_icmp_gt (tgt := 79) hx hb d_M_goes_50 (by decide) (fun c_33 => ?_) (fun c_33 => absurd (by decide) c_33)
        refine lv_iload hx hb d_M_goes_79 (lv_at hl 1 rfl) ?_
        refine lv_if_ne (tgt := 88) hx hb d_M_goes_81 (by decide) (fun c_34 => ?_) (fun c_34 => absurd c_34 (by decide))
        refine lv_iconst (v := 0) hx hb d_M_goes_88 (by decide) ?_
        have hg : gC b1 b2 b3 b4 = 3 := by simp [gC, c_1, c_2, c_3]
        have hM9 : mw G ncl A (va_up w mm (some (eM ad (nI (gT 2 (gC b1 b2 b3 b4))) no wr n k z r so pr))) H := by rw [hg, show nI (gT 2 3) = 0 + 1 by decide]; rw [hw_29, hw_23, bx_uu] at hM; exact hM
        exact W.zret (v := 0) hx hb hr rfl (fun t ht hW => ⟨⟨0, (), rfl, by rw [hg]; rfl, by rw [ht]; exact hM9, va_K.moved hW.alike hK⟩, hS.F ht⟩) hS.2.2 d_M_goes_89
    · refine lv_iconst (v := 2) hx hb d_M_goes_12 (by decide) ?_
      refine lv_goto (tgt := 36) hx hb d_M_goes_13 (by decide) ?_
      refine lv_istore (lv' := [(6, .int 2), (0, .ref mm), (1, .int 2), (2, .int b1), (3, .int b2), (4, .int b3), (5, .int b4)]) hx hb d_M_goes_36 hl (by decide) rfl (fun ls hl => ?_)
      refine lv_aload_n hx hb d_M_goes_38 rfl (lv_at hl 1 rfl) ?_
      refine lv_iconst (v := 0) hx hb d_M_goes_39 (by decide) ?_
      refine m_put (D := G) (ci := 6) (v := .int 0) (ty := .int) (C := nR_M) (T := nT_M) (N := 21) hx hb hta in_M nt_M nt_M_ok nn_M hown hK hM hS hm rfl 0 (by decide) (hta _ aw_543) (fun _ h9 => h9) rfl (by decide +kernel) rfl rfl (Nat.le_of_ble_eq_true rfl) d_M_goes_40 (fs' := [.int 0, .int no, .int wr, .int n, .ref (ad 0), .ref (ad 1), .ref (ad 2), .ref (ad 3), .ref (ad 4), .ref (ad 5), .int k, .ref (ad 6), .ref (ad 7), .ref (ad 8), .ref (ad 9), .int z, .int r, .int so, .ref (ad 10), .int pr, .ref (ad 11)]) rfl (fun H locs hM hS => ?_)
      obtain ⟨w_35, hw_35⟩ : ∃ z9 : Nat → Option va_E, z9 = va_up w mm (some (.inr (6, [.int 0, .int no, .int wr, .int n, .ref (ad 0), .ref (ad 1), .ref (ad 2), .ref (ad 3), .ref (ad 4), .ref (ad 5), .int k, .ref (ad 6), .ref (ad 7), .ref (ad 8), .ref (ad 9), .int z, .int r, .int so, .ref (ad 10), .int pr, .ref (ad 11)]))) := ⟨_, rfl⟩
      rw [← hw_35] at hM
      have k_36 : w_35 mm = some (.inr (6, [.int 0, .int no, .int wr, .int n, .ref (ad 0), .ref (ad 1), .ref (ad 2), .ref (ad 3), .ref (ad 4), .ref (ad 5), .int k, .ref (ad 6), .ref (ad 7), .ref (ad 8), .ref (ad 9), .int z, .int r, .int so, .ref (ad 10), .int pr, .ref (ad 11)])) := by rw [hw_35, va_up_self]
      refine lv_iconst (v := 1) hx hb d_M_goes_43 (by decide) ?_
      refine lv_istore (lv' := [(7, .int 1), (6, .int 2), (0, .ref mm), (1, .int 2), (2, .int b1), (3, .int b2), (4, .int b3), (5, .int b4)]) hx hb d_M_goes_44 hl (by decide) rfl (fun ls hl => ?_)
      refine lv_iload hx hb d_M_goes_46 (lv_at hl 0 rfl) ?_
      refine lv_iload hx hb d_M_goes_48 (lv_at hl 1 rfl) ?_
      refine lv_icmp_gt (tgt := 79) hx hb d_M_goes_50 (by decide) (fun c_37 => absurd c_37 (by decide)) (fun c_37 => ?_)
      refine lv_iload_n hx hb d_M_goes_53 rfl (lv_at hl 3 rfl) ?_
      refine lv_iload hx hb d_M_goes_54 (lv_at hl 0 rfl) ?_
      refine lv_iand hx hb d_M_goes_56 ?_
      refine lv_if_le (tgt := 70) hx hb d_M_goes_57 (by decide) (fun c_38 => ?_) (fun c_38 => absurd (by decide) c_38)
      refine lv_iconst (v := 2) hx hb d_M_goes_70 (by decide) ?_
      refine lv_iload hx hb d_M_goes_71 (lv_at hl 0 rfl) ?_
      refine lv_imul hx hb d_M_goes_73 ?_
      refine lv_istore (lv' := [(7, .int (2 * 1)), (6, .int 2), (0, .ref mm), (1, .int 2), (2, .int b1), (3, .int b2), (4, .int b3), (5, .int b4)]) hx hb d_M_goes_74 hl (by decide) rfl (fun ls hl => ?_)
      refine lv_goto (tgt := 46) hx hb d_M_goes_76 (by decide) ?_
      refine lv_iload hx hb d_M_goes_46 (lv_at hl 0 rfl) ?_
      refine lv_iload hx hb d_M_goes_48 (lv_at hl 1 rfl) ?_
      refine lv_icmp_gt (tgt := 79) hx hb d_M_goes_50 (by decide) (fun c_39 => absurd c_39 (by decide)) (fun c_39 => ?_)
      refine lv_iload_n hx hb d_M_goes_53 rfl (lv_at hl 3 rfl) ?_
      refine lv_iload hx hb d_M_goes_54 (lv_at hl 0 rfl) ?_
      refine lv_iand hx hb d_M_goes_56 ?_
      refine lv_if_le (tgt := 70) hx hb d_M_goes_57 (by decide) (fun c_40 => absurd c_40 (by decide)) (fun c_40 => ?_)
      refine lv_aload_n hx hb d_M_goes_60 rfl (lv_at hl 2 rfl) ?_
      refine lv_dup hx hb d_M_goes_61 rfl ?_
      refine m_get (D := G) (ci := 6) (v := .int 0) (C := nR_M) (T := nT_M) (N := 21) hx hb hta in_M hown hK hM k_36 rfl 0 (by decide) (hta _ aw_543) (fun _ h9 => h9) rfl d_M_goes_62 ?_
      refine lv_iconst (v := 1) hx hb d_M_goes_65 (by decide) ?_
      refine lv_iadd hx hb d_M_goes_66 ?_
      refine m_put (D := G) (ci := 6) (v := .int (0 + 1)) (ty := .int) (C := nR_M) (T := nT_M) (N := 21) hx hb hta in_M nt_M nt_M_ok nn_M hown hK hM hS k_36 rfl 0 (by decide) (hta _ aw_543) (fun _ h9 => h9) rfl (by decide +kernel) rfl rfl (Nat.le_of_ble_eq_true rfl) d_M_goes_67 (fs' := [.int (0 + 1), .int no, .int wr, .int n, .ref (ad 0), .ref (ad 1), .ref (ad 2), .ref (ad 3), .ref (ad 4), .ref (ad 5), .int k, .ref (ad 6), .ref (ad 7), .ref (ad 8), .ref (ad 9), .int z, .int r, .int so, .ref (ad 10), .int pr, .ref (ad 11)]) rfl (fun H locs hM hS => ?_)
      obtain ⟨w_41, hw_41⟩ : ∃ z9 : Nat → Option va_E, z9 = va_up w_35 mm (some (.inr (6, [.int (0 + 1), .int no, .int wr, .int n, .ref (ad 0), .ref (ad 1), .ref (ad 2), .ref (ad 3), .ref (ad 4), .ref (ad 5), .int k, .ref (ad 6), .ref (ad 7), .ref (ad 8), .ref (ad 9), .int z, .int r, .int so, .ref (ad 10), .int pr, .ref (ad 11)]))) := ⟨_, rfl⟩
      rw [← hw_41] at hM
      have k_42 : w_41 mm = some (.inr (6, [.int (0 + 1), .int no, .int wr, .int n, .ref (ad 0), .ref (ad 1), .ref (ad 2), .ref (ad 3), .ref (ad 4), .ref (ad 5), .int k, .ref (ad 6), .ref (ad 7), .ref (ad 8), .ref (ad 9), .int z, .int r, .int so, .ref (ad 10), .int pr, .ref (ad 11)])) := by rw [hw_41, va_up_self]
      refine lv_iconst (v := 2) hx hb d_M_goes_70 (by decide) ?_
      refine lv_iload hx hb d_M_goes_71 (lv_at hl 0 rfl) ?_
      refine lv_imul hx hb d_M_goes_73 ?_
      refine lv_istore (lv' := [(7, .int (2 * (2 * 1))), (6, .int 2), (0, .ref mm), (1, .int 2), (2, .int b1), (3, .int b2), (4, .int b3), (5, .int b4)]) hx hb d_M_goes_74 hl (by decide) rfl (fun ls hl => ?_)
      refine lv_goto (tgt := 46) hx hb d_M_goes_76 (by decide) ?_
      refine lv_iload hx hb d_M_goes_46 (lv_at hl 0 rfl) ?_
      refine lv_iload hx hb d_M_goes_48 (lv_at hl 1 rfl) ?_
      refine lv_icmp_gt (tgt := 79) hx hb d_M_goes_50 (by decide) (fun c_43 => ?_) (fun c_43 => absurd (by decide) c_43)
      refine lv_iload hx hb d_M_goes_79 (lv_at hl 1 rfl) ?_
      refine lv_if_ne (tgt := 88) hx hb d_M_goes_81 (by decide) (fun c_44 => ?_) (fun c_44 => absurd c_44 (by decide))
      refine lv_iconst (v := 0) hx hb d_M_goes_88 (by decide) ?_
      have hg : gC b1 b2 b3 b4 = 2 := by simp [gC, c_1, c_2]
      have hM9 : mw G ncl A (va_up w mm (some (eM ad (nI (gT 2 (gC b1 b2 b3 b4))) no wr n k z r so pr))) H := by rw [hg, show nI (gT 2 2) = 0 + 1 by decide]; rw [hw_41, hw_35, bx_uu] at hM; exact hM
      exact W.zret (v := 0) hx hb hr rfl (fun t ht hW => ⟨⟨0, (), rfl, by rw [hg]; rfl, by rw [ht]; exact hM9, va_K.moved hW.alike hK⟩, hS.F ht⟩) hS.2.2 d_M_goes_89
  · refine lv_iconst (v := 1) hx hb d_M_goes_4 (by decide) ?_
    refine lv_goto (tgt := 36) hx hb d_M_goes_5 (by decide) ?_
    refine lv_istore (lv' := [(6, .int 1), (0, .ref mm), (1, .int 2), (2, .int b1), (3, .int b2), (4, .int b3), (5, .int b4)]) hx hb d_M_goes_36 hl (by decide) rfl (fun ls hl => ?_)
    refine lv_aload_n hx hb d_M_goes_38 rfl (lv_at hl 1 rfl) ?_
    refine lv_iconst (v := 0) hx hb d_M_goes_39 (by decide) ?_
    refine m_put (D := G) (ci := 6) (v := .int 0) (ty := .int) (C := nR_M) (T := nT_M) (N := 21) hx hb hta in_M nt_M nt_M_ok nn_M hown hK hM hS hm rfl 0 (by decide) (hta _ aw_543) (fun _ h9 => h9) rfl (by decide +kernel) rfl rfl (Nat.le_of_ble_eq_true rfl) d_M_goes_40 (fs' := [.int 0, .int no, .int wr, .int n, .ref (ad 0), .ref (ad 1), .ref (ad 2), .ref (ad 3), .ref (ad 4), .ref (ad 5), .int k, .ref (ad 6), .ref (ad 7), .ref (ad 8), .ref (ad 9), .int z, .int r, .int so, .ref (ad 10), .int pr, .ref (ad 11)]) rfl (fun H locs hM hS => ?_)
    obtain ⟨w_45, hw_45⟩ : ∃ z9 : Nat → Option va_E, z9 = va_up w mm (some (.inr (6, [.int 0, .int no, .int wr, .int n, .ref (ad 0), .ref (ad 1), .ref (ad 2), .ref (ad 3), .ref (ad 4), .ref (ad 5), .int k, .ref (ad 6), .ref (ad 7), .ref (ad 8), .ref (ad 9), .int z, .int r, .int so, .ref (ad 10), .int pr, .ref (ad 11)]))) := ⟨_, rfl⟩
    rw [← hw_45] at hM
    have k_46 : w_45 mm = some (.inr (6, [.int 0, .int no, .int wr, .int n, .ref (ad 0), .ref (ad 1), .ref (ad 2), .ref (ad 3), .ref (ad 4), .ref (ad 5), .int k, .ref (ad 6), .ref (ad 7), .ref (ad 8), .ref (ad 9), .int z, .int r, .int so, .ref (ad 10), .int pr, .ref (ad 11)])) := by rw [hw_45, va_up_self]
    refine lv_iconst (v := 1) hx hb d_M_goes_43 (by decide) ?_
    refine lv_istore (lv' := [(7, .int 1), (6, .int 1), (0, .ref mm), (1, .int 2), (2, .int b1), (3, .int b2), (4, .int b3), (5, .int b4)]) hx hb d_M_goes_44 hl (by decide) rfl (fun ls hl => ?_)
    refine lv_iload hx hb d_M_goes_46 (lv_at hl 0 rfl) ?_
    refine lv_iload hx hb d_M_goes_48 (lv_at hl 1 rfl) ?_
    refine lv_icmp_gt (tgt := 79) hx hb d_M_goes_50 (by decide) (fun c_47 => absurd c_47 (by decide)) (fun c_47 => ?_)
    refine lv_iload_n hx hb d_M_goes_53 rfl (lv_at hl 3 rfl) ?_
    refine lv_iload hx hb d_M_goes_54 (lv_at hl 0 rfl) ?_
    refine lv_iand hx hb d_M_goes_56 ?_
    refine lv_if_le (tgt := 70) hx hb d_M_goes_57 (by decide) (fun c_48 => ?_) (fun c_48 => absurd (by decide) c_48)
    refine lv_iconst (v := 2) hx hb d_M_goes_70 (by decide) ?_
    refine lv_iload hx hb d_M_goes_71 (lv_at hl 0 rfl) ?_
    refine lv_imul hx hb d_M_goes_73 ?_
    refine lv_istore (lv' := [(7, .int (2 * 1)), (6, .int 1), (0, .ref mm), (1, .int 2), (2, .int b1), (3, .int b2), (4, .int b3), (5, .int b4)]) hx hb d_M_goes_74 hl (by decide) rfl (fun ls hl => ?_)
    refine lv_goto (tgt := 46) hx hb d_M_goes_76 (by decide) ?_
    refine lv_iload hx hb d_M_goes_46 (lv_at hl 0 rfl) ?_
    refine lv_iload hx hb d_M_goes_48 (lv_at hl 1 rfl) ?_
    refine lv_icmp_gt (tgt := 79) hx hb d_M_goes_50 (by decide) (fun c_49 => ?_) (fun c_49 => absurd (by decide) c_49)
    refine lv_iload hx hb d_M_goes_79 (lv_at hl 1 rfl) ?_
    refine lv_if_ne (tgt := 88) hx hb d_M_goes_81 (by decide) (fun c_50 => ?_) (fun c_50 => absurd c_50 (by decide))
    refine lv_iconst (v := 0) hx hb d_M_goes_88 (by decide) ?_
    have hg : gC b1 b2 b3 b4 = 1 := by simp [gC, c_1]
    have hM9 : mw G ncl A (va_up w mm (some (eM ad (nI (gT 2 (gC b1 b2 b3 b4))) no wr n k z r so pr))) H := by rw [hg, show nI (gT 2 1) = 0 by decide]; rw [hw_45] at hM; exact hM
    exact W.zret (v := 0) hx hb hr rfl (fun t ht hW => ⟨⟨0, (), rfl, by rw [hg]; rfl, by rw [ht]; exact hM9, va_K.moved hW.alike hK⟩, hS.F ht⟩) hS.2.2 d_M_goes_89
set_option maxHeartbeats 4000000 in
set_option maxRecDepth 100000 in
theorem k_M_goes_4 (l : Launch) (G : va_G) (q0 q1 : ClassId × FieldType) (cI : ClassId) (ty2 : List (ClassId × FieldType)) (w : Nat → Option va_E) {mm : Nat} {ad : Nat → Nat} {f : Nat → Nat → Int32} {th no wr n k z r so pr : Int32} (hm : w mm = some (eM ad th no wr n k z r so pr)) (hma : ∀ i, i < 12 → w (ad i) = some (aI cI (msz i) (f i))) (b1 b2 b3 b4 : Int32) (sz : Nat) : Met l y_M_goes (wm y_M_goes c_M_goes 8 (some .boolean)) ({ frames := 0, cells := 0, slots := 0, locals := 0 }) (pZ G (q0 :: q1 :: (cI, .int) :: ty2) w sz [.ref mm, .int 4, .int b1, .int b2, .int b3, .int b4]) (va_Qi (fun (r0 : Int32) (u : Unit) => r0 = if gC b1 b2 b3 b4 = 0 then 1 else 0) (fun _ t => mw G ncl (mA w sz) (va_up w mm (some (eM ad (nI (gT 4 (gC b1 b2 b3 b4))) no wr n k z r so pr))) t.heap ∧ va_K G ncl (q0 :: q1 :: (cI, .int) :: ty2) t) (mA w sz)) 0 0 (mA w sz) := by
  refine Met.ofW (cc := c_M_goes) (maxL := 8) (ret := (some .boolean)) (by decide) rfl ?_
  intro p e s m args below meth c s₁ B hml hv
  obtain ⟨rfl, hsz, hM0, hK⟩ := hv
  have hx := B.exec
  have hb := B.bytes
  have hr := B.returns
  have hts := atoms_spec (ws := (wm y_M_goes c_M_goes 8 (some .boolean))) B.pre
  have hta : ∀ w ∈ AL, w.before _ s = true := fun w h => hts w (List.mem_cons_of_mem _ h)
  have hown : s.vm.findClass nR_M = some m.cls := findClass_of_methodNamed B.named
  have hlocks := B.notSynchronized
  have hl := lv_entry ([.ref mm, .int 4, .int b1, .int b2, .int b3, .int b4]) (n := 8) (Nat.le_of_ble_eq_true rfl)
  rw [lg_entry_eq]
  generalize (lg_sl ([.ref mm, .int 4, .int b1, .int b2, .int b3, .int b4]) ++ List.replicate (8 - (lg_sl ([.ref mm, .int 4, .int b1, .int b2, .int b3, .int b4])).length) Slot.unset).toArray = ls at hl ⊢
  have hl : lv_has ls 8 [(0, .ref mm), (1, .int 4), (2, .int b1), (3, .int b2), (4, .int b3), (5, .int b4)] := hl
  subst hsz
  have hM := mw_self (sz := s.heap.size) hM0
  clear hM0
  generalize hAe : mA w s.heap.size = A at hM ⊢
  have hA : ∀ q : Nat, s.heap.size ≤ q → A q := fun q h => by rw [← hAe]; exact Or.inr h
  have hS : va_S A s.heap s.heap [] := va_S.rf
  refine lv_iload_n hx hb d_M_goes_0 rfl (lv_at hl 2 rfl) ?_
  refine lv_if_ne (tgt := 8) hx hb d_M_goes_1 (by decide) (fun c_1 => ?_) (fun c_1 => ?_)
  · refine lv_iload_n hx hb d_M_goes_8 rfl (lv_at hl 3 rfl) ?_
    refine lv_if_ne (tgt := 16) hx hb d_M_goes_9 (by decide) (fun c_2 => ?_) (fun c_2 => ?_)
    · refine lv_iload hx hb d_M_goes_16 (lv_at hl 4 rfl) ?_
      refine lv_if_ne (tgt := 25) hx hb d_M_goes_18 (by decide) (fun c_3 => ?_) (fun c_3 => ?_)
      · refine lv_iload hx hb d_M_goes_25 (lv_at hl 5 rfl) ?_
        refine lv_if_ne (tgt := 35) hx hb d_M_goes_27 (by decide) (fun c_4 => ?_) (fun c_4 => ?_)
        · refine lv_iconst (v := 0) hx hb d_M_goes_35 (by decide) ?_
          refine lv_istore (lv' := [(6, .int 0), (0, .ref mm), (1, .int 4), (2, .int b1), (3, .int b2), (4, .int b3), (5, .int b4)]) hx hb d_M_goes_36 hl (by decide) rfl (fun ls hl => ?_)
          refine lv_aload_n hx hb d_M_goes_38 rfl (lv_at hl 1 rfl) ?_
          refine lv_iconst (v := 0) hx hb d_M_goes_39 (by decide) ?_
          refine m_put (D := G) (ci := 6) (v := .int 0) (ty := .int) (C := nR_M) (T := nT_M) (N := 21) hx hb hta in_M nt_M nt_M_ok nn_M hown hK hM hS hm rfl 0 (by decide) (hta _ aw_543) (fun _ h9 => h9) rfl (by decide +kernel) rfl rfl (Nat.le_of_ble_eq_true rfl) d_M_goes_40 (fs' := [.int 0, .int no, .int wr, .int n, .ref (ad 0), .ref (ad 1), .ref (ad 2), .ref (ad 3), .ref (ad 4), .ref (ad 5), .int k, .ref (ad 6), .ref (ad 7), .ref (ad 8), .ref (ad 9), .int z, .int r, .int so, .ref (ad 10), .int pr, .ref (ad 11)]) rfl (fun H locs hM hS => ?_)
          obtain ⟨w_5, hw_5⟩ : ∃ z9 : Nat → Option va_E, z9 = va_up w mm (some (.inr (6, [.int 0, .int no, .int wr, .int n, .ref (ad 0), .ref (ad 1), .ref (ad 2), .ref (ad 3), .ref (ad 4), .ref (ad 5), .int k, .ref (ad 6), .ref (ad 7), .ref (ad 8), .ref (ad 9), .int z, .int r, .int so, .ref (ad 10), .int pr, .ref (ad 11)]))) := ⟨_, rfl⟩
          rw [← hw_5] at hM
          have k_6 : w_5 mm = some (.inr (6, [.int 0, .int no, .int wr, .int n, .ref (ad 0), .ref (ad 1), .ref (ad 2), .ref (ad 3), .ref (ad 4), .ref (ad 5), .int k, .ref (ad 6), .ref (ad 7), .ref (ad 8), .ref (ad 9), .int z, .int r, .int so, .ref (ad 10), .int pr, .ref (ad 11)])) := by rw [hw_5, va_up_self]
          refine lv_iconst (v := 1) hx hb d_M_goes_43 (by decide) ?_
          refine lv_istore (lv' := [(7, .int 1), (6, .int 0), (0, .ref mm), (1, .int 4), (2, .int b1), (3, .int b2), (4, .int b3), (5, .int b4)]) hx hb d_M_goes_44 hl (by decide) rfl (fun ls hl => ?_)
          refine lv_iload hx hb d_M_goes_46 (lv_at hl 0 rfl) ?_
          refine lv_iload hx hb d_M_goes_48 (lv_at hl 1 rfl) ?_
          refine lv_icmp_gt (tgt := 79) hx hb d_M_goes_50 (by decide) (fun c_7 => ?_) (fun c_7 => absurd (by decide) c_7)
          refine lv_iload hx hb d_M_goes_79 (lv_at hl 1 rfl) ?_
          refine lv_if_ne (tgt := 88) hx hb d_M_goes_81 (by decide) (fun c_8 => absurd (by decide) c_8) (fun c_8 => ?_)
          refine lv_iconst (v := 1) hx hb d_M_goes_84 (by decide) ?_
          refine lv_goto (tgt := 89) hx hb d_M_goes_85 (by decide) ?_
          have hg : gC b1 b2 b3 b4 = 0 := by simp [gC, c_1, c_2, c_3, c_4]
          have hM9 : mw G ncl A (va_up w mm (some (eM ad (nI (gT 4 (gC b1 b2 b3 b4))) no wr n k z r so pr))) H := by rw [hg, show nI (gT 4 0) = 0 by decide]; rw [hw_5] at hM; exact hM
          exact W.zret (v := 1) hx hb hr rfl (fun t ht hW => ⟨⟨1, (), rfl, by rw [hg]; rfl, by rw [ht]; exact hM9, va_K.moved hW.alike hK⟩, hS.F ht⟩) hS.2.2 d_M_goes_89
        · refine lv_bipush (v := 8) hx hb d_M_goes_30 (by decide) ?_
          refine lv_goto (tgt := 36) hx hb d_M_goes_32 (by decide) ?_
          refine lv_istore (lv' := [(6, .int 8), (0, .ref mm), (1, .int 4), (2, .int b1), (3, .int b2), (4, .int b3), (5, .int b4)]) hx hb d_M_goes_36 hl (by decide) rfl (fun ls hl => ?_)
          refine lv_aload_n hx hb d_M_goes_38 rfl (lv_at hl 1 rfl) ?_
          refine lv_iconst (v := 0) hx hb d_M_goes_39 (by decide) ?_
          refine m_put (D := G) (ci := 6) (v := .int 0) (ty := .int) (C := nR_M) (T := nT_M) (N := 21) hx hb hta in_M nt_M nt_M_ok nn_M hown hK hM hS hm rfl 0 (by decide) (hta _ aw_543) (fun _ h9 => h9) rfl (by decide +kernel) rfl rfl (Nat.le_of_ble_eq_true rfl) d_M_goes_40 (fs' := [.int 0, .int no, .int wr, .int n, .ref (ad 0), .ref (ad 1), .ref (ad 2), .ref (ad 3), .ref (ad 4), .ref (ad 5), .int k, .ref (ad 6), .ref (ad 7), .ref (ad 8), .ref (ad 9), .int z, .int r, .int so, .ref (ad 10), .int pr, .ref (ad 11)]) rfl (fun H locs hM hS => ?_)
          obtain ⟨w_9, hw_9⟩ : ∃ z9 : Nat → Option va_E, z9 = va_up w mm (some (.inr (6, [.int 0, .int no, .int wr, .int n, .ref (ad 0), .ref (ad 1), .ref (ad 2), .ref (ad 3), .ref (ad 4), .ref (ad 5), .int k, .ref (ad 6), .ref (ad 7), .ref (ad 8), .ref (ad 9), .int z, .int r, .int so, .ref (ad 10), .int pr, .ref (ad 11)]))) := ⟨_, rfl⟩
          rw [← hw_9] at hM
          have k_10 : w_9 mm = some (.inr (6, [.int 0, .int no, .int wr, .int n, .ref (ad 0), .ref (ad 1), .ref (ad 2), .ref (ad 3), .ref (ad 4), .ref (ad 5), .int k, .ref (ad 6), .ref (ad 7), .ref (ad 8), .ref (ad 9), .int z, .int r, .int so, .ref (ad 10), .int pr, .ref (ad 11)])) := by rw [hw_9, va_up_self]
          refine lv_iconst (v := 1) hx hb d_M_goes_43 (by decide) ?_
          refine lv_istore (lv' := [(7, .int 1), (6, .int 8), (0, .ref mm), (1, .int 4), (2, .int b1), (3, .int b2), (4, .int b3), (5, .int b4)]) hx hb d_M_goes_44 hl (by decide) rfl (fun ls hl => ?_)
          refine lv_iload hx hb d_M_goes_46 (lv_at hl 0 rfl) ?_
          refine lv_iload hx hb d_M_goes_48 (lv_at hl 1 rfl) ?_
          refine lv_icmp_gt (tgt := 79) hx hb d_M_goes_50 (by decide) (fun c_11 => absurd c_11 (by decide)) (fun c_11 => ?_)
          refine lv_iload_n hx hb d_M_goes_53 rfl (lv_at hl 3 rfl) ?_
          refine lv_iload hx hb d_M_goes_54 (lv_at hl 0 rfl) ?_
          refine lv_iand hx hb d_M_goes_56 ?_
          refine lv_if_le (tgt := 70) hx hb d_M_goes_57 (by decide) (fun c_12 => ?_) (fun c_12 => absurd (by decide) c_12)
          refine lv_iconst (v := 2) hx hb d_M_goes_70 (by decide) ?_
          refine lv_iload hx hb d_M_goes_71 (lv_at hl 0 rfl) ?_
          refine lv_imul hx hb d_M_goes_73 ?_
          refine lv_istore (lv' := [(7, .int (2 * 1)), (6, .int 8), (0, .ref mm), (1, .int 4), (2, .int b1), (3, .int b2), (4, .int b3), (5, .int b4)]) hx hb d_M_goes_74 hl (by decide) rfl (fun ls hl => ?_)
          refine lv_goto (tgt := 46) hx hb d_M_goes_76 (by decide) ?_
          refine lv_iload hx hb d_M_goes_46 (lv_at hl 0 rfl) ?_
          refine lv_iload hx hb d_M_goes_48 (lv_at hl 1 rfl) ?_
          refine lv_icmp_gt (tgt := 79) hx hb d_M_goes_50 (by decide) (fun c_13 => absurd c_13 (by decide)) (fun c_13 => ?_)
          refine lv_iload_n hx hb d_M_goes_53 rfl (lv_at hl 3 rfl) ?_
          refine lv_iload hx hb d_M_goes_54 (lv_at hl 0 rfl) ?_
          refine lv_iand hx hb d_M_goes_56 ?_
          refine lv_if_le (tgt := 70) hx hb d_M_goes_57 (by decide) (fun c_14 => ?_) (fun c_14 => absurd (by decide) c_14)
          refine lv_iconst (v := 2) hx hb d_M_goes_70 (by decide) ?_
          refine lv_iload hx hb d_M_goes_71 (lv_at hl 0 rfl) ?_
          refine lv_imul hx hb d_M_goes_73 ?_
          refine lv_istore (lv' := [(7, .int (2 * (2 * 1))), (6, .int 8), (0, .ref mm), (1, .int 4), (2, .int b1), (3, .int b2), (4, .int b3), (5, .int b4)]) hx hb d_M_goes_74 hl (by decide) rfl (fun ls hl => ?_)
          refine lv_goto (tgt := 46) hx hb d_M_goes_76 (by decide) ?_
          refine lv_iload hx hb d_M_goes_46 (lv_at hl 0 rfl) ?_
          refine lv_iload hx hb d_M_goes_48 (lv_at hl 1 rfl) ?_
          refine lv_icmp_gt (tgt := 79) hx hb d_M_goes_50 (by decide) (fun c_15 => absurd c_15 (by decide)) (fun c_15 => ?_)
          refine lv_iload_n hx hb d_M_goes_53 rfl (lv_at hl 3 rfl) ?_
          refine lv_iload hx hb d_M_goes_54 (lv_at hl 0 rfl) ?_
          refine lv_iand hx hb d_M_goes_56 ?_
          refine lv_if_le (tgt := 70) hx hb d_M_goes_57 (by decide) (fun c_16 => absurd c_16 (by decide)) (fun c_16 => ?_)
          refine lv_aload_n hx hb d_M_goes_60 rfl (lv_at hl 2 rfl) ?_
          refine lv_dup hx hb d_M_goes_61 rfl ?_
          refine m_get (D := G) (ci := 6) (v := .int 0) (C := nR_M) (T := nT_M) (N := 21) hx hb hta in_M hown hK hM k_10 rfl 0 (by decide) (hta _ aw_543) (fun _ h9 => h9) rfl d_M_goes_62 ?_
          refine lv_iconst (v := 1) hx hb d_M_goes_65 (by decide) ?_
          refine lv_iadd hx hb d_M_goes_66 ?_
          refine m_put (D := G) (ci := 6) (v := .int (0 + 1)) (ty := .int) (C := nR_M) (T := nT_M) (N := 21) hx hb hta in_M nt_M nt_M_ok nn_M hown hK hM hS k_10 rfl 0 (by decide) (hta _ aw_543) (fun _ h9 => h9) rfl (by decide +kernel) rfl rfl (Nat.le_of_ble_eq_true rfl) d_M_goes_67 (fs' := [.int (0 + 1), .int no, .int wr, .int n, .ref (ad 0), .ref (ad 1), .ref (ad 2), .ref (ad 3), .ref (ad 4), .ref (ad 5), .int k, .ref (ad 6), .ref (ad 7), .ref (ad 8), .ref (ad 9), .int z, .int r, .int so, .ref (ad 10), .int pr, .ref (ad 11)]) rfl (fun H locs hM hS => ?_)
          obtain ⟨w_17, hw_17⟩ : ∃ z9 : Nat → Option va_E, z9 = va_up w_9 mm (some (.inr (6, [.int (0 + 1), .int no, .int wr, .int n, .ref (ad 0), .ref (ad 1), .ref (ad 2), .ref (ad 3), .ref (ad 4), .ref (ad 5), .int k, .ref (ad 6), .ref (ad 7), .ref (ad 8), .ref (ad 9), .int z, .int r, .int so, .ref (ad 10), .int pr, .ref (ad 11)]))) := ⟨_, rfl⟩
          rw [← hw_17] at hM
          have k_18 : w_17 mm = some (.inr (6, [.int (0 + 1), .int no, .int wr, .int n, .ref (ad 0), .ref (ad 1), .ref (ad 2), .ref (ad 3), .ref (ad 4), .ref (ad 5), .int k, .ref (ad 6), .ref (ad 7), .ref (ad 8), .ref (ad 9), .int z, .int r, .int so, .ref (ad 10), .int pr, .ref (ad 11)])) := by rw [hw_17, va_up_self]
          refine lv_iconst (v := 2) hx hb d_M_goes_70 (by decide) ?_
          refine lv_iload hx hb d_M_goes_71 (lv_at hl 0 rfl) ?_
          refine lv_imul hx hb d_M_goes_73 ?_
          refine lv_istore (lv' := [(7, .int (2 * (2 * (2 * 1)))), (6, .int 8), (0, .ref mm), (1, .int 4), (2, .int b1), (3, .int b2), (4, .int b3), (5, .int b4)]) hx hb d_M_goes_74 hl (by decide) rfl (fun ls hl => ?_)
          refine lv_goto (tgt := 46) hx hb d_M_goes_76 (by decide) ?_
          refine lv_iload hx hb d_M_goes_46 (lv_at hl 0 rfl) ?_
          refine lv_iload hx hb d_M_goes_48 (lv_at hl 1 rfl) ?_
          refine lv_icmp_gt (tgt := 79) hx hb d_M_goes_50 (by decide) (fun c_19 => absurd c_19 (by decide)) (fun c_19 => ?_)
          refine lv_iload_n hx hb d_M_goes_53 rfl (lv_at hl 3 rfl) ?_
          refine lv_iload hx hb d_M_goes_54 (lv_at hl 0 rfl) ?_
          refine lv_iand hx hb d_M_goes_56 ?_
          refine lv_if_le (tgt := 70) hx hb d_M_goes_57 (by decide) (fun c_20 => ?_) (fun c_20 => absurd (by decide) c_20)
          refine lv_iconst (v := 2) hx hb d_M_goes_70 (by decide) ?_
          refine lv_iload hx hb d_M_goes_71 (lv_at hl 0 rfl) ?_
          refine lv_imul hx hb d_M_goes_73 ?_
          refine lv_istore (lv' := [(7, .int (2 * (2 * (2 * (2 * 1))))), (6, .int 8), (0, .ref mm), (1, .int 4), (2, .int b1), (3, .int b2), (4, .int b3), (5, .int b4)]) hx hb d_M_goes_74 hl (by decide) rfl (fun ls hl => ?_)
          refine lv_goto (tgt := 46) hx hb d_M_goes_76 (by decide) ?_
          refine lv_iload hx hb d_M_goes_46 (lv_at hl 0 rfl) ?_
          refine lv_iload hx hb d_M_goes_48 (lv_at hl 1 rfl) ?_
          refine lv_icmp_gt (tgt := 79) hx hb d_M_goes_50 (by decide) (fun c_21 => ?_) (fun c_21 => absurd (by decide) c_21)
          refine lv_iload hx hb d_M_goes_79 (lv_at hl 1 rfl) ?_
          refine lv_if_ne (tgt := 88) hx hb d_M_goes_81 (by decide) (fun c_22 => ?_) (fun c_22 => absurd c_22 (by decide))
          refine lv_iconst (v := 0) hx hb d_M_goes_88 (by decide) ?_
          have hg : gC b1 b2 b3 b4 = 4 := by simp [gC, c_1, c_2, c_3, c_4]
          have hM9 : mw G ncl A (va_up w mm (some (eM ad (nI (gT 4 (gC b1 b2 b3 b4))) no wr n k z r so pr))) H := by rw [hg, show nI (gT 4 4) = 0 + 1 by decide]; rw [hw_17, hw_9, bx_uu] at hM; exact hM
          exact W.zret (v := 0) hx hb hr rfl (fun t ht hW => ⟨⟨0, (), rfl, by rw [hg]; rfl, by rw [ht]; exact hM9, va_K.moved hW.alike hK⟩, hS.F ht⟩) hS.2.2 d_M_goes_89
      · refine lv_iconst (v := 4) hx hb d_M_goes_21 (by decide) ?_
        refine lv_goto (tgt := 36) hx hb d_M_goes_22 (by decide) ?_
        refine lv_istore (lv' := [(6, .int 4), (0, .ref mm), (1, .int 4), (2, .int b1), (3, .int b2), (4, .int b3), (5, .int b4)]) hx hb d_M_goes_36 hl (by decide) rfl (fun ls hl => ?_)
        refine lv_aload_n hx hb d_M_goes_38 rfl (lv_at hl 1 rfl) ?_
        refine lv_iconst (v := 0) hx hb d_M_goes_39 (by decide) ?_
        refine m_put (D := G) (ci := 6) (v := .int 0) (ty := .int) (C := nR_M) (T := nT_M) (N := 21) hx hb hta in_M nt_M nt_M_ok nn_M hown hK hM hS hm rfl 0 (by decide) (hta _ aw_543) (fun _ h9 => h9) rfl (by decide +kernel) rfl rfl (Nat.le_of_ble_eq_true rfl) d_M_goes_40 (fs' := [.int 0, .int no, .int wr, .int n, .ref (ad 0), .ref (ad 1), .ref (ad 2), .ref (ad 3), .ref (ad 4), .ref (ad 5), .int k, .ref (ad 6), .ref (ad 7), .ref (ad 8), .ref (ad 9), .int z, .int r, .int so, .ref (ad 10), .int pr, .ref (ad 11)]) rfl (fun H locs hM hS => ?_)
        obtain ⟨w_23, hw_23⟩ : ∃ z9 : Nat → Option va_E, z9 = va_up w mm (some (.inr (6, [.int 0, .int no, .int wr, .int n, .ref (ad 0), .ref (ad 1), .ref (ad 2), .ref (ad 3), .ref (ad 4), .ref (ad 5), .int k, .ref (ad 6), .ref (ad 7), .ref (ad 8), .ref (ad 9), .int z, .int r, .int so, .ref (ad 10), .int pr, .ref (ad 11)]))) := ⟨_, rfl⟩
        rw [← hw_23] at hM
        have k_24 : w_23 mm = some (.inr (6, [.int 0, .int no, .int wr, .int n, .ref (ad 0), .ref (ad 1), .ref (ad 2), .ref (ad 3), .ref (ad 4), .ref (ad 5), .int k, .ref (ad 6), .ref (ad 7), .ref (ad 8), .ref (ad 9), .int z, .int r, .int so, .ref (ad 10), .int pr, .ref (ad 11)])) := by rw [hw_23, va_up_self]
        refine lv_iconst (v := 1) hx hb d_M_goes_43 (by decide) ?_
        refine lv_istore (lv' := [(7, .int 1), (6, .int 4), (0, .ref mm), (1, .int 4), (2, .int b1), (3, .int b2), (4, .int b3), (5, .int b4)]) hx hb d_M_goes_44 hl (by decide) rfl (fun ls hl => ?_)
        refine lv_iload hx hb d_M_goes_46 (lv_at hl 0 rfl) ?_
        refine lv_iload hx hb d_M_goes_48 (lv_at hl 1 rfl) ?_
        refine lv_icmp_gt (tgt := 79) hx hb d_M_goes_50 (by decide) (fun c_25 => absurd c_25 (by decide)) (fun c_25 => ?_)
        refine lv_iload_n hx hb d_M_goes_53 rfl (lv_at hl 3 rfl) ?_
        refine lv_iload hx hb d_M_goes_54 (lv_at hl 0 rfl) ?_
        refine lv_iand hx hb d_M_goes_56 ?_
        refine lv_if_le (tgt := 70) hx hb d_M_goes_57 (by decide) (fun c_26 => ?_) (fun c_26 => absurd (by decide) c_26)
        refine lv_iconst (v := 2) hx hb d_M_goes_70 (by decide) ?_
        refine lv_iload hx hb d_M_goes_71 (lv_at hl 0 rfl) ?_
        refine lv_imul hx hb d_M_goes_73 ?_
        refine lv_istore (lv' := [(7, .int (2 * 1)), (6, .int 4), (0, .ref mm), (1, .int 4), (2, .int b1), (3, .int b2), (4, .int b3), (5, .int b4)]) hx hb d_M_goes_74 hl (by decide) rfl (fun ls hl => ?_)
        refine lv_goto (tgt := 46) hx hb d_M_goes_76 (by decide) ?_
        refine lv_iload hx hb d_M_goes_46 (lv_at hl 0 rfl) ?_
        refine lv_iload hx hb d_M_goes_48 (lv_at hl 1 rfl) ?_
        refine lv_icmp_gt (tgt := 79) hx hb d_M_goes_50 (by decide) (fun c_27 => absurd c_27 (by decide)) (fun c_27 => ?_)
        refine lv_iload_n hx hb d_M_goes_53 rfl (lv_at hl 3 rfl) ?_
        refine lv_iload hx hb d_M_goes_54 (lv_at hl 0 rfl) ?_
        refine lv_iand hx hb d_M_goes_56 ?_
        refine lv_if_le (tgt := 70) hx hb d_M_goes_57 (by decide) (fun c_28 => ?_) (fun c_28 => absurd (by decide) c_28)
        refine lv_iconst (v := 2) hx hb d_M_goes_70 (by decide) ?_
        refine lv_iload hx hb d_M_goes_71 (lv_at hl 0 rfl) ?_
        refine lv_imul hx hb d_M_goes_73 ?_
        refine lv_istore (lv' := [(7, .int (2 * (2 * 1))), (6, .int 4), (0, .ref mm), (1, .int 4), (2, .int b1), (3, .int b2), (4, .int b3), (5, .int b4)]) hx hb d_M_goes_74 hl (by decide) rfl (fun ls hl => ?_)
        refine lv_goto (tgt := 46) hx hb d_M_goes_76 (by decide) ?_
        refine lv_iload hx hb d_M_goes_46 (lv_at hl 0 rfl) ?_
        refine lv_iload hx hb d_M_goes_48 (lv_at hl 1 rfl) ?_
        refine lv_icmp_gt (tgt := 79) hx hb d_M_goes_50 (by decide) (fun c_29 => absurd c_29 (by decide)) (fun c_29 => ?_)
        refine lv_iload_n hx hb d_M_goes_53 rfl (lv_at hl 3 rfl) ?_
        refine lv_iload hx hb d_M_goes_54 (lv_at hl 0 rfl) ?_
        refine lv_iand hx hb d_M_goes_56 ?_
        refine lv_if_le (tgt := 70) hx hb d_M_goes_57 (by decide) (fun c_30 => absurd c_30 (by decide)) (fun c_30 => ?_)
        refine lv_aload_n hx hb d_M_goes_60 rfl (lv_at hl 2 rfl) ?_
        refine lv_dup hx hb d_M_goes_61 rfl ?_
        refine m_get (D := G) (ci := 6) (v := .int 0) (C := nR_M) (T := nT_M) (N := 21) hx hb hta in_M hown hK hM k_24 rfl 0 (by decide) (hta _ aw_543) (fun _ h9 => h9) rfl d_M_goes_62 ?_
        refine lv_iconst (v := 1) hx hb d_M_goes_65 (by decide) ?_
        refine lv_iadd hx hb d_M_goes_66 ?_
        refine m_put (D := G) (ci := 6) (v := .int (0 + 1)) (ty := .int) (C := nR_M) (T := nT_M) (N := 21) hx hb hta in_M nt_M nt_M_ok nn_M hown hK hM hS k_24 rfl 0 (by decide) (hta _ aw_543) (fun _ h9 => h9) rfl (by decide +kernel) rfl rfl (Nat.le_of_ble_eq_true rfl) d_M_goes_67 (fs' := [.int (0 + 1), .int no, .int wr, .int n, .ref (ad 0), .ref (ad 1), .ref (ad 2), .ref (ad 3), .ref (ad 4), .ref (ad 5), .int k, .ref (ad 6), .ref (ad 7), .ref (ad 8), .ref (ad 9), .int z, .int r, .int so, .ref (ad 10), .int pr, .ref (ad 11)]) rfl (fun H locs hM hS => ?_)
        obtain ⟨w_31, hw_31⟩ : ∃ z9 : Nat → Option va_E, z9 = va_up w_23 mm (some (.inr (6, [.int (0 + 1), .int no, .int wr, .int n, .ref (ad 0), .ref (ad 1), .ref (ad 2), .ref (ad 3), .ref (ad 4), .ref (ad 5), .int k, .ref (ad 6), .ref (ad 7), .ref (ad 8), .ref (ad 9), .int z, .int r, .int so, .ref (ad 10), .int pr, .ref (ad 11)]))) := ⟨_, rfl⟩
        rw [← hw_31] at hM
        have k_32 : w_31 mm = some (.inr (6, [.int (0 + 1), .int no, .int wr, .int n, .ref (ad 0), .ref (ad 1), .ref (ad 2), .ref (ad 3), .ref (ad 4), .ref (ad 5), .int k, .ref (ad 6), .ref (ad 7), .ref (ad 8), .ref (ad 9), .int z, .int r, .int so, .ref (ad 10), .int pr, .ref (ad 11)])) := by rw [hw_31, va_up_self]
        refine lv_iconst (v := 2) hx hb d_M_goes_70 (by decide) ?_
        refine lv_iload hx hb d_M_goes_71 (lv_at hl 0 rfl) ?_
        refine lv_imul hx hb d_M_goes_73 ?_
        refine lv_istore (lv' := [(7, .int (2 * (2 * (2 * 1)))), (6, .int 4), (0, .ref mm), (1, .int 4), (2, .int b1), (3, .int b2), (4, .int b3), (5, .int b4)]) hx hb d_M_goes_74 hl (by decide) rfl (fun ls hl => ?_)
        refine lv_goto (tgt := 46) hx hb d_M_goes_76 (by decide) ?_
        refine lv_iload hx hb d_M_goes_46 (lv_at hl 0 rfl) ?_
        refine lv_iload hx hb d_M_goes_48 (lv_at hl 1 rfl) ?_
        refine lv_icmp_gt (tgt := 79) hx hb d_M_goes_50 (by decide) (fun c_33 => ?_) (fun c_33 => absurd (by decide) c_33)
        refine lv_iload hx hb d_M_goes_79 (lv_at hl 1 rfl) ?_
        refine lv_if_ne (tgt := 88) hx hb d_M_goes_81 (by decide) (fun c_34 => ?_) (fun c_34 => absurd c_34 (by decide))
        refine lv_iconst (v := 0) hx hb d_M_goes_88 (by decide) ?_
        have hg : gC b1 b2 b3 b4 = 3 := by simp [gC, c_1, c_2, c_3]
        have hM9 : mw G ncl A (va_up w mm (some (eM ad (nI (gT 4 (gC b1 b2 b3 b4))) no wr n k z r so pr))) H := by rw [hg, show nI (gT 4 3) = 0 + 1 by decide]; rw [hw_31, hw_23, bx_uu] at hM; exact hM
        exact W.zret (v := 0) hx hb hr rfl (fun t ht hW => ⟨⟨0, (), rfl, by rw [hg]; rfl, by rw [ht]; exact hM9, va_K.moved hW.alike hK⟩, hS.F ht⟩) hS.2.2 d_M_goes_89
    · refine lv_iconst (v := 2) hx hb d_M_goes_12 (by decide) ?_
      refine lv_goto (tgt := 36) hx hb d_M_goes_13 (by decide) ?_
      refine lv_istore (lv' := [(6, .int 2), (0, .ref mm), (1, .int 4), (2, .int b1), (3, .int b2), (4, .int b3), (5, .int b4)]) hx hb d_M_goes_36 hl (by decide) rfl (fun ls hl => ?_)
      refine lv_aload_n hx hb d_M_goes_38 rfl (lv_at hl 1 rfl) ?_
      refine lv_iconst (v := 0) hx hb d_M_goes_39 (by decide) ?_
      refine m_put (D := G) (ci := 6) (v := .int 0) (ty := .int) (C := nR_M) (T := nT_M) (N := 21) hx hb hta in_M nt_M nt_M_ok nn_M hown hK hM hS hm rfl 0 (by decide) (hta _ aw_543) (fun _ h9 => h9) rfl (by decide +kernel) rfl rfl (Nat.le_of_ble_eq_true rfl) d_M_goes_40 (fs' := [.int 0, .int no, .int wr, .int n, .ref (ad 0), .ref (ad 1), .ref (ad 2), .ref (ad 3), .ref (ad 4), .ref (ad 5), .int k, .ref (ad 6), .ref (ad 7), .ref (ad 8), .ref (ad 9), .int z, .int r, .int so, .ref (ad 10), .int pr, .ref (ad 11)]) rfl (fun H locs hM hS => ?_)
      obtain ⟨w_35, hw_35⟩ : ∃ z9 : Nat → Option va_E, z9 = va_up w mm (some (.inr (6, [.int 0, .int no, .int wr, .int n, .ref (ad 0), .ref (ad 1), .ref (ad 2), .ref (ad 3), .ref (ad 4), .ref (ad 5), .int k, .ref (ad 6), .ref (ad 7), .ref (ad 8), .ref (ad 9), .int z, .int r, .int so, .ref (ad 10), .int pr, .ref (ad 11)]))) := ⟨_, rfl⟩
      rw [← hw_35] at hM
      have k_36 : w_35 mm = some (.inr (6, [.int 0, .int no, .int wr, .int n, .ref (ad 0), .ref (ad 1), .ref (ad 2), .ref (ad 3), .ref (ad 4), .ref (ad 5), .int k, .ref (ad 6), .ref (ad 7), .ref (ad 8), .ref (ad 9), .int z, .int r, .int so, .ref (ad 10), .int pr, .ref (ad 11)])) := by rw [hw_35, va_up_self]
      refine lv_iconst (v := 1) hx hb d_M_goes_43 (by decide) ?_
      refine lv_istore (lv' := [(7, .int 1), (6, .int 2), (0, .ref mm), (1, .int 4), (2, .int b1), (3, .int b2), (4, .int b3), (5, .int b4)]) hx hb d_M_goes_44 hl (by decide) rfl (fun ls hl => ?_)
      refine lv_iload hx hb d_M_goes_46 (lv_at hl 0 rfl) ?_
      refine lv_iload hx hb d_M_goes_48 (lv_at hl 1 rfl) ?_
      refine lv_icmp_gt (tgt := 79) hx hb d_M_goes_50 (by decide) (fun c_37 => absurd c_37 (by decide)) (fun c_37 => ?_)
      refine lv_iload_n hx hb d_M_goes_53 rfl (lv_at hl 3 rfl) ?_
      refine lv_iload hx hb d_M_goes_54 (lv_at hl 0 rfl) ?_
      refine lv_iand hx hb d_M_goes_56 ?_
      refine lv_if_le (tgt := 70) hx hb d_M_goes_57 (by decide) (fun c_38 => ?_) (fun c_38 => absurd (by decide) c_38)
      refine lv_iconst (v := 2) hx hb d_M_goes_70 (by decide) ?_
      refine lv_iload hx hb d_M_goes_71 (lv_at hl 0 rfl) ?_
      refine lv_imul hx hb d_M_goes_73 ?_
      refine lv_istore (lv' := [(7, .int (2 * 1)), (6, .int 2), (0, .ref mm), (1, .int 4), (2, .int b1), (3, .int b2), (4, .int b3), (5, .int b4)]) hx hb d_M_goes_74 hl (by decide) rfl (fun ls hl => ?_)
      refine lv_goto (tgt := 46) hx hb d_M_goes_76 (by decide) ?_
      refine lv_iload hx hb d_M_goes_46 (lv_at hl 0 rfl) ?_
      refine lv_iload hx hb d_M_goes_48 (lv_at hl 1 rfl) ?_
      refine lv_icmp_gt (tgt := 79) hx hb d_M_goes_50 (by decide) (fun c_39 => absurd c_39 (by decide)) (fun c_39 => ?_)
      refine lv_iload_n hx hb d_M_goes_53 rfl (lv_at hl 3 rfl) ?_
      refine lv_iload hx hb d_M_goes_54 (lv_at hl 0 rfl) ?_
      refine lv_iand hx hb d_M_goes_56 ?_
      refine lv_if_le (tgt := 70) hx hb d_M_goes_57 (by decide) (fun c_40 => ?_) (fun c_40 => absurd (by decide) c_40)
      refine lv_iconst (v := 2) hx hb d_M_goes_70 (by decide) ?_
      refine lv_iload hx hb d_M_goes_71 (lv_at hl 0 rfl) ?_
      refine lv_imul hx hb d_M_goes_73 ?_
      refine lv_istore (lv' := [(7, .int (2 * (2 * 1))), (6, .int 2), (0, .ref mm), (1, .int 4), (2, .int b1), (3, .int b2), (4, .int b3), (5, .int b4)]) hx hb d_M_goes_74 hl (by decide) rfl (fun ls hl => ?_)
      refine lv_goto (tgt := 46) hx hb d_M_goes_76 (by decide) ?_
      refine lv_iload hx hb d_M_goes_46 (lv_at hl 0 rfl) ?_
      refine lv_iload hx hb d_M_goes_48 (lv_at hl 1 rfl) ?_
      refine lv_icmp_gt (tgt := 79) hx hb d_M_goes_50 (by decide) (fun c_41 => ?_) (fun c_41 => absurd (by decide) c_41)
      refine lv_iload hx hb d_M_goes_79 (lv_at hl 1 rfl) ?_
      refine lv_if_ne (tgt := 88) hx hb d_M_goes_81 (by decide) (fun c_42 => ?_) (fun c_42 => absurd c_42 (by decide))
      refine lv_iconst (v := 0) hx hb d_M_goes_88 (by decide) ?_
      have hg : gC b1 b2 b3 b4 = 2 := by simp [gC, c_1, c_2]
      have hM9 : mw G ncl A (va_up w mm (some (eM ad (nI (gT 4 (gC b1 b2 b3 b4))) no wr n k z r so pr))) H := by rw [hg, show nI (gT 4 2) = 0 by decide]; rw [hw_35] at hM; exact hM
      exact W.zret (v := 0) hx hb hr rfl (fun t ht hW => ⟨⟨0, (), rfl, by rw [hg]; rfl, by rw [ht]; exact hM9, va_K.moved hW.alike hK⟩, hS.F ht⟩) hS.2.2 d_M_goes_89
  · refine lv_iconst (v := 1) hx hb d_M_goes_4 (by decide) ?_
    refine lv_goto (tgt := 36) hx hb d_M_goes_5 (by decide) ?_
    refine lv_istore (lv' := [(6, .int 1), (0, .ref mm), (1, .int 4), (2, .int b1), (3, .int b2), (4, .int b3), (5, .int b4)]) hx hb d_M_goes_36 hl (by decide) rfl (fun ls hl => ?_)
    refine lv_aload_n hx hb d_M_goes_38 rfl (lv_at hl 1 rfl) ?_
    refine lv_iconst (v := 0) hx hb d_M_goes_39 (by decide) ?_
    refine m_put (D := G) (ci := 6) (v := .int 0) (ty := .int) (C := nR_M) (T := nT_M) (N := 21) hx hb hta in_M nt_M nt_M_ok nn_M hown hK hM hS hm rfl 0 (by decide) (hta _ aw_543) (fun _ h9 => h9) rfl (by decide +kernel) rfl rfl (Nat.le_of_ble_eq_true rfl) d_M_goes_40 (fs' := [.int 0, .int no, .int wr, .int n, .ref (ad 0), .ref (ad 1), .ref (ad 2), .ref (ad 3), .ref (ad 4), .ref (ad 5), .int k, .ref (ad 6), .ref (ad 7), .ref (ad 8), .ref (ad 9), .int z, .int r, .int so, .ref (ad 10), .int pr, .ref (ad 11)]) rfl (fun H locs hM hS => ?_)
    obtain ⟨w_43, hw_43⟩ : ∃ z9 : Nat → Option va_E, z9 = va_up w mm (some (.inr (6, [.int 0, .int no, .int wr, .int n, .ref (ad 0), .ref (ad 1), .ref (ad 2), .ref (ad 3), .ref (ad 4), .ref (ad 5), .int k, .ref (ad 6), .ref (ad 7), .ref (ad 8), .ref (ad 9), .int z, .int r, .int so, .ref (ad 10), .int pr, .ref (ad 11)]))) := ⟨_, rfl⟩
    rw [← hw_43] at hM
    have k_44 : w_43 mm = some (.inr (6, [.int 0, .int no, .int wr, .int n, .ref (ad 0), .ref (ad 1), .ref (ad 2), .ref (ad 3), .ref (ad 4), .ref (ad 5), .int k, .ref (ad 6), .ref (ad 7), .ref (ad 8), .ref (ad 9), .int z, .int r, .int so, .ref (ad 10), .int pr, .ref (ad 11)])) := by rw [hw_43, va_up_self]
    refine lv_iconst (v := 1) hx hb d_M_goes_43 (by decide) ?_
    refine lv_istore (lv' := [(7, .int 1), (6, .int 1), (0, .ref mm), (1, .int 4), (2, .int b1), (3, .int b2), (4, .int b3), (5, .int b4)]) hx hb d_M_goes_44 hl (by decide) rfl (fun ls hl => ?_)
    refine lv_iload hx hb d_M_goes_46 (lv_at hl 0 rfl) ?_
    refine lv_iload hx hb d_M_goes_48 (lv_at hl 1 rfl) ?_
    refine lv_icmp_gt (tgt := 79) hx hb d_M_goes_50 (by decide) (fun c_45 => absurd c_45 (by decide)) (fun c_45 => ?_)
    refine lv_iload_n hx hb d_M_goes_53 rfl (lv_at hl 3 rfl) ?_
    refine lv_iload hx hb d_M_goes_54 (lv_at hl 0 rfl) ?_
    refine lv_iand hx hb d_M_goes_56 ?_
    refine lv_if_le (tgt := 70) hx hb d_M_goes_57 (by decide) (fun c_46 => ?_) (fun c_46 => absurd (by decide) c_46)
    refine lv_iconst (v := 2) hx hb d_M_goes_70 (by decide) ?_
    refine lv_iload hx hb d_M_goes_71 (lv_at hl 0 rfl) ?_
    refine lv_imul hx hb d_M_goes_73 ?_
    refine lv_istore (lv' := [(7, .int (2 * 1)), (6, .int 1), (0, .ref mm), (1, .int 4), (2, .int b1), (3, .int b2), (4, .int b3), (5, .int b4)]) hx hb d_M_goes_74 hl (by decide) rfl (fun ls hl => ?_)
    refine lv_goto (tgt := 46) hx hb d_M_goes_76 (by decide) ?_
    refine lv_iload hx hb d_M_goes_46 (lv_at hl 0 rfl) ?_
    refine lv_iload hx hb d_M_goes_48 (lv_at hl 1 rfl) ?_
    refine lv_icmp_gt (tgt := 79) hx hb d_M_goes_50 (by decide) (fun c_47 => ?_) (fun c_47 => absurd (by decide) c_47)
    refine lv_iload hx hb d_M_goes_79 (lv_at hl 1 rfl) ?_
    refine lv_if_ne (tgt := 88) hx hb d_M_goes_81 (by decide) (fun c_48 => ?_) (fun c_48 => absurd c_48 (by decide))
    refine lv_iconst (v := 0) hx hb d_M_goes_88 (by decide) ?_
    have hg : gC b1 b2 b3 b4 = 1 := by simp [gC, c_1]
    have hM9 : mw G ncl A (va_up w mm (some (eM ad (nI (gT 4 (gC b1 b2 b3 b4))) no wr n k z r so pr))) H := by rw [hg, show nI (gT 4 1) = 0 by decide]; rw [hw_43] at hM; exact hM
    exact W.zret (v := 0) hx hb hr rfl (fun t ht hW => ⟨⟨0, (), rfl, by rw [hg]; rfl, by rw [ht]; exact hM9, va_K.moved hW.alike hK⟩, hS.F ht⟩) hS.2.2 d_M_goes_89
