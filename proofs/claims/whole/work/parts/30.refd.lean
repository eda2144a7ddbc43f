/-! the reference: reading -/
theorem i_sub0 {x y : Int32} (h : x - y = 0) : x = y := by
  have q : x - y + y = x := Int32.sub_add_cancel x y
  rw [h, Int32.zero_add] at q
  exact q.symm
theorem rdB_p {f : Nat → Nat → Int32} {t : Int32} {L : List Nat} : ∀ {b : Option Nat} {j : Nat}, (∀ i, b = some i → ¬ t < f 3 i) → rdB f t b L = some j → ¬ t < f 3 j := by
  induction L with
  | nil => intro b j h1 h; exact h1 j h
  | cons a r ih =>
    intro b j h1 h
    refine ih (b := if ¬ t < f 3 a then some a else b) ?_ h
    intro i hi
    split at hi
    · cases hi; assumption
    · exact h1 i hi
theorem rdH_p {f : Nat → Nat → Int32} {t : Int32} {L : List Nat} : ∀ {b : Option Nat} {j : Nat}, (∀ i, b = some i → ¬ f 3 i < t) → rdH f t b L = some j → ¬ f 3 j < t := by
  induction L with
  | nil => intro b j h1 h; exact h1 j h
  | cons a r ih =>
    intro b j h1 h
    refine ih (b := if ¬ f 3 a < t ∧ b = none then some a else b) ?_ h
    intro i hi
    split at hi
    · rename_i q; cases hi; exact q.1
    · exact h1 i hi
def rdV (f : Nat → Nat → Int32) (t no : Int32) (ka : Nat) : Option Nat → Option Nat → Int32
  | some a, some b => if f 3 a = t then valM f no a ka else valM f no a ka + flrv ((valM f no b ka - valM f no a ka) * (t - f 3 a)) (f 3 b - f 3 a)
  | _, _ => 0
theorem rd_ne {a b t : Int32} (h1 : ¬ t < a) (h2 : ¬ b < t) (h3 : ¬ a = t) : ¬ b - a = 0 := by
  intro q
  have e := i_sub0 q
  rw [e] at h2
  rw [Int32.lt_iff_toInt_lt] at h1 h2
  exact h3 (Int32.toInt_inj.mp (by omega))
set_option maxHeartbeats 4000000 in
set_option maxRecDepth 100000 in
theorem k_M_reading (l : Launch) (G : va_G) (q0 q1 : ClassId × FieldType) (cI : ClassId) (ty2 : List (ClassId × FieldType)) (w : Nat → Option va_E) {mm : Nat} {ad : Nat → Nat} (had : ∀ i j, i < 12 → j < 12 → ad i = ad j → i = j) {f : Nat → Nat → Int32} {th no wr n k z r so pr : Int32} (hmp : mPic w mm cI ad f th no wr n k z r so pr) {ka nn : Nat} (hk : ka ≤ 200) (ek : k = nI ka) (hn : nn ≤ 100) (en : n = nI nn) (x1 x2 : Int32) {L0 : List Nat} (hL0 : (¬ x1 < 0 ∧ ¬ 9 < x1) → folL (folS f 0 2 x1 no no ka nn) none L0) (hLm : ∀ a ∈ L0, a < nn) (sz : Nat) : Met l y_M_reading (wm y_M_reading c_M_reading 8 (some .int)) ({ frames := 2, cells := 0, slots := 0, locals := 51 }) (pZ G (q0 :: q1 :: (cI, .int) :: ty2) w sz [.ref mm, .int x1, .int x2]) (va_Qi (fun (r0 : Int32) (u : Nat → Option va_E) => (¬ gC (if (¬ x1 < 0 ∧ ¬ 9 < x1) then 1 else 0) (if (¬ x2 < 0 ∧ ¬ no < x2) then 1 else 0) (if (rdB f x2 none (if (¬ x1 < 0 ∧ ¬ 9 < x1) then L0 else [])).isSome = true ∧ (rdH f x2 none (if (¬ x1 < 0 ∧ ¬ 9 < x1) then L0 else [])).isSome = true then 1 else 0) 1 = 0 → mPic u mm cI ad f (nI (gT 7 (gC (if (¬ x1 < 0 ∧ ¬ 9 < x1) then 1 else 0) (if (¬ x2 < 0 ∧ ¬ no < x2) then 1 else 0) (if (rdB f x2 none (if (¬ x1 < 0 ∧ ¬ 9 < x1) then L0 else [])).isSome = true ∧ (rdH f x2 none (if (¬ x1 < 0 ∧ ¬ 9 < x1) then L0 else [])).isSome = true then 1 else 0) 1))) no wr n k z r so pr) ∧ (gC (if (¬ x1 < 0 ∧ ¬ 9 < x1) then 1 else 0) (if (¬ x2 < 0 ∧ ¬ no < x2) then 1 else 0) (if (rdB f x2 none (if (¬ x1 < 0 ∧ ¬ 9 < x1) then L0 else [])).isSome = true ∧ (rdH f x2 none (if (¬ x1 < 0 ∧ ¬ 9 < x1) then L0 else [])).isSome = true then 1 else 0) 1 = 0 → r0 = rdV f x2 no ka (rdB f x2 none (if (¬ x1 < 0 ∧ ¬ 9 < x1) then L0 else [])) (rdH f x2 none (if (¬ x1 < 0 ∧ ¬ 9 < x1) then L0 else [])) ∧ mPic u mm cI ad f 0 no wr n k z r so pr)) (fun w2 t => mw G ncl (mA w sz) w2 t.heap ∧ va_K G ncl (q0 :: q1 :: (cI, .int) :: ty2) t) (mA w sz)) 0 0 (mA w sz) := by
  refine Met.ofW (cc := c_M_reading) (maxL := 8) (ret := (some .int)) (by decide) rfl ?_
  intro p e s m args below meth c s₁ B hml hv
  obtain ⟨rfl, hsz, hM0, hK⟩ := hv
  have hx := B.exec
  have hb := B.bytes
  have hr := B.returns
  have hts := atoms_spec (ws := (wm y_M_reading c_M_reading 8 (some .int))) B.pre
  have hta : ∀ w ∈ AL, w.before _ s = true := fun w h => hts w (List.mem_cons_of_mem _ h)
  have hown : s.vm.findClass nR_M = some m.cls := findClass_of_methodNamed B.named
  have hlocks := B.notSynchronized
  have hl := lv_entry ([.ref mm, .int x1, .int x2]) (n := 8) (Nat.le_of_ble_eq_true rfl)
  rw [lg_entry_eq]
  generalize (lg_sl ([.ref mm, .int x1, .int x2]) ++ List.replicate (8 - (lg_sl ([.ref mm, .int x1, .int x2])).length) Slot.unset).toArray = ls at hl ⊢
  have hl : lv_has ls 8 [(0, .ref mm), (1, .int x1), (2, .int x2)] := hl
  subst hsz
  have hM := mw_self (sz := s.heap.size) hM0
  clear hM0
  generalize hAe : mA w s.heap.size = A at hM ⊢
  have hA : ∀ q : Nat, s.heap.size ≤ q → A q := fun q h => by rw [← hAe]; exact Or.inr h
  have hS : va_S A s.heap s.heap [] := va_S.rf
  have ha3 : w (ad 3) = some (aI cI 100 (f 3)) := hmp.2 3 (by decide)
  refine lv_iload_n hx hb d_M_reading_0 rfl (lv_at hl 1 rfl) ?_
  refine lv_iconst (v := 0) hx hb d_M_reading_1 (by decide) ?_
  refine lv_bipush (v := 9) hx hb d_M_reading_2 (by decide) ?_
  refine vp_callSi (W.runS (As := [.int x1, .int 0, .int 9]) (rest := []) ⟨hx, hb, hml, hown, hta⟩ (k_M_in l x1 0 9) (cS 3 hta aw_626 aw_5 aw_624 aw_625 rfl rfl (by decide +kernel) ⟨Nat.le_of_ble_eq_true rfl, Nat.le_of_ble_eq_true rfl⟩) ⟨fun a U g mk q => q, fun U hU hW => ⟨rfl, trivial⟩⟩ rfl rfl hl.1 rfl (lv_room (Nat.le_of_ble_eq_true rfl)) d_M_reading_4 ⟨Nat.le_of_ble_eq_true rfl, Nat.le_of_ble_eq_true rfl⟩) (fun r_1 hr_1 => ?_)
  refine lv_istore_n (lv' := [(3, .int r_1), (0, .ref mm), (1, .int x1), (2, .int x2)]) hx hb d_M_reading_7 rfl hl (by decide) rfl (fun ls hl => ?_)
  refine lv_iconst (v := (-1)) hx hb d_M_reading_8 (by decide) ?_
  refine lv_istore (lv' := [(4, .int (-1)), (3, .int r_1), (0, .ref mm), (1, .int x1), (2, .int x2)]) hx hb d_M_reading_9 hl (by decide) rfl (fun ls hl => ?_)
  refine lv_iconst (v := (-1)) hx hb d_M_reading_11 (by decide) ?_
  refine lv_istore (lv' := [(5, .int (-1)), (4, .int (-1)), (3, .int r_1), (0, .ref mm), (1, .int x1), (2, .int x2)]) hx hb d_M_reading_12 hl (by decide) rfl (fun ls hl => ?_)
  refine lv_iload_n hx hb d_M_reading_14 rfl (lv_at hl 2 rfl) ?_
  refine lv_if_eq (tgt := 33) hx hb d_M_reading_15 (by decide) (fun c_2 => ?_) (fun c_2 => ?_)
  · have p_3 := b1_f hr_1 c_2
    refine lv_iconst (v := (-1)) hx hb d_M_reading_33 (by decide) ?_
    refine lv_istore (lv' := [(6, .int (-1)), (5, .int (-1)), (4, .int (-1)), (3, .int r_1), (0, .ref mm), (1, .int x1), (2, .int x2)]) hx hb d_M_reading_34 hl (by decide) rfl (fun ls hl => ?_)
    have eL : (if (¬ x1 < 0 ∧ ¬ 9 < x1) then L0 else []) = [] := if_neg p_3
    have hfin : ∀ (b4 b5 : Option Nat) (ls : Array Slot), b4 = (rdB f x2 none (if (¬ x1 < 0 ∧ ¬ 9 < x1) then L0 else [])) → b5 = (rdH f x2 none (if (¬ x1 < 0 ∧ ¬ 9 < x1) then L0 else [])) → lv_has ls 8 [(0, .ref mm), (1, .int x1), (2, .int x2), (3, .int r_1), (4, .int (oI b4)), (5, .int (oI b5)), (6, .int (-1))] → W p l e (headSpec (wm y_M_reading c_M_reading 8 (some .int)) ({ frames := 2, cells := 0, slots := 0, locals := 51 })).room s m ([.ref mm, .int x1, .int x2] : List Value).toArray below meth c s.heap [] 0 0 (MQ below (va_Qi (fun (r0 : Int32) (u : Nat → Option va_E) => (¬ gC (if (¬ x1 < 0 ∧ ¬ 9 < x1) then 1 else 0) (if (¬ x2 < 0 ∧ ¬ no < x2) then 1 else 0) (if (rdB f x2 none (if (¬ x1 < 0 ∧ ¬ 9 < x1) then L0 else [])).isSome = true ∧ (rdH f x2 none (if (¬ x1 < 0 ∧ ¬ 9 < x1) then L0 else [])).isSome = true then 1 else 0) 1 = 0 → mPic u mm cI ad f (nI (gT 7 (gC (if (¬ x1 < 0 ∧ ¬ 9 < x1) then 1 else 0) (if (¬ x2 < 0 ∧ ¬ no < x2) then 1 else 0) (if (rdB f x2 none (if (¬ x1 < 0 ∧ ¬ 9 < x1) then L0 else [])).isSome = true ∧ (rdH f x2 none (if (¬ x1 < 0 ∧ ¬ 9 < x1) then L0 else [])).isSome = true then 1 else 0) 1))) no wr n k z r so pr) ∧ (gC (if (¬ x1 < 0 ∧ ¬ 9 < x1) then 1 else 0) (if (¬ x2 < 0 ∧ ¬ no < x2) then 1 else 0) (if (rdB f x2 none (if (¬ x1 < 0 ∧ ¬ 9 < x1) then L0 else [])).isSome = true ∧ (rdH f x2 none (if (¬ x1 < 0 ∧ ¬ 9 < x1) then L0 else [])).isSome = true then 1 else 0) 1 = 0 → r0 = rdV f x2 no ka (rdB f x2 none (if (¬ x1 < 0 ∧ ¬ 9 < x1) then L0 else [])) (rdH f x2 none (if (¬ x1 < 0 ∧ ¬ 9 < x1) then L0 else [])) ∧ mPic u mm cI ad f 0 no wr n k z r so pr)) (fun w2 t => mw G ncl A w2 t.heap ∧ va_K G ncl (q0 :: q1 :: (cI, .int) :: ty2) t) A) ([.ref mm, .int x1, .int x2] : List Value).toArray s 0 0 A) (F0 m 94 ls []) := by
      intro b4 b5 ls e4 e5 hl
      have m4 : ∀ i, b4 = some i → i < nn := fun i q => rdB_m (fun j h => by cases h) (fun a h => by rw [eL] at h; cases h) (e4.symm.trans q)
      have m5 : ∀ i, b5 = some i → i < nn := fun i q => rdH_m (fun j h => by cases h) (fun a h => by rw [eL] at h; cases h) (e5.symm.trans q)
      cases b4 with
      | none =>
        cases b5 with
        | none =>
          have hl : lv_has ls 8 [(0, .ref mm), (1, .int x1), (2, .int x2), (3, .int r_1), (4, .int (-1)), (5, .int (-1)), (6, .int (-1))] := hl
          refine lv_aload_n hx hb d_M_reading_94 rfl (lv_at hl 0 rfl) ?_
          refine lv_bipush (v := 7) hx hb d_M_reading_95 (by decide) ?_
          refine lv_iload_n hx hb d_M_reading_97 rfl (lv_at hl 3 rfl) ?_
          refine lv_aload_n hx hb d_M_reading_98 rfl (lv_at hl 0 rfl) ?_
          refine lv_iload_n hx hb d_M_reading_99 rfl (lv_at hl 2 rfl) ?_
          refine vp_callSi (W.runV (As := [.int x2]) (rest := [.int r_1, .int 7, .ref mm]) ⟨hx, hb, hml, hown, hta⟩ (k_M_isGone l G q0 q1 cI ty2 w hmp.1 hmp.2 x2) (cV 1 hta aw_630 aw_5 aw_627 aw_629 as_SceneTimesModel_isGone rfl rfl (by decide +kernel) ⟨Nat.le_of_ble_eq_true rfl, Nat.le_of_ble_eq_true rfl⟩) (pW_V hK hM rfl hmp.1) rfl rfl hl.1 rfl (lv_room (Nat.le_of_ble_eq_true rfl)) d_M_reading_100 ⟨Nat.le_of_ble_eq_true rfl, Nat.le_of_ble_eq_true rfl⟩) (fun r_54 hr_54 => ?_)
          refine lv_iload hx hb d_M_reading_103 (lv_at hl 4 rfl) ?_
          refine lv_if_lt (tgt := 117) hx hb d_M_reading_105 (by decide) (fun c_55 => ?_) (fun c_55 => absurd (by decide) c_55)
          refine lv_iconst (v := 0) hx hb d_M_reading_117 (by decide) ?_
          refine lv_iconst (v := 1) hx hb d_M_reading_118 (by decide) ?_
          have hF := mw_free hM hS hA
          refine va_calli (va_runV (As := [.int 7, .int r_1, .int r_54, .int 0, .int 1]) (rest := []) ⟨hx, hb, hml, hown, hta⟩ (k_M_goes_7 l G q0 q1 cI ty2 w hmp.1 hmp.2 r_1 r_54 0 1 _) (cV 5 hta aw_619 aw_5 aw_616 aw_618 as_SceneTimesModel_goes rfl rfl (by decide +kernel) ⟨Nat.le_of_ble_eq_true rfl, Nat.le_of_ble_eq_true rfl⟩) (pZ_V hK hM rfl hmp.1) rfl rfl hl.1 rfl (lv_room (Nat.le_of_ble_eq_true rfl)) d_M_reading_119 ⟨Nat.le_of_ble_eq_true rfl, Nat.le_of_ble_eq_true rfl⟩) hS (fun q _ h => hF q h) hF (fun r_56 u_r_56 t H locs ht hvm hr_56 hB hz1 hk1 hS => ?_)
          obtain ⟨hM1, hK1⟩ := hB
          rw [ht] at hM1
          have hM := mw_weaken hM1 hF
          clear hM1 hK1 hF hk1 hz1
          obtain ⟨w_57, hw_57⟩ : ∃ z9 : Nat → Option va_E, z9 = va_up w mm (some (.inr (6, [.int (nI (gT 7 (gC r_1 r_54 0 1))), .int no, .int wr, .int n, .ref (ad 0), .ref (ad 1), .ref (ad 2), .ref (ad 3), .ref (ad 4), .ref (ad 5), .int k, .ref (ad 6), .ref (ad 7), .ref (ad 8), .ref (ad 9), .int z, .int r, .int so, .ref (ad 10), .int pr, .ref (ad 11)]))) := ⟨_, rfl⟩
          rw [← hw_57] at hM
          have mp_58 : mPic w_57 mm cI ad f (nI (gT 7 (gC r_1 r_54 0 1))) no wr n k z r so pr := by rw [hw_57]; exact mp_obj hmp (nI (gT 7 (gC r_1 r_54 0 1))) no wr n k z r so pr
          have k_59 : w_57 (ad 3) = some (aI cI 100 (f 3)) := mp_58.2 3 (by decide)
          refine lv_if_ne (tgt := 127) hx hb d_M_reading_122 (by decide) (fun c_60 => ?_) (fun c_60 => ?_)
          · have hc := go_t hr_56 c_60
            exact absurd rfl (gC_room hc).2.2.1
          · have hc := go_f hr_56 c_60
            refine lv_iconst (v := 0) hx hb d_M_reading_125 (by decide) ?_
            have hg : gC (if (¬ x1 < 0 ∧ ¬ 9 < x1) then 1 else 0) (if (¬ x2 < 0 ∧ ¬ no < x2) then 1 else 0) (if (rdB f x2 none (if (¬ x1 < 0 ∧ ¬ 9 < x1) then L0 else [])).isSome = true ∧ (rdH f x2 none (if (¬ x1 < 0 ∧ ¬ 9 < x1) then L0 else [])).isSome = true then 1 else 0) 1 = gC r_1 r_54 0 1 := by rw [← e4, ← e5, ← hr_1, ← hr_54]; rfl
            exact W.iret (v := 0) hx hb hr (fun t ht hW => ⟨⟨0, w_57, rfl, (by rw [hg]; exact ⟨fun _ => mp_58, fun q => absurd q hc⟩), by rw [ht]; exact hM, va_K.moved hW.alike hK⟩, hS.F ht⟩) hS.2.2 d_M_reading_126
        | some b =>
          have hl : lv_has ls 8 [(0, .ref mm), (1, .int x1), (2, .int x2), (3, .int r_1), (4, .int (-1)), (5, .int (nI b)), (6, .int (-1))] := hl
          have hb9 : b < nn := m5 b rfl
          refine lv_aload_n hx hb d_M_reading_94 rfl (lv_at hl 0 rfl) ?_
          refine lv_bipush (v := 7) hx hb d_M_reading_95 (by decide) ?_
          refine lv_iload_n hx hb d_M_reading_97 rfl (lv_at hl 3 rfl) ?_
          refine lv_aload_n hx hb d_M_reading_98 rfl (lv_at hl 0 rfl) ?_
          refine lv_iload_n hx hb d_M_reading_99 rfl (lv_at hl 2 rfl) ?_
          refine vp_callSi (W.runV (As := [.int x2]) (rest := [.int r_1, .int 7, .ref mm]) ⟨hx, hb, hml, hown, hta⟩ (k_M_isGone l G q0 q1 cI ty2 w hmp.1 hmp.2 x2) (cV 1 hta aw_630 aw_5 aw_627 aw_629 as_SceneTimesModel_isGone rfl rfl (by decide +kernel) ⟨Nat.le_of_ble_eq_true rfl, Nat.le_of_ble_eq_true rfl⟩) (pW_V hK hM rfl hmp.1) rfl rfl hl.1 rfl (lv_room (Nat.le_of_ble_eq_true rfl)) d_M_reading_100 ⟨Nat.le_of_ble_eq_true rfl, Nat.le_of_ble_eq_true rfl⟩) (fun r_111 hr_111 => ?_)
          refine lv_iload hx hb d_M_reading_103 (lv_at hl 4 rfl) ?_
          refine lv_if_lt (tgt := 117) hx hb d_M_reading_105 (by decide) (fun c_112 => ?_) (fun c_112 => absurd (by decide) c_112)
          refine lv_iconst (v := 0) hx hb d_M_reading_117 (by decide) ?_
          refine lv_iconst (v := 1) hx hb d_M_reading_118 (by decide) ?_
          have hF := mw_free hM hS hA
          refine va_calli (va_runV (As := [.int 7, .int r_1, .int r_111, .int 0, .int 1]) (rest := []) ⟨hx, hb, hml, hown, hta⟩ (k_M_goes_7 l G q0 q1 cI ty2 w hmp.1 hmp.2 r_1 r_111 0 1 _) (cV 5 hta aw_619 aw_5 aw_616 aw_618 as_SceneTimesModel_goes rfl rfl (by decide +kernel) ⟨Nat.le_of_ble_eq_true rfl, Nat.le_of_ble_eq_true rfl⟩) (pZ_V hK hM rfl hmp.1) rfl rfl hl.1 rfl (lv_room (Nat.le_of_ble_eq_true rfl)) d_M_reading_119 ⟨Nat.le_of_ble_eq_true rfl, Nat.le_of_ble_eq_true rfl⟩) hS (fun q _ h => hF q h) hF (fun r_113 u_r_113 t H locs ht hvm hr_113 hB hz1 hk1 hS => ?_)
          obtain ⟨hM1, hK1⟩ := hB
          rw [ht] at hM1
          have hM := mw_weaken hM1 hF
          clear hM1 hK1 hF hk1 hz1
          obtain ⟨w_114, hw_114⟩ : ∃ z9 : Nat → Option va_E, z9 = va_up w mm (some (.inr (6, [.int (nI (gT 7 (gC r_1 r_111 0 1))), .int no, .int wr, .int n, .ref (ad 0), .ref (ad 1), .ref (ad 2), .ref (ad 3), .ref (ad 4), .ref (ad 5), .int k, .ref (ad 6), .ref (ad 7), .ref (ad 8), .ref (ad 9), .int z, .int r, .int so, .ref (ad 10), .int pr, .ref (ad 11)]))) := ⟨_, rfl⟩
          rw [← hw_114] at hM
          have mp_115 : mPic w_114 mm cI ad f (nI (gT 7 (gC r_1 r_111 0 1))) no wr n k z r so pr := by rw [hw_114]; exact mp_obj hmp (nI (gT 7 (gC r_1 r_111 0 1))) no wr n k z r so pr
          have k_116 : w_114 (ad 3) = some (aI cI 100 (f 3)) := mp_115.2 3 (by decide)
          refine lv_if_ne (tgt := 127) hx hb d_M_reading_122 (by decide) (fun c_117 => ?_) (fun c_117 => ?_)
          · have hc := go_t hr_113 c_117
            exact absurd rfl (gC_room hc).2.2.1
          · have hc := go_f hr_113 c_117
            refine lv_iconst (v := 0) hx hb d_M_reading_125 (by decide) ?_
            have hg : gC (if (¬ x1 < 0 ∧ ¬ 9 < x1) then 1 else 0) (if (¬ x2 < 0 ∧ ¬ no < x2) then 1 else 0) (if (rdB f x2 none (if (¬ x1 < 0 ∧ ¬ 9 < x1) then L0 else [])).isSome = true ∧ (rdH f x2 none (if (¬ x1 < 0 ∧ ¬ 9 < x1) then L0 else [])).isSome = true then 1 else 0) 1 = gC r_1 r_111 0 1 := by rw [← e4, ← e5, ← hr_1, ← hr_111]; rfl
            exact W.iret (v := 0) hx hb hr (fun t ht hW => ⟨⟨0, w_114, rfl, (by rw [hg]; exact ⟨fun _ => mp_115, fun q => absurd q hc⟩), by rw [ht]; exact hM, va_K.moved hW.alike hK⟩, hS.F ht⟩) hS.2.2 d_M_reading_126
      | some a =>
        cases b5 with
        | none =>
          have hl : lv_has ls 8 [(0, .ref mm), (1, .int x1), (2, .int x2), (3, .int r_1), (4, .int (nI a)), (5, .int (-1)), (6, .int (-1))] := hl
          have ha9 : a < nn := m4 a rfl
          refine lv_aload_n hx hb d_M_reading_94 rfl (lv_at hl 0 rfl) ?_
          refine lv_bipush (v := 7) hx hb d_M_reading_95 (by decide) ?_
          refine lv_iload_n hx hb d_M_reading_97 rfl (lv_at hl 3 rfl) ?_
          refine lv_aload_n hx hb d_M_reading_98 rfl (lv_at hl 0 rfl) ?_
          refine lv_iload_n hx hb d_M_reading_99 rfl (lv_at hl 2 rfl) ?_
          refine vp_callSi (W.runV (As := [.int x2]) (rest := [.int r_1, .int 7, .ref mm]) ⟨hx, hb, hml, hown, hta⟩ (k_M_isGone l G q0 q1 cI ty2 w hmp.1 hmp.2 x2) (cV 1 hta aw_630 aw_5 aw_627 aw_629 as_SceneTimesModel_isGone rfl rfl (by decide +kernel) ⟨Nat.le_of_ble_eq_true rfl, Nat.le_of_ble_eq_true rfl⟩) (pW_V hK hM rfl hmp.1) rfl rfl hl.1 rfl (lv_room (Nat.le_of_ble_eq_true rfl)) d_M_reading_100 ⟨Nat.le_of_ble_eq_true rfl, Nat.le_of_ble_eq_true rfl⟩) (fun r_168 hr_168 => ?_)
          refine lv_iload hx hb d_M_reading_103 (lv_at hl 4 rfl) ?_
          refine lv_if_lt (tgt := 117) hx hb d_M_reading_105 (by decide) (fun c_169 => absurd c_169 (nI_pos (by omega))) (fun c_169 => ?_)
          refine lv_iload hx hb d_M_reading_108 (lv_at hl 5 rfl) ?_
          refine lv_if_lt (tgt := 117) hx hb d_M_reading_110 (by decide) (fun c_170 => ?_) (fun c_170 => absurd (by decide) c_170)
          refine lv_iconst (v := 0) hx hb d_M_reading_117 (by decide) ?_
          refine lv_iconst (v := 1) hx hb d_M_reading_118 (by decide) ?_
          have hF := mw_free hM hS hA
          refine va_calli (va_runV (As := [.int 7, .int r_1, .int r_168, .int 0, .int 1]) (rest := []) ⟨hx, hb, hml, hown, hta⟩ (k_M_goes_7 l G q0 q1 cI ty2 w hmp.1 hmp.2 r_1 r_168 0 1 _) (cV 5 hta aw_619 aw_5 aw_616 aw_618 as_SceneTimesModel_goes rfl rfl (by decide +kernel) ⟨Nat.le_of_ble_eq_true rfl, Nat.le_of_ble_eq_true rfl⟩) (pZ_V hK hM rfl hmp.1) rfl rfl hl.1 rfl (lv_room (Nat.le_of_ble_eq_true rfl)) d_M_reading_119 ⟨Nat.le_of_ble_eq_true rfl, Nat.le_of_ble_eq_true rfl⟩) hS (fun q _ h => hF q h) hF (fun r_171 u_r_171 t H locs ht hvm hr_171 hB hz1 hk1 hS => ?_)
          obtain ⟨hM1, hK1⟩ := hB
          rw [ht] at hM1
          have hM := mw_weaken hM1 hF
          clear hM1 hK1 hF hk1 hz1
          obtain ⟨w_172, hw_172⟩ : ∃ z9 : Nat → Option va_E, z9 = va_up w mm (some (.inr (6, [.int (nI (gT 7 (gC r_1 r_168 0 1))), .int no, .int wr, .int n, .ref (ad 0), .ref (ad 1), .ref (ad 2), .ref (ad 3), .ref (ad 4), .ref (ad 5), .int k, .ref (ad 6), .ref (ad 7), .ref (ad 8), .ref (ad 9), .int z, .int r, .int so, .ref (ad 10), .int pr, .ref (ad 11)]))) := ⟨_, rfl⟩
          rw [← hw_172] at hM
          have mp_173 : mPic w_172 mm cI ad f (nI (gT 7 (gC r_1 r_168 0 1))) no wr n k z r so pr := by rw [hw_172]; exact mp_obj hmp (nI (gT 7 (gC r_1 r_168 0 1))) no wr n k z r so pr
          have k_174 : w_172 (ad 3) = some (aI cI 100 (f 3)) := mp_173.2 3 (by decide)
          refine lv_if_ne (tgt := 127) hx hb d_M_reading_122 (by decide) (fun c_175 => ?_) (fun c_175 => ?_)
          · have hc := go_t hr_171 c_175
            exact absurd rfl (gC_room hc).2.2.1
          · have hc := go_f hr_171 c_175
            refine lv_iconst (v := 0) hx hb d_M_reading_125 (by decide) ?_
            have hg : gC (if (¬ x1 < 0 ∧ ¬ 9 < x1) then 1 else 0) (if (¬ x2 < 0 ∧ ¬ no < x2) then 1 else 0) (if (rdB f x2 none (if (¬ x1 < 0 ∧ ¬ 9 < x1) then L0 else [])).isSome = true ∧ (rdH f x2 none (if (¬ x1 < 0 ∧ ¬ 9 < x1) then L0 else [])).isSome = true then 1 else 0) 1 = gC r_1 r_168 0 1 := by rw [← e4, ← e5, ← hr_1, ← hr_168]; rfl
            exact W.iret (v := 0) hx hb hr (fun t ht hW => ⟨⟨0, w_172, rfl, (by rw [hg]; exact ⟨fun _ => mp_173, fun q => absurd q hc⟩), by rw [ht]; exact hM, va_K.moved hW.alike hK⟩, hS.F ht⟩) hS.2.2 d_M_reading_126
        | some b =>
          have hl : lv_has ls 8 [(0, .ref mm), (1, .int x1), (2, .int x2), (3, .int r_1), (4, .int (nI a)), (5, .int (nI b)), (6, .int (-1))] := hl
          have ha9 : a < nn := m4 a rfl
          have hb9 : b < nn := m5 b rfl
          refine lv_aload_n hx hb d_M_reading_94 rfl (lv_at hl 0 rfl) ?_
          refine lv_bipush (v := 7) hx hb d_M_reading_95 (by decide) ?_
          refine lv_iload_n hx hb d_M_reading_97 rfl (lv_at hl 3 rfl) ?_
          refine lv_aload_n hx hb d_M_reading_98 rfl (lv_at hl 0 rfl) ?_
          refine lv_iload_n hx hb d_M_reading_99 rfl (lv_at hl 2 rfl) ?_
          refine vp_callSi (W.runV (As := [.int x2]) (rest := [.int r_1, .int 7, .ref mm]) ⟨hx, hb, hml, hown, hta⟩ (k_M_isGone l G q0 q1 cI ty2 w hmp.1 hmp.2 x2) (cV 1 hta aw_630 aw_5 aw_627 aw_629 as_SceneTimesModel_isGone rfl rfl (by decide +kernel) ⟨Nat.le_of_ble_eq_true rfl, Nat.le_of_ble_eq_true rfl⟩) (pW_V hK hM rfl hmp.1) rfl rfl hl.1 rfl (lv_room (Nat.le_of_ble_eq_true rfl)) d_M_reading_100 ⟨Nat.le_of_ble_eq_true rfl, Nat.le_of_ble_eq_true rfl⟩) (fun r_226 hr_226 => ?_)
          refine lv_iload hx hb d_M_reading_103 (lv_at hl 4 rfl) ?_
          refine lv_if_lt (tgt := 117) hx hb d_M_reading_105 (by decide) (fun c_227 => absurd c_227 (nI_pos (by omega))) (fun c_227 => ?_)
          refine lv_iload hx hb d_M_reading_108 (lv_at hl 5 rfl) ?_
          refine lv_if_lt (tgt := 117) hx hb d_M_reading_110 (by decide) (fun c_228 => absurd c_228 (nI_pos (by omega))) (fun c_228 => ?_)
          refine lv_iconst (v := 1) hx hb d_M_reading_113 (by decide) ?_
          refine lv_goto (tgt := 118) hx hb d_M_reading_114 (by decide) ?_
          refine lv_iconst (v := 1) hx hb d_M_reading_118 (by decide) ?_
          have hF := mw_free hM hS hA
          refine va_calli (va_runV (As := [.int 7, .int r_1, .int r_226, .int 1, .int 1]) (rest := []) ⟨hx, hb, hml, hown, hta⟩ (k_M_goes_7 l G q0 q1 cI ty2 w hmp.1 hmp.2 r_1 r_226 1 1 _) (cV 5 hta aw_619 aw_5 aw_616 aw_618 as_SceneTimesModel_goes rfl rfl (by decide +kernel) ⟨Nat.le_of_ble_eq_true rfl, Nat.le_of_ble_eq_true rfl⟩) (pZ_V hK hM rfl hmp.1) rfl rfl hl.1 rfl (lv_room (Nat.le_of_ble_eq_true rfl)) d_M_reading_119 ⟨Nat.le_of_ble_eq_true rfl, Nat.le_of_ble_eq_true rfl⟩) hS (fun q _ h => hF q h) hF (fun r_229 u_r_229 t H locs ht hvm hr_229 hB hz1 hk1 hS => ?_)
          obtain ⟨hM1, hK1⟩ := hB
          rw [ht] at hM1
          have hM := mw_weaken hM1 hF
          clear hM1 hK1 hF hk1 hz1
          obtain ⟨w_230, hw_230⟩ : ∃ z9 : Nat → Option va_E, z9 = va_up w mm (some (.inr (6, [.int (nI (gT 7 (gC r_1 r_226 1 1))), .int no, .int wr, .int n, .ref (ad 0), .ref (ad 1), .ref (ad 2), .ref (ad 3), .ref (ad 4), .ref (ad 5), .int k, .ref (ad 6), .ref (ad 7), .ref (ad 8), .ref (ad 9), .int z, .int r, .int so, .ref (ad 10), .int pr, .ref (ad 11)]))) := ⟨_, rfl⟩
          rw [← hw_230] at hM
          have mp_231 : mPic w_230 mm cI ad f (nI (gT 7 (gC r_1 r_226 1 1))) no wr n k z r so pr := by rw [hw_230]; exact mp_obj hmp (nI (gT 7 (gC r_1 r_226 1 1))) no wr n k z r so pr
          have k_232 : w_230 (ad 3) = some (aI cI 100 (f 3)) := mp_231.2 3 (by decide)
          refine lv_if_ne (tgt := 127) hx hb d_M_reading_122 (by decide) (fun c_233 => ?_) (fun c_233 => ?_)
          · have hc := go_t hr_229 c_233
            refine lv_aload_n hx hb d_M_reading_127 rfl (lv_at hl 0 rfl) ?_
            refine lv_iload hx hb d_M_reading_128 (lv_at hl 4 rfl) ?_
            refine lv_aload_n hx hb d_M_reading_130 rfl (lv_at hl 0 rfl) ?_
            refine m_get (D := G) (ci := 6) (v := .int no) (C := nR_M) (T := nT_M) (N := 21) hx hb hta in_M hown hK hM mp_231.1 rfl 1 (by decide) (hta _ aw_544) (fun _ h9 => h9) rfl d_M_reading_131 ?_
            refine vp_callSi (W.runV (As := [.int (nI a), .int no]) (rest := []) ⟨hx, hb, hml, hown, hta⟩ (k_M_value_x l G q0 q1 cI ty2 w_230 mp_231.1 mp_231.2 hk ek a (by omega) no (nI a) rfl) (cV 2 hta aw_674 aw_5 aw_671 aw_673 as_SceneTimesModel_value rfl rfl (by decide +kernel) ⟨Nat.le_of_ble_eq_true rfl, Nat.le_of_ble_eq_true rfl⟩) (pW_V hK hM rfl mp_231.1) rfl rfl hl.1 rfl (lv_room (Nat.le_of_ble_eq_true rfl)) d_M_reading_134 ⟨Nat.le_of_ble_eq_true rfl, Nat.le_of_ble_eq_true rfl⟩) (fun r_234 hr_234 => ?_)
            refine lv_istore (lv' := [(7, .int r_234), (0, .ref mm), (1, .int x1), (2, .int x2), (3, .int r_1), (4, .int (nI a)), (5, .int (nI b)), (6, .int (-1))]) hx hb d_M_reading_137 hl (by decide) rfl (fun ls hl => ?_)
            refine lv_aload_n hx hb d_M_reading_139 rfl (lv_at hl 1 rfl) ?_
            refine m_get (D := G) (ci := 6) (v := .ref (ad 3)) (C := nR_M) (T := nT_M) (N := 21) hx hb hta in_M hown hK hM mp_231.1 rfl 7 (by decide) (hta _ aw_550) (fun _ h9 => h9) rfl d_M_reading_140 ?_
            refine lv_iload hx hb d_M_reading_143 (lv_at hl 5 rfl) ?_
            refine m_ialv hx hb hK hM 2 k_232 rfl (vp_in_nI (by omega) (by omega)) (v := f 3 a) (by rw [nI_clamp (by omega)]) d_M_reading_145 ?_
            refine lv_iload_n hx hb d_M_reading_146 rfl (lv_at hl 3 rfl) ?_
            refine lv_icmp_ne (tgt := 153) hx hb d_M_reading_147 (by decide) (fun c_235 => ?_) (fun c_235 => ?_)
            · refine lv_iload hx hb d_M_reading_153 (lv_at hl 0 rfl) ?_
              refine lv_aload_n hx hb d_M_reading_155 rfl (lv_at hl 1 rfl) ?_
              refine lv_iload hx hb d_M_reading_156 (lv_at hl 6 rfl) ?_
              refine lv_aload_n hx hb d_M_reading_158 rfl (lv_at hl 1 rfl) ?_
              refine m_get (D := G) (ci := 6) (v := .int no) (C := nR_M) (T := nT_M) (N := 21) hx hb hta in_M hown hK hM mp_231.1 rfl 1 (by decide) (hta _ aw_544) (fun _ h9 => h9) rfl d_M_reading_159 ?_
              refine vp_callSi (W.runV (As := [.int (nI b), .int no]) (rest := [.int r_234]) ⟨hx, hb, hml, hown, hta⟩ (k_M_value_x l G q0 q1 cI ty2 w_230 mp_231.1 mp_231.2 hk ek b (by omega) no (nI b) rfl) (cV 2 hta aw_674 aw_5 aw_671 aw_673 as_SceneTimesModel_value rfl rfl (by decide +kernel) ⟨Nat.le_of_ble_eq_true rfl, Nat.le_of_ble_eq_true rfl⟩) (pW_V hK hM rfl mp_231.1) rfl rfl hl.1 rfl (lv_room (Nat.le_of_ble_eq_true rfl)) d_M_reading_162 ⟨Nat.le_of_ble_eq_true rfl, Nat.le_of_ble_eq_true rfl⟩) (fun r_236 hr_236 => ?_)
              refine lv_iload hx hb d_M_reading_165 (lv_at hl 0 rfl) ?_
              refine lv_isub hx hb d_M_reading_167 ?_
              refine lv_iload_n hx hb d_M_reading_168 rfl (lv_at hl 3 rfl) ?_
              refine lv_aload_n hx hb d_M_reading_169 rfl (lv_at hl 1 rfl) ?_
              refine m_get (D := G) (ci := 6) (v := .ref (ad 3)) (C := nR_M) (T := nT_M) (N := 21) hx hb hta in_M hown hK hM mp_231.1 rfl 7 (by decide) (hta _ aw_550) (fun _ h9 => h9) rfl d_M_reading_170 ?_
              refine lv_iload hx hb d_M_reading_173 (lv_at hl 5 rfl) ?_
              refine m_ialv hx hb hK hM 2 k_232 rfl (vp_in_nI (by omega) (by omega)) (v := f 3 a) (by rw [nI_clamp (by omega)]) d_M_reading_175 ?_
              refine lv_isub hx hb d_M_reading_176 ?_
              refine lv_imul hx hb d_M_reading_177 ?_
              refine lv_aload_n hx hb d_M_reading_178 rfl (lv_at hl 1 rfl) ?_
              refine m_get (D := G) (ci := 6) (v := .ref (ad 3)) (C := nR_M) (T := nT_M) (N := 21) hx hb hta in_M hown hK hM mp_231.1 rfl 7 (by decide) (hta _ aw_550) (fun _ h9 => h9) rfl d_M_reading_179 ?_
              refine lv_iload hx hb d_M_reading_182 (lv_at hl 6 rfl) ?_
              refine m_ialv hx hb hK hM 2 k_232 rfl (vp_in_nI (by omega) (by omega)) (v := f 3 b) (by rw [nI_clamp (by omega)]) d_M_reading_184 ?_
              refine lv_aload_n hx hb d_M_reading_185 rfl (lv_at hl 1 rfl) ?_
              refine m_get (D := G) (ci := 6) (v := .ref (ad 3)) (C := nR_M) (T := nT_M) (N := 21) hx hb hta in_M hown hK hM mp_231.1 rfl 7 (by decide) (hta _ aw_550) (fun _ h9 => h9) rfl d_M_reading_186 ?_
              refine lv_iload hx hb d_M_reading_189 (lv_at hl 5 rfl) ?_
              refine m_ialv hx hb hK hM 2 k_232 rfl (vp_in_nI (by omega) (by omega)) (v := f 3 a) (by rw [nI_clamp (by omega)]) d_M_reading_191 ?_
              refine lv_isub hx hb d_M_reading_192 ?_
              refine vp_callSi (W.runS (As := [.int ((r_236 - r_234) * (x2 - (f 3 a))), .int ((f 3 b) - (f 3 a))]) (rest := [.int r_234]) ⟨hx, hb, hml, hown, hta⟩ (k_M_floor l ((r_236 - r_234) * (x2 - (f 3 a))) ((f 3 b) - (f 3 a)) (rd_ne (rdB_p (fun j h => by cases h) e4.symm) (rdH_p (fun j h => by cases h) e5.symm) c_235)) (cS 2 hta aw_681 aw_5 aw_679 aw_680 rfl rfl (by decide +kernel) ⟨Nat.le_of_ble_eq_true rfl, Nat.le_of_ble_eq_true rfl⟩) ⟨fun a U g mk q => q, fun U hU hW => ⟨rfl, trivial⟩⟩ rfl rfl hl.1 rfl (lv_room (Nat.le_of_ble_eq_true rfl)) d_M_reading_193 ⟨Nat.le_of_ble_eq_true rfl, Nat.le_of_ble_eq_true rfl⟩) (fun r_237 hr_237 => ?_)
              refine lv_iadd hx hb d_M_reading_196 ?_
              have hg : gC (if (¬ x1 < 0 ∧ ¬ 9 < x1) then 1 else 0) (if (¬ x2 < 0 ∧ ¬ no < x2) then 1 else 0) (if (rdB f x2 none (if (¬ x1 < 0 ∧ ¬ 9 < x1) then L0 else [])).isSome = true ∧ (rdH f x2 none (if (¬ x1 < 0 ∧ ¬ 9 < x1) then L0 else [])).isSome = true then 1 else 0) 1 = gC r_1 r_226 1 1 := by rw [← e4, ← e5, ← hr_1, ← hr_226]; rfl
              exact W.iret (v := r_234 + r_237) hx hb hr (fun t ht hW => ⟨⟨r_234 + r_237, w_230, rfl, (by rw [hg]; exact ⟨fun q => absurd hc q, fun _ => ⟨by rw [← e4, ← e5, rdV, hr_237, hr_236, hr_234]; simp only [c_235, not_true_eq_false, not_false_eq_true, and_true, and_false, true_and, false_and, and_self, or_self, or_true, true_or, or_false, false_or, ↓reduceIte], (by have q := mp_231; rw [hc] at q; exact q)⟩⟩), by rw [ht]; exact hM, va_K.moved hW.alike hK⟩, hS.F ht⟩) hS.2.2 d_M_reading_197
            · refine lv_iload hx hb d_M_reading_150 (lv_at hl 0 rfl) ?_
              have hg : gC (if (¬ x1 < 0 ∧ ¬ 9 < x1) then 1 else 0) (if (¬ x2 < 0 ∧ ¬ no < x2) then 1 else 0) (if (rdB f x2 none (if (¬ x1 < 0 ∧ ¬ 9 < x1) then L0 else [])).isSome = true ∧ (rdH f x2 none (if (¬ x1 < 0 ∧ ¬ 9 < x1) then L0 else [])).isSome = true then 1 else 0) 1 = gC r_1 r_226 1 1 := by rw [← e4, ← e5, ← hr_1, ← hr_226]; rfl
              exact W.iret (v := r_234) hx hb hr (fun t ht hW => ⟨⟨r_234, w_230, rfl, (by rw [hg]; exact ⟨fun q => absurd hc q, fun _ => ⟨by rw [← e4, ← e5, rdV, hr_234]; simp only [c_235, not_true_eq_false, not_false_eq_true, and_true, and_false, true_and, false_and, and_self, or_self, or_true, true_or, or_false, false_or, ↓reduceIte], (by have q := mp_231; rw [hc] at q; exact q)⟩⟩), by rw [ht]; exact hM, va_K.moved hW.alike hK⟩, hS.F ht⟩) hS.2.2 d_M_reading_152
          · have hc := go_f hr_229 c_233
            refine lv_iconst (v := 0) hx hb d_M_reading_125 (by decide) ?_
            have hg : gC (if (¬ x1 < 0 ∧ ¬ 9 < x1) then 1 else 0) (if (¬ x2 < 0 ∧ ¬ no < x2) then 1 else 0) (if (rdB f x2 none (if (¬ x1 < 0 ∧ ¬ 9 < x1) then L0 else [])).isSome = true ∧ (rdH f x2 none (if (¬ x1 < 0 ∧ ¬ 9 < x1) then L0 else [])).isSome = true then 1 else 0) 1 = gC r_1 r_226 1 1 := by rw [← e4, ← e5, ← hr_1, ← hr_226]; rfl
            exact W.iret (v := 0) hx hb hr (fun t ht hW => ⟨⟨0, w_230, rfl, (by rw [hg]; exact ⟨fun _ => mp_231, fun q => absurd q hc⟩), by rw [ht]; exact hM, va_K.moved hW.alike hK⟩, hS.F ht⟩) hS.2.2 d_M_reading_126
    have loop : ∀ (L : List Nat) (b4 b5 : Option Nat) (ls : Array Slot), folT (folS f 0 2 x1 no no ka nn) L → (∀ a ∈ L, a < nn) → rdB f x2 b4 L = (rdB f x2 none (if (¬ x1 < 0 ∧ ¬ 9 < x1) then L0 else [])) → rdH f x2 b5 L = (rdH f x2 none (if (¬ x1 < 0 ∧ ¬ 9 < x1) then L0 else [])) → (∀ i, b5 = some i → i < nn) → lv_has ls 8 [(0, .ref mm), (1, .int x1), (2, .int x2), (3, .int r_1), (4, .int (oI b4)), (5, .int (oI b5)), (6, .int (oI L.head?))] → W p l e (headSpec (wm y_M_reading c_M_reading 8 (some .int)) ({ frames := 2, cells := 0, slots := 0, locals := 51 })).room s m ([.ref mm, .int x1, .int x2] : List Value).toArray below meth c s.heap [] 0 0 (MQ below (va_Qi (fun (r0 : Int32) (u : Nat → Option va_E) => (¬ gC (if (¬ x1 < 0 ∧ ¬ 9 < x1) then 1 else 0) (if (¬ x2 < 0 ∧ ¬ no < x2) then 1 else 0) (if (rdB f x2 none (if (¬ x1 < 0 ∧ ¬ 9 < x1) then L0 else [])).isSome = true ∧ (rdH f x2 none (if (¬ x1 < 0 ∧ ¬ 9 < x1) then L0 else [])).isSome = true then 1 else 0) 1 = 0 → mPic u mm cI ad f (nI (gT 7 (gC (if (¬ x1 < 0 ∧ ¬ 9 < x1) then 1 else 0) (if (¬ x2 < 0 ∧ ¬ no < x2) then 1 else 0) (if (rdB f x2 none (if (¬ x1 < 0 ∧ ¬ 9 < x1) then L0 else [])).isSome = true ∧ (rdH f x2 none (if (¬ x1 < 0 ∧ ¬ 9 < x1) then L0 else [])).isSome = true then 1 else 0) 1))) no wr n k z r so pr) ∧ (gC (if (¬ x1 < 0 ∧ ¬ 9 < x1) then 1 else 0) (if (¬ x2 < 0 ∧ ¬ no < x2) then 1 else 0) (if (rdB f x2 none (if (¬ x1 < 0 ∧ ¬ 9 < x1) then L0 else [])).isSome = true ∧ (rdH f x2 none (if (¬ x1 < 0 ∧ ¬ 9 < x1) then L0 else [])).isSome = true then 1 else 0) 1 = 0 → r0 = rdV f x2 no ka (rdB f x2 none (if (¬ x1 < 0 ∧ ¬ 9 < x1) then L0 else [])) (rdH f x2 none (if (¬ x1 < 0 ∧ ¬ 9 < x1) then L0 else [])) ∧ mPic u mm cI ad f 0 no wr n k z r so pr)) (fun w2 t => mw G ncl A w2 t.heap ∧ va_K G ncl (q0 :: q1 :: (cI, .int) :: ty2) t) A) ([.ref mm, .int x1, .int x2] : List Value).toArray s 0 0 A) (F0 m 36 ls []) := by
      intro L
      induction L with
      | nil =>
        intro b4 b5 ls hf hm1 ha hb2 m5 hl
        have hl : lv_has ls 8 [(0, .ref mm), (1, .int x1), (2, .int x2), (3, .int r_1), (4, .int (oI b4)), (5, .int (oI b5)), (6, .int (-1))] := hl
        refine lv_iload hx hb d_M_reading_36 (lv_at hl 6 rfl) ?_
        refine lv_if_lt (tgt := 94) hx hb d_M_reading_38 (by decide) (fun c_288 => ?_) (fun c_288 => absurd (by decide) c_288)
        exact hfin b4 b5 ls ha hb2 (lv_sub hl [0, 1, 2, 3, 4, 5, 6] rfl)
      | cons a rr ih =>
        intro b4 b5 ls hf hm1 ha hb2 m5 hl
        have ha9 : a < nn := hm1 a List.mem_cons_self
        cases b5 with
        | none =>
          have hl : lv_has ls 8 [(0, .ref mm), (1, .int x1), (2, .int x2), (3, .int r_1), (4, .int (oI b4)), (5, .int (-1)), (6, .int (nI a))] := hl
          refine lv_iload hx hb d_M_reading_36 (lv_at hl 6 rfl) ?_
          refine lv_if_lt (tgt := 94) hx hb d_M_reading_38 (by decide) (fun c_339 => absurd c_339 (nI_pos (by omega))) (fun c_339 => ?_)
          refine lv_aload_n hx hb d_M_reading_41 rfl (lv_at hl 0 rfl) ?_
          refine m_get (D := G) (ci := 6) (v := .ref (ad 3)) (C := nR_M) (T := nT_M) (N := 21) hx hb hta in_M hown hK hM hmp.1 rfl 7 (by decide) (hta _ aw_550) (fun _ h9 => h9) rfl d_M_reading_42 ?_
          refine lv_iload hx hb d_M_reading_45 (lv_at hl 6 rfl) ?_
          refine m_ialv hx hb hK hM 2 ha3 rfl (vp_in_nI (by omega) (by omega)) (v := f 3 a) (by rw [nI_clamp (by omega)]) d_M_reading_47 ?_
          refine lv_iload_n hx hb d_M_reading_48 rfl (lv_at hl 2 rfl) ?_
          refine lv_icmp_gt (tgt := 56) hx hb d_M_reading_49 (by decide) (fun c_340 => ?_) (fun c_340 => ?_)
          · refine lv_aload_n hx hb d_M_reading_56 rfl (lv_at hl 0 rfl) ?_
            refine m_get (D := G) (ci := 6) (v := .ref (ad 3)) (C := nR_M) (T := nT_M) (N := 21) hx hb hta in_M hown hK hM hmp.1 rfl 7 (by decide) (hta _ aw_550) (fun _ h9 => h9) rfl d_M_reading_57 ?_
            refine lv_iload hx hb d_M_reading_60 (lv_at hl 6 rfl) ?_
            refine m_ialv hx hb hK hM 2 ha3 rfl (vp_in_nI (by omega) (by omega)) (v := f 3 a) (by rw [nI_clamp (by omega)]) d_M_reading_62 ?_
            refine lv_iload_n hx hb d_M_reading_63 rfl (lv_at hl 2 rfl) ?_
            refine lv_icmp_lt (tgt := 76) hx hb d_M_reading_64 (by decide) (fun c_341 => ?_) (fun c_341 => ?_)
            · refine lv_aload_n hx hb d_M_reading_76 rfl (lv_at hl 0 rfl) ?_
              refine lv_iload hx hb d_M_reading_77 (lv_at hl 6 rfl) ?_
              refine lv_iconst (v := 0) hx hb d_M_reading_79 (by decide) ?_
              refine lv_iconst (v := 2) hx hb d_M_reading_80 (by decide) ?_
              refine lv_iload_n hx hb d_M_reading_81 rfl (lv_at hl 1 rfl) ?_
              refine lv_aload_n hx hb d_M_reading_82 rfl (lv_at hl 0 rfl) ?_
              refine m_get (D := G) (ci := 6) (v := .int no) (C := nR_M) (T := nT_M) (N := 21) hx hb hta in_M hown hK hM hmp.1 rfl 1 (by decide) (hta _ aw_544) (fun _ h9 => h9) rfl d_M_reading_83 ?_
              refine vp_callSi (W.runV (As := [.int (nI a), .int 0, .int 2, .int x1, .int no]) (rest := []) ⟨hx, hb, hml, hown, hta⟩ (k_M_following l G q0 q1 cI ty2 w hmp.1 hmp.2 hk ek hn en (some a) (fun j q => by cases q; omega) 0 2 x1 no) (cV 5 hta aw_662 aw_5 aw_659 aw_661 as_SceneTimesModel_following rfl rfl (by decide +kernel) ⟨Nat.le_of_ble_eq_true rfl, Nat.le_of_ble_eq_true rfl⟩) (pW_V hK hM rfl hmp.1) rfl rfl hl.1 rfl (lv_room (Nat.le_of_ble_eq_true rfl)) d_M_reading_86 ⟨Nat.le_of_ble_eq_true rfl, Nat.le_of_ble_eq_true rfl⟩) (fun r_342 hr_342 => ?_)
              refine lv_istore (lv' := [(6, .int r_342), (0, .ref mm), (1, .int x1), (2, .int x2), (3, .int r_1), (4, .int (oI b4)), (5, .int (-1))]) hx hb d_M_reading_89 hl (by decide) rfl (fun ls hl => ?_)
              refine lv_goto (tgt := 36) hx hb d_M_reading_91 (by decide) ?_
              have e6 : r_342 = oI rr.head? := by rw [hr_342]; exact congrArg oI (folL_h (lo := some a) hf)
              subst e6
              exact ih b4 none ls (folL_t (lo := some a) hf) (fun b hb => hm1 b (List.mem_cons_of_mem _ hb)) (by rw [← ha, rdB]; simp only [c_340, not_true_eq_false, not_false_eq_true, and_true, and_false, true_and, false_and, and_self, or_self, or_true, true_or, or_false, false_or, ↓reduceIte, eq_self, reduceCtorEq]) (by rw [← hb2, rdH]; simp only [c_341, not_true_eq_false, not_false_eq_true, and_true, and_false, true_and, false_and, and_self, or_self, or_true, true_or, or_false, false_or, ↓reduceIte, eq_self, reduceCtorEq]) (fun i q => by cases q) (lv_sub hl [1, 2, 3, 4, 5, 6, 0] rfl)
            · refine lv_iload hx hb d_M_reading_67 (lv_at hl 5 rfl) ?_
              refine lv_if_ge (tgt := 76) hx hb d_M_reading_69 (by decide) (fun c_343 => absurd c_343 (by decide)) (fun c_343 => ?_)
              refine lv_iload hx hb d_M_reading_72 (lv_at hl 6 rfl) ?_
              refine lv_istore (lv' := [(5, .int (nI a)), (0, .ref mm), (1, .int x1), (2, .int x2), (3, .int r_1), (4, .int (oI b4)), (6, .int (nI a))]) hx hb d_M_reading_74 hl (by decide) rfl (fun ls hl => ?_)
              refine lv_aload_n hx hb d_M_reading_76 rfl (lv_at hl 1 rfl) ?_
              refine lv_iload hx hb d_M_reading_77 (lv_at hl 6 rfl) ?_
              refine lv_iconst (v := 0) hx hb d_M_reading_79 (by decide) ?_
              refine lv_iconst (v := 2) hx hb d_M_reading_80 (by decide) ?_
              refine lv_iload_n hx hb d_M_reading_81 rfl (lv_at hl 2 rfl) ?_
              refine lv_aload_n hx hb d_M_reading_82 rfl (lv_at hl 1 rfl) ?_
              refine m_get (D := G) (ci := 6) (v := .int no) (C := nR_M) (T := nT_M) (N := 21) hx hb hta in_M hown hK hM hmp.1 rfl 1 (by decide) (hta _ aw_544) (fun _ h9 => h9) rfl d_M_reading_83 ?_
              refine vp_callSi (W.runV (As := [.int (nI a), .int 0, .int 2, .int x1, .int no]) (rest := []) ⟨hx, hb, hml, hown, hta⟩ (k_M_following l G q0 q1 cI ty2 w hmp.1 hmp.2 hk ek hn en (some a) (fun j q => by cases q; omega) 0 2 x1 no) (cV 5 hta aw_662 aw_5 aw_659 aw_661 as_SceneTimesModel_following rfl rfl (by decide +kernel) ⟨Nat.le_of_ble_eq_true rfl, Nat.le_of_ble_eq_true rfl⟩) (pW_V hK hM rfl hmp.1) rfl rfl hl.1 rfl (lv_room (Nat.le_of_ble_eq_true rfl)) d_M_reading_86 ⟨Nat.le_of_ble_eq_true rfl, Nat.le_of_ble_eq_true rfl⟩) (fun r_344 hr_344 => ?_)
              refine lv_istore (lv' := [(6, .int r_344), (5, .int (nI a)), (0, .ref mm), (1, .int x1), (2, .int x2), (3, .int r_1), (4, .int (oI b4))]) hx hb d_M_reading_89 hl (by decide) rfl (fun ls hl => ?_)
              refine lv_goto (tgt := 36) hx hb d_M_reading_91 (by decide) ?_
              have e6 : r_344 = oI rr.head? := by rw [hr_344]; exact congrArg oI (folL_h (lo := some a) hf)
              subst e6
              exact ih b4 (some a) ls (folL_t (lo := some a) hf) (fun b hb => hm1 b (List.mem_cons_of_mem _ hb)) (by rw [← ha, rdB]; simp only [c_340, not_true_eq_false, not_false_eq_true, and_true, and_false, true_and, false_and, and_self, or_self, or_true, true_or, or_false, false_or, ↓reduceIte, eq_self, reduceCtorEq]) (by rw [← hb2, rdH]; simp only [c_341, not_true_eq_false, not_false_eq_true, and_true, and_false, true_and, false_and, and_self, or_self, or_true, true_or, or_false, false_or, ↓reduceIte, eq_self, reduceCtorEq]) (fun i q => by cases q; exact ha9) (lv_sub hl [2, 3, 4, 5, 6, 1, 0] rfl)
          · refine lv_iload hx hb d_M_reading_52 (lv_at hl 6 rfl) ?_
            refine lv_istore (lv' := [(4, .int (nI a)), (0, .ref mm), (1, .int x1), (2, .int x2), (3, .int r_1), (5, .int (-1)), (6, .int (nI a))]) hx hb d_M_reading_54 hl (by decide) rfl (fun ls hl => ?_)
            refine lv_aload_n hx hb d_M_reading_56 rfl (lv_at hl 1 rfl) ?_
            refine m_get (D := G) (ci := 6) (v := .ref (ad 3)) (C := nR_M) (T := nT_M) (N := 21) hx hb hta in_M hown hK hM hmp.1 rfl 7 (by decide) (hta _ aw_550) (fun _ h9 => h9) rfl d_M_reading_57 ?_
            refine lv_iload hx hb d_M_reading_60 (lv_at hl 6 rfl) ?_
            refine m_ialv hx hb hK hM 2 ha3 rfl (vp_in_nI (by omega) (by omega)) (v := f 3 a) (by rw [nI_clamp (by omega)]) d_M_reading_62 ?_
            refine lv_iload_n hx hb d_M_reading_63 rfl (lv_at hl 3 rfl) ?_
            refine lv_icmp_lt (tgt := 76) hx hb d_M_reading_64 (by decide) (fun c_345 => ?_) (fun c_345 => ?_)
            · refine lv_aload_n hx hb d_M_reading_76 rfl (lv_at hl 1 rfl) ?_
              refine lv_iload hx hb d_M_reading_77 (lv_at hl 6 rfl) ?_
              refine lv_iconst (v := 0) hx hb d_M_reading_79 (by decide) ?_
              refine lv_iconst (v := 2) hx hb d_M_reading_80 (by decide) ?_
              refine lv_iload_n hx hb d_M_reading_81 rfl (lv_at hl 2 rfl) ?_
              refine lv_aload_n hx hb d_M_reading_82 rfl (lv_at hl 1 rfl) ?_
              refine m_get (D := G) (ci := 6) (v := .int no) (C := nR_M) (T := nT_M) (N := 21) hx hb hta in_M hown hK hM hmp.1 rfl 1 (by decide) (hta _ aw_544) (fun _ h9 => h9) rfl d_M_reading_83 ?_
              refine vp_callSi (W.runV (As := [.int (nI a), .int 0, .int 2, .int x1, .int no]) (rest := []) ⟨hx, hb, hml, hown, hta⟩ (k_M_following l G q0 q1 cI ty2 w hmp.1 hmp.2 hk ek hn en (some a) (fun j q => by cases q; omega) 0 2 x1 no) (cV 5 hta aw_662 aw_5 aw_659 aw_661 as_SceneTimesModel_following rfl rfl (by decide +kernel) ⟨Nat.le_of_ble_eq_true rfl, Nat.le_of_ble_eq_true rfl⟩) (pW_V hK hM rfl hmp.1) rfl rfl hl.1 rfl (lv_room (Nat.le_of_ble_eq_true rfl)) d_M_reading_86 ⟨Nat.le_of_ble_eq_true rfl, Nat.le_of_ble_eq_true rfl⟩) (fun r_346 hr_346 => ?_)
              refine lv_istore (lv' := [(6, .int r_346), (4, .int (nI a)), (0, .ref mm), (1, .int x1), (2, .int x2), (3, .int r_1), (5, .int (-1))]) hx hb d_M_reading_89 hl (by decide) rfl (fun ls hl => ?_)
              refine lv_goto (tgt := 36) hx hb d_M_reading_91 (by decide) ?_
              have e6 : r_346 = oI rr.head? := by rw [hr_346]; exact congrArg oI (folL_h (lo := some a) hf)
              subst e6
              exact ih (some a) none ls (folL_t (lo := some a) hf) (fun b hb => hm1 b (List.mem_cons_of_mem _ hb)) (by rw [← ha, rdB]; simp only [c_340, not_true_eq_false, not_false_eq_true, and_true, and_false, true_and, false_and, and_self, or_self, or_true, true_or, or_false, false_or, ↓reduceIte, eq_self, reduceCtorEq]) (by rw [← hb2, rdH]; simp only [c_345, not_true_eq_false, not_false_eq_true, and_true, and_false, true_and, false_and, and_self, or_self, or_true, true_or, or_false, false_or, ↓reduceIte, eq_self, reduceCtorEq]) (fun i q => by cases q) (lv_sub hl [2, 3, 4, 5, 1, 6, 0] rfl)
            · refine lv_iload hx hb d_M_reading_67 (lv_at hl 5 rfl) ?_
              refine lv_if_ge (tgt := 76) hx hb d_M_reading_69 (by decide) (fun c_347 => absurd c_347 (by decide)) (fun c_347 => ?_)
              refine lv_iload hx hb d_M_reading_72 (lv_at hl 6 rfl) ?_
              refine lv_istore (lv' := [(5, .int (nI a)), (4, .int (nI a)), (0, .ref mm), (1, .int x1), (2, .int x2), (3, .int r_1), (6, .int (nI a))]) hx hb d_M_reading_74 hl (by decide) rfl (fun ls hl => ?_)
              refine lv_aload_n hx hb d_M_reading_76 rfl (lv_at hl 2 rfl) ?_
              refine lv_iload hx hb d_M_reading_77 (lv_at hl 6 rfl) ?_
              refine lv_iconst (v := 0) hx hb d_M_reading_79 (by decide) ?_
              refine lv_iconst (v := 2) hx hb d_M_reading_80 (by decide) ?_
              refine lv_iload_n hx hb d_M_reading_81 rfl (lv_at hl 3 rfl) ?_
              refine lv_aload_n hx hb d_M_reading_82 rfl (lv_at hl 2 rfl) ?_
              refine m_get (D := G) (ci := 6) (v := .int no) (C := nR_M) (T := nT_M) (N := 21) hx hb hta in_M hown hK hM hmp.1 rfl 1 (by decide) (hta _ aw_544) (fun _ h9 => h9) rfl d_M_reading_83 ?_
              refine vp_callSi (W.runV (As := [.int (nI a), .int 0, .int 2, .int x1, .int no]) (rest := []) ⟨hx, hb, hml, hown, hta⟩ (k_M_following l G q0 q1 cI ty2 w hmp.1 hmp.2 hk ek hn en (some a) (fun j q => by cases q; omega) 0 2 x1 no) (cV 5 hta aw_662 aw_5 aw_659 aw_661 as_SceneTimesModel_following rfl rfl (by decide +kernel) ⟨Nat.le_of_ble_eq_true rfl, Nat.le_of_ble_eq_true rfl⟩) (pW_V hK hM rfl hmp.1) rfl rfl hl.1 rfl (lv_room (Nat.le_of_ble_eq_true rfl)) d_M_reading_86 ⟨Nat.le_of_ble_eq_true rfl, Nat.le_of_ble_eq_true rfl⟩) (fun r_348 hr_348 => ?_)
              refine lv_istore (lv' := [(6, .int r_348), (5, .int (nI a)), (4, .int (nI a)), (0, .ref mm), (1, .int x1), (2, .int x2), (3, .int r_1)]) hx hb d_M_reading_89 hl (by decide) rfl (fun ls hl => ?_)
              refine lv_goto (tgt := 36) hx hb d_M_reading_91 (by decide) ?_
              have e6 : r_348 = oI rr.head? := by rw [hr_348]; exact congrArg oI (folL_h (lo := some a) hf)
              subst e6
              exact ih (some a) (some a) ls (folL_t (lo := some a) hf) (fun b hb => hm1 b (List.mem_cons_of_mem _ hb)) (by rw [← ha, rdB]; simp only [c_340, not_true_eq_false, not_false_eq_true, and_true, and_false, true_and, false_and, and_self, or_self, or_true, true_or, or_false, false_or, ↓reduceIte, eq_self, reduceCtorEq]) (by rw [← hb2, rdH]; simp only [c_345, not_true_eq_false, not_false_eq_true, and_true, and_false, true_and, false_and, and_self, or_self, or_true, true_or, or_false, false_or, ↓reduceIte, eq_self, reduceCtorEq]) (fun i q => by cases q; exact ha9) (lv_sub hl [3, 4, 5, 6, 2, 1, 0] rfl)
        | some b =>
          have hl : lv_has ls 8 [(0, .ref mm), (1, .int x1), (2, .int x2), (3, .int r_1), (4, .int (oI b4)), (5, .int (nI b)), (6, .int (nI a))] := hl
          have hb9 : b < nn := m5 b rfl
          refine lv_iload hx hb d_M_reading_36 (lv_at hl 6 rfl) ?_
          refine lv_if_lt (tgt := 94) hx hb d_M_reading_38 (by decide) (fun c_399 => absurd c_399 (nI_pos (by omega))) (fun c_399 => ?_)
          refine lv_aload_n hx hb d_M_reading_41 rfl (lv_at hl 0 rfl) ?_
          refine m_get (D := G) (ci := 6) (v := .ref (ad 3)) (C := nR_M) (T := nT_M) (N := 21) hx hb hta in_M hown hK hM hmp.1 rfl 7 (by decide) (hta _ aw_550) (fun _ h9 => h9) rfl d_M_reading_42 ?_
          refine lv_iload hx hb d_M_reading_45 (lv_at hl 6 rfl) ?_
          refine m_ialv hx hb hK hM 2 ha3 rfl (vp_in_nI (by omega) (by omega)) (v := f 3 a) (by rw [nI_clamp (by omega)]) d_M_reading_47 ?_
          refine lv_iload_n hx hb d_M_reading_48 rfl (lv_at hl 2 rfl) ?_
          refine lv_icmp_gt (tgt := 56) hx hb d_M_reading_49 (by decide) (fun c_400 => ?_) (fun c_400 => ?_)
          · refine lv_aload_n hx hb d_M_reading_56 rfl (lv_at hl 0 rfl) ?_
            refine m_get (D := G) (ci := 6) (v := .ref (ad 3)) (C := nR_M) (T := nT_M) (N := 21) hx hb hta in_M hown hK hM hmp.1 rfl 7 (by decide) (hta _ aw_550) (fun _ h9 => h9) rfl d_M_reading_57 ?_
            refine lv_iload hx hb d_M_reading_60 (lv_at hl 6 rfl) ?_
            refine m_ialv hx hb hK hM 2 ha3 rfl (vp_in_nI (by omega) (by omega)) (v := f 3 a) (by rw [nI_clamp (by omega)]) d_M_reading_62 ?_
            refine lv_iload_n hx hb d_M_reading_63 rfl (lv_at hl 2 rfl) ?_
            refine lv_icmp_lt (tgt := 76) hx hb d_M_reading_64 (by decide) (fun c_401 => ?_) (fun c_401 => ?_)
            · refine lv_aload_n hx hb d_M_reading_76 rfl (lv_at hl 0 rfl) ?_
              refine lv_iload hx hb d_M_reading_77 (lv_at hl 6 rfl) ?_
              refine lv_iconst (v := 0) hx hb d_M_reading_79 (by decide) ?_
              refine lv_iconst (v := 2) hx hb d_M_reading_80 (by decide) ?_
              refine lv_iload_n hx hb d_M_reading_81 rfl (lv_at hl 1 rfl) ?_
              refine lv_aload_n hx hb d_M_reading_82 rfl (lv_at hl 0 rfl) ?_
              refine m_get (D := G) (ci := 6) (v := .int no) (C := nR_M) (T := nT_M) (N := 21) hx hb hta in_M hown hK hM hmp.1 rfl 1 (by decide) (hta _ aw_544) (fun _ h9 => h9) rfl d_M_reading_83 ?_
              refine vp_callSi (W.runV (As := [.int (nI a), .int 0, .int 2, .int x1, .int no]) (rest := []) ⟨hx, hb, hml, hown, hta⟩ (k_M_following l G q0 q1 cI ty2 w hmp.1 hmp.2 hk ek hn en (some a) (fun j q => by cases q; omega) 0 2 x1 no) (cV 5 hta aw_662 aw_5 aw_659 aw_661 as_SceneTimesModel_following rfl rfl (by decide +kernel) ⟨Nat.le_of_ble_eq_true rfl, Nat.le_of_ble_eq_true rfl⟩) (pW_V hK hM rfl hmp.1) rfl rfl hl.1 rfl (lv_room (Nat.le_of_ble_eq_true rfl)) d_M_reading_86 ⟨Nat.le_of_ble_eq_true rfl, Nat.le_of_ble_eq_true rfl⟩) (fun r_402 hr_402 => ?_)
              refine lv_istore (lv' := [(6, .int r_402), (0, .ref mm), (1, .int x1), (2, .int x2), (3, .int r_1), (4, .int (oI b4)), (5, .int (nI b))]) hx hb d_M_reading_89 hl (by decide) rfl (fun ls hl => ?_)
              refine lv_goto (tgt := 36) hx hb d_M_reading_91 (by decide) ?_
              have e6 : r_402 = oI rr.head? := by rw [hr_402]; exact congrArg oI (folL_h (lo := some a) hf)
              subst e6
              exact ih b4 (some b) ls (folL_t (lo := some a) hf) (fun b hb => hm1 b (List.mem_cons_of_mem _ hb)) (by rw [← ha, rdB]; simp only [c_400, not_true_eq_false, not_false_eq_true, and_true, and_false, true_and, false_and, and_self, or_self, or_true, true_or, or_false, false_or, ↓reduceIte, eq_self, reduceCtorEq]) (by rw [← hb2, rdH]; simp only [c_401, not_true_eq_false, not_false_eq_true, and_true, and_false, true_and, false_and, and_self, or_self, or_true, true_or, or_false, false_or, ↓reduceIte, eq_self, reduceCtorEq]) (fun i q => by cases q; exact hb9) (lv_sub hl [1, 2, 3, 4, 5, 6, 0] rfl)
            · refine lv_iload hx hb d_M_reading_67 (lv_at hl 5 rfl) ?_
              refine lv_if_ge (tgt := 76) hx hb d_M_reading_69 (by decide) (fun c_403 => ?_) (fun c_403 => absurd (nI_pos' (by omega)) c_403)
              refine lv_aload_n hx hb d_M_reading_76 rfl (lv_at hl 0 rfl) ?_
              refine lv_iload hx hb d_M_reading_77 (lv_at hl 6 rfl) ?_
              refine lv_iconst (v := 0) hx hb d_M_reading_79 (by decide) ?_
              refine lv_iconst (v := 2) hx hb d_M_reading_80 (by decide) ?_
              refine lv_iload_n hx hb d_M_reading_81 rfl (lv_at hl 1 rfl) ?_
              refine lv_aload_n hx hb d_M_reading_82 rfl (lv_at hl 0 rfl) ?_
              refine m_get (D := G) (ci := 6) (v := .int no) (C := nR_M) (T := nT_M) (N := 21) hx hb hta in_M hown hK hM hmp.1 rfl 1 (by decide) (hta _ aw_544) (fun _ h9 => h9) rfl d_M_reading_83 ?_
              refine vp_callSi (W.runV (As := [.int (nI a), .int 0, .int 2, .int x1, .int no]) (rest := []) ⟨hx, hb, hml, hown, hta⟩ (k_M_following l G q0 q1 cI ty2 w hmp.1 hmp.2 hk ek hn en (some a) (fun j q => by cases q; omega) 0 2 x1 no) (cV 5 hta aw_662 aw_5 aw_659 aw_661 as_SceneTimesModel_following rfl rfl (by decide +kernel) ⟨Nat.le_of_ble_eq_true rfl, Nat.le_of_ble_eq_true rfl⟩) (pW_V hK hM rfl hmp.1) rfl rfl hl.1 rfl (lv_room (Nat.le_of_ble_eq_true rfl)) d_M_reading_86 ⟨Nat.le_of_ble_eq_true rfl, Nat.le_of_ble_eq_true rfl⟩) (fun r_404 hr_404 => ?_)
              refine lv_istore (lv' := [(6, .int r_404), (0, .ref mm), (1, .int x1), (2, .int x2), (3, .int r_1), (4, .int (oI b4)), (5, .int (nI b))]) hx hb d_M_reading_89 hl (by decide) rfl (fun ls hl => ?_)
              refine lv_goto (tgt := 36) hx hb d_M_reading_91 (by decide) ?_
              have e6 : r_404 = oI rr.head? := by rw [hr_404]; exact congrArg oI (folL_h (lo := some a) hf)
              subst e6
              exact ih b4 (some b) ls (folL_t (lo := some a) hf) (fun b hb => hm1 b (List.mem_cons_of_mem _ hb)) (by rw [← ha, rdB]; simp only [c_400, not_true_eq_false, not_false_eq_true, and_true, and_false, true_and, false_and, and_self, or_self, or_true, true_or, or_false, false_or, ↓reduceIte, eq_self, reduceCtorEq]) (by rw [← hb2, rdH]; simp only [c_401, not_true_eq_false, not_false_eq_true, and_true, and_false, true_and, false_and, and_self, or_self, or_true, true_or, or_false, false_or, ↓reduceIte, eq_self, reduceCtorEq]) (fun i q => by cases q; exact hb9) (lv_sub hl [1, 2, 3, 4, 5, 6, 0] rfl)
          · refine lv_iload hx hb d_M_reading_52 (lv_at hl 6 rfl) ?_
            refine lv_istore (lv' := [(4, .int (nI a)), (0, .ref mm), (1, .int x1), (2, .int x2), (3, .int r_1), (5, .int (nI b)), (6, .int (nI a))]) hx hb d_M_reading_54 hl (by decide) rfl (fun ls hl => ?_)
            refine lv_aload_n hx hb d_M_reading_56 rfl (lv_at hl 1 rfl) ?_
            refine m_get (D := G) (ci := 6) (v := .ref (ad 3)) (C := nR_M) (T := nT_M) (N := 21) hx hb hta in_M hown hK hM hmp.1 rfl 7 (by decide) (hta _ aw_550) (fun _ h9 => h9) rfl d_M_reading_57 ?_
            refine lv_iload hx hb d_M_reading_60 (lv_at hl 6 rfl) ?_
            refine m_ialv hx hb hK hM 2 ha3 rfl (vp_in_nI (by omega) (by omega)) (v := f 3 a) (by rw [nI_clamp (by omega)]) d_M_reading_62 ?_
            refine lv_iload_n hx hb d_M_reading_63 rfl (lv_at hl 3 rfl) ?_
            refine lv_icmp_lt (tgt := 76) hx hb d_M_reading_64 (by decide) (fun c_405 => ?_) (fun c_405 => ?_)
            · refine lv_aload_n hx hb d_M_reading_76 rfl (lv_at hl 1 rfl) ?_
              refine lv_iload hx hb d_M_reading_77 (lv_at hl 6 rfl) ?_
              refine lv_iconst (v := 0) hx hb d_M_reading_79 (by decide) ?_
              refine lv_iconst (v := 2) hx hb d_M_reading_80 (by decide) ?_
              refine lv_iload_n hx hb d_M_reading_81 rfl (lv_at hl 2 rfl) ?_
              refine lv_aload_n hx hb d_M_reading_82 rfl (lv_at hl 1 rfl) ?_
              refine m_get (D := G) (ci := 6) (v := .int no) (C := nR_M) (T := nT_M) (N := 21) hx hb hta in_M hown hK hM hmp.1 rfl 1 (by decide) (hta _ aw_544) (fun _ h9 => h9) rfl d_M_reading_83 ?_
              refine vp_callSi (W.runV (As := [.int (nI a), .int 0, .int 2, .int x1, .int no]) (rest := []) ⟨hx, hb, hml, hown, hta⟩ (k_M_following l G q0 q1 cI ty2 w hmp.1 hmp.2 hk ek hn en (some a) (fun j q => by cases q; omega) 0 2 x1 no) (cV 5 hta aw_662 aw_5 aw_659 aw_661 as_SceneTimesModel_following rfl rfl (by decide +kernel) ⟨Nat.le_of_ble_eq_true rfl, Nat.le_of_ble_eq_true rfl⟩) (pW_V hK hM rfl hmp.1) rfl rfl hl.1 rfl (lv_room (Nat.le_of_ble_eq_true rfl)) d_M_reading_86 ⟨Nat.le_of_ble_eq_true rfl, Nat.le_of_ble_eq_true rfl⟩) (fun r_406 hr_406 => ?_)
              refine lv_istore (lv' := [(6, .int r_406), (4, .int (nI a)), (0, .ref mm), (1, .int x1), (2, .int x2), (3, .int r_1), (5, .int (nI b))]) hx hb d_M_reading_89 hl (by decide) rfl (fun ls hl => ?_)
              refine lv_goto (tgt := 36) hx hb d_M_reading_91 (by decide) ?_
              have e6 : r_406 = oI rr.head? := by rw [hr_406]; exact congrArg oI (folL_h (lo := some a) hf)
              subst e6
              exact ih (some a) (some b) ls (folL_t (lo := some a) hf) (fun b hb => hm1 b (List.mem_cons_of_mem _ hb)) (by rw [← ha, rdB]; simp only [c_400, not_true_eq_false, not_false_eq_true, and_true, and_false, true_and, false_and, and_self, or_self, or_true, true_or, or_false, false_or, ↓reduceIte, eq_self, reduceCtorEq]) (by rw [← hb2, rdH]; simp only [c_405, not_true_eq_false, not_false_eq_true, and_true, and_false, true_and, false_and, and_self, or_self, or_true, true_or, or_false, false_or, ↓reduceIte, eq_self, reduceCtorEq]) (fun i q => by cases q; exact hb9) (lv_sub hl [2, 3, 4, 5, 1, 6, 0] rfl)
            · refine lv_iload hx hb d_M_reading_67 (lv_at hl 5 rfl) ?_
              refine lv_if_ge (tgt := 76) hx hb d_M_reading_69 (by decide) (fun c_407 => ?_) (fun c_407 => absurd (nI_pos' (by omega)) c_407)
              refine lv_aload_n hx hb d_M_reading_76 rfl (lv_at hl 1 rfl) ?_
              refine lv_iload hx hb d_M_reading_77 (lv_at hl 6 rfl) ?_
              refine lv_iconst (v := 0) hx hb d_M_reading_79 (by decide) ?_
              refine lv_iconst (v := 2) hx hb d_M_reading_80 (by decide) ?_
              refine lv_iload_n hx hb d_M_reading_81 rfl (lv_at hl 2 rfl) ?_
              refine lv_aload_n hx hb d_M_reading_82 rfl (lv_at hl 1 rfl) ?_
              refine m_get (D := G) (ci := 6) (v := .int no) (C := nR_M) (T := nT_M) (N := 21) hx hb hta in_M hown hK hM hmp.1 rfl 1 (by decide) (hta _ aw_544) (fun _ h9 => h9) rfl d_M_reading_83 ?_
              refine vp_callSi (W.runV (As := [.int (nI a), .int 0, .int 2, .int x1, .int no]) (rest := []) ⟨hx, hb, hml, hown, hta⟩ (k_M_following l G q0 q1 cI ty2 w hmp.1 hmp.2 hk ek hn en (some a) (fun j q => by cases q; omega) 0 2 x1 no) (cV 5 hta aw_662 aw_5 aw_659 aw_661 as_SceneTimesModel_following rfl rfl (by decide +kernel) ⟨Nat.le_of_ble_eq_true rfl, Nat.le_of_ble_eq_true rfl⟩) (pW_V hK hM rfl hmp.1) rfl rfl hl.1 rfl (lv_room (Nat.le_of_ble_eq_true rfl)) d_M_reading_86 ⟨Nat.le_of_ble_eq_true rfl, Nat.le_of_ble_eq_true rfl⟩) (fun r_408 hr_408 => ?_)
              refine lv_istore (lv' := [(6, .int r_408), (4, .int (nI a)), (0, .ref mm), (1, .int x1), (2, .int x2), (3, .int r_1), (5, .int (nI b))]) hx hb d_M_reading_89 hl (by decide) rfl (fun ls hl => ?_)
              refine lv_goto (tgt := 36) hx hb d_M_reading_91 (by decide) ?_
              have e6 : r_408 = oI rr.head? := by rw [hr_408]; exact congrArg oI (folL_h (lo := some a) hf)
              subst e6
              exact ih (some a) (some b) ls (folL_t (lo := some a) hf) (fun b hb => hm1 b (List.mem_cons_of_mem _ hb)) (by rw [← ha, rdB]; simp only [c_400, not_true_eq_false, not_false_eq_true, and_true, and_false, true_and, false_and, and_self, or_self, or_true, true_or, or_false, false_or, ↓reduceIte, eq_self, reduceCtorEq]) (by rw [← hb2, rdH]; simp only [c_405, not_true_eq_false, not_false_eq_true, and_true, and_false, true_and, false_and, and_self, or_self, or_true, true_or, or_false, false_or, ↓reduceIte, eq_self, reduceCtorEq]) (fun i q => by cases q; exact hb9) (lv_sub hl [2, 3, 4, 5, 1, 6, 0] rfl)
    exact loop [] none none ls trivial (fun a h => by cases h) (by rw [eL]) (by rw [eL]) (fun i q => by cases q) (lv_sub hl [4, 5, 6, 3, 2, 1, 0] rfl)
  · have p_409 := b1_t hr_1 c_2
    refine lv_aload_n hx hb d_M_reading_18 rfl (lv_at hl 3 rfl) ?_
    refine lv_iconst (v := (-1)) hx hb d_M_reading_19 (by decide) ?_
    refine lv_iconst (v := 0) hx hb d_M_reading_20 (by decide) ?_
    refine lv_iconst (v := 2) hx hb d_M_reading_21 (by decide) ?_
    refine lv_iload_n hx hb d_M_reading_22 rfl (lv_at hl 4 rfl) ?_
    refine lv_aload_n hx hb d_M_reading_23 rfl (lv_at hl 3 rfl) ?_
    refine m_get (D := G) (ci := 6) (v := .int no) (C := nR_M) (T := nT_M) (N := 21) hx hb hta in_M hown hK hM hmp.1 rfl 1 (by decide) (hta _ aw_544) (fun _ h9 => h9) rfl d_M_reading_24 ?_
    refine vp_callSi (W.runV (As := [.int (-1), .int 0, .int 2, .int x1, .int no]) (rest := []) ⟨hx, hb, hml, hown, hta⟩ (k_M_following l G q0 q1 cI ty2 w hmp.1 hmp.2 hk ek hn en none (fun j q => by cases q) 0 2 x1 no) (cV 5 hta aw_662 aw_5 aw_659 aw_661 as_SceneTimesModel_following rfl rfl (by decide +kernel) ⟨Nat.le_of_ble_eq_true rfl, Nat.le_of_ble_eq_true rfl⟩) (pW_V hK hM rfl hmp.1) rfl rfl hl.1 rfl (lv_room (Nat.le_of_ble_eq_true rfl)) d_M_reading_27 ⟨Nat.le_of_ble_eq_true rfl, Nat.le_of_ble_eq_true rfl⟩) (fun r_410 hr_410 => ?_)
    refine lv_goto (tgt := 34) hx hb d_M_reading_30 (by decide) ?_
    refine lv_istore (lv' := [(6, .int r_410), (5, .int (-1)), (4, .int (-1)), (3, .int r_1), (0, .ref mm), (1, .int x1), (2, .int x2)]) hx hb d_M_reading_34 hl (by decide) rfl (fun ls hl => ?_)
    have eL : (if (¬ x1 < 0 ∧ ¬ 9 < x1) then L0 else []) = L0 := if_pos p_409
    have hfin : ∀ (b4 b5 : Option Nat) (ls : Array Slot), b4 = (rdB f x2 none (if (¬ x1 < 0 ∧ ¬ 9 < x1) then L0 else [])) → b5 = (rdH f x2 none (if (¬ x1 < 0 ∧ ¬ 9 < x1) then L0 else [])) → lv_has ls 8 [(0, .ref mm), (1, .int x1), (2, .int x2), (3, .int r_1), (4, .int (oI b4)), (5, .int (oI b5)), (6, .int (-1))] → W p l e (headSpec (wm y_M_reading c_M_reading 8 (some .int)) ({ frames := 2, cells := 0, slots := 0, locals := 51 })).room s m ([.ref mm, .int x1, .int x2] : List Value).toArray below meth c s.heap [] 0 0 (MQ below (va_Qi (fun (r0 : Int32) (u : Nat → Option va_E) => (¬ gC (if (¬ x1 < 0 ∧ ¬ 9 < x1) then 1 else 0) (if (¬ x2 < 0 ∧ ¬ no < x2) then 1 else 0) (if (rdB f x2 none (if (¬ x1 < 0 ∧ ¬ 9 < x1) then L0 else [])).isSome = true ∧ (rdH f x2 none (if (¬ x1 < 0 ∧ ¬ 9 < x1) then L0 else [])).isSome = true then 1 else 0) 1 = 0 → mPic u mm cI ad f (nI (gT 7 (gC (if (¬ x1 < 0 ∧ ¬ 9 < x1) then 1 else 0) (if (¬ x2 < 0 ∧ ¬ no < x2) then 1 else 0) (if (rdB f x2 none (if (¬ x1 < 0 ∧ ¬ 9 < x1) then L0 else [])).isSome = true ∧ (rdH f x2 none (if (¬ x1 < 0 ∧ ¬ 9 < x1) then L0 else [])).isSome = true then 1 else 0) 1))) no wr n k z r so pr) ∧ (gC (if (¬ x1 < 0 ∧ ¬ 9 < x1) then 1 else 0) (if (¬ x2 < 0 ∧ ¬ no < x2) then 1 else 0) (if (rdB f x2 none (if (¬ x1 < 0 ∧ ¬ 9 < x1) then L0 else [])).isSome = true ∧ (rdH f x2 none (if (¬ x1 < 0 ∧ ¬ 9 < x1) then L0 else [])).isSome = true then 1 else 0) 1 = 0 → r0 = rdV f x2 no ka (rdB f x2 none (if (¬ x1 < 0 ∧ ¬ 9 < x1) then L0 else [])) (rdH f x2 none (if (¬ x1 < 0 ∧ ¬ 9 < x1) then L0 else [])) ∧ mPic u mm cI ad f 0 no wr n k z r so pr)) (fun w2 t => mw G ncl A w2 t.heap ∧ va_K G ncl (q0 :: q1 :: (cI, .int) :: ty2) t) A) ([.ref mm, .int x1, .int x2] : List Value).toArray s 0 0 A) (F0 m 94 ls []) := by
      intro b4 b5 ls e4 e5 hl
      have m4 : ∀ i, b4 = some i → i < nn := fun i q => rdB_m (fun j h => by cases h) (fun a h => by rw [eL] at h; exact hLm a h) (e4.symm.trans q)
      have m5 : ∀ i, b5 = some i → i < nn := fun i q => rdH_m (fun j h => by cases h) (fun a h => by rw [eL] at h; exact hLm a h) (e5.symm.trans q)
      cases b4 with
      | none =>
        cases b5 with
        | none =>
          have hl : lv_has ls 8 [(0, .ref mm), (1, .int x1), (2, .int x2), (3, .int r_1), (4, .int (-1)), (5, .int (-1)), (6, .int (-1))] := hl
          refine lv_aload_n hx hb d_M_reading_94 rfl (lv_at hl 0 rfl) ?_
          refine lv_bipush (v := 7) hx hb d_M_reading_95 (by decide) ?_
          refine lv_iload_n hx hb d_M_reading_97 rfl (lv_at hl 3 rfl) ?_
          refine lv_aload_n hx hb d_M_reading_98 rfl (lv_at hl 0 rfl) ?_
          refine lv_iload_n hx hb d_M_reading_99 rfl (lv_at hl 2 rfl) ?_
          refine vp_callSi (W.runV (As := [.int x2]) (rest := [.int r_1, .int 7, .ref mm]) ⟨hx, hb, hml, hown, hta⟩ (k_M_isGone l G q0 q1 cI ty2 w hmp.1 hmp.2 x2) (cV 1 hta aw_630 aw_5 aw_627 aw_629 as_SceneTimesModel_isGone rfl rfl (by decide +kernel) ⟨Nat.le_of_ble_eq_true rfl, Nat.le_of_ble_eq_true rfl⟩) (pW_V hK hM rfl hmp.1) rfl rfl hl.1 rfl (lv_room (Nat.le_of_ble_eq_true rfl)) d_M_reading_100 ⟨Nat.le_of_ble_eq_true rfl, Nat.le_of_ble_eq_true rfl⟩) (fun r_461 hr_461 => ?_)
          refine lv_iload hx hb d_M_reading_103 (lv_at hl 4 rfl) ?_
          refine lv_if_lt (tgt := 117) hx hb d_M_reading_105 (by decide) (fun c_462 => ?_) (fun c_462 => absurd (by decide) c_462)
          refine lv_iconst (v := 0) hx hb d_M_reading_117 (by decide) ?_
          refine lv_iconst (v := 1) hx hb d_M_reading_118 (by decide) ?_
          have hF := mw_free hM hS hA
          refine va_calli (va_runV (As := [.int 7, .int r_1, .int r_461, .int 0, .int 1]) (rest := []) ⟨hx, hb, hml, hown, hta⟩ (k_M_goes_7 l G q0 q1 cI ty2 w hmp.1 hmp.2 r_1 r_461 0 1 _) (cV 5 hta aw_619 aw_5 aw_616 aw_618 as_SceneTimesModel_goes rfl rfl (by decide +kernel) ⟨Nat.le_of_ble_eq_true rfl, Nat.le_of_ble_eq_true rfl⟩) (pZ_V hK hM rfl hmp.1) rfl rfl hl.1 rfl (lv_room (Nat.le_of_ble_eq_true rfl)) d_M_reading_119 ⟨Nat.le_of_ble_eq_true rfl, Nat.le_of_ble_eq_true rfl⟩) hS (fun q _ h => hF q h) hF (fun r_463 u_r_463 t H locs ht hvm hr_463 hB hz1 hk1 hS => ?_)
          obtain ⟨hM1, hK1⟩ := hB
          rw [ht] at hM1
          have hM := mw_weaken hM1 hF
          clear hM1 hK1 hF hk1 hz1
          obtain ⟨w_464, hw_464⟩ : ∃ z9 : Nat → Option va_E, z9 = va_up w mm (some (.inr (6, [.int (nI (gT 7 (gC r_1 r_461 0 1))), .int no, .int wr, .int n, .ref (ad 0), .ref (ad 1), .ref (ad 2), .ref (ad 3), .ref (ad 4), .ref (ad 5), .int k, .ref (ad 6), .ref (ad 7), .ref (ad 8), .ref (ad 9), .int z, .int r, .int so, .ref (ad 10), .int pr, .ref (ad 11)]))) := ⟨_, rfl⟩
          rw [← hw_464] at hM
          have mp_465 : mPic w_464 mm cI ad f (nI (gT 7 (gC r_1 r_461 0 1))) no wr n k z r so pr := by rw [hw_464]; exact mp_obj hmp (nI (gT 7 (gC r_1 r_461 0 1))) no wr n k z r so pr
          have k_466 : w_464 (ad 3) = some (aI cI 100 (f 3)) := mp_465.2 3 (by decide)
          refine lv_if_ne (tgt := 127) hx hb d_M_reading_122 (by decide) (fun c_467 => ?_) (fun c_467 => ?_)
          · have hc := go_t hr_463 c_467
            exact absurd rfl (gC_room hc).2.2.1
          · have hc := go_f hr_463 c_467
            refine lv_iconst (v := 0) hx hb d_M_reading_125 (by decide) ?_
            have hg : gC (if (¬ x1 < 0 ∧ ¬ 9 < x1) then 1 else 0) (if (¬ x2 < 0 ∧ ¬ no < x2) then 1 else 0) (if (rdB f x2 none (if (¬ x1 < 0 ∧ ¬ 9 < x1) then L0 else [])).isSome = true ∧ (rdH f x2 none (if (¬ x1 < 0 ∧ ¬ 9 < x1) then L0 else [])).isSome = true then 1 else 0) 1 = gC r_1 r_461 0 1 := by rw [← e4, ← e5, ← hr_1, ← hr_461]; rfl
            exact W.iret (v := 0) hx hb hr (fun t ht hW => ⟨⟨0, w_464, rfl, (by rw [hg]; exact ⟨fun _ => mp_465, fun q => absurd q hc⟩), by rw [ht]; exact hM, va_K.moved hW.alike hK⟩, hS.F ht⟩) hS.2.2 d_M_reading_126
        | some b =>
          have hl : lv_has ls 8 [(0, .ref mm), (1, .int x1), (2, .int x2), (3, .int r_1), (4, .int (-1)), (5, .int (nI b)), (6, .int (-1))] := hl
          have hb9 : b < nn := m5 b rfl
          refine lv_aload_n hx hb d_M_reading_94 rfl (lv_at hl 0 rfl) ?_
          refine lv_bipush (v := 7) hx hb d_M_reading_95 (by decide) ?_
          refine lv_iload_n hx hb d_M_reading_97 rfl (lv_at hl 3 rfl) ?_
          refine lv_aload_n hx hb d_M_reading_98 rfl (lv_at hl 0 rfl) ?_
          refine lv_iload_n hx hb d_M_reading_99 rfl (lv_at hl 2 rfl) ?_
          refine vp_callSi (W.runV (As := [.int x2]) (rest := [.int r_1, .int 7, .ref mm]) ⟨hx, hb, hml, hown, hta⟩ (k_M_isGone l G q0 q1 cI ty2 w hmp.1 hmp.2 x2) (cV 1 hta aw_630 aw_5 aw_627 aw_629 as_SceneTimesModel_isGone rfl rfl (by decide +kernel) ⟨Nat.le_of_ble_eq_true rfl, Nat.le_of_ble_eq_true rfl⟩) (pW_V hK hM rfl hmp.1) rfl rfl hl.1 rfl (lv_room (Nat.le_of_ble_eq_true rfl)) d_M_reading_100 ⟨Nat.le_of_ble_eq_true rfl, Nat.le_of_ble_eq_true rfl⟩) (fun r_518 hr_518 => ?_)
          refine lv_iload hx hb d_M_reading_103 (lv_at hl 4 rfl) ?_
          refine lv_if_lt (tgt := 117) hx hb d_M_reading_105 (by decide) (fun c_519 => ?_) (fun c_519 => absurd (by decide) c_519)
          refine lv_iconst (v := 0) hx hb d_M_reading_117 (by decide) ?_
          refine lv_iconst (v := 1) hx hb d_M_reading_118 (by decide) ?_
          have hF := mw_free hM hS hA
          refine va_calli (va_runV (As := [.int 7, .int r_1, .int r_518, .int 0, .int 1]) (rest := []) ⟨hx, hb, hml, hown, hta⟩ (k_M_goes_7 l G q0 q1 cI ty2 w hmp.1 hmp.2 r_1 r_518 0 1 _) (cV 5 hta aw_619 aw_5 aw_616 aw_618 as_SceneTimesModel_goes rfl rfl (by decide +kernel) ⟨Nat.le_of_ble_eq_true rfl, Nat.le_of_ble_eq_true rfl⟩) (pZ_V hK hM rfl hmp.1) rfl rfl hl.1 rfl (lv_room (Nat.le_of_ble_eq_true rfl)) d_M_reading_119 ⟨Nat.le_of_ble_eq_true rfl, Nat.le_of_ble_eq_true rfl⟩) hS (fun q _ h => hF q h) hF (fun r_520 u_r_520 t H locs ht hvm hr_520 hB hz1 hk1 hS => ?_)
          obtain ⟨hM1, hK1⟩ := hB
          rw [ht] at hM1
          have hM := mw_weaken hM1 hF
          clear hM1 hK1 hF hk1 hz1
          obtain ⟨w_521, hw_521⟩ : ∃ z9 : Nat → Option va_E, z9 = va_up w mm (some (.inr (6, [.int (nI (gT 7 (gC r_1 r_518 0 1))), .int no, .int wr, .int n, .ref (ad 0), .ref (ad 1), .ref (ad 2), .ref (ad 3), .ref (ad 4), .ref (ad 5), .int k, .ref (ad 6), .ref (ad 7), .ref (ad 8), .ref (ad 9), .int z, .int r, .int so, .ref (ad 10), .int pr, .ref (ad 11)]))) := ⟨_, rfl⟩
          rw [← hw_521] at hM
          have mp_522 : mPic w_521 mm cI ad f (nI (gT 7 (gC r_1 r_518 0 1))) no wr n k z r so pr := by rw [hw_521]; exact mp_obj hmp (nI (gT 7 (gC r_1 r_518 0 1))) no wr n k z r so pr
          have k_523 : w_521 (ad 3) = some (aI cI 100 (f 3)) := mp_522.2 3 (by decide)
          refine lv_if_ne (tgt := 127) hx hb d_M_reading_122 (by decide) (fun c_524 => ?_) (fun c_524 => ?_)
          · have hc := go_t hr_520 c_524
            exact absurd rfl (gC_room hc).2.2.1
          · have hc := go_f hr_520 c_524
            refine lv_iconst (v := 0) hx hb d_M_reading_125 (by decide) ?_
            have hg : gC (if (¬ x1 < 0 ∧ ¬ 9 < x1) then 1 else 0) (if (¬ x2 < 0 ∧ ¬ no < x2) then 1 else 0) (if (rdB f x2 none (if (¬ x1 < 0 ∧ ¬ 9 < x1) then L0 else [])).isSome = true ∧ (rdH f x2 none (if (¬ x1 < 0 ∧ ¬ 9 < x1) then L0 else [])).isSome = true then 1 else 0) 1 = gC r_1 r_518 0 1 := by rw [← e4, ← e5, ← hr_1, ← hr_518]; rfl
            exact W.iret (v := 0) hx hb hr (fun t ht hW => ⟨⟨0, w_521, rfl, (by rw [hg]; exact ⟨fun _ => mp_522, fun q => absurd q hc⟩), by rw [ht]; exact hM, va_K.moved hW.alike hK⟩, hS.F ht⟩) hS.2.2 d_M_reading_126
      | some a =>
        cases b5 with
        | none =>
          have hl : lv_has ls 8 [(0, .ref mm), (1, .int x1), (2, .int x2), (3, .int r_1), (4, .int (nI a)), (5, .int (-1)), (6, .int (-1))] := hl
          have ha9 : a < nn := m4 a rfl
          refine lv_aload_n hx hb d_M_reading_94 rfl (lv_at hl 0 rfl) ?_
          refine lv_bipush (v := 7) hx hb d_M_reading_95 (by decide) ?_
          refine lv_iload_n hx hb d_M_reading_97 rfl (lv_at hl 3 rfl) ?_
          refine lv_aload_n hx hb d_M_reading_98 rfl (lv_at hl 0 rfl) ?_
          refine lv_iload_n hx hb d_M_reading_99 rfl (lv_at hl 2 rfl) ?_
          refine vp_callSi (W.runV (As := [.int x2]) (rest := [.int r_1, .int 7, .ref mm]) ⟨hx, hb, hml, hown, hta⟩ (k_M_isGone l G q0 q1 cI ty2 w hmp.1 hmp.2 x2) (cV 1 hta aw_630 aw_5 aw_627 aw_629 as_SceneTimesModel_isGone rfl rfl (by decide +kernel) ⟨Nat.le_of_ble_eq_true rfl, Nat.le_of_ble_eq_true rfl⟩) (pW_V hK hM rfl hmp.1) rfl rfl hl.1 rfl (lv_room (Nat.le_of_ble_eq_true rfl)) d_M_reading_100 ⟨Nat.le_of_ble_eq_true rfl, Nat.le_of_ble_eq_true rfl⟩) (fun r_575 hr_575 => ?_)
          refine lv_iload hx hb d_M_reading_103 (lv_at hl 4 rfl) ?_
          refine lv_if_lt (tgt := 117) hx hb d_M_reading_105 (by decide) (fun c_576 => absurd c_576 (nI_pos (by omega))) (fun c_576 => ?_)
          refine lv_iload hx hb d_M_reading_108 (lv_at hl 5 rfl) ?_
          refine lv_if_lt (tgt := 117) hx hb d_M_reading_110 (by decide) (fun c_577 => ?_) (fun c_577 => absurd (by decide) c_577)
          refine lv_iconst (v := 0) hx hb d_M_reading_117 (by decide) ?_
          refine lv_iconst (v := 1) hx hb d_M_reading_118 (by decide) ?_
          have hF := mw_free hM hS hA
          refine va_calli (va_runV (As := [.int 7, .int r_1, .int r_575, .int 0, .int 1]) (rest := []) ⟨hx, hb, hml, hown, hta⟩ (k_M_goes_7 l G q0 q1 cI ty2 w hmp.1 hmp.2 r_1 r_575 0 1 _) (cV 5 hta aw_619 aw_5 aw_616 aw_618 as_SceneTimesModel_goes rfl rfl (by decide +kernel) ⟨Nat.le_of_ble_eq_true rfl, Nat.le_of_ble_eq_true rfl⟩) (pZ_V hK hM rfl hmp.1) rfl rfl hl.1 rfl (lv_room (Nat.le_of_ble_eq_true rfl)) d_M_reading_119 ⟨Nat.le_of_ble_eq_true rfl, Nat.le_of_ble_eq_true rfl⟩) hS (fun q _ h => hF q h) hF (fun r_578 u_r_578 t H locs ht hvm hr_578 hB hz1 hk1 hS => ?_)
          obtain ⟨hM1, hK1⟩ := hB
          rw [ht] at hM1
          have hM := mw_weaken hM1 hF
          clear hM1 hK1 hF hk1 hz1
          obtain ⟨w_579, hw_579⟩ : ∃ z9 : Nat → Option va_E, z9 = va_up w mm (some (.inr (6, [.int (nI (gT 7 (gC r_1 r_575 0 1))), .int no, .int wr, .int n, .ref (ad 0), .ref (ad 1), .ref (ad 2), .ref (ad 3), .ref (ad 4), .ref (ad 5), .int k, .ref (ad 6), .ref (ad 7), .ref (ad 8), .ref (ad 9), .int z, .int r, .int so, .ref (ad 10), .int pr, .ref (ad 11)]))) := ⟨_, rfl⟩
          rw [← hw_579] at hM
          have mp_580 : mPic w_579 mm cI ad f (nI (gT 7 (gC r_1 r_575 0 1))) no wr n k z r so pr := by rw [hw_579]; exact mp_obj hmp (nI (gT 7 (gC r_1 r_575 0 1))) no wr n k z r so pr
          have k_581 : w_579 (ad 3) = some (aI cI 100 (f 3)) := mp_580.2 3 (by decide)
          refine lv_if_ne (tgt := 127) hx hb d_M_reading_122 (by decide) (fun c_582 => ?_) (fun c_582 => ?_)
          · have hc := go_t hr_578 c_582
            exact absurd rfl (gC_room hc).2.2.1
          · have hc := go_f hr_578 c_582
            refine lv_iconst (v := 0) hx hb d_M_reading_125 (by decide) ?_
            have hg : gC (if (¬ x1 < 0 ∧ ¬ 9 < x1) then 1 else 0) (if (¬ x2 < 0 ∧ ¬ no < x2) then 1 else 0) (if (rdB f x2 none (if (¬ x1 < 0 ∧ ¬ 9 < x1) then L0 else [])).isSome = true ∧ (rdH f x2 none (if (¬ x1 < 0 ∧ ¬ 9 < x1) then L0 else [])).isSome = true then 1 else 0) 1 = gC r_1 r_575 0 1 := by rw [← e4, ← e5, ← hr_1, ← hr_575]; rfl
            exact W.iret (v := 0) hx hb hr (fun t ht hW => ⟨⟨0, w_579, rfl, (by rw [hg]; exact ⟨fun _ => mp_580, fun q => absurd q hc⟩), by rw [ht]; exact hM, va_K.moved hW.alike hK⟩, hS.F ht⟩) hS.2.2 d_M_reading_126
        | some b =>
          have hl : lv_has ls 8 [(0, .ref mm), (1, .int x1), (2, .int x2), (3, .int r_1), (4, .int (nI a)), (5, .int (nI b)), (6, .int (-1))] := hl
          have ha9 : a < nn := m4 a rfl
          have hb9 : b < nn := m5 b rfl
          refine lv_aload_n hx hb d_M_reading_94 rfl (lv_at hl 0 rfl) ?_
          refine lv_bipush (v := 7) hx hb d_M_reading_95 (by decide) ?_
          refine lv_iload_n hx hb d_M_reading_97 rfl (lv_at hl 3 rfl) ?_
          refine lv_aload_n hx hb d_M_reading_98 rfl (lv_at hl 0 rfl) ?_
          refine lv_iload_n hx hb d_M_reading_99 rfl (lv_at hl 2 rfl) ?_
          refine vp_callSi (W.runV (As := [.int x2]) (rest := [.int r_1, .int 7, .ref mm]) ⟨hx, hb, hml, hown, hta⟩ (k_M_isGone l G q0 q1 cI ty2 w hmp.1 hmp.2 x2) (cV 1 hta aw_630 aw_5 aw_627 aw_629 as_SceneTimesModel_isGone rfl rfl (by decide +kernel) ⟨Nat.le_of_ble_eq_true rfl, Nat.le_of_ble_eq_true rfl⟩) (pW_V hK hM rfl hmp.1) rfl rfl hl.1 rfl (lv_room (Nat.le_of_ble_eq_true rfl)) d_M_reading_100 ⟨Nat.le_of_ble_eq_true rfl, Nat.le_of_ble_eq_true rfl⟩) (fun r_633 hr_633 => ?_)
          refine lv_iload hx hb d_M_reading_103 (lv_at hl 4 rfl) ?_
          refine lv_if_lt (tgt := 117) hx hb d_M_reading_105 (by decide) (fun c_634 => absurd c_634 (nI_pos (by omega))) (fun c_634 => ?_)
          refine lv_iload hx hb d_M_reading_108 (lv_at hl 5 rfl) ?_
          refine lv_if_lt (tgt := 117) hx hb d_M_reading_110 (by decide) (fun c_635 => absurd c_635 (nI_pos (by omega))) (fun c_635 => ?_)
          refine lv_iconst (v := 1) hx hb d_M_reading_113 (by decide) ?_
          refine lv_goto (tgt := 118) hx hb d_M_reading_114 (by decide) ?_
          refine lv_iconst (v := 1) hx hb d_M_reading_118 (by decide) ?_
          have hF := mw_free hM hS hA
          refine va_calli (va_runV (As := [.int 7, .int r_1, .int r_633, .int 1, .int 1]) (rest := []) ⟨hx, hb, hml, hown, hta⟩ (k_M_goes_7 l G q0 q1 cI ty2 w hmp.1 hmp.2 r_1 r_633 1 1 _) (cV 5 hta aw_619 aw_5 aw_616 aw_618 as_SceneTimesModel_goes rfl rfl (by decide +kernel) ⟨Nat.le_of_ble_eq_true rfl, Nat.le_of_ble_eq_true rfl⟩) (pZ_V hK hM rfl hmp.1) rfl rfl hl.1 rfl (lv_room (Nat.le_of_ble_eq_true rfl)) d_M_reading_119 ⟨Nat.le_of_ble_eq_true rfl, Nat.le_of_ble_eq_true rfl⟩) hS (fun q _ h => hF q h) hF (fun r_636 u_r_636 t H locs ht hvm hr_636 hB hz1 hk1 hS => ?_)
          obtain ⟨hM1, hK1⟩ := hB
          rw [ht] at hM1
          have hM := mw_weaken hM1 hF
          clear hM1 hK1 hF hk1 hz1
          obtain ⟨w_637, hw_637⟩ : ∃ z9 : Nat → Option va_E, z9 = va_up w mm (some (.inr (6, [.int (nI (gT 7 (gC r_1 r_633 1 1))), .int no, .int wr, .int n, .ref (ad 0), .ref (ad 1), .ref (ad 2), .ref (ad 3), .ref (ad 4), .ref (ad 5), .int k, .ref (ad 6), .ref (ad 7), .ref (ad 8), .ref (ad 9), .int z, .int r, .int so, .ref (ad 10), .int pr, .ref (ad 11)]))) := ⟨_, rfl⟩
          rw [← hw_637] at hM
          have mp_638 : mPic w_637 mm cI ad f (nI (gT 7 (gC r_1 r_633 1 1))) no wr n k z r so pr := by rw [hw_637]; exact mp_obj hmp (nI (gT 7 (gC r_1 r_633 1 1))) no wr n k z r so pr
          have k_639 : w_637 (ad 3) = some (aI cI 100 (f 3)) := mp_638.2 3 (by decide)
          refine lv_if_ne (tgt := 127) hx hb d_M_reading_122 (by decide) (fun c_640 => ?_) (fun c_640 => ?_)
          · have hc := go_t hr_636 c_640
            refine lv_aload_n hx hb d_M_reading_127 rfl (lv_at hl 0 rfl) ?_
            refine lv_iload hx hb d_M_reading_128 (lv_at hl 4 rfl) ?_
            refine lv_aload_n hx hb d_M_reading_130 rfl (lv_at hl 0 rfl) ?_
            refine m_get (D := G) (ci := 6) (v := .int no) (C := nR_M) (T := nT_M) (N := 21) hx hb hta in_M hown hK hM mp_638.1 rfl 1 (by decide) (hta _ aw_544) (fun _ h9 => h9) rfl d_M_reading_131 ?_
            refine vp_callSi (W.runV (As := [.int (nI a), .int no]) (rest := []) ⟨hx, hb, hml, hown, hta⟩ (k_M_value_x l G q0 q1 cI ty2 w_637 mp_638.1 mp_638.2 hk ek a (by omega) no (nI a) rfl) (cV 2 hta aw_674 aw_5 aw_671 aw_673 as_SceneTimesModel_value rfl rfl (by decide +kernel) ⟨Nat.le_of_ble_eq_true rfl, Nat.le_of_ble_eq_true rfl⟩) (pW_V hK hM rfl mp_638.1) rfl rfl hl.1 rfl (lv_room (Nat.le_of_ble_eq_true rfl)) d_M_reading_134 ⟨Nat.le_of_ble_eq_true rfl, Nat.le_of_ble_eq_true rfl⟩) (fun r_641 hr_641 => ?_)
            refine lv_istore (lv' := [(7, .int r_641), (0, .ref mm), (1, .int x1), (2, .int x2), (3, .int r_1), (4, .int (nI a)), (5, .int (nI b)), (6, .int (-1))]) hx hb d_M_reading_137 hl (by decide) rfl (fun ls hl => ?_)
            refine lv_aload_n hx hb d_M_reading_139 rfl (lv_at hl 1 rfl) ?_
            refine m_get (D := G) (ci := 6) (v := .ref (ad 3)) (C := nR_M) (T := nT_M) (N := 21) hx hb hta in_M hown hK hM mp_638.1 rfl 7 (by decide) (hta _ aw_550) (fun _ h9 => h9) rfl d_M_reading_140 ?_
            refine lv_iload hx hb d_M_reading_143 (lv_at hl 5 rfl) ?_
            refine m_ialv hx hb hK hM 2 k_639 rfl (vp_in_nI (by omega) (by omega)) (v := f 3 a) (by rw [nI_clamp (by omega)]) d_M_reading_145 ?_
            refine lv_iload_n hx hb d_M_reading_146 rfl (lv_at hl 3 rfl) ?_
            refine lv_icmp_ne (tgt := 153) hx hb d_M_reading_147 (by decide) (fun c_642 => ?_) (fun c_642 => ?_)
            · refine lv_iload hx hb d_M_reading_153 (lv_at hl 0 rfl) ?_
              refine lv_aload_n hx hb d_M_reading_155 rfl (lv_at hl 1 rfl) ?_
              refine lv_iload hx hb d_M_reading_156 (lv_at hl 6 rfl) ?_
              refine lv_aload_n hx hb d_M_reading_158 rfl (lv_at hl 1 rfl) ?_
              refine m_get (D := G) (ci := 6) (v := .int no) (C := nR_M) (T := nT_M) (N := 21) hx hb hta in_M hown hK hM mp_638.1 rfl 1 (by decide) (hta _ aw_544) (fun _ h9 => h9) rfl d_M_reading_159 ?_
              refine vp_callSi (W.runV (As := [.int (nI b), .int no]) (rest := [.int r_641]) ⟨hx, hb, hml, hown, hta⟩ (k_M_value_x l G q0 q1 cI ty2 w_637 mp_638.1 mp_638.2 hk ek b (by omega) no (nI b) rfl) (cV 2 hta aw_674 aw_5 aw_671 aw_673 as_SceneTimesModel_value rfl rfl (by decide +kernel) ⟨Nat.le_of_ble_eq_true rfl, Nat.le_of_ble_eq_true rfl⟩) (pW_V hK hM rfl mp_638.1) rfl rfl hl.1 rfl (lv_room (Nat.le_of_ble_eq_true rfl)) d_M_reading_162 ⟨Nat.le_of_ble_eq_true rfl, Nat.le_of_ble_eq_true rfl⟩) (fun r_643 hr_643 => ?_)
              refine lv_iload hx hb d_M_reading_165 (lv_at hl 0 rfl) ?_
              refine lv_isub hx hb d_M_reading_167 ?_
              refine lv_iload_n hx hb d_M_reading_168 rfl (lv_at hl 3 rfl) ?_
              refine lv_aload_n hx hb d_M_reading_169 rfl (lv_at hl 1 rfl) ?_
              refine m_get (D := G) (ci := 6) (v := .ref (ad 3)) (C := nR_M) (T := nT_M) (N := 21) hx hb hta in_M hown hK hM mp_638.1 rfl 7 (by decide) (hta _ aw_550) (fun _ h9 => h9) rfl d_M_reading_170 ?_
              refine lv_iload hx hb d_M_reading_173 (lv_at hl 5 rfl) ?_
              refine m_ialv hx hb hK hM 2 k_639 rfl (vp_in_nI (by omega) (by omega)) (v := f 3 a) (by rw [nI_clamp (by omega)]) d_M_reading_175 ?_
              refine lv_isub hx hb d_M_reading_176 ?_
              refine lv_imul hx hb d_M_reading_177 ?_
              refine lv_aload_n hx hb d_M_reading_178 rfl (lv_at hl 1 rfl) ?_
              refine m_get (D := G) (ci := 6) (v := .ref (ad 3)) (C := nR_M) (T := nT_M) (N := 21) hx hb hta in_M hown hK hM mp_638.1 rfl 7 (by decide) (hta _ aw_550) (fun _ h9 => h9) rfl d_M_reading_179 ?_
              refine lv_iload hx hb d_M_reading_182 (lv_at hl 6 rfl) ?_
              refine m_ialv hx hb hK hM 2 k_639 rfl (vp_in_nI (by omega) (by omega)) (v := f 3 b) (by rw [nI_clamp (by omega)]) d_M_reading_184 ?_
              refine lv_aload_n hx hb d_M_reading_185 rfl (lv_at hl 1 rfl) ?_
              refine m_get (D := G) (ci := 6) (v := .ref (ad 3)) (C := nR_M) (T := nT_M) (N := 21) hx hb hta in_M hown hK hM mp_638.1 rfl 7 (by decide) (hta _ aw_550) (fun _ h9 => h9) rfl d_M_reading_186 ?_
              refine lv_iload hx hb d_M_reading_189 (lv_at hl 5 rfl) ?_
              refine m_ialv hx hb hK hM 2 k_639 rfl (vp_in_nI (by omega) (by omega)) (v := f 3 a) (by rw [nI_clamp (by omega)]) d_M_reading_191 ?_
              refine lv_isub hx hb d_M_reading_192 ?_
              refine vp_callSi (W.runS (As := [.int ((r_643 - r_641) * (x2 - (f 3 a))), .int ((f 3 b) - (f 3 a))]) (rest := [.int r_641]) ⟨hx, hb, hml, hown, hta⟩ (k_M_floor l ((r_643 - r_641) * (x2 - (f 3 a))) ((f 3 b) - (f 3 a)) (rd_ne (rdB_p (fun j h => by cases h) e4.symm) (rdH_p (fun j h => by cases h) e5.symm) c_642)) (cS 2 hta aw_681 aw_5 aw_679 aw_680 rfl rfl (by decide +kernel) ⟨Nat.le_of_ble_eq_true rfl, Nat.le_of_ble_eq_true rfl⟩) ⟨fun a U g mk q => q, fun U hU hW => ⟨rfl, trivial⟩⟩ rfl rfl hl.1 rfl (lv_room (Nat.le_of_ble_eq_true rfl)) d_M_reading_193 ⟨Nat.le_of_ble_eq_true rfl, Nat.le_of_ble_eq_true rfl⟩) (fun r_644 hr_644 => ?_)
              refine lv_iadd hx hb d_M_reading_196 ?_
              have hg : gC (if (¬ x1 < 0 ∧ ¬ 9 < x1) then 1 else 0) (if (¬ x2 < 0 ∧ ¬ no < x2) then 1 else 0) (if (rdB f x2 none (if (¬ x1 < 0 ∧ ¬ 9 < x1) then L0 else [])).isSome = true ∧ (rdH f x2 none (if (¬ x1 < 0 ∧ ¬ 9 < x1) then L0 else [])).isSome = true then 1 else 0) 1 = gC r_1 r_633 1 1 := by rw [← e4, ← e5, ← hr_1, ← hr_633]; rfl
              exact W.iret (v := r_641 + r_644) hx hb hr (fun t ht hW => ⟨⟨r_641 + r_644, w_637, rfl, (by rw [hg]; exact ⟨fun q => absurd hc q, fun _ => ⟨by rw [← e4, ← e5, rdV, hr_644, hr_643, hr_641]; simp only [c_642, not_true_eq_false, not_false_eq_true, and_true, and_false, true_and, false_and, and_self, or_self, or_true, true_or, or_false, false_or, ↓reduceIte], (by have q := mp_638; rw [hc] at q; exact q)⟩⟩), by rw [ht]; exact hM, va_K.moved hW.alike hK⟩, hS.F ht⟩) hS.2.2 d_M_reading_197
            · refine lv_iload hx hb d_M_reading_150 (lv_at hl 0 rfl) ?_
              have hg : gC (if (¬ x1 < 0 ∧ ¬ 9 < x1) then 1 else 0) (if (¬ x2 < 0 ∧ ¬ no < x2) then 1 else 0) (if (rdB f x2 none (if (¬ x1 < 0 ∧ ¬ 9 < x1) then L0 else [])).isSome = true ∧ (rdH f x2 none (if (¬ x1 < 0 ∧ ¬ 9 < x1) then L0 else [])).isSome = true then 1 else 0) 1 = gC r_1 r_633 1 1 := by rw [← e4, ← e5, ← hr_1, ← hr_633]; rfl
              exact W.iret (v := r_641) hx hb hr (fun t ht hW => ⟨⟨r_641, w_637, rfl, (by rw [hg]; exact ⟨fun q => absurd hc q, fun _ => ⟨by rw [← e4, ← e5, rdV, hr_641]; simp only [c_642, not_true_eq_false, not_false_eq_true, and_true, and_false, true_and, false_and, and_self, or_self, or_true, true_or, or_false, false_or, ↓reduceIte], (by have q := mp_638; rw [hc] at q; exact q)⟩⟩), by rw [ht]; exact hM, va_K.moved hW.alike hK⟩, hS.F ht⟩) hS.2.2 d_M_reading_152
          · have hc := go_f hr_636 c_640
            refine lv_iconst (v := 0) hx hb d_M_reading_125 (by decide) ?_
            have hg : gC (if (¬ x1 < 0 ∧ ¬ 9 < x1) then 1 else 0) (if (¬ x2 < 0 ∧ ¬ no < x2) then 1 else 0) (if (rdB f x2 none (if (¬ x1 < 0 ∧ ¬ 9 < x1) then L0 else [])).isSome = true ∧ (rdH f x2 none (if (¬ x1 < 0 ∧ ¬ 9 < x1) then L0 else [])).isSome = true then 1 else 0) 1 = gC r_1 r_633 1 1 := by rw [← e4, ← e5, ← hr_1, ← hr_633]; rfl
            exact W.iret (v := 0) hx hb hr (fun t ht hW => ⟨⟨0, w_637, rfl, (by rw [hg]; exact ⟨fun _ => mp_638, fun q => absurd q hc⟩), by rw [ht]; exact hM, va_K.moved hW.alike hK⟩, hS.F ht⟩) hS.2.2 d_M_reading_126
    have loop : ∀ (L : List Nat) (b4 b5 : Option Nat) (ls : Array Slot), folT (folS f 0 2 x1 no no ka nn) L → (∀ a ∈ L, a < nn) → rdB f x2 b4 L = (rdB f x2 none (if (¬ x1 < 0 ∧ ¬ 9 < x1) then L0 else [])) → rdH f x2 b5 L = (rdH f x2 none (if (¬ x1 < 0 ∧ ¬ 9 < x1) then L0 else [])) → (∀ i, b5 = some i → i < nn) → lv_has ls 8 [(0, .ref mm), (1, .int x1), (2, .int x2), (3, .int r_1), (4, .int (oI b4)), (5, .int (oI b5)), (6, .int (oI L.head?))] → W p l e (headSpec (wm y_M_reading c_M_reading 8 (some .int)) ({ frames := 2, cells := 0, slots := 0, locals := 51 })).room s m ([.ref mm, .int x1, .int x2] : List Value).toArray below meth c s.heap [] 0 0 (MQ below (va_Qi (fun (r0 : Int32) (u : Nat → Option va_E) => (¬ gC (if (¬ x1 < 0 ∧ ¬ 9 < x1) then 1 else 0) (if (¬ x2 < 0 ∧ ¬ no < x2) then 1 else 0) (if (rdB f x2 none (if (¬ x1 < 0 ∧ ¬ 9 < x1) then L0 else [])).isSome = true ∧ (rdH f x2 none (if (¬ x1 < 0 ∧ ¬ 9 < x1) then L0 else [])).isSome = true then 1 else 0) 1 = 0 → mPic u mm cI ad f (nI (gT 7 (gC (if (¬ x1 < 0 ∧ ¬ 9 < x1) then 1 else 0) (if (¬ x2 < 0 ∧ ¬ no < x2) then 1 else 0) (if (rdB f x2 none (if (¬ x1 < 0 ∧ ¬ 9 < x1) then L0 else [])).isSome = true ∧ (rdH f x2 none (if (¬ x1 < 0 ∧ ¬ 9 < x1) then L0 else [])).isSome = true then 1 else 0) 1))) no wr n k z r so pr) ∧ (gC (if (¬ x1 < 0 ∧ ¬ 9 < x1) then 1 else 0) (if (¬ x2 < 0 ∧ ¬ no < x2) then 1 else 0) (if (rdB f x2 none (if (¬ x1 < 0 ∧ ¬ 9 < x1) then L0 else [])).isSome = true ∧ (rdH f x2 none (if (¬ x1 < 0 ∧ ¬ 9 < x1) then L0 else [])).isSome = true then 1 else 0) 1 = 0 → r0 = rdV f x2 no ka (rdB f x2 none (if (¬ x1 < 0 ∧ ¬ 9 < x1) then L0 else [])) (rdH f x2 none (if (¬ x1 < 0 ∧ ¬ 9 < x1) then L0 else [])) ∧ mPic u mm cI ad f 0 no wr n k z r so pr)) (fun w2 t => mw G ncl A w2 t.heap ∧ va_K G ncl (q0 :: q1 :: (cI, .int) :: ty2) t) A) ([.ref mm, .int x1, .int x2] : List Value).toArray s 0 0 A) (F0 m 36 ls []) := by
      intro L
      induction L with
      | nil =>
        intro b4 b5 ls hf hm1 ha hb2 m5 hl
        have hl : lv_has ls 8 [(0, .ref mm), (1, .int x1), (2, .int x2), (3, .int r_1), (4, .int (oI b4)), (5, .int (oI b5)), (6, .int (-1))] := hl
        refine lv_iload hx hb d_M_reading_36 (lv_at hl 6 rfl) ?_
        refine lv_if_lt (tgt := 94) hx hb d_M_reading_38 (by decide) (fun c_695 => ?_) (fun c_695 => absurd (by decide) c_695)
        exact hfin b4 b5 ls ha hb2 (lv_sub hl [0, 1, 2, 3, 4, 5, 6] rfl)
      | cons a rr ih =>
        intro b4 b5 ls hf hm1 ha hb2 m5 hl
        have ha9 : a < nn := hm1 a List.mem_cons_self
        cases b5 with
        | none =>
          have hl : lv_has ls 8 [(0, .ref mm), (1, .int x1), (2, .int x2), (3, .int r_1), (4, .int (oI b4)), (5, .int (-1)), (6, .int (nI a))] := hl
          refine lv_iload hx hb d_M_reading_36 (lv_at hl 6 rfl) ?_
          refine lv_if_lt (tgt := 94) hx hb d_M_reading_38 (by decide) (fun c_746 => absurd c_746 (nI_pos (by omega))) (fun c_746 => ?_)
          refine lv_aload_n hx hb d_M_reading_41 rfl (lv_at hl 0 rfl) ?_
          refine m_get (D := G) (ci := 6) (v := .ref (ad 3)) (C := nR_M) (T := nT_M) (N := 21) hx hb hta in_M hown hK hM hmp.1 rfl 7 (by decide) (hta _ aw_550) (fun _ h9 => h9) rfl d_M_reading_42 ?_
          refine lv_iload hx hb d_M_reading_45 (lv_at hl 6 rfl) ?_
          refine m_ialv hx hb hK hM 2 ha3 rfl (vp_in_nI (by omega) (by omega)) (v := f 3 a) (by rw [nI_clamp (by omega)]) d_M_reading_47 ?_
          refine lv_iload_n hx hb d_M_reading_48 rfl (lv_at hl 2 rfl) ?_
          refine lv_icmp_gt (tgt := 56) hx hb d_M_reading_49 (by decide) (fun c_747 => ?_) (fun c_747 => ?_)
          · refine lv_aload_n hx hb d_M_reading_56 rfl (lv_at hl 0 rfl) ?_
            refine m_get (D := G) (ci := 6) (v := .ref (ad 3)) (C := nR_M) (T := nT_M) (N := 21) hx hb hta in_M hown hK hM hmp.1 rfl 7 (by decide) (hta _ aw_550) (fun _ h9 => h9) rfl d_M_reading_57 ?_
            refine lv_iload hx hb d_M_reading_60 (lv_at hl 6 rfl) ?_
            refine m_ialv hx hb hK hM 2 ha3 rfl (vp_in_nI (by omega) (by omega)) (v := f 3 a) (by rw [nI_clamp (by omega)]) d_M_reading_62 ?_
            refine lv_iload_n hx hb d_M_reading_63 rfl (lv_at hl 2 rfl) ?_
            refine lv_icmp_lt (tgt := 76) hx hb d_M_reading_64 (by decide) (fun c_748 => ?_) (fun c_748 => ?_)
            · refine lv_aload_n hx hb d_M_reading_76 rfl (lv_at hl 0 rfl) ?_
              refine lv_iload hx hb d_M_reading_77 (lv_at hl 6 rfl) ?_
              refine lv_iconst (v := 0) hx hb d_M_reading_79 (by decide) ?_
              refine lv_iconst (v := 2) hx hb d_M_reading_80 (by decide) ?_
              refine lv_iload_n hx hb d_M_reading_81 rfl (lv_at hl 1 rfl) ?_
              refine lv_aload_n hx hb d_M_reading_82 rfl (lv_at hl 0 rfl) ?_
              refine m_get (D := G) (ci := 6) (v := .int no) (C := nR_M) (T := nT_M) (N := 21) hx hb hta in_M hown hK hM hmp.1 rfl 1 (by decide) (hta _ aw_544) (fun _ h9 => h9) rfl d_M_reading_83 ?_
              refine vp_callSi (W.runV (As := [.int (nI a), .int 0, .int 2, .int x1, .int no]) (rest := []) ⟨hx, hb, hml, hown, hta⟩ (k_M_following l G q0 q1 cI ty2 w hmp.1 hmp.2 hk ek hn en (some a) (fun j q => by cases q; omega) 0 2 x1 no) (cV 5 hta aw_662 aw_5 aw_659 aw_661 as_SceneTimesModel_following rfl rfl (by decide +kernel) ⟨Nat.le_of_ble_eq_true rfl, Nat.le_of_ble_eq_true rfl⟩) (pW_V hK hM rfl hmp.1) rfl rfl hl.1 rfl (lv_room (Nat.le_of_ble_eq_true rfl)) d_M_reading_86 ⟨Nat.le_of_ble_eq_true rfl, Nat.le_of_ble_eq_true rfl⟩) (fun r_749 hr_749 => ?_)
              refine lv_istore (lv' := [(6, .int r_749), (0, .ref mm), (1, .int x1), (2, .int x2), (3, .int r_1), (4, .int (oI b4)), (5, .int (-1))]) hx hb d_M_reading_89 hl (by decide) rfl (fun ls hl => ?_)
              refine lv_goto (tgt := 36) hx hb d_M_reading_91 (by decide) ?_
              have e6 : r_749 = oI rr.head? := by rw [hr_749]; exact congrArg oI (folL_h (lo := some a) hf)
              subst e6
              exact ih b4 none ls (folL_t (lo := some a) hf) (fun b hb => hm1 b (List.mem_cons_of_mem _ hb)) (by rw [← ha, rdB]; simp only [c_747, not_true_eq_false, not_false_eq_true, and_true, and_false, true_and, false_and, and_self, or_self, or_true, true_or, or_false, false_or, ↓reduceIte, eq_self, reduceCtorEq]) (by rw [← hb2, rdH]; simp only [c_748, not_true_eq_false, not_false_eq_true, and_true, and_false, true_and, false_and, and_self, or_self, or_true, true_or, or_false, false_or, ↓reduceIte, eq_self, reduceCtorEq]) (fun i q => by cases q) (lv_sub hl [1, 2, 3, 4, 5, 6, 0] rfl)
            · refine lv_iload hx hb d_M_reading_67 (lv_at hl 5 rfl) ?_
              refine lv_if_ge (tgt := 76) hx hb d_M_reading_69 (by decide) (fun c_750 => absurd c_750 (by decide)) (fun c_750 => ?_)
              refine lv_iload hx hb d_M_reading_72 (lv_at hl 6 rfl) ?_
              refine lv_istore (lv' := [(5, .int (nI a)), (0, .ref mm), (1, .int x1), (2, .int x2), (3, .int r_1), (4, .int (oI b4)), (6, .int (nI a))]) hx hb d_M_reading_74 hl (by decide) rfl (fun ls hl => ?_)
              refine lv_aload_n hx hb d_M_reading_76 rfl (lv_at hl 1 rfl) ?_
              refine lv_iload hx hb d_M_reading_77 (lv_at hl 6 rfl) ?_
              refine lv_iconst (v := 0) hx hb d_M_reading_79 (by decide) ?_
              refine lv_iconst (v := 2) hx hb d_M_reading_80 (by decide) ?_
              refine lv_iload_n hx hb d_M_reading_81 rfl (lv_at hl 2 rfl) ?_
              refine lv_aload_n hx hb d_M_reading_82 rfl (lv_at hl 1 rfl) ?_
              refine m_get (D := G) (ci := 6) (v := .int no) (C := nR_M) (T := nT_M) (N := 21) hx hb hta in_M hown hK hM hmp.1 rfl 1 (by decide) (hta _ aw_544) (fun _ h9 => h9) rfl d_M_reading_83 ?_
              refine vp_callSi (W.runV (As := [.int (nI a), .int 0, .int 2, .int x1, .int no]) (rest := []) ⟨hx, hb, hml, hown, hta⟩ (k_M_following l G q0 q1 cI ty2 w hmp.1 hmp.2 hk ek hn en (some a) (fun j q => by cases q; omega) 0 2 x1 no) (cV 5 hta aw_662 aw_5 aw_659 aw_661 as_SceneTimesModel_following rfl rfl (by decide +kernel) ⟨Nat.le_of_ble_eq_true rfl, Nat.le_of_ble_eq_true rfl⟩) (pW_V hK hM rfl hmp.1) rfl rfl hl.1 rfl (lv_room (Nat.le_of_ble_eq_true rfl)) d_M_reading_86 ⟨Nat.le_of_ble_eq_true rfl, Nat.le_of_ble_eq_true rfl⟩) (fun r_751 hr_751 => ?_)
              refine lv_istore (lv' := [(6, .int r_751), (5, .int (nI a)), (0, .ref mm), (1, .int x1), (2, .int x2), (3, .int r_1), (4, .int (oI b4))]) hx hb d_M_reading_89 hl (by decide) rfl (fun ls hl => ?_)
              refine lv_goto (tgt := 36) hx hb d_M_reading_91 (by decide) ?_
              have e6 : r_751 = oI rr.head? := by rw [hr_751]; exact congrArg oI (folL_h (lo := some a) hf)
              subst e6
              exact ih b4 (some a) ls (folL_t (lo := some a) hf) (fun b hb => hm1 b (List.mem_cons_of_mem _ hb)) (by rw [← ha, rdB]; simp only [c_747, not_true_eq_false, not_false_eq_true, and_true, and_false, true_and, false_and, and_self, or_self, or_true, true_or, or_false, false_or, ↓reduceIte, eq_self, reduceCtorEq]) (by rw [← hb2, rdH]; simp only [c_748, not_true_eq_false, not_false_eq_true, and_true, and_false, true_and, false_and, and_self, or_self, or_true, true_or, or_false, false_or, ↓reduceIte, eq_self, reduceCtorEq]) (fun i q => by cases q; exact ha9) (lv_sub hl [2, 3, 4, 5, 6, 1, 0] rfl)
          · refine lv_iload hx hb d_M_reading_52 (lv_at hl 6 rfl) ?_
            refine lv_istore (lv' := [(4, .int (nI a)), (0, .ref mm), (1, .int x1), (2, .int x2), (3, .int r_1), (5, .int (-1)), (6, .int (nI a))]) hx hb d_M_reading_54 hl (by decide) rfl (fun ls hl => ?_)
            refine lv_aload_n hx hb d_M_reading_56 rfl (lv_at hl 1 rfl) ?_
            refine m_get (D := G) (ci := 6) (v := .ref (ad 3)) (C := nR_M) (T := nT_M) (N := 21) hx hb hta in_M hown hK hM hmp.1 rfl 7 (by decide) (hta _ aw_550) (fun _ h9 => h9) rfl d_M_reading_57 ?_
            refine lv_iload hx hb d_M_reading_60 (lv_at hl 6 rfl) ?_
            refine m_ialv hx hb hK hM 2 ha3 rfl (vp_in_nI (by omega) (by omega)) (v := f 3 a) (by rw [nI_clamp (by omega)]) d_M_reading_62 ?_
            refine lv_iload_n hx hb d_M_reading_63 rfl (lv_at hl 3 rfl) ?_
            refine lv_icmp_lt (tgt := 76) hx hb d_M_reading_64 (by decide) (fun c_752 => ?_) (fun c_752 => ?_)
            · refine lv_aload_n hx hb d_M_reading_76 rfl (lv_at hl 1 rfl) ?_
              refine lv_iload hx hb d_M_reading_77 (lv_at hl 6 rfl) ?_
              refine lv_iconst (v := 0) hx hb d_M_reading_79 (by decide) ?_
              refine lv_iconst (v := 2) hx hb d_M_reading_80 (by decide) ?_
              refine lv_iload_n hx hb d_M_reading_81 rfl (lv_at hl 2 rfl) ?_
              refine lv_aload_n hx hb d_M_reading_82 rfl (lv_at hl 1 rfl) ?_
              refine m_get (D := G) (ci := 6) (v := .int no) (C := nR_M) (T := nT_M) (N := 21) hx hb hta in_M hown hK hM hmp.1 rfl 1 (by decide) (hta _ aw_544) (fun _ h9 => h9) rfl d_M_reading_83 ?_
              refine vp_callSi (W.runV (As := [.int (nI a), .int 0, .int 2, .int x1, .int no]) (rest := []) ⟨hx, hb, hml, hown, hta⟩ (k_M_following l G q0 q1 cI ty2 w hmp.1 hmp.2 hk ek hn en (some a) (fun j q => by cases q; omega) 0 2 x1 no) (cV 5 hta aw_662 aw_5 aw_659 aw_661 as_SceneTimesModel_following rfl rfl (by decide +kernel) ⟨Nat.le_of_ble_eq_true rfl, Nat.le_of_ble_eq_true rfl⟩) (pW_V hK hM rfl hmp.1) rfl rfl hl.1 rfl (lv_room (Nat.le_of_ble_eq_true rfl)) d_M_reading_86 ⟨Nat.le_of_ble_eq_true rfl, Nat.le_of_ble_eq_true rfl⟩) (fun r_753 hr_753 => ?_)
              refine lv_istore (lv' := [(6, .int r_753), (4, .int (nI a)), (0, .ref mm), (1, .int x1), (2, .int x2), (3, .int r_1), (5, .int (-1))]) hx hb d_M_reading_89 hl (by decide) rfl (fun ls hl => ?_)
              refine lv_goto (tgt := 36) hx hb d_M_reading_91 (by decide) ?_
              have e6 : r_753 = oI rr.head? := by rw [hr_753]; exact congrArg oI (folL_h (lo := some a) hf)
              subst e6
              exact ih (some a) none ls (folL_t (lo := some a) hf) (fun b hb => hm1 b (List.mem_cons_of_mem _ hb)) (by rw [← ha, rdB]; simp only [c_747, not_true_eq_false, not_false_eq_true, and_true, and_false, true_and, false_and, and_self, or_self, or_true, true_or, or_false, false_or, ↓reduceIte, eq_self, reduceCtorEq]) (by rw [← hb2, rdH]; simp only [c_752, not_true_eq_false, not_false_eq_true, and_true, and_false, true_and, false_and, and_self, or_self, or_true, true_or, or_false, false_or, ↓reduceIte, eq_self, reduceCtorEq]) (fun i q => by cases q) (lv_sub hl [2, 3, 4, 5, 1, 6, 0] rfl)
            · refine lv_iload hx hb d_M_reading_67 (lv_at hl 5 rfl) ?_
              refine lv_if_ge (tgt := 76) hx hb d_M_reading_69 (by decide) (fun c_754 => absurd c_754 (by decide)) (fun c_754 => ?_)
              refine lv_iload hx hb d_M_reading_72 (lv_at hl 6 rfl) ?_
              refine lv_istore (lv' := [(5, .int (nI a)), (4, .int (nI a)), (0, .ref mm), (1, .int x1), (2, .int x2), (3, .int r_1), (6, .int (nI a))]) hx hb d_M_reading_74 hl (by decide) rfl (fun ls hl => ?_)
              refine lv_aload_n hx hb d_M_reading_76 rfl (lv_at hl 2 rfl) ?_
              refine lv_iload hx hb d_M_reading_77 (lv_at hl 6 rfl) ?_
              refine lv_iconst (v := 0) hx hb d_M_reading_79 (by decide) ?_
              refine lv_iconst (v := 2) hx hb d_M_reading_80 (by decide) ?_
              refine lv_iload_n hx hb d_M_reading_81 rfl (lv_at hl 3 rfl) ?_
              refine lv_aload_n hx hb d_M_reading_82 rfl (lv_at hl 2 rfl) ?_
              refine m_get (D := G) (ci := 6) (v := .int no) (C := nR_M) (T := nT_M) (N := 21) hx hb hta in_M hown hK hM hmp.1 rfl 1 (by decide) (hta _ aw_544) (fun _ h9 => h9) rfl d_M_reading_83 ?_
              refine vp_callSi (W.runV (As := [.int (nI a), .int 0, .int 2, .int x1, .int no]) (rest := []) ⟨hx, hb, hml, hown, hta⟩ (k_M_following l G q0 q1 cI ty2 w hmp.1 hmp.2 hk ek hn en (some a) (fun j q => by cases q; omega) 0 2 x1 no) (cV 5 hta aw_662 aw_5 aw_659 aw_661 as_SceneTimesModel_following rfl rfl (by decide +kernel) ⟨Nat.le_of_ble_eq_true rfl, Nat.le_of_ble_eq_true rfl⟩) (pW_V hK hM rfl hmp.1) rfl rfl hl.1 rfl (lv_room (Nat.le_of_ble_eq_true rfl)) d_M_reading_86 ⟨Nat.le_of_ble_eq_true rfl, Nat.le_of_ble_eq_true rfl⟩) (fun r_755 hr_755 => ?_)
              refine lv_istore (lv' := [(6, .int r_755), (5, .int (nI a)), (4, .int (nI a)), (0, .ref mm), (1, .int x1), (2, .int x2), (3, .int r_1)]) hx hb d_M_reading_89 hl (by decide) rfl (fun ls hl => ?_)
              refine lv_goto (tgt := 36) hx hb d_M_reading_91 (by decide) ?_
              have e6 : r_755 = oI rr.head? := by rw [hr_755]; exact congrArg oI (folL_h (lo := some a) hf)
              subst e6
              exact ih (some a) (some a) ls (folL_t (lo := some a) hf) (fun b hb => hm1 b (List.mem_cons_of_mem _ hb)) (by rw [← ha, rdB]; simp only [c_747, not_true_eq_false, not_false_eq_true, and_true, and_false, true_and, false_and, and_self, or_self, or_true, true_or, or_false, false_or, ↓reduceIte, eq_self, reduceCtorEq]) (by rw [← hb2, rdH]; simp only [c_752, not_true_eq_false, not_false_eq_true, and_true, and_false, true_and, false_and, and_self, or_self, or_true, true_or, or_false, false_or, ↓reduceIte, eq_self, reduceCtorEq]) (fun i q => by cases q; exact ha9) (lv_sub hl [3, 4, 5, 6, 2, 1, 0] rfl)
        | some b =>
          have hl : lv_has ls 8 [(0, .ref mm), (1, .int x1), (2, .int x2), (3, .int r_1), (4, .int (oI b4)), (5, .int (nI b)), (6, .int (nI a))] := hl
          have hb9 : b < nn := m5 b rfl
          refine lv_iload hx hb d_M_reading_36 (lv_at hl 6 rfl) ?_
          refine lv_if_lt (tgt := 94) hx hb d_M_reading_38 (by decide) (fun c_806 => absurd c_806 (nI_pos (by omega))) (fun c_806 => ?_)
          refine lv_aload_n hx hb d_M_reading_41 rfl (lv_at hl 0 rfl) ?_
          refine m_get (D := G) (ci := 6) (v := .ref (ad 3)) (C := nR_M) (T := nT_M) (N := 21) hx hb hta in_M hown hK hM hmp.1 rfl 7 (by decide) (hta _ aw_550) (fun _ h9 => h9) rfl d_M_reading_42 ?_
          refine lv_iload hx hb d_M_reading_45 (lv_at hl 6 rfl) ?_
          refine m_ialv hx hb hK hM 2 ha3 rfl (vp_in_nI (by omega) (by omega)) (v := f 3 a) (by rw [nI_clamp (by omega)]) d_M_reading_47 ?_
          refine lv_iload_n hx hb d_M_reading_48 rfl (lv_at hl 2 rfl) ?_
          refine lv_icmp_gt (tgt := 56) hx hb d_M_reading_49 (by decide) (fun c_807 => ?_) (fun c_807 => ?_)
          · refine lv_aload_n hx hb d_M_reading_56 rfl (lv_at hl 0 rfl) ?_
            refine m_get (D := G) (ci := 6) (v := .ref (ad 3)) (C := nR_M) (T := nT_M) (N := 21) hx hb hta in_M hown hK hM hmp.1 rfl 7 (by decide) (hta _ aw_550) (fun _ h9 => h9) rfl d_M_reading_57 ?_
            refine lv_iload hx hb d_M_reading_60 (lv_at hl 6 rfl) ?_
            refine m_ialv hx hb hK hM 2 ha3 rfl (vp_in_nI (by omega) (by omega)) (v := f 3 a) (by rw [nI_clamp (by omega)]) d_M_reading_62 ?_
            refine lv_iload_n hx hb d_M_reading_63 rfl (lv_at hl 2 rfl) ?_
            refine lv_icmp_lt (tgt := 76) hx hb d_M_reading_64 (by decide) (fun c_808 => ?_) (fun c_808 => ?_)
            · refine lv_aload_n hx hb d_M_reading_76 rfl (lv_at hl 0 rfl) ?_
              refine lv_iload hx hb d_M_reading_77 (lv_at hl 6 rfl) ?_
              refine lv_iconst (v := 0) hx hb d_M_reading_79 (by decide) ?_
              refine lv_iconst (v := 2) hx hb d_M_reading_80 (by decide) ?_
              refine lv_iload_n hx hb d_M_reading_81 rfl (lv_at hl 1 rfl) ?_
              refine lv_aload_n hx hb d_M_reading_82 rfl (lv_at hl 0 rfl) ?_
              refine m_get (D := G) (ci := 6) (v := .int no) (C := nR_M) (T := nT_M) (N := 21) hx hb hta in_M hown hK hM hmp.1 rfl 1 (by decide) (hta _ aw_544) (fun _ h9 => h9) rfl d_M_reading_83 ?_
              refine vp_callSi (W.runV (As := [.int (nI a), .int 0, .int 2, .int x1, .int no]) (rest := []) ⟨hx, hb, hml, hown, hta⟩ (k_M_following l G q0 q1 cI ty2 w hmp.1 hmp.2 hk ek hn en (some a) (fun j q => by cases q; omega) 0 2 x1 no) (cV 5 hta aw_662 aw_5 aw_659 aw_661 as_SceneTimesModel_following rfl rfl (by decide +kernel) ⟨Nat.le_of_ble_eq_true rfl, Nat.le_of_ble_eq_true rfl⟩) (pW_V hK hM rfl hmp.1) rfl rfl hl.1 rfl (lv_room (Nat.le_of_ble_eq_true rfl)) d_M_reading_86 ⟨Nat.le_of_ble_eq_true rfl, Nat.le_of_ble_eq_true rfl⟩) (fun r_809 hr_809 => ?_)
              refine lv_istore (lv' := [(6, .int r_809), (0, .ref mm), (1, .int x1), (2, .int x2), (3, .int r_1), (4, .int (oI b4)), (5, .int (nI b))]) hx hb d_M_reading_89 hl (by decide) rfl (fun ls hl => ?_)
              refine lv_goto (tgt := 36) hx hb d_M_reading_91 (by decide) ?_
              have e6 : r_809 = oI rr.head? := by rw [hr_809]; exact congrArg oI (folL_h (lo := some a) hf)
              subst e6
              exact ih b4 (some b) ls (folL_t (lo := some a) hf) (fun b hb => hm1 b (List.mem_cons_of_mem _ hb)) (by rw [← ha, rdB]; simp only [c_807, not_true_eq_false, not_false_eq_true, and_true, and_false, true_and, false_and, and_self, or_self, or_true, true_or, or_false, false_or, ↓reduceIte, eq_self, reduceCtorEq]) (by rw [← hb2, rdH]; simp only [c_808, not_true_eq_false, not_false_eq_true, and_true, and_false, true_and, false_and, and_self, or_self, or_true, true_or, or_false, false_or, ↓reduceIte, eq_self, reduceCtorEq]) (fun i q => by cases q; exact hb9) (lv_sub hl [1, 2, 3, 4, 5, 6, 0] rfl)
            · refine lv_iload hx hb d_M_reading_67 (lv_at hl 5 rfl) ?_
              refine lv_if_ge (tgt := 76) hx hb d_M_reading_69 (by decide) (fun c_810 => ?_) (fun c_810 => absurd (nI_pos' (by omega)) c_810)
              refine lv_aload_n hx hb d_M_reading_76 rfl (lv_at hl 0 rfl) ?_
              refine lv_iload hx hb d_M_reading_77 (lv_at hl 6 rfl) ?_
              refine lv_iconst (v := 0) hx hb d_M_reading_79 (by decide) ?_
              refine lv_iconst (v := 2) hx hb d_M_reading_80 (by decide) ?_
              refine lv_iload_n hx hb d_M_reading_81 rfl (lv_at hl 1 rfl) ?_
              refine lv_aload_n hx hb d_M_reading_82 rfl (lv_at hl 0 rfl) ?_
              refine m_get (D := G) (ci := 6) (v := .int no) (C := nR_M) (T := nT_M) (N := 21) hx hb hta in_M hown hK hM hmp.1 rfl 1 (by decide) (hta _ aw_544) (fun _ h9 => h9) rfl d_M_reading_83 ?_
              refine vp_callSi (W.runV (As := [.int (nI a), .int 0, .int 2, .int x1, .int no]) (rest := []) ⟨hx, hb, hml, hown, hta⟩ (k_M_following l G q0 q1 cI ty2 w hmp.1 hmp.2 hk ek hn en (some a) (fun j q => by cases q; omega) 0 2 x1 no) (cV 5 hta aw_662 aw_5 aw_659 aw_661 as_SceneTimesModel_following rfl rfl (by decide +kernel) ⟨Nat.le_of_ble_eq_true rfl, Nat.le_of_ble_eq_true rfl⟩) (pW_V hK hM rfl hmp.1) rfl rfl hl.1 rfl (lv_room (Nat.le_of_ble_eq_true rfl)) d_M_reading_86 ⟨Nat.le_of_ble_eq_true rfl, Nat.le_of_ble_eq_true rfl⟩) (fun r_811 hr_811 => ?_)
              refine lv_istore (lv' := [(6, .int r_811), (0, .ref mm), (1, .int x1), (2, .int x2), (3, .int r_1), (4, .int (oI b4)), (5, .int (nI b))]) hx hb d_M_reading_89 hl (by decide) rfl (fun ls hl => ?_)
              refine lv_goto (tgt := 36) hx hb d_M_reading_91 (by decide) ?_
              have e6 : r_811 = oI rr.head? := by rw [hr_811]; exact congrArg oI (folL_h (lo := some a) hf)
              subst e6
              exact ih b4 (some b) ls (folL_t (lo := some a) hf) (fun b hb => hm1 b (List.mem_cons_of_mem _ hb)) (by rw [← ha, rdB]; simp only [c_807, not_true_eq_false, not_false_eq_true, and_true, and_false, true_and, false_and, and_self, or_self, or_true, true_or, or_false, false_or, ↓reduceIte, eq_self, reduceCtorEq]) (by rw [← hb2, rdH]; simp only [c_808, not_true_eq_false, not_false_eq_true, and_true, and_false, true_and, false_and, and_self, or_self, or_true, true_or, or_false, false_or, ↓reduceIte, eq_self, reduceCtorEq]) (fun i q => by cases q; exact hb9) (lv_sub hl [1, 2, 3, 4, 5, 6, 0] rfl)
          · refine lv_iload hx hb d_M_reading_52 (lv_at hl 6 rfl) ?_
            refine lv_istore (lv' := [(4, .int (nI a)), (0, .ref mm), (1, .int x1), (2, .int x2), (3, .int r_1), (5, .int (nI b)), (6, .int (nI a))]) hx hb d_M_reading_54 hl (by decide) rfl (fun ls hl => ?_)
            refine lv_aload_n hx hb d_M_reading_56 rfl (lv_at hl 1 rfl) ?_
            refine m_get (D := G) (ci := 6) (v := .ref (ad 3)) (C := nR_M) (T := nT_M) (N := 21) hx hb hta in_M hown hK hM hmp.1 rfl 7 (by decide) (hta _ aw_550) (fun _ h9 => h9) rfl d_M_reading_57 ?_
            refine lv_iload hx hb d_M_reading_60 (lv_at hl 6 rfl) ?_
            refine m_ialv hx hb hK hM 2 ha3 rfl (vp_in_nI (by omega) (by omega)) (v := f 3 a) (by rw [nI_clamp (by omega)]) d_M_reading_62 ?_
            refine lv_iload_n hx hb d_M_reading_63 rfl (lv_at hl 3 rfl) ?_
            refine lv_icmp_lt (tgt := 76) hx hb d_M_reading_64 (by decide) (fun c_812 => ?_) (fun c_812 => ?_)
            · refine lv_aload_n hx hb d_M_reading_76 rfl (lv_at hl 1 rfl) ?_
              refine lv_iload hx hb d_M_reading_77 (lv_at hl 6 rfl) ?_
              refine lv_iconst (v := 0) hx hb d_M_reading_79 (by decide) ?_
              refine lv_iconst (v := 2) hx hb d_M_reading_80 (by decide) ?_
              refine lv_iload_n hx hb d_M_reading_81 rfl (lv_at hl 2 rfl) ?_
              refine lv_aload_n hx hb d_M_reading_82 rfl (lv_at hl 1 rfl) ?_
              refine m_get (D := G) (ci := 6) (v := .int no) (C := nR_M) (T := nT_M) (N := 21) hx hb hta in_M hown hK hM hmp.1 rfl 1 (by decide) (hta _ aw_544) (fun _ h9 => h9) rfl d_M_reading_83 ?_
              refine vp_callSi (W.runV (As := [.int (nI a), .int 0, .int 2, .int x1, .int no]) (rest := []) ⟨hx, hb, hml, hown, hta⟩ (k_M_following l G q0 q1 cI ty2 w hmp.1 hmp.2 hk ek hn en (some a) (fun j q => by cases q; omega) 0 2 x1 no) (cV 5 hta aw_662 aw_5 aw_659 aw_661 as_SceneTimesModel_following rfl rfl (by decide +kernel) ⟨Nat.le_of_ble_eq_true rfl, Nat.le_of_ble_eq_true rfl⟩) (pW_V hK hM rfl hmp.1) rfl rfl hl.1 rfl (lv_room (Nat.le_of_ble_eq_true rfl)) d_M_reading_86 ⟨Nat.le_of_ble_eq_true rfl, Nat.le_of_ble_eq_true rfl⟩) (fun r_813 hr_813 => ?_)
              refine lv_istore (lv' := [(6, .int r_813), (4, .int (nI a)), (0, .ref mm), (1, .int x1), (2, .int x2), (3, .int r_1), (5, .int (nI b))]) hx hb d_M_reading_89 hl (by decide) rfl (fun ls hl => ?_)
              refine lv_goto (tgt := 36) hx hb d_M_reading_91 (by decide) ?_
              have e6 : r_813 = oI rr.head? := by rw [hr_813]; exact congrArg oI (folL_h (lo := some a) hf)
              subst e6
              exact ih (some a) (some b) ls (folL_t (lo := some a) hf) (fun b hb => hm1 b (List.mem_cons_of_mem _ hb)) (by rw [← ha, rdB]; simp only [c_807, not_true_eq_false, not_false_eq_true, and_true, and_false, true_and, false_and, and_self, or_self, or_true, true_or, or_false, false_or, ↓reduceIte, eq_self, reduceCtorEq]) (by rw [← hb2, rdH]; simp only [c_812, not_true_eq_false, not_false_eq_true, and_true, and_false, true_and, false_and, and_self, or_self, or_true, true_or, or_false, false_or, ↓reduceIte, eq_self, reduceCtorEq]) (fun i q => by cases q; exact hb9) (lv_sub hl [2, 3, 4, 5, 1, 6, 0] rfl)
            · refine lv_iload hx hb d_M_reading_67 (lv_at hl 5 rfl) ?_
              refine lv_if_ge (tgt := 76) hx hb d_M_reading_69 (by decide) (fun c_814 => ?_) (fun c_814 => absurd (nI_pos' (by omega)) c_814)
              refine lv_aload_n hx hb d_M_reading_76 rfl (lv_at hl 1 rfl) ?_
              refine lv_iload hx hb d_M_reading_77 (lv_at hl 6 rfl) ?_
              refine lv_iconst (v := 0) hx hb d_M_reading_79 (by decide) ?_
              refine lv_iconst (v := 2) hx hb d_M_reading_80 (by decide) ?_
              refine lv_iload_n hx hb d_M_reading_81 rfl (lv_at hl 2 rfl) ?_
              refine lv_aload_n hx hb d_M_reading_82 rfl (lv_at hl 1 rfl) ?_
              refine m_get (D := G) (ci := 6) (v := .int no) (C := nR_M) (T := nT_M) (N := 21) hx hb hta in_M hown hK hM hmp.1 rfl 1 (by decide) (hta _ aw_544) (fun _ h9 => h9) rfl d_M_reading_83 ?_
              refine vp_callSi (W.runV (As := [.int (nI a), .int 0, .int 2, .int x1, .int no]) (rest := []) ⟨hx, hb, hml, hown, hta⟩ (k_M_following l G q0 q1 cI ty2 w hmp.1 hmp.2 hk ek hn en (some a) (fun j q => by cases q; omega) 0 2 x1 no) (cV 5 hta aw_662 aw_5 aw_659 aw_661 as_SceneTimesModel_following rfl rfl (by decide +kernel) ⟨Nat.le_of_ble_eq_true rfl, Nat.le_of_ble_eq_true rfl⟩) (pW_V hK hM rfl hmp.1) rfl rfl hl.1 rfl (lv_room (Nat.le_of_ble_eq_true rfl)) d_M_reading_86 ⟨Nat.le_of_ble_eq_true rfl, Nat.le_of_ble_eq_true rfl⟩) (fun r_815 hr_815 => ?_)
              refine lv_istore (lv' := [(6, .int r_815), (4, .int (nI a)), (0, .ref mm), (1, .int x1), (2, .int x2), (3, .int r_1), (5, .int (nI b))]) hx hb d_M_reading_89 hl (by decide) rfl (fun ls hl => ?_)
              refine lv_goto (tgt := 36) hx hb d_M_reading_91 (by decide) ?_
              have e6 : r_815 = oI rr.head? := by rw [hr_815]; exact congrArg oI (folL_h (lo := some a) hf)
              subst e6
              exact ih (some a) (some b) ls (folL_t (lo := some a) hf) (fun b hb => hm1 b (List.mem_cons_of_mem _ hb)) (by rw [← ha, rdB]; simp only [c_807, not_true_eq_false, not_false_eq_true, and_true, and_false, true_and, false_and, and_self, or_self, or_true, true_or, or_false, false_or, ↓reduceIte, eq_self, reduceCtorEq]) (by rw [← hb2, rdH]; simp only [c_812, not_true_eq_false, not_false_eq_true, and_true, and_false, true_and, false_and, and_self, or_self, or_true, true_or, or_false, false_or, ↓reduceIte, eq_self, reduceCtorEq]) (fun i q => by cases q; exact hb9) (lv_sub hl [2, 3, 4, 5, 1, 6, 0] rfl)
    have e6 : r_410 = oI L0.head? := by rw [hr_410]; exact congrArg oI (folL_h (hL0 p_409))
    subst e6
    exact loop L0 none none ls (folL_t (hL0 p_409)) hLm (by rw [eL]) (by rw [eL]) (fun i q => by cases q) (lv_sub hl [4, 5, 6, 3, 2, 1, 0] rfl)
