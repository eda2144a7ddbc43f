/-! the reference: print -/
theorem row_app (f : Nat → Nat → Int32) (so : Int32) (ka j : Nat) (Z : List Int32) : rowB f so ka j ++ Z = numB (f 3 j) ++ (58 :: ((119 :: numB (f 0 j)) ++ ((107 :: numB (f 1 j)) ++ ((115 :: numB (f 2 j)) ++ ((61 :: numB (valM f so j ka)) ++ ((if strM f so j ka = 0 then [] else [120]) ++ (59 :: Z))))))) := by
  unfold rowB
  simp [List.append_assoc]
theorem apF_c (g : Nat → Int32) (p : Nat) (b : Int32) (r : List Int32) : apF g p (b :: r) = apF (upd g p b) (p + 1) r := rfl
theorem numB_len (rr : Nat) (h : rr ≤ 100) : (nI rr).toInt.natAbs < 100000 := by rw [nI_toInt (by omega)]; omega
set_option maxHeartbeats 4000000 in
set_option maxRecDepth 100000 in
theorem k_M_print (l : Launch) (G : va_G) (q0 q1 : ClassId × FieldType) (cI : ClassId) (ty2 : List (ClassId × FieldType)) (w : Nat → Option va_E) {mm : Nat} {ad : Nat → Nat} (had : ∀ i j, i < 12 → j < 12 → ad i = ad j → i = j) {f : Nat → Nat → Int32} {th no wr n k z r so pr : Int32} (hmp : mPic w mm cI ad f th no wr n k z r so pr) {ka rr : Nat} (hk : ka ≤ 200) (ek : k = nI ka) (hr9 : rr ≤ 100) (er : r = nI rr) (hrn : ∀ i, i < rr → f 10 i = nI (f 10 i).toNatClampNeg ∧ (f 10 i).toNatClampNeg < 100) (hrg : ∀ i, i < rr → (f 3 (f 10 i).toNatClampNeg).toInt.natAbs < 100000 ∧ (f 0 (f 10 i).toNatClampNeg).toInt.natAbs < 100000 ∧ (f 1 (f 10 i).toNatClampNeg).toInt.natAbs < 100000 ∧ (f 2 (f 10 i).toNatClampNeg).toInt.natAbs < 100000 ∧ (valM f so (f 10 i).toNatClampNeg ka).toInt.natAbs < 100000) (hlen : (shtB f so ka rr).length ≤ 2400) (sz : Nat) : Met l y_M_print (wm y_M_print c_M_print 4 (some .int)) ({ frames := 2, cells := 0, slots := 0, locals := 45 }) (pZ G (q0 :: q1 :: (cI, .int) :: ty2) w sz [.ref mm]) (va_Qi (fun (r0 : Int32) (u : Nat → Option va_E) => (¬ gC 1 1 z 1 = 0 → mPic u mm cI ad f (nI (gT 4 (gC 1 1 z 1))) no wr n k z r so pr) ∧ (gC 1 1 z 1 = 0 → r0 = nI (shtB f so ka rr).length ∧ mPic u mm cI ad (va_up f 11 (apF (f 11) 0 (shtB f so ka rr))) 0 no wr n k z r so (nI (shtB f so ka rr).length))) (fun w2 t => mw G ncl (mA w sz) w2 t.heap ∧ va_K G ncl (q0 :: q1 :: (cI, .int) :: ty2) t) (mA w sz)) 0 0 (mA w sz) := by
  refine Met.ofW (cc := c_M_print) (maxL := 4) (ret := (some .int)) (by decide) rfl ?_
  intro p e s m args below meth c s₁ B hml hv
  obtain ⟨rfl, hsz, hM0, hK⟩ := hv
  have hx := B.exec
  have hb := B.bytes
  have hr := B.returns
  have hts := atoms_spec (ws := (wm y_M_print c_M_print 4 (some .int))) B.pre
  have hta : ∀ w ∈ AL, w.before _ s = true := fun w h => hts w (List.mem_cons_of_mem _ h)
  have hown : s.vm.findClass nR_M = some m.cls := findClass_of_methodNamed B.named
  have hlocks := B.notSynchronized
  have hl := lv_entry ([.ref mm]) (n := 4) (Nat.le_of_ble_eq_true rfl)
  rw [lg_entry_eq]
  generalize (lg_sl ([.ref mm]) ++ List.replicate (4 - (lg_sl ([.ref mm])).length) Slot.unset).toArray = ls at hl ⊢
  have hl : lv_has ls 4 [(0, .ref mm)] := hl
  subst hsz
  have hM := mw_self (sz := s.heap.size) hM0
  clear hM0
  generalize hAe : mA w s.heap.size = A at hM ⊢
  have hA : ∀ q : Nat, s.heap.size ≤ q → A q := fun q h => by rw [← hAe]; exact Or.inr h
  have hS : va_S A s.heap s.heap [] := va_S.rf
  refine lv_aload_n hx hb d_M_print_0 rfl (lv_at hl 0 rfl) ?_
  refine lv_iconst (v := 4) hx hb d_M_print_1 (by decide) ?_
  refine lv_iconst (v := 1) hx hb d_M_print_2 (by decide) ?_
  refine lv_iconst (v := 1) hx hb d_M_print_3 (by decide) ?_
  refine lv_aload_n hx hb d_M_print_4 rfl (lv_at hl 0 rfl) ?_
  refine m_get (D := G) (ci := 6) (v := .int z) (C := nR_M) (T := nT_M) (N := 21) hx hb hta in_M hown hK hM hmp.1 rfl 15 (by decide) (hta _ aw_558) (fun _ h9 => h9) rfl d_M_print_5 ?_
  refine lv_iconst (v := 1) hx hb d_M_print_8 (by decide) ?_
  have hF := mw_free hM hS hA
  refine va_calli (va_runV (As := [.int 4, .int 1, .int 1, .int z, .int 1]) (rest := []) ⟨hx, hb, hml, hown, hta⟩ (k_M_goes_4 l G q0 q1 cI ty2 w hmp.1 hmp.2 1 1 z 1 _) (cV 5 hta aw_619 aw_5 aw_616 aw_618 as_SceneTimesModel_goes rfl rfl (by decide +kernel) ⟨Nat.le_of_ble_eq_true rfl, Nat.le_of_ble_eq_true rfl⟩) (pZ_V hK hM rfl hmp.1) rfl rfl hl.1 rfl (lv_room (Nat.le_of_ble_eq_true rfl)) d_M_print_9 ⟨Nat.le_of_ble_eq_true rfl, Nat.le_of_ble_eq_true rfl⟩) hS (fun q _ h => hF q h) hF (fun r_1 u_r_1 t H locs ht hvm hr_1 hB hz1 hk1 hS => ?_)
  obtain ⟨hM1, hK1⟩ := hB
  rw [ht] at hM1
  have hM := mw_weaken hM1 hF
  clear hM1 hK1 hF hk1 hz1
  obtain ⟨w_2, hw_2⟩ : ∃ z9 : Nat → Option va_E, z9 = va_up w mm (some (.inr (6, [.int (nI (gT 4 (gC 1 1 z 1))), .int no, .int wr, .int n, .ref (ad 0), .ref (ad 1), .ref (ad 2), .ref (ad 3), .ref (ad 4), .ref (ad 5), .int k, .ref (ad 6), .ref (ad 7), .ref (ad 8), .ref (ad 9), .int z, .int r, .int so, .ref (ad 10), .int pr, .ref (ad 11)]))) := ⟨_, rfl⟩
  rw [← hw_2] at hM
  have mp_3 : mPic w_2 mm cI ad f (nI (gT 4 (gC 1 1 z 1))) no wr n k z r so pr := by rw [hw_2]; exact mp_obj hmp (nI (gT 4 (gC 1 1 z 1))) no wr n k z r so pr
  refine lv_if_ne (tgt := 17) hx hb d_M_print_12 (by decide) (fun c_4 => ?_) (fun c_4 => ?_)
  · have hc := go_t hr_1 c_4
    refine lv_aload_n hx hb d_M_print_17 rfl (lv_at hl 0 rfl) ?_
    refine lv_iconst (v := 0) hx hb d_M_print_18 (by decide) ?_
    refine m_put (D := G) (ci := 6) (v := .int 0) (ty := .int) (C := nR_M) (T := nT_M) (N := 21) hx hb hta in_M nt_M nt_M_ok nn_M hown hK hM hS mp_3.1 rfl 19 (by decide) (hta _ aw_562) (fun _ h9 => h9) rfl (by decide +kernel) rfl rfl (Nat.le_of_ble_eq_true rfl) d_M_print_19 (fs' := [.int (nI (gT 4 (gC 1 1 z 1))), .int no, .int wr, .int n, .ref (ad 0), .ref (ad 1), .ref (ad 2), .ref (ad 3), .ref (ad 4), .ref (ad 5), .int k, .ref (ad 6), .ref (ad 7), .ref (ad 8), .ref (ad 9), .int z, .int r, .int so, .ref (ad 10), .int 0, .ref (ad 11)]) rfl (fun H locs hM hS => ?_)
    obtain ⟨w_5, hw_5⟩ : ∃ z9 : Nat → Option va_E, z9 = va_up w_2 mm (some (.inr (6, [.int (nI (gT 4 (gC 1 1 z 1))), .int no, .int wr, .int n, .ref (ad 0), .ref (ad 1), .ref (ad 2), .ref (ad 3), .ref (ad 4), .ref (ad 5), .int k, .ref (ad 6), .ref (ad 7), .ref (ad 8), .ref (ad 9), .int z, .int r, .int so, .ref (ad 10), .int 0, .ref (ad 11)]))) := ⟨_, rfl⟩
    rw [← hw_5] at hM
    have mp_6 : mPic w_5 mm cI ad f (nI (gT 4 (gC 1 1 z 1))) no wr n k z r so 0 := by rw [hw_5]; exact mp_obj mp_3 (nI (gT 4 (gC 1 1 z 1))) no wr n k z r so 0
    have hp0 : mPic w_5 mm cI ad (va_up f 11 (f 11)) (nI (gT 4 (gC 1 1 z 1))) no wr n k z r so (nI 0) := by have q := mp_6; rw [va_up_id]; exact q
    have hl0 := numB_len rr hr9
    have hS9 : shtB f so ka rr = (84 :: numB (nI rr)) ++ (59 :: rowsB f so ka rr 0) := rfl
    have hlen2 := hlen
    rw [hS9] at hlen2
    simp only [List.length_append, List.length_cons] at hlen2
    have loop : ∀ (m9 i : Nat) (g : Nat → Int32) (q : Nat) (w1 : Nat → Option va_E) (H : Heap) (locs : List Loc) (ls : Array Slot), i + m9 = rr → 0 < q → g (q - 1) = 59 → apF g q (rowsB f so ka m9 i) = (apF (f 11) 0 (shtB f so ka rr)) → q + (rowsB f so ka m9 i).length = (shtB f so ka rr).length → mPic w1 mm cI ad (va_up f 11 g) (nI (gT 4 (gC 1 1 z 1))) no wr n k z r so (nI q) → mw G ncl A w1 H → va_S A s.heap H locs → lv_has ls 4 [(0, .ref mm), (1, .int (nI i))] → W p l e (headSpec (wm y_M_print c_M_print 4 (some .int)) ({ frames := 2, cells := 0, slots := 0, locals := 45 })).room s m ([.ref mm] : List Value).toArray below meth c H locs 0 0 (MQ below (va_Qi (fun (r0 : Int32) (u : Nat → Option va_E) => (¬ gC 1 1 z 1 = 0 → mPic u mm cI ad f (nI (gT 4 (gC 1 1 z 1))) no wr n k z r so pr) ∧ (gC 1 1 z 1 = 0 → r0 = nI (shtB f so ka rr).length ∧ mPic u mm cI ad (va_up f 11 (apF (f 11) 0 (shtB f so ka rr))) 0 no wr n k z r so (nI (shtB f so ka rr).length))) (fun w2 t => mw G ncl A w2 t.heap ∧ va_K G ncl (q0 :: q1 :: (cI, .int) :: ty2) t) A) ([.ref mm] : List Value).toArray s 0 0 A) (F0 m 40 ls []) := by
      intro m9
      induction m9 with
      | zero =>
        intro i g q w1 H locs ls hi hq0 hg hfin hq hp hM hS hl
        have hq : q = (shtB f so ka rr).length := hq
        have hfin : g = apF (f 11) 0 (shtB f so ka rr) := hfin
        refine lv_iload_n hx hb d_M_print_40 rfl (lv_at hl 1 rfl) ?_
        refine lv_aload_n hx hb d_M_print_41 rfl (lv_at hl 0 rfl) ?_
        refine m_get (D := G) (ci := 6) (v := .int r) (C := nR_M) (T := nT_M) (N := 21) hx hb hta in_M hown hK hM hp.1 rfl 16 (by decide) (hta _ aw_559) (fun _ h9 => h9) rfl d_M_print_42 ?_
        refine lv_icmp_ge (tgt := 173) hx hb d_M_print_45 (by decide) (fun c_57 => ?_) (fun c_57 => absurd (by rw [er]; exact nI_le (by omega) (by omega)) c_57)
        refine lv_aload_n hx hb d_M_print_173 rfl (lv_at hl 0 rfl) ?_
        refine m_get (D := G) (ci := 6) (v := .int (nI q)) (C := nR_M) (T := nT_M) (N := 21) hx hb hta in_M hown hK hM hp.1 rfl 19 (by decide) (hta _ aw_562) (fun _ h9 => h9) rfl d_M_print_174 ?_
        exact W.iret (v := nI q) hx hb hr (fun t ht hW => ⟨⟨nI q, w1, rfl, (by exact ⟨fun z9 => absurd hc z9, fun _ => ⟨by rw [← hq], by rw [← hq, ← hfin]; have z9 := hp; rw [hc] at z9; exact z9⟩⟩), by rw [ht]; exact hM, va_K.moved hW.alike hK⟩, hS.F ht⟩) hS.2.2 d_M_print_177
      | succ m9 ih =>
        intro i g q w1 H locs ls hi hq0 hg hfin hq hp hM hS hl
        obtain ⟨q8, rfl⟩ : ∃ z9 : Nat, q = z9 + 1 := ⟨q - 1, by omega⟩
        have hg : g q8 = 59 := hg
        have hrj := hrn i (by omega)
        have hrv := hrg i (by omega)
        have hfin : apF g (q8 + 1) (rowB f so ka (f 10 i).toNatClampNeg ++ rowsB f so ka m9 (i + 1)) = (apF (f 11) 0 (shtB f so ka rr)) := hfin
        have hq : q8 + 1 + (rowB f so ka (f 10 i).toNatClampNeg ++ rowsB f so ka m9 (i + 1)).length = (shtB f so ka rr).length := hq
        rw [row_app] at hfin hq
        simp only [List.length_append, List.length_cons] at hq
        have hp_0 : w1 (ad 0) = some (aI cI 100 (f 0)) := hp.2 0 (by decide)
        have hp_1 : w1 (ad 1) = some (aI cI 100 (f 1)) := hp.2 1 (by decide)
        have hp_2 : w1 (ad 2) = some (aI cI 100 (f 2)) := hp.2 2 (by decide)
        have hp_3 : w1 (ad 3) = some (aI cI 100 (f 3)) := hp.2 3 (by decide)
        have hp_10 : w1 (ad 10) = some (aI cI 100 (f 10)) := hp.2 10 (by decide)
        have hp_11 : w1 (ad 11) = some (aI cI 2400 (g)) := hp.2 11 (by decide)
        refine lv_iload_n hx hb d_M_print_40 rfl (lv_at hl 1 rfl) ?_
        refine lv_aload_n hx hb d_M_print_41 rfl (lv_at hl 0 rfl) ?_
        refine m_get (D := G) (ci := 6) (v := .int r) (C := nR_M) (T := nT_M) (N := 21) hx hb hta in_M hown hK hM hp.1 rfl 16 (by decide) (hta _ aw_559) (fun _ h9 => h9) rfl d_M_print_42 ?_
        refine lv_icmp_ge (tgt := 173) hx hb d_M_print_45 (by decide) (fun c_108 => absurd c_108 (by rw [er]; exact nI_ge (by omega) (by omega))) (fun c_108 => ?_)
        refine lv_aload_n hx hb d_M_print_48 rfl (lv_at hl 0 rfl) ?_
        refine m_get (D := G) (ci := 6) (v := .ref (ad 10)) (C := nR_M) (T := nT_M) (N := 21) hx hb hta in_M hown hK hM hp.1 rfl 18 (by decide) (hta _ aw_561) (fun _ h9 => h9) rfl d_M_print_49 ?_
        refine lv_iload_n hx hb d_M_print_52 rfl (lv_at hl 1 rfl) ?_
        refine m_ialv hx hb hK hM 2 hp_10 rfl (vp_in_nI (by omega) (by omega)) (v := f 10 i) (by rw [nI_clamp (by omega)]) d_M_print_53 ?_
        refine lv_istore_n (lv' := [(2, .int (f 10 i)), (0, .ref mm), (1, .int (nI i))]) hx hb d_M_print_54 rfl hl (by decide) rfl (fun ls hl => ?_)
        refine lv_aload_n hx hb d_M_print_55 rfl (lv_at hl 1 rfl) ?_
        refine lv_dup hx hb d_M_print_56 rfl ?_
        refine m_get (D := G) (ci := 6) (v := .int (nI (q8 + 1))) (C := nR_M) (T := nT_M) (N := 21) hx hb hta in_M hown hK hM hp.1 rfl 19 (by decide) (hta _ aw_562) (fun _ h9 => h9) rfl d_M_print_57 ?_
        refine lv_iconst (v := 1) hx hb d_M_print_60 (by decide) ?_
        refine lv_isub hx hb d_M_print_61 ?_
        refine m_put (D := G) (ci := 6) (v := .int ((nI (q8 + 1)) - 1)) (ty := .int) (C := nR_M) (T := nT_M) (N := 21) hx hb hta in_M nt_M nt_M_ok nn_M hown hK hM hS hp.1 rfl 19 (by decide) (hta _ aw_562) (fun _ h9 => h9) rfl (by decide +kernel) rfl rfl (Nat.le_of_ble_eq_true rfl) d_M_print_62 (fs' := [.int (nI (gT 4 (gC 1 1 z 1))), .int no, .int wr, .int n, .ref (ad 0), .ref (ad 1), .ref (ad 2), .ref (ad 3), .ref (ad 4), .ref (ad 5), .int k, .ref (ad 6), .ref (ad 7), .ref (ad 8), .ref (ad 9), .int z, .int r, .int so, .ref (ad 10), .int ((nI (q8 + 1)) - 1), .ref (ad 11)]) rfl (fun H locs hM hS => ?_)
        obtain ⟨w_109, hw_109⟩ : ∃ z9 : Nat → Option va_E, z9 = va_up w1 mm (some (.inr (6, [.int (nI (gT 4 (gC 1 1 z 1))), .int no, .int wr, .int n, .ref (ad 0), .ref (ad 1), .ref (ad 2), .ref (ad 3), .ref (ad 4), .ref (ad 5), .int k, .ref (ad 6), .ref (ad 7), .ref (ad 8), .ref (ad 9), .int z, .int r, .int so, .ref (ad 10), .int ((nI (q8 + 1)) - 1), .ref (ad 11)]))) := ⟨_, rfl⟩
        rw [← hw_109] at hM
        have mp_110 : mPic w_109 mm cI ad (va_up f 11 g) (nI (gT 4 (gC 1 1 z 1))) no wr n k z r so ((nI (q8 + 1)) - 1) := by rw [hw_109]; exact mp_obj hp (nI (gT 4 (gC 1 1 z 1))) no wr n k z r so ((nI (q8 + 1)) - 1)
        have k_111 : w_109 (ad 0) = some (aI cI 100 ((va_up f 11 g) 0)) := mp_110.2 0 (by decide)
        have k_112 : w_109 (ad 1) = some (aI cI 100 ((va_up f 11 g) 1)) := mp_110.2 1 (by decide)
        have k_113 : w_109 (ad 2) = some (aI cI 100 ((va_up f 11 g) 2)) := mp_110.2 2 (by decide)
        have k_114 : w_109 (ad 3) = some (aI cI 100 ((va_up f 11 g) 3)) := mp_110.2 3 (by decide)
        have k_115 : w_109 (ad 10) = some (aI cI 100 ((va_up f 11 g) 10)) := mp_110.2 10 (by decide)
        have k_116 : w_109 (ad 11) = some (aI cI 2400 ((va_up f 11 g) 11)) := mp_110.2 11 (by decide)
        have hp1 : mPic w_109 mm cI ad (va_up f 11 g) (nI (gT 4 (gC 1 1 z 1))) no wr n k z r so (nI q8) := by have z9 := mp_110; rw [nI_pred] at z9; exact z9
        have hp1_0 : w_109 (ad 0) = some (aI cI 100 (f 0)) := hp1.2 0 (by decide)
        have hp1_1 : w_109 (ad 1) = some (aI cI 100 (f 1)) := hp1.2 1 (by decide)
        have hp1_2 : w_109 (ad 2) = some (aI cI 100 (f 2)) := hp1.2 2 (by decide)
        have hp1_3 : w_109 (ad 3) = some (aI cI 100 (f 3)) := hp1.2 3 (by decide)
        have hp1_10 : w_109 (ad 10) = some (aI cI 100 (f 10)) := hp1.2 10 (by decide)
        have hp1_11 : w_109 (ad 11) = some (aI cI 2400 (g)) := hp1.2 11 (by decide)
        refine lv_aload_n hx hb d_M_print_65 rfl (lv_at hl 1 rfl) ?_
        refine m_get (D := G) (ci := 6) (v := .ref (ad 11)) (C := nR_M) (T := nT_M) (N := 21) hx hb hta in_M hown hK hM hp1.1 rfl 20 (by decide) (hta _ aw_563) (fun _ h9 => h9) rfl d_M_print_66 ?_
        refine lv_aload_n hx hb d_M_print_69 rfl (lv_at hl 1 rfl) ?_
        refine m_get (D := G) (ci := 6) (v := .int (nI q8)) (C := nR_M) (T := nT_M) (N := 21) hx hb hta in_M hown hK hM hp1.1 rfl 19 (by decide) (hta _ aw_562) (fun _ h9 => h9) rfl d_M_print_70 ?_
        refine m_ialv hx hb hK hM 2 hp1_11 rfl (vp_in_nI (by omega) (by omega)) (v := 59) (by rw [nI_clamp (by omega)]; exact hg) d_M_print_73 ?_
        refine lv_istore_n (lv' := [(3, .int 59), (2, .int (f 10 i)), (0, .ref mm), (1, .int (nI i))]) hx hb d_M_print_74 rfl hl (by decide) rfl (fun ls hl => ?_)
        refine lv_aload_n hx hb d_M_print_75 rfl (lv_at hl 2 rfl) ?_
        refine lv_iload_n hx hb d_M_print_76 rfl (lv_at hl 0 rfl) ?_
        refine lv_aload_n hx hb d_M_print_77 rfl (lv_at hl 2 rfl) ?_
        refine m_get (D := G) (ci := 6) (v := .ref (ad 3)) (C := nR_M) (T := nT_M) (N := 21) hx hb hta in_M hown hK hM hp1.1 rfl 7 (by decide) (hta _ aw_550) (fun _ h9 => h9) rfl d_M_print_78 ?_
        refine lv_iload_n hx hb d_M_print_81 rfl (lv_at hl 1 rfl) ?_
        refine m_iald hx hb hK hM 2 hp1_3 rfl (by rw [hrj.1]; exact vp_in_nI hrj.2 (by omega)) d_M_print_82 ?_
        have hF := mw_free hM hS hA
        refine va_callv (va_runV (As := [.int 59, .int ((f 3) (f 10 i).toNatClampNeg)]) (rest := []) ⟨hx, hb, hml, hown, hta⟩ (k_M_number l G q0 q1 cI ty2 w_109 had hp1 (pp := q8) rfl 59 ((f 3) (f 10 i).toNatClampNeg) hrv.1 (by simp only [List.length_cons]; omega) _) (cV 2 hta aw_705 aw_5 aw_702 aw_704 as_SceneTimesModel_number rfl rfl (by decide +kernel) ⟨Nat.le_of_ble_eq_true rfl, Nat.le_of_ble_eq_true rfl⟩) (pZ_V hK hM rfl hp1.1) rfl rfl hl.1 rfl (lv_room (Nat.le_of_ble_eq_true rfl)) d_M_print_83 ⟨Nat.le_of_ble_eq_true rfl, Nat.le_of_ble_eq_true rfl⟩) hS (fun q _ h => hF q h) hF (fun u_r_167 t H locs ht hvm hr_167 hB hz1 hk1 hS => ?_)
        obtain ⟨hM1, hK1⟩ := hB
        rw [ht] at hM1
        have hM := mw_weaken hM1 hF
        clear hM1 hK1 hF hk1 hz1
        obtain ⟨g_169, eg_169⟩ : ∃ z9 : Nat → Int32, z9 = (apF g q8 (59 :: numB ((f 3) (f 10 i).toNatClampNeg))) := ⟨_, rfl⟩
        obtain ⟨q_170, eq_170⟩ : ∃ z9 : Nat, z9 = q8 + ((numB ((f 3) (f 10 i).toNatClampNeg)).length + 1) := ⟨_, rfl⟩
        have hp_168 : mPic u_r_167 mm cI ad (va_up f 11 g_169) (nI (gT 4 (gC 1 1 z 1))) no wr n k z r so (nI q_170) := by have z := hr_167; rw [va_up_up] at z; rw [eg_169, eq_170]; exact z
        have k_171 : u_r_167 (ad 0) = some (aI cI 100 (f 0)) := hp_168.2 0 (by decide)
        have k_172 : u_r_167 (ad 1) = some (aI cI 100 (f 1)) := hp_168.2 1 (by decide)
        have k_173 : u_r_167 (ad 2) = some (aI cI 100 (f 2)) := hp_168.2 2 (by decide)
        have k_174 : u_r_167 (ad 3) = some (aI cI 100 (f 3)) := hp_168.2 3 (by decide)
        have k_175 : u_r_167 (ad 10) = some (aI cI 100 (f 10)) := hp_168.2 10 (by decide)
        have k_176 : u_r_167 (ad 11) = some (aI cI 2400 (g_169)) := hp_168.2 11 (by decide)
        refine lv_aload_n hx hb d_M_print_86 rfl (lv_at hl 2 rfl) ?_
        refine lv_bipush (v := 58) hx hb d_M_print_87 (by decide) ?_
        have hF := mw_free hM hS hA
        refine va_callv (va_runV (As := [.int 58]) (rest := []) ⟨hx, hb, hml, hown, hta⟩ (k_M_put l G q0 q1 cI ty2 u_r_167 had hp_168 (pp := q_170) (by omega) rfl 58 _) (cV 1 hta aw_709 aw_5 aw_706 aw_708 as_SceneTimesModel_put rfl rfl (by decide +kernel) ⟨Nat.le_of_ble_eq_true rfl, Nat.le_of_ble_eq_true rfl⟩) (pZ_V hK hM rfl hp_168.1) rfl rfl hl.1 rfl (lv_room (Nat.le_of_ble_eq_true rfl)) d_M_print_89 ⟨Nat.le_of_ble_eq_true rfl, Nat.le_of_ble_eq_true rfl⟩) hS (fun q _ h => hF q h) hF (fun u_r_177 t H locs ht hvm hr_177 hB hz1 hk1 hS => ?_)
        obtain ⟨hM1, hK1⟩ := hB
        rw [ht] at hM1
        have hM := mw_weaken hM1 hF
        clear hM1 hK1 hF hk1 hz1
        obtain ⟨g_178, eg_178⟩ : ∃ z9 : Nat → Int32, z9 = upd g_169 q_170 58 := ⟨_, rfl⟩
        obtain ⟨q_179, eq_179⟩ : ∃ z9 : Nat, z9 = q_170 + 1 := ⟨_, rfl⟩
        have hp_180 : mPic u_r_177 mm cI ad (va_up f 11 g_178) (nI (gT 4 (gC 1 1 z 1))) no wr n k z r so (nI q_179) := by have z := hr_177; rw [va_up_up, nI_1] at z; rw [eg_178, eq_179]; exact z
        have k_181 : u_r_177 (ad 0) = some (aI cI 100 (f 0)) := hp_180.2 0 (by decide)
        have k_182 : u_r_177 (ad 1) = some (aI cI 100 (f 1)) := hp_180.2 1 (by decide)
        have k_183 : u_r_177 (ad 2) = some (aI cI 100 (f 2)) := hp_180.2 2 (by decide)
        have k_184 : u_r_177 (ad 3) = some (aI cI 100 (f 3)) := hp_180.2 3 (by decide)
        have k_185 : u_r_177 (ad 10) = some (aI cI 100 (f 10)) := hp_180.2 10 (by decide)
        have k_186 : u_r_177 (ad 11) = some (aI cI 2400 (g_178)) := hp_180.2 11 (by decide)
        refine lv_aload_n hx hb d_M_print_92 rfl (lv_at hl 2 rfl) ?_
        refine lv_bipush (v := 119) hx hb d_M_print_93 (by decide) ?_
        refine lv_aload_n hx hb d_M_print_95 rfl (lv_at hl 2 rfl) ?_
        refine m_get (D := G) (ci := 6) (v := .ref (ad 0)) (C := nR_M) (T := nT_M) (N := 21) hx hb hta in_M hown hK hM hp_180.1 rfl 4 (by decide) (hta _ aw_547) (fun _ h9 => h9) rfl d_M_print_96 ?_
        refine lv_iload_n hx hb d_M_print_99 rfl (lv_at hl 1 rfl) ?_
        refine m_iald hx hb hK hM 2 k_181 rfl (by rw [hrj.1]; exact vp_in_nI hrj.2 (by omega)) d_M_print_100 ?_
        have hF := mw_free hM hS hA
        refine va_callv (va_runV (As := [.int 119, .int ((f 0) (f 10 i).toNatClampNeg)]) (rest := []) ⟨hx, hb, hml, hown, hta⟩ (k_M_number l G q0 q1 cI ty2 u_r_177 had hp_180 (pp := q_179) rfl 119 ((f 0) (f 10 i).toNatClampNeg) hrv.2.1 (by simp only [List.length_cons]; omega) _) (cV 2 hta aw_705 aw_5 aw_702 aw_704 as_SceneTimesModel_number rfl rfl (by decide +kernel) ⟨Nat.le_of_ble_eq_true rfl, Nat.le_of_ble_eq_true rfl⟩) (pZ_V hK hM rfl hp_180.1) rfl rfl hl.1 rfl (lv_room (Nat.le_of_ble_eq_true rfl)) d_M_print_101 ⟨Nat.le_of_ble_eq_true rfl, Nat.le_of_ble_eq_true rfl⟩) hS (fun q _ h => hF q h) hF (fun u_r_187 t H locs ht hvm hr_187 hB hz1 hk1 hS => ?_)
        obtain ⟨hM1, hK1⟩ := hB
        rw [ht] at hM1
        have hM := mw_weaken hM1 hF
        clear hM1 hK1 hF hk1 hz1
        obtain ⟨g_189, eg_189⟩ : ∃ z9 : Nat → Int32, z9 = (apF g_178 q_179 (119 :: numB ((f 0) (f 10 i).toNatClampNeg))) := ⟨_, rfl⟩
        obtain ⟨q_190, eq_190⟩ : ∃ z9 : Nat, z9 = q_179 + ((numB ((f 0) (f 10 i).toNatClampNeg)).length + 1) := ⟨_, rfl⟩
        have hp_188 : mPic u_r_187 mm cI ad (va_up f 11 g_189) (nI (gT 4 (gC 1 1 z 1))) no wr n k z r so (nI q_190) := by have z := hr_187; rw [va_up_up] at z; rw [eg_189, eq_190]; exact z
        have k_191 : u_r_187 (ad 0) = some (aI cI 100 (f 0)) := hp_188.2 0 (by decide)
        have k_192 : u_r_187 (ad 1) = some (aI cI 100 (f 1)) := hp_188.2 1 (by decide)
        have k_193 : u_r_187 (ad 2) = some (aI cI 100 (f 2)) := hp_188.2 2 (by decide)
        have k_194 : u_r_187 (ad 3) = some (aI cI 100 (f 3)) := hp_188.2 3 (by decide)
        have k_195 : u_r_187 (ad 10) = some (aI cI 100 (f 10)) := hp_188.2 10 (by decide)
        have k_196 : u_r_187 (ad 11) = some (aI cI 2400 (g_189)) := hp_188.2 11 (by decide)
        refine lv_aload_n hx hb d_M_print_104 rfl (lv_at hl 2 rfl) ?_
        refine lv_bipush (v := 107) hx hb d_M_print_105 (by decide) ?_
        refine lv_aload_n hx hb d_M_print_107 rfl (lv_at hl 2 rfl) ?_
        refine m_get (D := G) (ci := 6) (v := .ref (ad 1)) (C := nR_M) (T := nT_M) (N := 21) hx hb hta in_M hown hK hM hp_188.1 rfl 5 (by decide) (hta _ aw_548) (fun _ h9 => h9) rfl d_M_print_108 ?_
        refine lv_iload_n hx hb d_M_print_111 rfl (lv_at hl 1 rfl) ?_
        refine m_iald hx hb hK hM 2 k_192 rfl (by rw [hrj.1]; exact vp_in_nI hrj.2 (by omega)) d_M_print_112 ?_
        have hF := mw_free hM hS hA
        refine va_callv (va_runV (As := [.int 107, .int ((f 1) (f 10 i).toNatClampNeg)]) (rest := []) ⟨hx, hb, hml, hown, hta⟩ (k_M_number l G q0 q1 cI ty2 u_r_187 had hp_188 (pp := q_190) rfl 107 ((f 1) (f 10 i).toNatClampNeg) hrv.2.2.1 (by simp only [List.length_cons]; omega) _) (cV 2 hta aw_705 aw_5 aw_702 aw_704 as_SceneTimesModel_number rfl rfl (by decide +kernel) ⟨Nat.le_of_ble_eq_true rfl, Nat.le_of_ble_eq_true rfl⟩) (pZ_V hK hM rfl hp_188.1) rfl rfl hl.1 rfl (lv_room (Nat.le_of_ble_eq_true rfl)) d_M_print_113 ⟨Nat.le_of_ble_eq_true rfl, Nat.le_of_ble_eq_true rfl⟩) hS (fun q _ h => hF q h) hF (fun u_r_197 t H locs ht hvm hr_197 hB hz1 hk1 hS => ?_)
        obtain ⟨hM1, hK1⟩ := hB
        rw [ht] at hM1
        have hM := mw_weaken hM1 hF
        clear hM1 hK1 hF hk1 hz1
        obtain ⟨g_199, eg_199⟩ : ∃ z9 : Nat → Int32, z9 = (apF g_189 q_190 (107 :: numB ((f 1) (f 10 i).toNatClampNeg))) := ⟨_, rfl⟩
        obtain ⟨q_200, eq_200⟩ : ∃ z9 : Nat, z9 = q_190 + ((numB ((f 1) (f 10 i).toNatClampNeg)).length + 1) := ⟨_, rfl⟩
        have hp_198 : mPic u_r_197 mm cI ad (va_up f 11 g_199) (nI (gT 4 (gC 1 1 z 1))) no wr n k z r so (nI q_200) := by have z := hr_197; rw [va_up_up] at z; rw [eg_199, eq_200]; exact z
        have k_201 : u_r_197 (ad 0) = some (aI cI 100 (f 0)) := hp_198.2 0 (by decide)
        have k_202 : u_r_197 (ad 1) = some (aI cI 100 (f 1)) := hp_198.2 1 (by decide)
        have k_203 : u_r_197 (ad 2) = some (aI cI 100 (f 2)) := hp_198.2 2 (by decide)
        have k_204 : u_r_197 (ad 3) = some (aI cI 100 (f 3)) := hp_198.2 3 (by decide)
        have k_205 : u_r_197 (ad 10) = some (aI cI 100 (f 10)) := hp_198.2 10 (by decide)
        have k_206 : u_r_197 (ad 11) = some (aI cI 2400 (g_199)) := hp_198.2 11 (by decide)
        refine lv_aload_n hx hb d_M_print_116 rfl (lv_at hl 2 rfl) ?_
        refine lv_bipush (v := 115) hx hb d_M_print_117 (by decide) ?_
        refine lv_aload_n hx hb d_M_print_119 rfl (lv_at hl 2 rfl) ?_
        refine m_get (D := G) (ci := 6) (v := .ref (ad 2)) (C := nR_M) (T := nT_M) (N := 21) hx hb hta in_M hown hK hM hp_198.1 rfl 6 (by decide) (hta _ aw_549) (fun _ h9 => h9) rfl d_M_print_120 ?_
        refine lv_iload_n hx hb d_M_print_123 rfl (lv_at hl 1 rfl) ?_
        refine m_iald hx hb hK hM 2 k_203 rfl (by rw [hrj.1]; exact vp_in_nI hrj.2 (by omega)) d_M_print_124 ?_
        have hF := mw_free hM hS hA
        refine va_callv (va_runV (As := [.int 115, .int ((f 2) (f 10 i).toNatClampNeg)]) (rest := []) ⟨hx, hb, hml, hown, hta⟩ (k_M_number l G q0 q1 cI ty2 u_r_197 had hp_198 (pp := q_200) rfl 115 ((f 2) (f 10 i).toNatClampNeg) hrv.2.2.2.1 (by simp only [List.length_cons]; omega) _) (cV 2 hta aw_705 aw_5 aw_702 aw_704 as_SceneTimesModel_number rfl rfl (by decide +kernel) ⟨Nat.le_of_ble_eq_true rfl, Nat.le_of_ble_eq_true rfl⟩) (pZ_V hK hM rfl hp_198.1) rfl rfl hl.1 rfl (lv_room (Nat.le_of_ble_eq_true rfl)) d_M_print_125 ⟨Nat.le_of_ble_eq_true rfl, Nat.le_of_ble_eq_true rfl⟩) hS (fun q _ h => hF q h) hF (fun u_r_207 t H locs ht hvm hr_207 hB hz1 hk1 hS => ?_)
        obtain ⟨hM1, hK1⟩ := hB
        rw [ht] at hM1
        have hM := mw_weaken hM1 hF
        clear hM1 hK1 hF hk1 hz1
        obtain ⟨g_209, eg_209⟩ : ∃ z9 : Nat → Int32, z9 = (apF g_199 q_200 (115 :: numB ((f 2) (f 10 i).toNatClampNeg))) := ⟨_, rfl⟩
        obtain ⟨q_210, eq_210⟩ : ∃ z9 : Nat, z9 = q_200 + ((numB ((f 2) (f 10 i).toNatClampNeg)).length + 1) := ⟨_, rfl⟩
        have hp_208 : mPic u_r_207 mm cI ad (va_up f 11 g_209) (nI (gT 4 (gC 1 1 z 1))) no wr n k z r so (nI q_210) := by have z := hr_207; rw [va_up_up] at z; rw [eg_209, eq_210]; exact z
        have k_211 : u_r_207 (ad 0) = some (aI cI 100 (f 0)) := hp_208.2 0 (by decide)
        have k_212 : u_r_207 (ad 1) = some (aI cI 100 (f 1)) := hp_208.2 1 (by decide)
        have k_213 : u_r_207 (ad 2) = some (aI cI 100 (f 2)) := hp_208.2 2 (by decide)
        have k_214 : u_r_207 (ad 3) = some (aI cI 100 (f 3)) := hp_208.2 3 (by decide)
        have k_215 : u_r_207 (ad 10) = some (aI cI 100 (f 10)) := hp_208.2 10 (by decide)
        have k_216 : u_r_207 (ad 11) = some (aI cI 2400 (g_209)) := hp_208.2 11 (by decide)
        refine lv_aload_n hx hb d_M_print_128 rfl (lv_at hl 2 rfl) ?_
        refine lv_bipush (v := 61) hx hb d_M_print_129 (by decide) ?_
        refine lv_aload_n hx hb d_M_print_131 rfl (lv_at hl 2 rfl) ?_
        refine lv_iload_n hx hb d_M_print_132 rfl (lv_at hl 1 rfl) ?_
        refine lv_aload_n hx hb d_M_print_133 rfl (lv_at hl 2 rfl) ?_
        refine m_get (D := G) (ci := 6) (v := .int so) (C := nR_M) (T := nT_M) (N := 21) hx hb hta in_M hown hK hM hp_208.1 rfl 17 (by decide) (hta _ aw_560) (fun _ h9 => h9) rfl d_M_print_134 ?_
        refine vp_callSi (W.runV (As := [.int (f 10 i), .int so]) (rest := [.int 61, .ref mm]) ⟨hx, hb, hml, hown, hta⟩ (k_M_value_x l G q0 q1 cI ty2 u_r_207 hp_208.1 hp_208.2 hk ek (f 10 i).toNatClampNeg hrj.2 so (f 10 i) hrj.1) (cV 2 hta aw_674 aw_5 aw_671 aw_673 as_SceneTimesModel_value rfl rfl (by decide +kernel) ⟨Nat.le_of_ble_eq_true rfl, Nat.le_of_ble_eq_true rfl⟩) (pW_V hK hM rfl hp_208.1) rfl rfl hl.1 rfl (lv_room (Nat.le_of_ble_eq_true rfl)) d_M_print_137 ⟨Nat.le_of_ble_eq_true rfl, Nat.le_of_ble_eq_true rfl⟩) (fun r_217 hr_217 => ?_)
        rw [valM_11] at hr_217
        have hF := mw_free hM hS hA
        refine va_callv (va_runV (As := [.int 61, .int r_217]) (rest := []) ⟨hx, hb, hml, hown, hta⟩ (k_M_number l G q0 q1 cI ty2 u_r_207 had hp_208 (pp := q_210) rfl 61 r_217 (by rw [hr_217]; exact hrv.2.2.2.2) (by simp only [List.length_cons]; rw [hr_217]; omega) _) (cV 2 hta aw_705 aw_5 aw_702 aw_704 as_SceneTimesModel_number rfl rfl (by decide +kernel) ⟨Nat.le_of_ble_eq_true rfl, Nat.le_of_ble_eq_true rfl⟩) (pZ_V hK hM rfl hp_208.1) rfl rfl hl.1 rfl (lv_room (Nat.le_of_ble_eq_true rfl)) d_M_print_140 ⟨Nat.le_of_ble_eq_true rfl, Nat.le_of_ble_eq_true rfl⟩) hS (fun q _ h => hF q h) hF (fun u_r_218 t H locs ht hvm hr_218 hB hz1 hk1 hS => ?_)
        obtain ⟨hM1, hK1⟩ := hB
        rw [ht] at hM1
        have hM := mw_weaken hM1 hF
        clear hM1 hK1 hF hk1 hz1
        obtain ⟨g_220, eg_220⟩ : ∃ z9 : Nat → Int32, z9 = (apF g_209 q_210 (61 :: numB r_217)) := ⟨_, rfl⟩
        obtain ⟨q_221, eq_221⟩ : ∃ z9 : Nat, z9 = q_210 + ((numB r_217).length + 1) := ⟨_, rfl⟩
        have hp_219 : mPic u_r_218 mm cI ad (va_up f 11 g_220) (nI (gT 4 (gC 1 1 z 1))) no wr n k z r so (nI q_221) := by have z := hr_218; rw [va_up_up] at z; rw [eg_220, eq_221]; exact z
        have k_222 : u_r_218 (ad 0) = some (aI cI 100 (f 0)) := hp_219.2 0 (by decide)
        have k_223 : u_r_218 (ad 1) = some (aI cI 100 (f 1)) := hp_219.2 1 (by decide)
        have k_224 : u_r_218 (ad 2) = some (aI cI 100 (f 2)) := hp_219.2 2 (by decide)
        have k_225 : u_r_218 (ad 3) = some (aI cI 100 (f 3)) := hp_219.2 3 (by decide)
        have k_226 : u_r_218 (ad 10) = some (aI cI 100 (f 10)) := hp_219.2 10 (by decide)
        have k_227 : u_r_218 (ad 11) = some (aI cI 2400 (g_220)) := hp_219.2 11 (by decide)
        rw [hr_217] at eg_220 eq_221
        refine lv_aload_n hx hb d_M_print_143 rfl (lv_at hl 2 rfl) ?_
        refine lv_iload_n hx hb d_M_print_144 rfl (lv_at hl 1 rfl) ?_
        refine lv_aload_n hx hb d_M_print_145 rfl (lv_at hl 2 rfl) ?_
        refine m_get (D := G) (ci := 6) (v := .int so) (C := nR_M) (T := nT_M) (N := 21) hx hb hta in_M hown hK hM hp_219.1 rfl 17 (by decide) (hta _ aw_560) (fun _ h9 => h9) rfl d_M_print_146 ?_
        refine vp_callSi (W.runV (As := [.int (f 10 i), .int so]) (rest := []) ⟨hx, hb, hml, hown, hta⟩ (k_M_isStruck_x l G q0 q1 cI ty2 u_r_218 hp_219.1 hp_219.2 hk ek (f 10 i).toNatClampNeg so (f 10 i) hrj.1) (cV 2 hta aw_642 aw_5 aw_639 aw_641 as_SceneTimesModel_isStruck rfl rfl (by decide +kernel) ⟨Nat.le_of_ble_eq_true rfl, Nat.le_of_ble_eq_true rfl⟩) (pW_V hK hM rfl hp_219.1) rfl rfl hl.1 rfl (lv_room (Nat.le_of_ble_eq_true rfl)) d_M_print_149 ⟨Nat.le_of_ble_eq_true rfl, Nat.le_of_ble_eq_true rfl⟩) (fun r_228 hr_228 => ?_)
        rw [strM_11] at hr_228
        refine lv_if_eq (tgt := 161) hx hb d_M_print_152 (by decide) (fun c_229 => ?_) (fun c_229 => ?_)
        · rw [hr_228] at c_229
          refine lv_aload_n hx hb d_M_print_161 rfl (lv_at hl 2 rfl) ?_
          refine lv_bipush (v := 59) hx hb d_M_print_162 (by decide) ?_
          have hF := mw_free hM hS hA
          refine va_callv (va_runV (As := [.int 59]) (rest := []) ⟨hx, hb, hml, hown, hta⟩ (k_M_put l G q0 q1 cI ty2 u_r_218 had hp_219 (pp := q_221) (by omega) rfl 59 _) (cV 1 hta aw_709 aw_5 aw_706 aw_708 as_SceneTimesModel_put rfl rfl (by decide +kernel) ⟨Nat.le_of_ble_eq_true rfl, Nat.le_of_ble_eq_true rfl⟩) (pZ_V hK hM rfl hp_219.1) rfl rfl hl.1 rfl (lv_room (Nat.le_of_ble_eq_true rfl)) d_M_print_164 ⟨Nat.le_of_ble_eq_true rfl, Nat.le_of_ble_eq_true rfl⟩) hS (fun q _ h => hF q h) hF (fun u_r_230 t H locs ht hvm hr_230 hB hz1 hk1 hS => ?_)
          obtain ⟨hM1, hK1⟩ := hB
          rw [ht] at hM1
          have hM := mw_weaken hM1 hF
          clear hM1 hK1 hF hk1 hz1
          obtain ⟨g_231, eg_231⟩ : ∃ z9 : Nat → Int32, z9 = upd g_220 q_221 59 := ⟨_, rfl⟩
          obtain ⟨q_232, eq_232⟩ : ∃ z9 : Nat, z9 = q_221 + 1 := ⟨_, rfl⟩
          have hp_233 : mPic u_r_230 mm cI ad (va_up f 11 g_231) (nI (gT 4 (gC 1 1 z 1))) no wr n k z r so (nI q_232) := by have z := hr_230; rw [va_up_up, nI_1] at z; rw [eg_231, eq_232]; exact z
          have k_234 : u_r_230 (ad 0) = some (aI cI 100 (f 0)) := hp_233.2 0 (by decide)
          have k_235 : u_r_230 (ad 1) = some (aI cI 100 (f 1)) := hp_233.2 1 (by decide)
          have k_236 : u_r_230 (ad 2) = some (aI cI 100 (f 2)) := hp_233.2 2 (by decide)
          have k_237 : u_r_230 (ad 3) = some (aI cI 100 (f 3)) := hp_233.2 3 (by decide)
          have k_238 : u_r_230 (ad 10) = some (aI cI 100 (f 10)) := hp_233.2 10 (by decide)
          have k_239 : u_r_230 (ad 11) = some (aI cI 2400 (g_231)) := hp_233.2 11 (by decide)
          obtain ⟨x_240, ex_240⟩ : ∃ y : Int32, y = (nI i) + 1 := ⟨_, rfl⟩
          refine lv_iinc (v := x_240) (lv' := [(1, .int x_240), (3, .int 59), (2, .int (f 10 i)), (0, .ref mm)]) hx hb d_M_print_167 hl (k := 3) rfl (by rw [ex_240]; rfl) (by decide) rfl (fun ls hl => ?_)
          refine lv_goto (tgt := 40) hx hb d_M_print_170 (by decide) ?_
          have hk1 : g_169 = apF g (q8 + 1) (numB (f 3 (f 10 i).toNatClampNeg)) := by rw [eg_169, apF_c, show upd g q8 59 = g by rw [← hg]; exact upd_id g q8]
          have hk2 : q_170 = q8 + 1 + (numB (f 3 (f 10 i).toNatClampNeg)).length := by omega
          rw [if_pos c_229] at hfin hq
          simp only [List.length_nil] at hq
          rw [apF_app, ← hk1, ← hk2, apF_c, ← eg_178, ← eq_179, apF_app, ← eg_189, List.length_cons, ← eq_190, apF_app, ← eg_199, List.length_cons, ← eq_200, apF_app, ← eg_209, List.length_cons, ← eq_210, apF_app, ← eg_220, List.length_cons, ← eq_221, List.nil_append, apF_c, ← eg_231, ← eq_232] at hfin
          have ex : x_240 = nI (i + 1) := by rw [ex_240, nI_1]
          subst ex
          exact ih (i + 1) g_231 q_232 u_r_230 H locs ls (by omega) (by omega) (by rw [eg_231, show q_232 - 1 = q_221 by omega]; exact pk_us) hfin (by omega) hp_233 hM hS (lv_sub hl [3, 0] rfl)
        · rw [hr_228] at c_229
          refine lv_aload_n hx hb d_M_print_155 rfl (lv_at hl 2 rfl) ?_
          refine lv_bipush (v := 120) hx hb d_M_print_156 (by decide) ?_
          rw [if_neg c_229] at hq
          simp only [List.length_cons, List.length_nil] at hq
          have hF := mw_free hM hS hA
          refine va_callv (va_runV (As := [.int 120]) (rest := []) ⟨hx, hb, hml, hown, hta⟩ (k_M_put l G q0 q1 cI ty2 u_r_218 had hp_219 (pp := q_221) (by omega) rfl 120 _) (cV 1 hta aw_709 aw_5 aw_706 aw_708 as_SceneTimesModel_put rfl rfl (by decide +kernel) ⟨Nat.le_of_ble_eq_true rfl, Nat.le_of_ble_eq_true rfl⟩) (pZ_V hK hM rfl hp_219.1) rfl rfl hl.1 rfl (lv_room (Nat.le_of_ble_eq_true rfl)) d_M_print_158 ⟨Nat.le_of_ble_eq_true rfl, Nat.le_of_ble_eq_true rfl⟩) hS (fun q _ h => hF q h) hF (fun u_r_241 t H locs ht hvm hr_241 hB hz1 hk1 hS => ?_)
          obtain ⟨hM1, hK1⟩ := hB
          rw [ht] at hM1
          have hM := mw_weaken hM1 hF
          clear hM1 hK1 hF hk1 hz1
          obtain ⟨g_242, eg_242⟩ : ∃ z9 : Nat → Int32, z9 = upd g_220 q_221 120 := ⟨_, rfl⟩
          obtain ⟨q_243, eq_243⟩ : ∃ z9 : Nat, z9 = q_221 + 1 := ⟨_, rfl⟩
          have hp_244 : mPic u_r_241 mm cI ad (va_up f 11 g_242) (nI (gT 4 (gC 1 1 z 1))) no wr n k z r so (nI q_243) := by have z := hr_241; rw [va_up_up, nI_1] at z; rw [eg_242, eq_243]; exact z
          have k_245 : u_r_241 (ad 0) = some (aI cI 100 (f 0)) := hp_244.2 0 (by decide)
          have k_246 : u_r_241 (ad 1) = some (aI cI 100 (f 1)) := hp_244.2 1 (by decide)
          have k_247 : u_r_241 (ad 2) = some (aI cI 100 (f 2)) := hp_244.2 2 (by decide)
          have k_248 : u_r_241 (ad 3) = some (aI cI 100 (f 3)) := hp_244.2 3 (by decide)
          have k_249 : u_r_241 (ad 10) = some (aI cI 100 (f 10)) := hp_244.2 10 (by decide)
          have k_250 : u_r_241 (ad 11) = some (aI cI 2400 (g_242)) := hp_244.2 11 (by decide)
          refine lv_aload_n hx hb d_M_print_161 rfl (lv_at hl 2 rfl) ?_
          refine lv_bipush (v := 59) hx hb d_M_print_162 (by decide) ?_
          have hF := mw_free hM hS hA
          refine va_callv (va_runV (As := [.int 59]) (rest := []) ⟨hx, hb, hml, hown, hta⟩ (k_M_put l G q0 q1 cI ty2 u_r_241 had hp_244 (pp := q_243) (by omega) rfl 59 _) (cV 1 hta aw_709 aw_5 aw_706 aw_708 as_SceneTimesModel_put rfl rfl (by decide +kernel) ⟨Nat.le_of_ble_eq_true rfl, Nat.le_of_ble_eq_true rfl⟩) (pZ_V hK hM rfl hp_244.1) rfl rfl hl.1 rfl (lv_room (Nat.le_of_ble_eq_true rfl)) d_M_print_164 ⟨Nat.le_of_ble_eq_true rfl, Nat.le_of_ble_eq_true rfl⟩) hS (fun q _ h => hF q h) hF (fun u_r_251 t H locs ht hvm hr_251 hB hz1 hk1 hS => ?_)
          obtain ⟨hM1, hK1⟩ := hB
          rw [ht] at hM1
          have hM := mw_weaken hM1 hF
          clear hM1 hK1 hF hk1 hz1
          obtain ⟨g_252, eg_252⟩ : ∃ z9 : Nat → Int32, z9 = upd g_242 q_243 59 := ⟨_, rfl⟩
          obtain ⟨q_253, eq_253⟩ : ∃ z9 : Nat, z9 = q_243 + 1 := ⟨_, rfl⟩
          have hp_254 : mPic u_r_251 mm cI ad (va_up f 11 g_252) (nI (gT 4 (gC 1 1 z 1))) no wr n k z r so (nI q_253) := by have z := hr_251; rw [va_up_up, nI_1] at z; rw [eg_252, eq_253]; exact z
          have k_255 : u_r_251 (ad 0) = some (aI cI 100 (f 0)) := hp_254.2 0 (by decide)
          have k_256 : u_r_251 (ad 1) = some (aI cI 100 (f 1)) := hp_254.2 1 (by decide)
          have k_257 : u_r_251 (ad 2) = some (aI cI 100 (f 2)) := hp_254.2 2 (by decide)
          have k_258 : u_r_251 (ad 3) = some (aI cI 100 (f 3)) := hp_254.2 3 (by decide)
          have k_259 : u_r_251 (ad 10) = some (aI cI 100 (f 10)) := hp_254.2 10 (by decide)
          have k_260 : u_r_251 (ad 11) = some (aI cI 2400 (g_252)) := hp_254.2 11 (by decide)
          obtain ⟨x_261, ex_261⟩ : ∃ y : Int32, y = (nI i) + 1 := ⟨_, rfl⟩
          refine lv_iinc (v := x_261) (lv' := [(1, .int x_261), (3, .int 59), (2, .int (f 10 i)), (0, .ref mm)]) hx hb d_M_print_167 hl (k := 3) rfl (by rw [ex_261]; rfl) (by decide) rfl (fun ls hl => ?_)
          refine lv_goto (tgt := 40) hx hb d_M_print_170 (by decide) ?_
          have hk1 : g_169 = apF g (q8 + 1) (numB (f 3 (f 10 i).toNatClampNeg)) := by rw [eg_169, apF_c, show upd g q8 59 = g by rw [← hg]; exact upd_id g q8]
          have hk2 : q_170 = q8 + 1 + (numB (f 3 (f 10 i).toNatClampNeg)).length := by omega
          rw [if_neg c_229] at hfin
          rw [apF_app, ← hk1, ← hk2, apF_c, ← eg_178, ← eq_179, apF_app, ← eg_189, List.length_cons, ← eq_190, apF_app, ← eg_199, List.length_cons, ← eq_200, apF_app, ← eg_209, List.length_cons, ← eq_210, apF_app, ← eg_220, List.length_cons, ← eq_221, List.cons_append, List.nil_append, apF_c, ← eg_242, ← eq_243, apF_c, ← eg_252, ← eq_253] at hfin
          have ex : x_261 = nI (i + 1) := by rw [ex_261, nI_1]
          subst ex
          exact ih (i + 1) g_252 q_253 u_r_251 H locs ls (by omega) (by omega) (by rw [eg_252, show q_253 - 1 = q_243 by omega]; exact pk_us) hfin (by omega) hp_254 hM hS (lv_sub hl [3, 0] rfl)
    refine lv_aload_n hx hb d_M_print_22 rfl (lv_at hl 0 rfl) ?_
    refine lv_bipush (v := 84) hx hb d_M_print_23 (by decide) ?_
    refine lv_aload_n hx hb d_M_print_25 rfl (lv_at hl 0 rfl) ?_
    refine m_get (D := G) (ci := 6) (v := .int r) (C := nR_M) (T := nT_M) (N := 21) hx hb hta in_M hown hK hM hp0.1 rfl 16 (by decide) (hta _ aw_559) (fun _ h9 => h9) rfl d_M_print_26 ?_
    have hF := mw_free hM hS hA
    refine va_callv (va_runV (As := [.int 84, .int r]) (rest := []) ⟨hx, hb, hml, hown, hta⟩ (k_M_number l G q0 q1 cI ty2 w_5 had hp0 (pp := 0) rfl 84 r (by rw [er]; exact hl0) (by simp only [List.length_cons]; rw [er]; omega) _) (cV 2 hta aw_705 aw_5 aw_702 aw_704 as_SceneTimesModel_number rfl rfl (by decide +kernel) ⟨Nat.le_of_ble_eq_true rfl, Nat.le_of_ble_eq_true rfl⟩) (pZ_V hK hM rfl hp0.1) rfl rfl hl.1 rfl (lv_room (Nat.le_of_ble_eq_true rfl)) d_M_print_29 ⟨Nat.le_of_ble_eq_true rfl, Nat.le_of_ble_eq_true rfl⟩) hS (fun q _ h => hF q h) hF (fun u_r_312 t H locs ht hvm hr_312 hB hz1 hk1 hS => ?_)
    obtain ⟨hM1, hK1⟩ := hB
    rw [ht] at hM1
    have hM := mw_weaken hM1 hF
    clear hM1 hK1 hF hk1 hz1
    obtain ⟨g_314, eg_314⟩ : ∃ z9 : Nat → Int32, z9 = (apF (f 11) 0 (84 :: numB r)) := ⟨_, rfl⟩
    obtain ⟨q_315, eq_315⟩ : ∃ z9 : Nat, z9 = 0 + ((numB r).length + 1) := ⟨_, rfl⟩
    have hp_313 : mPic u_r_312 mm cI ad (va_up f 11 g_314) (nI (gT 4 (gC 1 1 z 1))) no wr n k z r so (nI q_315) := by have z := hr_312; rw [va_up_up] at z; rw [eg_314, eq_315]; exact z
    rw [er] at eg_314 eq_315
    refine lv_aload_n hx hb d_M_print_32 rfl (lv_at hl 0 rfl) ?_
    refine lv_bipush (v := 59) hx hb d_M_print_33 (by decide) ?_
    have hF := mw_free hM hS hA
    refine va_callv (va_runV (As := [.int 59]) (rest := []) ⟨hx, hb, hml, hown, hta⟩ (k_M_put l G q0 q1 cI ty2 u_r_312 had hp_313 (pp := q_315) (by omega) rfl 59 _) (cV 1 hta aw_709 aw_5 aw_706 aw_708 as_SceneTimesModel_put rfl rfl (by decide +kernel) ⟨Nat.le_of_ble_eq_true rfl, Nat.le_of_ble_eq_true rfl⟩) (pZ_V hK hM rfl hp_313.1) rfl rfl hl.1 rfl (lv_room (Nat.le_of_ble_eq_true rfl)) d_M_print_35 ⟨Nat.le_of_ble_eq_true rfl, Nat.le_of_ble_eq_true rfl⟩) hS (fun q _ h => hF q h) hF (fun u_r_316 t H locs ht hvm hr_316 hB hz1 hk1 hS => ?_)
    obtain ⟨hM1, hK1⟩ := hB
    rw [ht] at hM1
    have hM := mw_weaken hM1 hF
    clear hM1 hK1 hF hk1 hz1
    obtain ⟨g_317, eg_317⟩ : ∃ z9 : Nat → Int32, z9 = upd g_314 q_315 59 := ⟨_, rfl⟩
    obtain ⟨q_318, eq_318⟩ : ∃ z9 : Nat, z9 = q_315 + 1 := ⟨_, rfl⟩
    have hp_319 : mPic u_r_316 mm cI ad (va_up f 11 g_317) (nI (gT 4 (gC 1 1 z 1))) no wr n k z r so (nI q_318) := by have z := hr_316; rw [va_up_up, nI_1] at z; rw [eg_317, eq_318]; exact z
    refine lv_iconst (v := 0) hx hb d_M_print_38 (by decide) ?_
    refine lv_istore_n (lv' := [(1, .int 0), (0, .ref mm)]) hx hb d_M_print_39 rfl hl (by decide) rfl (fun ls hl => ?_)
    exact loop rr 0 g_317 q_318 u_r_316 H locs ls (by omega) (by omega) (by rw [eg_317, show q_318 - 1 = q_315 by omega]; exact pk_us) (by rw [hS9, apF_app, ← eg_314, List.length_cons, ← eq_315, apF_c, ← eg_317, ← eq_318]) (by rw [hS9]; simp only [List.length_append, List.length_cons]; omega) hp_319 hM hS (lv_sub hl [1, 0] rfl)
  · have hc := go_f hr_1 c_4
    refine lv_iconst (v := 0) hx hb d_M_print_15 (by decide) ?_
    exact W.iret (v := 0) hx hb hr (fun t ht hW => ⟨⟨0, w_2, rfl, (by  exact ⟨fun _ => mp_3, fun q => absurd q hc⟩), by rw [ht]; exact hM, va_K.moved hW.alike hK⟩, hS.F ht⟩) hS.2.2 d_M_print_16
