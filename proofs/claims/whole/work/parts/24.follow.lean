/-! the reference: the note that follows another one in the line -/
set_option maxHeartbeats 4000000 in
set_option maxRecDepth 100000 in
theorem k_M_following (l : Launch) (G : va_G) (q0 q1 : ClassId × FieldType) (cI : ClassId) (ty2 : List (ClassId × FieldType)) (w : Nat → Option va_E) {mm : Nat} {ad : Nat → Nat} {f : Nat → Nat → Int32} {th no wr n k z r so pr : Int32} (hm : w mm = some (eM ad th no wr n k z r so pr)) (hma : ∀ i, i < 12 → w (ad i) = some (aI cI (msz i) (f i))) {ka nn : Nat} (hk : ka ≤ 200) (ek : k = nI ka) (hn : nn ≤ 100) (en : n = nI nn) (lo : Option Nat) (hlo : ∀ j, lo = some j → j < 100) (sk kk zz t : Int32) : Met l y_M_following (wm y_M_following c_M_following 8 (some .int)) ({ frames := 1, cells := 0, slots := 0, locals := 24 }) (pW G (q0 :: q1 :: (cI, .int) :: ty2) w [.ref mm, .int (oI lo), .int sk, .int kk, .int zz, .int t]) (vp_Si (fun r => r = oI (folM (filM f lo sk kk zz t no ka) (befN f) nn))) 0 0 (fun _ => False) := by
  refine Met.ofW (cc := c_M_following) (maxL := 8) (ret := (some .int)) (by decide) rfl ?_
  intro p e s m args below meth c s₁ B hml hv
  obtain ⟨rfl, hM, hK⟩ := hv
  have hx := B.exec
  have hb := B.bytes
  have hr := B.returns
  have hts := atoms_spec (ws := (wm y_M_following c_M_following 8 (some .int))) B.pre
  have hta : ∀ w ∈ AL, w.before _ s = true := fun w h => hts w (List.mem_cons_of_mem _ h)
  have hown : s.vm.findClass nR_M = some m.cls := findClass_of_methodNamed B.named
  have hlocks := B.notSynchronized
  have hl := lv_entry ([.ref mm, .int (oI lo), .int sk, .int kk, .int zz, .int t]) (n := 8) (Nat.le_of_ble_eq_true rfl)
  rw [lg_entry_eq]
  generalize (lg_sl ([.ref mm, .int (oI lo), .int sk, .int kk, .int zz, .int t]) ++ List.replicate (8 - (lg_sl ([.ref mm, .int (oI lo), .int sk, .int kk, .int zz, .int t])).length) Slot.unset).toArray = ls at hl ⊢
  have hl : lv_has ls 8 [(0, .ref mm), (1, .int (oI lo)), (2, .int sk), (3, .int kk), (4, .int zz), (5, .int t)] := hl
  have ha1 : w (ad 1) = some (aI cI 100 (f 1)) := hma 1 (by decide)
  have ha2 : w (ad 2) = some (aI cI 100 (f 2)) := hma 2 (by decide)
  have ha5 : w (ad 5) = some (aI cI 100 (f 5)) := hma 5 (by decide)
  have loop : ∀ (m9 i : Nat) (x6 x7 : Int32) (ls : Array Slot), i + m9 = nn → x6 = oI (folM (filM f lo sk kk zz t no ka) (befN f) i) → x7 = nI i → lv_has ls 8 [(0, .ref mm), (1, .int (oI lo)), (2, .int sk), (3, .int kk), (4, .int zz), (5, .int t), (6, .int x6), (7, .int x7)] → W p l e (headSpec (wm y_M_following c_M_following 8 (some .int)) ({ frames := 1, cells := 0, slots := 0, locals := 24 })).room s m ([.ref mm, .int (oI lo), .int sk, .int kk, .int zz, .int t] : List Value).toArray below meth c s.heap [] 0 0 (MQ below (vp_Si (fun r => r = oI (folM (filM f lo sk kk zz t no ka) (befN f) nn))) ([.ref mm, .int (oI lo), .int sk, .int kk, .int zz, .int t] : List Value).toArray s 0 0 (fun _ => False)) (F0 m 6 ls []) := by
    intro m9
    induction m9 with
    | zero =>
      intro i x6 x7 ls hi e6 e7 hl
      refine lv_iload hx hb d_M_following_6 (lv_at hl 7 rfl) ?_
      refine lv_aload_n hx hb d_M_following_8 rfl (lv_at hl 0 rfl) ?_
      refine m_get (D := G) (ci := 6) (v := .int n) (C := nR_M) (T := nT_M) (N := 21) hx hb hta in_M hown hK hM hm rfl 3 (by decide) (hta _ aw_546) (fun _ h9 => h9) rfl d_M_following_9 ?_
      refine lv_icmp_ge (tgt := 122) hx hb d_M_following_12 (by decide) (fun c_1 => ?_) (fun c_1 => absurd (by rw [e7, en]; exact nI_le (by omega) (by omega)) c_1)
      refine lv_iload hx hb d_M_following_122 (lv_at hl 6 rfl) ?_
      exact W.iret (v := x6) hx hb hr (fun t ht hW => ⟨x6, rfl, by rw [e6, show i = nn by omega], ht⟩) (fun q h => nomatch h) d_M_following_124
    | succ m9 ih =>
      intro i x6 x7 ls hi e6 e7 hl
      have j116 : ∀ (x6 : Int32) (ls : Array Slot), x6 = oI (folM (filM f lo sk kk zz t no ka) (befN f) (i + 1)) → lv_has ls 8 [(0, .ref mm), (1, .int (oI lo)), (2, .int sk), (3, .int kk), (4, .int zz), (5, .int t), (6, .int x6), (7, .int x7)] → W p l e (headSpec (wm y_M_following c_M_following 8 (some .int)) ({ frames := 1, cells := 0, slots := 0, locals := 24 })).room s m ([.ref mm, .int (oI lo), .int sk, .int kk, .int zz, .int t] : List Value).toArray below meth c s.heap [] 0 0 (MQ below (vp_Si (fun r => r = oI (folM (filM f lo sk kk zz t no ka) (befN f) nn))) ([.ref mm, .int (oI lo), .int sk, .int kk, .int zz, .int t] : List Value).toArray s 0 0 (fun _ => False)) (F0 m 116 ls []) := by
        intro x6 ls e6 hl
        obtain ⟨x_2, ex_2⟩ : ∃ y : Int32, y = x7 + 1 := ⟨_, rfl⟩
        refine lv_iinc (v := x_2) (lv' := [(7, .int x_2), (0, .ref mm), (1, .int (oI lo)), (2, .int sk), (3, .int kk), (4, .int zz), (5, .int t), (6, .int x6)]) hx hb d_M_following_116 hl (k := 7) rfl (by rw [ex_2]; rfl) (by decide) rfl (fun ls hl => ?_)
        refine lv_goto (tgt := 6) hx hb d_M_following_119 (by decide) ?_
        exact ih (i + 1) x6 x_2 ls (by omega) e6 (by rw [ex_2, e7, nI_1]) (lv_sub hl [1, 2, 3, 4, 5, 6, 7, 0] rfl)
      have j116n : ∀ (ls : Array Slot), ¬ (filM f lo sk kk zz t no ka) i = true → lv_has ls 8 [(0, .ref mm), (1, .int (oI lo)), (2, .int sk), (3, .int kk), (4, .int zz), (5, .int t), (6, .int x6), (7, .int x7)] → W p l e (headSpec (wm y_M_following c_M_following 8 (some .int)) ({ frames := 1, cells := 0, slots := 0, locals := 24 })).room s m ([.ref mm, .int (oI lo), .int sk, .int kk, .int zz, .int t] : List Value).toArray below meth c s.heap [] 0 0 (MQ below (vp_Si (fun r => r = oI (folM (filM f lo sk kk zz t no ka) (befN f) nn))) ([.ref mm, .int (oI lo), .int sk, .int kk, .int zz, .int t] : List Value).toArray s 0 0 (fun _ => False)) (F0 m 116 ls []) := fun ls hF hl => j116 x6 ls (by rw [e6, folM, if_neg hF]) hl
      have j96 : ∀ (ls : Array Slot), (filM f lo sk kk zz t no ka) i = true → lv_has ls 8 [(0, .ref mm), (1, .int (oI lo)), (2, .int sk), (3, .int kk), (4, .int zz), (5, .int t), (6, .int x6), (7, .int x7)] → W p l e (headSpec (wm y_M_following c_M_following 8 (some .int)) ({ frames := 1, cells := 0, slots := 0, locals := 24 })).room s m ([.ref mm, .int (oI lo), .int sk, .int kk, .int zz, .int t] : List Value).toArray below meth c s.heap [] 0 0 (MQ below (vp_Si (fun r => r = oI (folM (filM f lo sk kk zz t no ka) (befN f) nn))) ([.ref mm, .int (oI lo), .int sk, .int kk, .int zz, .int t] : List Value).toArray s 0 0 (fun _ => False)) (F0 m 96 ls []) := by
        intro ls hF hl
        cases hb9 : folM (filM f lo sk kk zz t no ka) (befN f) i with
        | none =>
          rw [hb9] at e6
          refine lv_iload hx hb d_M_following_96 (lv_at hl 6 rfl) ?_
          refine lv_if_lt (tgt := 112) hx hb d_M_following_98 (by decide) (fun c_3 => ?_) (fun c_3 => absurd (by rw [e6]; decide) c_3)
          refine lv_iload hx hb d_M_following_112 (lv_at hl 7 rfl) ?_
          refine lv_istore (lv' := [(6, .int x7), (0, .ref mm), (1, .int (oI lo)), (2, .int sk), (3, .int kk), (4, .int zz), (5, .int t), (7, .int x7)]) hx hb d_M_following_114 hl (by decide) rfl (fun ls hl => ?_)
          exact j116 x7 ls (by rw [folM, if_pos hF, hb9, e7]; rfl) (lv_sub hl [1, 2, 3, 4, 5, 6, 0, 7] rfl)
        | some b =>
          rw [hb9] at e6
          have hb8 : b < 100 := by have := (folM_lt hb9).1; omega
          have e6 : x6 = nI b := e6
          subst e6
          subst e7
          refine lv_iload hx hb d_M_following_96 (lv_at hl 6 rfl) ?_
          refine lv_if_lt (tgt := 112) hx hb d_M_following_98 (by decide) (fun c_4 => absurd c_4 (nI_pos (by omega))) (fun c_4 => ?_)
          refine lv_aload_n hx hb d_M_following_101 rfl (lv_at hl 0 rfl) ?_
          refine lv_iload hx hb d_M_following_102 (lv_at hl 7 rfl) ?_
          refine lv_iload hx hb d_M_following_104 (lv_at hl 6 rfl) ?_
          refine vp_callSi (W.runV (As := [.int (nI i), .int (nI b)]) (rest := []) ⟨hx, hb, hml, hown, hta⟩ (k_M_isBefore l G q0 q1 cI ty2 w hm hma i b (by omega) hb8) (cV 2 hta aw_666 aw_5 aw_663 aw_665 as_SceneTimesModel_isBefore rfl rfl (by decide +kernel) ⟨Nat.le_of_ble_eq_true rfl, Nat.le_of_ble_eq_true rfl⟩) (pW_V hK hM rfl hm) rfl rfl hl.1 rfl (lv_room (Nat.le_of_ble_eq_true rfl)) d_M_following_106 ⟨Nat.le_of_ble_eq_true rfl, Nat.le_of_ble_eq_true rfl⟩) (fun r_5 hr_5 => ?_)
          refine lv_if_eq (tgt := 116) hx hb d_M_following_109 (by decide) (fun c_6 => ?_) (fun c_6 => ?_)
          · exact j116 (nI b) ls (by rw [folM, if_pos hF, hb9]; show nI b = oI (if befN f i b = true then some i else some b); rw [if_neg (by intro q; rw [if_pos q] at hr_5; rw [hr_5] at c_6; exact absurd c_6 (by decide))]; rfl) (lv_sub hl [0, 1, 2, 3, 4, 5, 6, 7] rfl)
          · refine lv_iload hx hb d_M_following_112 (lv_at hl 7 rfl) ?_
            refine lv_istore (lv' := [(6, .int (nI i)), (0, .ref mm), (1, .int (oI lo)), (2, .int sk), (3, .int kk), (4, .int zz), (5, .int t), (7, .int (nI i))]) hx hb d_M_following_114 hl (by decide) rfl (fun ls hl => ?_)
            exact j116 (nI i) ls (by rw [folM, if_pos hF, hb9]; show nI i = oI (if befN f i b = true then some i else some b); rw [if_pos (Classical.byContradiction (fun q => by rw [if_neg q] at hr_5; exact absurd hr_5 c_6))]; rfl) (lv_sub hl [1, 2, 3, 4, 5, 6, 0, 7] rfl)
      have j76 : ∀ (ls : Array Slot), ¬ t < f 5 i → lsB f lo i = true → (kk < 0 ∨ f 1 i = kk) → (zz < 0 ∨ f 2 i = zz) → lv_has ls 8 [(0, .ref mm), (1, .int (oI lo)), (2, .int sk), (3, .int kk), (4, .int zz), (5, .int t), (6, .int x6), (7, .int x7)] → W p l e (headSpec (wm y_M_following c_M_following 8 (some .int)) ({ frames := 1, cells := 0, slots := 0, locals := 24 })).room s m ([.ref mm, .int (oI lo), .int sk, .int kk, .int zz, .int t] : List Value).toArray below meth c s.heap [] 0 0 (MQ below (vp_Si (fun r => r = oI (folM (filM f lo sk kk zz t no ka) (befN f) nn))) ([.ref mm, .int (oI lo), .int sk, .int kk, .int zz, .int t] : List Value).toArray s 0 0 (fun _ => False)) (F0 m 76 ls []) := by
        intro ls p1 p2 p3 p4 hl
        subst e7
        refine lv_iload_n hx hb d_M_following_76 rfl (lv_at hl 2 rfl) ?_
        refine lv_if_ne (tgt := 96) hx hb d_M_following_77 (by decide) (fun c_7 => ?_) (fun c_7 => ?_)
        · exact j96 ls (by simp only [filM]; rw [p2]; simp [p1, p3, p4, c_7]) (lv_sub hl [0, 1, 2, 3, 4, 5, 6, 7] rfl)
        · refine lv_aload_n hx hb d_M_following_80 rfl (lv_at hl 0 rfl) ?_
          refine lv_iload hx hb d_M_following_81 (lv_at hl 7 rfl) ?_
          refine lv_aload_n hx hb d_M_following_83 rfl (lv_at hl 0 rfl) ?_
          refine m_get (D := G) (ci := 6) (v := .int no) (C := nR_M) (T := nT_M) (N := 21) hx hb hta in_M hown hK hM hm rfl 1 (by decide) (hta _ aw_544) (fun _ h9 => h9) rfl d_M_following_84 ?_
          refine vp_callSi (W.runV (As := [.int (nI i), .int no]) (rest := []) ⟨hx, hb, hml, hown, hta⟩ (k_M_isStruck l G q0 q1 cI ty2 w hm hma hk ek i no) (cV 2 hta aw_642 aw_5 aw_639 aw_641 as_SceneTimesModel_isStruck rfl rfl (by decide +kernel) ⟨Nat.le_of_ble_eq_true rfl, Nat.le_of_ble_eq_true rfl⟩) (pW_V hK hM rfl hm) rfl rfl hl.1 rfl (lv_room (Nat.le_of_ble_eq_true rfl)) d_M_following_87 ⟨Nat.le_of_ble_eq_true rfl, Nat.le_of_ble_eq_true rfl⟩) (fun r_8 hr_8 => ?_)
          refine lv_if_eq (tgt := 96) hx hb d_M_following_90 (by decide) (fun c_9 => ?_) (fun c_9 => ?_)
          · exact j96 ls (by simp only [filM]; rw [p2]; simp [p1, p3, p4, show strM f no i ka = 0 by rw [← hr_8]; exact c_9]) (lv_sub hl [0, 1, 2, 3, 4, 5, 6, 7] rfl)
          · refine lv_goto (tgt := 116) hx hb d_M_following_93 (by decide) ?_
            exact j116n ls (by simp only [filM]; rw [← hr_8]; simp [c_7, c_9]) (lv_sub hl [0, 1, 2, 3, 4, 5, 6, 7] rfl)
      have j56 : ∀ (ls : Array Slot), ¬ t < f 5 i → lsB f lo i = true → (kk < 0 ∨ f 1 i = kk) → lv_has ls 8 [(0, .ref mm), (1, .int (oI lo)), (2, .int sk), (3, .int kk), (4, .int zz), (5, .int t), (6, .int x6), (7, .int x7)] → W p l e (headSpec (wm y_M_following c_M_following 8 (some .int)) ({ frames := 1, cells := 0, slots := 0, locals := 24 })).room s m ([.ref mm, .int (oI lo), .int sk, .int kk, .int zz, .int t] : List Value).toArray below meth c s.heap [] 0 0 (MQ below (vp_Si (fun r => r = oI (folM (filM f lo sk kk zz t no ka) (befN f) nn))) ([.ref mm, .int (oI lo), .int sk, .int kk, .int zz, .int t] : List Value).toArray s 0 0 (fun _ => False)) (F0 m 56 ls []) := by
        intro ls p1 p2 p3 hl
        refine lv_iload hx hb d_M_following_56 (lv_at hl 4 rfl) ?_
        refine lv_if_lt (tgt := 76) hx hb d_M_following_58 (by decide) (fun c_10 => ?_) (fun c_10 => ?_)
        · exact j76 ls p1 p2 p3 (Or.inl c_10) (lv_sub hl [0, 1, 2, 3, 4, 5, 6, 7] rfl)
        · refine lv_aload_n hx hb d_M_following_61 rfl (lv_at hl 0 rfl) ?_
          refine m_get (D := G) (ci := 6) (v := .ref (ad 2)) (C := nR_M) (T := nT_M) (N := 21) hx hb hta in_M hown hK hM hm rfl 6 (by decide) (hta _ aw_549) (fun _ h9 => h9) rfl d_M_following_62 ?_
          refine lv_iload hx hb d_M_following_65 (lv_at hl 7 rfl) ?_
          refine m_ialv hx hb hK hM 2 ha2 rfl (by rw [e7]; exact vp_in_nI (by omega) (by omega)) (v := f 2 i) (by rw [e7, nI_clamp (by omega)]) d_M_following_67 ?_
          refine lv_iload hx hb d_M_following_68 (lv_at hl 4 rfl) ?_
          refine lv_icmp_eq (tgt := 76) hx hb d_M_following_70 (by decide) (fun c_11 => ?_) (fun c_11 => ?_)
          · exact j76 ls p1 p2 p3 (Or.inr c_11) (lv_sub hl [0, 1, 2, 3, 4, 5, 6, 7] rfl)
          · refine lv_goto (tgt := 116) hx hb d_M_following_73 (by decide) ?_
            exact j116n ls (by simp [filM, c_10, c_11]) (lv_sub hl [0, 1, 2, 3, 4, 5, 6, 7] rfl)
      have j41 : ∀ (ls : Array Slot), ¬ t < f 5 i → lsB f lo i = true → lv_has ls 8 [(0, .ref mm), (1, .int (oI lo)), (2, .int sk), (3, .int kk), (4, .int zz), (5, .int t), (6, .int x6), (7, .int x7)] → W p l e (headSpec (wm y_M_following c_M_following 8 (some .int)) ({ frames := 1, cells := 0, slots := 0, locals := 24 })).room s m ([.ref mm, .int (oI lo), .int sk, .int kk, .int zz, .int t] : List Value).toArray below meth c s.heap [] 0 0 (MQ below (vp_Si (fun r => r = oI (folM (filM f lo sk kk zz t no ka) (befN f) nn))) ([.ref mm, .int (oI lo), .int sk, .int kk, .int zz, .int t] : List Value).toArray s 0 0 (fun _ => False)) (F0 m 41 ls []) := by
        intro ls p1 p2 hl
        refine lv_iload_n hx hb d_M_following_41 rfl (lv_at hl 3 rfl) ?_
        refine lv_if_lt (tgt := 56) hx hb d_M_following_42 (by decide) (fun c_12 => ?_) (fun c_12 => ?_)
        · exact j56 ls p1 p2 (Or.inl c_12) (lv_sub hl [0, 1, 2, 3, 4, 5, 6, 7] rfl)
        · refine lv_aload_n hx hb d_M_following_45 rfl (lv_at hl 0 rfl) ?_
          refine m_get (D := G) (ci := 6) (v := .ref (ad 1)) (C := nR_M) (T := nT_M) (N := 21) hx hb hta in_M hown hK hM hm rfl 5 (by decide) (hta _ aw_548) (fun _ h9 => h9) rfl d_M_following_46 ?_
          refine lv_iload hx hb d_M_following_49 (lv_at hl 7 rfl) ?_
          refine m_ialv hx hb hK hM 2 ha1 rfl (by rw [e7]; exact vp_in_nI (by omega) (by omega)) (v := f 1 i) (by rw [e7, nI_clamp (by omega)]) d_M_following_51 ?_
          refine lv_iload_n hx hb d_M_following_52 rfl (lv_at hl 3 rfl) ?_
          refine lv_icmp_ne (tgt := 116) hx hb d_M_following_53 (by decide) (fun c_13 => ?_) (fun c_13 => ?_)
          · exact j116n ls (by simp [filM, c_12, c_13]) (lv_sub hl [0, 1, 2, 3, 4, 5, 6, 7] rfl)
          · exact j56 ls p1 p2 (Or.inr c_13) (lv_sub hl [0, 1, 2, 3, 4, 5, 6, 7] rfl)
      cases lo with
      | none =>
        refine lv_iload hx hb d_M_following_6 (lv_at hl 7 rfl) ?_
        refine lv_aload_n hx hb d_M_following_8 rfl (lv_at hl 0 rfl) ?_
        refine m_get (D := G) (ci := 6) (v := .int n) (C := nR_M) (T := nT_M) (N := 21) hx hb hta in_M hown hK hM hm rfl 3 (by decide) (hta _ aw_546) (fun _ h9 => h9) rfl d_M_following_9 ?_
        refine lv_icmp_ge (tgt := 122) hx hb d_M_following_12 (by decide) (fun c_14 => absurd c_14 (by rw [e7, en]; exact nI_ge (by omega) (by omega))) (fun c_14 => ?_)
        refine lv_aload_n hx hb d_M_following_15 rfl (lv_at hl 0 rfl) ?_
        refine m_get (D := G) (ci := 6) (v := .ref (ad 5)) (C := nR_M) (T := nT_M) (N := 21) hx hb hta in_M hown hK hM hm rfl 9 (by decide) (hta _ aw_552) (fun _ h9 => h9) rfl d_M_following_16 ?_
        refine lv_iload hx hb d_M_following_19 (lv_at hl 7 rfl) ?_
        refine m_ialv hx hb hK hM 2 ha5 rfl (by rw [e7]; exact vp_in_nI (by omega) (by omega)) (v := f 5 i) (by rw [e7, nI_clamp (by omega)]) d_M_following_21 ?_
        refine lv_iload hx hb d_M_following_22 (lv_at hl 5 rfl) ?_
        refine lv_icmp_gt (tgt := 116) hx hb d_M_following_24 (by decide) (fun c_15 => ?_) (fun c_15 => ?_)
        · exact j116n ls (by simp [filM, c_15]) (lv_sub hl [0, 1, 2, 3, 4, 5, 6, 7] rfl)
        · refine lv_iload_n hx hb d_M_following_27 rfl (lv_at hl 1 rfl) ?_
          refine lv_if_lt (tgt := 41) hx hb d_M_following_28 (by decide) (fun c_16 => ?_) (fun c_16 => absurd (by decide : oI none < 0) c_16)
          exact j41 ls c_15 rfl (lv_sub hl [0, 1, 2, 3, 4, 5, 6, 7] rfl)
      | some j =>
        subst e7
        have hj := hlo j rfl
        refine lv_iload hx hb d_M_following_6 (lv_at hl 7 rfl) ?_
        refine lv_aload_n hx hb d_M_following_8 rfl (lv_at hl 0 rfl) ?_
        refine m_get (D := G) (ci := 6) (v := .int n) (C := nR_M) (T := nT_M) (N := 21) hx hb hta in_M hown hK hM hm rfl 3 (by decide) (hta _ aw_546) (fun _ h9 => h9) rfl d_M_following_9 ?_
        refine lv_icmp_ge (tgt := 122) hx hb d_M_following_12 (by decide) (fun c_17 => absurd c_17 (by rw [en]; exact nI_ge (by omega) (by omega))) (fun c_17 => ?_)
        refine lv_aload_n hx hb d_M_following_15 rfl (lv_at hl 0 rfl) ?_
        refine m_get (D := G) (ci := 6) (v := .ref (ad 5)) (C := nR_M) (T := nT_M) (N := 21) hx hb hta in_M hown hK hM hm rfl 9 (by decide) (hta _ aw_552) (fun _ h9 => h9) rfl d_M_following_16 ?_
        refine lv_iload hx hb d_M_following_19 (lv_at hl 7 rfl) ?_
        refine m_ialv hx hb hK hM 2 ha5 rfl (vp_in_nI (by omega) (by omega)) (v := f 5 i) (by rw [nI_clamp (by omega)]) d_M_following_21 ?_
        refine lv_iload hx hb d_M_following_22 (lv_at hl 5 rfl) ?_
        refine lv_icmp_gt (tgt := 116) hx hb d_M_following_24 (by decide) (fun c_18 => ?_) (fun c_18 => ?_)
        · exact j116n ls (by simp [filM, c_18]) (lv_sub hl [0, 1, 2, 3, 4, 5, 6, 7] rfl)
        · refine lv_iload_n hx hb d_M_following_27 rfl (lv_at hl 1 rfl) ?_
          refine lv_if_lt (tgt := 41) hx hb d_M_following_28 (by decide) (fun c_19 => absurd c_19 (nI_pos (by omega))) (fun c_19 => ?_)
          refine lv_aload_n hx hb d_M_following_31 rfl (lv_at hl 0 rfl) ?_
          refine lv_iload_n hx hb d_M_following_32 rfl (lv_at hl 1 rfl) ?_
          refine lv_iload hx hb d_M_following_33 (lv_at hl 7 rfl) ?_
          refine vp_callSi (W.runV (As := [.int (nI j), .int (nI i)]) (rest := []) ⟨hx, hb, hml, hown, hta⟩ (k_M_isBefore l G q0 q1 cI ty2 w hm hma j i hj (by omega)) (cV 2 hta aw_666 aw_5 aw_663 aw_665 as_SceneTimesModel_isBefore rfl rfl (by decide +kernel) ⟨Nat.le_of_ble_eq_true rfl, Nat.le_of_ble_eq_true rfl⟩) (pW_V hK hM rfl hm) rfl rfl hl.1 rfl (lv_room (Nat.le_of_ble_eq_true rfl)) d_M_following_35 ⟨Nat.le_of_ble_eq_true rfl, Nat.le_of_ble_eq_true rfl⟩) (fun r_20 hr_20 => ?_)
          refine lv_if_eq (tgt := 116) hx hb d_M_following_38 (by decide) (fun c_21 => ?_) (fun c_21 => ?_)
          · exact j116n ls (by have q : ¬ befN f j i = true := (by intro q; rw [if_pos q] at hr_20; rw [hr_20] at c_21; exact absurd c_21 (by decide)); simp [filM, lsB, q]) (lv_sub hl [0, 1, 2, 3, 4, 5, 6, 7] rfl)
          · exact j41 ls c_18 (show befN f j i = true from Classical.byContradiction (fun q => by rw [if_neg q] at hr_20; exact absurd hr_20 c_21)) (lv_sub hl [0, 1, 2, 3, 4, 5, 6, 7] rfl)
  refine lv_iconst (v := (-1)) hx hb d_M_following_0 (by decide) ?_
  refine lv_istore (lv' := [(6, .int (-1)), (0, .ref mm), (1, .int (oI lo)), (2, .int sk), (3, .int kk), (4, .int zz), (5, .int t)]) hx hb d_M_following_1 hl (by decide) rfl (fun ls hl => ?_)
  refine lv_iconst (v := 0) hx hb d_M_following_3 (by decide) ?_
  refine lv_istore (lv' := [(7, .int 0), (6, .int (-1)), (0, .ref mm), (1, .int (oI lo)), (2, .int sk), (3, .int kk), (4, .int zz), (5, .int t)]) hx hb d_M_following_4 hl (by decide) rfl (fun ls hl => ?_)
  exact loop nn 0 _ 0 ls (by omega) rfl rfl (lv_sub hl [2, 3, 4, 5, 6, 7, 1, 0] rfl)
