/-! the reference: put, number -/
theorem va_up_id {α : Type} (f : Nat → α) (k : Nat) : va_up f k (f k) = f := by
  funext i
  unfold va_up
  split
  · rename_i h; rw [h]
  · rfl
/-- bytes laid one behind the other from place p on -/
def apF : (Nat → Int32) → Nat → List Int32 → Nat → Int32
  | g, _, [] => g
  | g, p, b :: r => apF (upd g p b) (p + 1) r
theorem apF_app (L M : List Int32) : ∀ (g : Nat → Int32) (p : Nat), apF g p (L ++ M) = apF (apF g p L) (p + L.length) M := by
  induction L with
  | nil => intro g p; rfl
  | cons b r ih => intro g p; show apF (upd g p b) (p + 1) (r ++ M) = _; rw [ih]; show _ = apF (apF (upd g p b) (p + 1) r) (p + (r.length + 1)) M; rw [show p + 1 + r.length = p + (r.length + 1) by omega]
/-- how many digits a number below 100,000 has, less one -/
def kdg (s : Nat) : Nat := if s < 10 then 0 else if s < 100 then 1 else if s < 1000 then 2 else if s < 10000 then 3 else 4
def un : Nat → Nat
  | 0 => 0
  | k + 1 => 10 ^ k
def dgL (s : Nat) : Nat → List Int32
  | 0 => []
  | k + 1 => nI (48 + s / 10 ^ k % 10) :: dgL s k
theorem dgL_len (s n : Nat) : (dgL s n).length = n := by
  induction n with
  | zero => rfl
  | succ n ih => show (dgL s n).length + 1 = n + 1; rw [ih]
def numB (v : Int32) : List Int32 := (if v < 0 then [45] else []) ++ dgL v.toInt.natAbs (kdg v.toInt.natAbs + 1)
theorem kdg_le (s : Nat) : kdg s ≤ 4 := by unfold kdg; (repeat' split) <;> omega
theorem kdg_lt {s k : Nat} (hs : s < 100000) (hk : k ≤ 4) : 9 < s / 10 ^ k ↔ k < kdg s := by
  have h : k = 0 ∨ k = 1 ∨ k = 2 ∨ k = 3 ∨ k = 4 := by omega
  rcases h with rfl | rfl | rfl | rfl | rfl <;> unfold kdg <;> (repeat' split) <;> omega
theorem p10 {k : Nat} (h : k ≤ 5) : 0 < 10 ^ k ∧ 10 ^ k ≤ 100000 := by
  have h : k = 0 ∨ k = 1 ∨ k = 2 ∨ k = 3 ∨ k = 4 ∨ k = 5 := by omega
  rcases h with rfl | rfl | rfl | rfl | rfl | rfl <;> decide
theorem un_10 (n : Nat) : un (n + 1) / 10 = un n := by
  cases n with
  | zero => rfl
  | succ n => show 10 ^ (n + 1) / 10 = 10 ^ n; rw [Nat.pow_succ, Nat.mul_div_cancel _ (by decide)]
theorem absI {v : Int32} (hv : v.toInt.natAbs < 2 ^ 30) : (0 ≤ v → v = nI v.toInt.natAbs) ∧ (¬ 0 ≤ v → -v = nI v.toInt.natAbs) := by
  refine ⟨fun h => ?_, fun h => ?_⟩
  · rw [Int32.le_iff_toInt_le, Int32.toInt_zero] at h
    apply Int32.toInt_inj.mp
    rw [nI_toInt (by omega)]; omega
  · rw [Int32.le_iff_toInt_le, Int32.toInt_zero] at h
    have e : v = -nI v.toInt.natAbs := by
      apply Int32.toInt_inj.mp
      rw [sb_negT (by omega)]; omega
    have e2 : -v = - -nI v.toInt.natAbs := congrArg (fun z => -z) e
    rw [Int32.neg_neg] at e2
    exact e2
set_option maxHeartbeats 4000000 in
set_option maxRecDepth 100000 in
theorem k_M_put (l : Launch) (G : va_G) (q0 q1 : ClassId × FieldType) (cI : ClassId) (ty2 : List (ClassId × FieldType)) (w : Nat → Option va_E) {mm : Nat} {ad : Nat → Nat} (had : ∀ i j, i < 12 → j < 12 → ad i = ad j → i = j) {f : Nat → Nat → Int32} {th no wr n k z r so pr : Int32} (hmp : mPic w mm cI ad f th no wr n k z r so pr) {pp : Nat} (hp : pp < 2400) (ep : pr = nI pp) (x1 : Int32) (sz : Nat) : Met l y_M_put (wm y_M_put c_M_put 2 none) ({ frames := 0, cells := 0, slots := 0, locals := 0 }) (pZ G (q0 :: q1 :: (cI, .int) :: ty2) w sz [.ref mm, .int x1]) (va_Qv (fun (u : Nat → Option va_E) => mPic u mm cI ad (va_up f 11 (upd (f 11) pp x1)) th no wr n k z r so (pr + 1)) (fun w2 t => mw G ncl (mA w sz) w2 t.heap ∧ va_K G ncl (q0 :: q1 :: (cI, .int) :: ty2) t) (mA w sz)) 0 0 (mA w sz) := by
  refine Met.ofW (cc := c_M_put) (maxL := 2) (ret := none) (by decide) rfl ?_
  intro p e s m args below meth c s₁ B hml hv
  obtain ⟨rfl, hsz, hM0, hK⟩ := hv
  have hx := B.exec
  have hb := B.bytes
  have hr := B.returns
  have hts := atoms_spec (ws := (wm y_M_put c_M_put 2 none)) B.pre
  have hta : ∀ w ∈ AL, w.before _ s = true := fun w h => hts w (List.mem_cons_of_mem _ h)
  have hown : s.vm.findClass nR_M = some m.cls := findClass_of_methodNamed B.named
  have hlocks := B.notSynchronized
  have hl := lv_entry ([.ref mm, .int x1]) (n := 2) (Nat.le_of_ble_eq_true rfl)
  rw [lg_entry_eq]
  generalize (lg_sl ([.ref mm, .int x1]) ++ List.replicate (2 - (lg_sl ([.ref mm, .int x1])).length) Slot.unset).toArray = ls at hl ⊢
  have hl : lv_has ls 2 [(0, .ref mm), (1, .int x1)] := hl
  subst hsz
  have hM := mw_self (sz := s.heap.size) hM0
  clear hM0
  generalize hAe : mA w s.heap.size = A at hM ⊢
  have hA : ∀ q : Nat, s.heap.size ≤ q → A q := fun q h => by rw [← hAe]; exact Or.inr h
  have hS : va_S A s.heap s.heap [] := va_S.rf
  have ha11 : w (ad 11) = some (aI cI 2400 (f 11)) := hmp.2 11 (by decide)
  refine lv_aload_n hx hb d_M_put_0 rfl (lv_at hl 0 rfl) ?_
  refine m_get (D := G) (ci := 6) (v := .ref (ad 11)) (C := nR_M) (T := nT_M) (N := 21) hx hb hta in_M hown hK hM hmp.1 rfl 20 (by decide) (hta _ aw_563) (fun _ h9 => h9) rfl d_M_put_1 ?_
  refine lv_aload_n hx hb d_M_put_4 rfl (lv_at hl 0 rfl) ?_
  refine m_get (D := G) (ci := 6) (v := .int pr) (C := nR_M) (T := nT_M) (N := 21) hx hb hta in_M hown hK hM hmp.1 rfl 19 (by decide) (hta _ aw_562) (fun _ h9 => h9) rfl d_M_put_5 ?_
  refine lv_iload_n hx hb d_M_put_8 rfl (lv_at hl 1 rfl) ?_
  refine m_iasv hx hb hK hM hS 2 ha11 rfl (by rw [ep]; exact vp_in_nI hp (by omega)) (k := pp) (by rw [ep]; exact nI_clamp (by omega)) d_M_put_9 (fun H locs hM hS => ?_)
  obtain ⟨w_1, hw_1⟩ : ∃ z9 : Nat → Option va_E, z9 = va_up w (ad 11) (some (.inl (cI, 2400, .inl (upd (f 11) pp x1)))) := ⟨_, rfl⟩
  rw [← hw_1] at hM
  obtain ⟨f_3, hf_3⟩ : ∃ z9 : Nat → Nat → Int32, z9 = va_up f 11 (upd (f 11) pp x1) := ⟨_, rfl⟩
  have mp_2 : mPic w_1 mm cI ad f_3 th no wr n k z r so pr := by rw [hw_1, hf_3]; exact mp_arr had hmp 11 (by decide) _
  have k_4 : w_1 (ad 11) = some (aI cI 2400 (f_3 11)) := mp_2.2 11 (by decide)
  refine lv_aload_n hx hb d_M_put_10 rfl (lv_at hl 0 rfl) ?_
  refine lv_dup hx hb d_M_put_11 rfl ?_
  refine m_get (D := G) (ci := 6) (v := .int pr) (C := nR_M) (T := nT_M) (N := 21) hx hb hta in_M hown hK hM mp_2.1 rfl 19 (by decide) (hta _ aw_562) (fun _ h9 => h9) rfl d_M_put_12 ?_
  refine lv_iconst (v := 1) hx hb d_M_put_15 (by decide) ?_
  refine lv_iadd hx hb d_M_put_16 ?_
  refine m_put (D := G) (ci := 6) (v := .int (pr + 1)) (ty := .int) (C := nR_M) (T := nT_M) (N := 21) hx hb hta in_M nt_M nt_M_ok nn_M hown hK hM hS mp_2.1 rfl 19 (by decide) (hta _ aw_562) (fun _ h9 => h9) rfl (by decide +kernel) rfl rfl (Nat.le_of_ble_eq_true rfl) d_M_put_17 (fs' := [.int th, .int no, .int wr, .int n, .ref (ad 0), .ref (ad 1), .ref (ad 2), .ref (ad 3), .ref (ad 4), .ref (ad 5), .int k, .ref (ad 6), .ref (ad 7), .ref (ad 8), .ref (ad 9), .int z, .int r, .int so, .ref (ad 10), .int (pr + 1), .ref (ad 11)]) rfl (fun H locs hM hS => ?_)
  obtain ⟨w_5, hw_5⟩ : ∃ z9 : Nat → Option va_E, z9 = va_up w_1 mm (some (.inr (6, [.int th, .int no, .int wr, .int n, .ref (ad 0), .ref (ad 1), .ref (ad 2), .ref (ad 3), .ref (ad 4), .ref (ad 5), .int k, .ref (ad 6), .ref (ad 7), .ref (ad 8), .ref (ad 9), .int z, .int r, .int so, .ref (ad 10), .int (pr + 1), .ref (ad 11)]))) := ⟨_, rfl⟩
  rw [← hw_5] at hM
  have mp_6 : mPic w_5 mm cI ad f_3 th no wr n k z r so (pr + 1) := by rw [hw_5]; exact mp_obj mp_2 th no wr n k z r so (pr + 1)
  have k_7 : w_5 (ad 11) = some (aI cI 2400 (f_3 11)) := mp_6.2 11 (by decide)
  exact W.vret hx hb hr (fun t ht hW => ⟨⟨w_5, rfl, (by have q := mp_6; rw [hf_3] at q; exact q), by rw [ht]; exact hM, va_K.moved hW.alike hK⟩, hS.F ht⟩) hS.2.2 d_M_put_20
set_option maxHeartbeats 4000000 in
set_option maxRecDepth 100000 in
theorem k_M_number (l : Launch) (G : va_G) (q0 q1 : ClassId × FieldType) (cI : ClassId) (ty2 : List (ClassId × FieldType)) (w : Nat → Option va_E) {mm : Nat} {ad : Nat → Nat} (had : ∀ i j, i < 12 → j < 12 → ad i = ad j → i = j) {f : Nat → Nat → Int32} {th no wr n k z r so pr : Int32} (hmp : mPic w mm cI ad f th no wr n k z r so pr) {pp : Nat} (ep : pr = nI pp) (x1 v : Int32) (hv : v.toInt.natAbs < 100000) (hlen : pp + (x1 :: numB v).length ≤ 2400) (sz : Nat) : Met l y_M_number (wm y_M_number c_M_number 5 none) ({ frames := 1, cells := 0, slots := 0, locals := 21 }) (pZ G (q0 :: q1 :: (cI, .int) :: ty2) w sz [.ref mm, .int x1, .int v]) (va_Qv (fun (u : Nat → Option va_E) => mPic u mm cI ad (va_up f 11 (apF (f 11) pp (x1 :: numB v))) th no wr n k z r so (nI (pp + (x1 :: numB v).length))) (fun w2 t => mw G ncl (mA w sz) w2 t.heap ∧ va_K G ncl (q0 :: q1 :: (cI, .int) :: ty2) t) (mA w sz)) 0 0 (mA w sz) := by
  refine Met.ofW (cc := c_M_number) (maxL := 5) (ret := none) (by decide) rfl ?_
  intro p e s m args below meth c s₁ B hml hv
  obtain ⟨rfl, hsz, hM0, hK⟩ := hv
  have hx := B.exec
  have hb := B.bytes
  have hr := B.returns
  have hts := atoms_spec (ws := (wm y_M_number c_M_number 5 none)) B.pre
  have hta : ∀ w ∈ AL, w.before _ s = true := fun w h => hts w (List.mem_cons_of_mem _ h)
  have hown : s.vm.findClass nR_M = some m.cls := findClass_of_methodNamed B.named
  have hlocks := B.notSynchronized
  have hl := lv_entry ([.ref mm, .int x1, .int v]) (n := 5) (Nat.le_of_ble_eq_true rfl)
  rw [lg_entry_eq]
  generalize (lg_sl ([.ref mm, .int x1, .int v]) ++ List.replicate (5 - (lg_sl ([.ref mm, .int x1, .int v])).length) Slot.unset).toArray = ls at hl ⊢
  have hl : lv_has ls 5 [(0, .ref mm), (1, .int x1), (2, .int v)] := hl
  subst hsz
  have hM := mw_self (sz := s.heap.size) hM0
  clear hM0
  generalize hAe : mA w s.heap.size = A at hM ⊢
  have hA : ∀ q : Nat, s.heap.size ≤ q → A q := fun q h => by rw [← hAe]; exact Or.inr h
  have hS : va_S A s.heap s.heap [] := va_S.rf
  subst ep
  obtain ⟨sn, esn⟩ : ∃ z9 : Nat, z9 = v.toInt.natAbs := ⟨_, rfl⟩
  rw [← esn] at hv
  have hab := absI (v := v) (by omega)
  rw [← esn] at hab
  have hk4 := kdg_le sn
  have loop2 : ∀ (n9 : Nat) (g : Nat → Int32) (q : Nat) (w1 : Nat → Option va_E) (H : Heap) (locs : List Loc) (ls : Array Slot), n9 ≤ 5 → apF g q (dgL sn n9) = (apF (f 11) pp (x1 :: numB v)) → q + n9 = (pp + (x1 :: numB v).length) → mPic w1 mm cI ad (va_up f 11 g) th no wr n k z r so (nI q) → mw G ncl A w1 H → va_S A s.heap H locs → lv_has ls 5 [(0, .ref mm), (1, .int x1), (2, .int v), (3, .int (nI sn)), (4, .int (nI (un n9)))] → W p l e (headSpec (wm y_M_number c_M_number 5 none) ({ frames := 1, cells := 0, slots := 0, locals := 21 })).room s m ([.ref mm, .int x1, .int v] : List Value).toArray below meth c H locs 0 0 (MQ below (va_Qv (fun (u : Nat → Option va_E) => mPic u mm cI ad (va_up f 11 (apF (f 11) pp (x1 :: numB v))) th no wr n k z r so (nI (pp + (x1 :: numB v).length))) (fun w2 t => mw G ncl A w2 t.heap ∧ va_K G ncl (q0 :: q1 :: (cI, .int) :: ty2) t) A) ([.ref mm, .int x1, .int v] : List Value).toArray s 0 0 A) (F0 m 48 ls []) := by
    intro n9
    induction n9 with
    | zero =>
      intro g q w1 H locs ls h5 hfin hq hp hM hS hl
      have hl : lv_has ls 5 [(0, .ref mm), (1, .int x1), (2, .int v), (3, .int (nI sn)), (4, .int 0)] := hl
      refine lv_iload hx hb d_M_number_48 (lv_at hl 4 rfl) ?_
      refine lv_if_le (tgt := 77) hx hb d_M_number_50 (by decide) (fun c_101 => ?_) (fun c_101 => absurd (by decide) c_101)
      exact W.vret hx hb hr (fun t ht hW => ⟨⟨w1, rfl, (by rw [← hfin, ← hq]; exact hp), by rw [ht]; exact hM, va_K.moved hW.alike hK⟩, hS.F ht⟩) hS.2.2 d_M_number_77
    | succ n9 ih =>
      intro g q w1 H locs ls h5 hfin hq hp hM hS hl
      have hl : lv_has ls 5 [(0, .ref mm), (1, .int x1), (2, .int v), (3, .int (nI sn)), (4, .int (nI (10 ^ n9)))] := hl
      have hpw := p10 (k := n9) (by omega)
      have ed : 48 + ((nI sn / nI (10 ^ n9)) - (nI sn / nI (10 ^ n9)) / 10 * 10) = nI (48 + sn / 10 ^ n9 % 10) := by rw [pk_div (by omega) (by omega) (by omega), show (10 : Int32) = nI 10 from rfl, pk_rem (Nat.lt_of_le_of_lt (Nat.div_le_self _ _) (by omega)) (by decide) (by decide), show (48 : Int32) = nI 48 from rfl, nI_add]
      refine lv_iload hx hb d_M_number_48 (lv_at hl 4 rfl) ?_
      refine lv_if_le (tgt := 77) hx hb d_M_number_50 (by decide) (fun c_201 => absurd c_201 (nI_nle hpw.1 (by omega))) (fun c_201 => ?_)
      refine lv_aload_n hx hb d_M_number_53 rfl (lv_at hl 0 rfl) ?_
      refine lv_bipush (v := 48) hx hb d_M_number_54 (by decide) ?_
      refine lv_iload_n hx hb d_M_number_56 rfl (lv_at hl 3 rfl) ?_
      refine lv_iload hx hb d_M_number_57 (lv_at hl 4 rfl) ?_
      refine lv_idiv hx hb d_M_number_59 (nI_ne0 hpw.1 (by omega)) ?_
      refine lv_bipush (v := 10) hx hb d_M_number_60 (by decide) ?_
      refine lv_irem hx hb d_M_number_62 (by decide) ?_
      refine lv_iadd hx hb d_M_number_63 ?_
      have hF := mw_free hM hS hA
      refine va_callv (va_runV (As := [.int (48 + (((nI sn) / (nI (10 ^ n9))) - ((nI sn) / (nI (10 ^ n9))) / 10 * 10))]) (rest := []) ⟨hx, hb, hml, hown, hta⟩ (k_M_put l G q0 q1 cI ty2 w1 had hp (pp := q) (by omega) rfl (48 + (((nI sn) / (nI (10 ^ n9))) - ((nI sn) / (nI (10 ^ n9))) / 10 * 10)) _) (cV 1 hta aw_709 aw_5 aw_706 aw_708 as_SceneTimesModel_put rfl rfl (by decide +kernel) ⟨Nat.le_of_ble_eq_true rfl, Nat.le_of_ble_eq_true rfl⟩) (pZ_V hK hM rfl hp.1) rfl rfl hl.1 rfl (lv_room (Nat.le_of_ble_eq_true rfl)) d_M_number_64 ⟨Nat.le_of_ble_eq_true rfl, Nat.le_of_ble_eq_true rfl⟩) hS (fun q _ h => hF q h) hF (fun u_r_202 t H locs ht hvm hr_202 hB hz1 hk1 hS => ?_)
      obtain ⟨hM1, hK1⟩ := hB
      rw [ht] at hM1
      have hM := mw_weaken hM1 hF
      clear hM1 hK1 hF hk1 hz1
      have hp_203 : mPic u_r_202 mm cI ad (va_up f 11 (upd g q (48 + (((nI sn) / (nI (10 ^ n9))) - ((nI sn) / (nI (10 ^ n9))) / 10 * 10)))) th no wr n k z r so (nI (q + 1)) := by have z := hr_202; rw [va_up_up, nI_1] at z; exact z
      refine lv_iload hx hb d_M_number_67 (lv_at hl 4 rfl) ?_
      refine lv_bipush (v := 10) hx hb d_M_number_69 (by decide) ?_
      refine lv_idiv hx hb d_M_number_71 (by decide) ?_
      refine lv_istore (lv' := [(4, .int ((nI (10 ^ n9)) / 10)), (0, .ref mm), (1, .int x1), (2, .int v), (3, .int (nI sn))]) hx hb d_M_number_72 hl (by decide) rfl (fun ls hl => ?_)
      refine lv_goto (tgt := 48) hx hb d_M_number_74 (by decide) ?_
      have eu : (nI (10 ^ n9)) / 10 = nI (un n9) := by rw [show (10 : Int32) = nI 10 from rfl, pk_div (by omega) (by decide) (by decide)]; exact congrArg nI (un_10 n9)
      rw [eu] at hl
      exact ih (upd g q (48 + (((nI sn) / (nI (10 ^ n9))) - ((nI sn) / (nI (10 ^ n9))) / 10 * 10))) (q + 1) u_r_202 H locs ls (by omega) (by rw [← hfin]; show _ = apF (upd g q _) (q + 1) (dgL sn n9); rw [ed]) (by omega) hp_203 hM hS (lv_sub hl [1, 2, 3, 4, 0] rfl)
  have loop1 : ∀ (m9 k9 : Nat) (g : Nat → Int32) (q : Nat) (w1 : Nat → Option va_E) (H : Heap) (locs : List Loc) (ls : Array Slot), k9 + m9 = kdg sn → apF g q (dgL sn (kdg sn + 1)) = (apF (f 11) pp (x1 :: numB v)) → q + (kdg sn + 1) = (pp + (x1 :: numB v).length) → mPic w1 mm cI ad (va_up f 11 g) th no wr n k z r so (nI q) → mw G ncl A w1 H → va_S A s.heap H locs → lv_has ls 5 [(0, .ref mm), (1, .int x1), (2, .int v), (3, .int (nI sn)), (4, .int (nI (10 ^ k9)))] → W p l e (headSpec (wm y_M_number c_M_number 5 none) ({ frames := 1, cells := 0, slots := 0, locals := 21 })).room s m ([.ref mm, .int x1, .int v] : List Value).toArray below meth c H locs 0 0 (MQ below (va_Qv (fun (u : Nat → Option va_E) => mPic u mm cI ad (va_up f 11 (apF (f 11) pp (x1 :: numB v))) th no wr n k z r so (nI (pp + (x1 :: numB v).length))) (fun w2 t => mw G ncl A w2 t.heap ∧ va_K G ncl (q0 :: q1 :: (cI, .int) :: ty2) t) A) ([.ref mm, .int x1, .int v] : List Value).toArray s 0 0 A) (F0 m 29 ls []) := by
    intro m9
    induction m9 with
    | zero =>
      intro k9 g q w1 H locs ls hk9 hfin hq hp hM hS hl
      have hpw := p10 (k := k9) (by omega)
      have hk8 : k9 = kdg sn := by omega
      subst hk8
      refine lv_iload_n hx hb d_M_number_29 rfl (lv_at hl 3 rfl) ?_
      refine lv_iload hx hb d_M_number_30 (lv_at hl 4 rfl) ?_
      refine lv_idiv hx hb d_M_number_32 (nI_ne0 hpw.1 (by omega)) ?_
      refine lv_bipush (v := 9) hx hb d_M_number_33 (by decide) ?_
      refine lv_icmp_le (tgt := 48) hx hb d_M_number_35 (by decide) (fun c_301 => ?_) (fun c_301 => absurd (by rw [pk_div (by omega) (by omega) (by omega)]; exact nI_le (b := 9) (Nat.le_of_not_lt (fun z => Nat.lt_irrefl _ ((kdg_lt hv hk4).mp z))) (by decide)) c_301)
      exact loop2 (kdg sn + 1) g q w1 H locs ls (by omega) hfin hq hp hM hS (lv_sub hl [0, 1, 2, 3, 4] rfl)
    | succ m9 ih =>
      intro k9 g q w1 H locs ls hk9 hfin hq hp hM hS hl
      have hpw := p10 (k := k9) (by omega)
      refine lv_iload_n hx hb d_M_number_29 rfl (lv_at hl 3 rfl) ?_
      refine lv_iload hx hb d_M_number_30 (lv_at hl 4 rfl) ?_
      refine lv_idiv hx hb d_M_number_32 (nI_ne0 hpw.1 (by omega)) ?_
      refine lv_bipush (v := 9) hx hb d_M_number_33 (by decide) ?_
      refine lv_icmp_le (tgt := 48) hx hb d_M_number_35 (by decide) (fun c_401 => absurd c_401 (by rw [pk_div (by omega) (by omega) (by omega)]; exact nI_ge (a := 9) ((kdg_lt hv (by omega)).mpr (by omega)) (Nat.lt_of_le_of_lt (Nat.div_le_self _ _) (by omega)))) (fun c_401 => ?_)
      refine lv_bipush (v := 10) hx hb d_M_number_38 (by decide) ?_
      refine lv_iload hx hb d_M_number_40 (lv_at hl 4 rfl) ?_
      refine lv_imul hx hb d_M_number_42 ?_
      refine lv_istore (lv' := [(4, .int (10 * (nI (10 ^ k9)))), (0, .ref mm), (1, .int x1), (2, .int v), (3, .int (nI sn))]) hx hb d_M_number_43 hl (by decide) rfl (fun ls hl => ?_)
      refine lv_goto (tgt := 29) hx hb d_M_number_45 (by decide) ?_
      have eu : 10 * (nI (10 ^ k9)) = nI (10 ^ (k9 + 1)) := by rw [show (10 : Int32) = nI 10 from rfl, pk_mul, Nat.pow_succ, Nat.mul_comm]
      rw [eu] at hl
      exact ih (k9 + 1) g q w1 H locs ls (by omega) hfin hq hp hM hS (lv_sub hl [1, 2, 3, 4, 0] rfl)
  have j26 : ∀ (g : Nat → Int32) (q : Nat) (w1 : Nat → Option va_E) (H : Heap) (locs : List Loc) (ls : Array Slot), apF g q (dgL sn (kdg sn + 1)) = (apF (f 11) pp (x1 :: numB v)) → q + (kdg sn + 1) = (pp + (x1 :: numB v).length) → mPic w1 mm cI ad (va_up f 11 g) th no wr n k z r so (nI q) → mw G ncl A w1 H → va_S A s.heap H locs → lv_has ls 5 [(0, .ref mm), (1, .int x1), (2, .int v), (3, .int (nI sn))] → W p l e (headSpec (wm y_M_number c_M_number 5 none) ({ frames := 1, cells := 0, slots := 0, locals := 21 })).room s m ([.ref mm, .int x1, .int v] : List Value).toArray below meth c H locs 0 0 (MQ below (va_Qv (fun (u : Nat → Option va_E) => mPic u mm cI ad (va_up f 11 (apF (f 11) pp (x1 :: numB v))) th no wr n k z r so (nI (pp + (x1 :: numB v).length))) (fun w2 t => mw G ncl A w2 t.heap ∧ va_K G ncl (q0 :: q1 :: (cI, .int) :: ty2) t) A) ([.ref mm, .int x1, .int v] : List Value).toArray s 0 0 A) (F0 m 26 ls []) := by
    intro g q w1 H locs ls hfin hq hp hM hS hl
    refine lv_iconst (v := 1) hx hb d_M_number_26 (by decide) ?_
    refine lv_istore (lv' := [(4, .int 1), (0, .ref mm), (1, .int x1), (2, .int v), (3, .int (nI sn))]) hx hb d_M_number_27 hl (by decide) rfl (fun ls hl => ?_)
    exact loop1 (kdg sn) 0 g q w1 H locs ls (by omega) hfin hq hp hM hS (lv_sub hl [1, 2, 3, 4, 0] rfl)
  have hlen2 := hlen
  unfold numB at hlen2
  rw [← esn] at hlen2
  by_cases hv0 : 0 ≤ v
  · have en : numB v = dgL sn (kdg sn + 1) := by unfold numB; rw [← esn, if_neg (by rw [Int32.lt_iff_toInt_lt]; rw [Int32.le_iff_toInt_le] at hv0; omega)]; rfl
    have hq9 := hlen
    rw [en] at hq9
    have hd := dgL_len sn (kdg sn + 1)
    simp only [List.length_cons, hd] at hq9
    have hmp0 : mPic w mm cI ad (va_up f 11 (f 11)) th no wr n k z r so (nI pp) := by rw [va_up_id]; exact hmp
    refine lv_aload_n hx hb d_M_number_0 rfl (lv_at hl 0 rfl) ?_
    refine lv_iload_n hx hb d_M_number_1 rfl (lv_at hl 1 rfl) ?_
    have hF := mw_free hM hS hA
    refine va_callv (va_runV (As := [.int x1]) (rest := []) ⟨hx, hb, hml, hown, hta⟩ (k_M_put l G q0 q1 cI ty2 w had hmp0 (pp := pp) (by omega) rfl x1 _) (cV 1 hta aw_709 aw_5 aw_706 aw_708 as_SceneTimesModel_put rfl rfl (by decide +kernel) ⟨Nat.le_of_ble_eq_true rfl, Nat.le_of_ble_eq_true rfl⟩) (pZ_V hK hM rfl hmp0.1) rfl rfl hl.1 rfl (lv_room (Nat.le_of_ble_eq_true rfl)) d_M_number_2 ⟨Nat.le_of_ble_eq_true rfl, Nat.le_of_ble_eq_true rfl⟩) hS (fun q _ h => hF q h) hF (fun u_r_601 t H locs ht hvm hr_601 hB hz1 hk1 hS => ?_)
    obtain ⟨hM1, hK1⟩ := hB
    rw [ht] at hM1
    have hM := mw_weaken hM1 hF
    clear hM1 hK1 hF hk1 hz1
    have hp_602 : mPic u_r_601 mm cI ad (va_up f 11 (upd (f 11) pp x1)) th no wr n k z r so (nI (pp + 1)) := by have z := hr_601; rw [va_up_up, nI_1] at z; exact z
    refine lv_iload_n hx hb d_M_number_5 rfl (lv_at hl 2 rfl) ?_
    refine lv_if_ge (tgt := 14) hx hb d_M_number_6 (by decide) (fun c_603 => ?_) (fun c_603 => absurd hv0 c_603)
    refine lv_iload_n hx hb d_M_number_14 rfl (lv_at hl 2 rfl) ?_
    refine lv_istore_n (lv' := [(3, .int v), (0, .ref mm), (1, .int x1), (2, .int v)]) hx hb d_M_number_15 rfl hl (by decide) rfl (fun ls hl => ?_)
    refine lv_iload_n hx hb d_M_number_16 rfl (lv_at hl 3 rfl) ?_
    refine lv_if_ge (tgt := 26) hx hb d_M_number_17 (by decide) (fun c_604 => ?_) (fun c_604 => absurd hv0 c_604)
    have hl9 : lv_has ls 5 [(0, .ref mm), (1, .int x1), (2, .int v), (3, .int (v))] := (lv_sub hl [1, 2, 3, 0] rfl)
    have e39 : v = nI sn := hab.1 hv0
    have hl8 : lv_has ls 5 [(0, .ref mm), (1, .int x1), (2, .int v), (3, .int (nI sn))] := by refine ⟨hl9.1, hl9.2.1, fun z hz => ?_⟩; rw [← e39] at hz; exact hl9.2.2 z hz
    exact j26 (upd (f 11) pp x1) (pp + 1) u_r_601 H locs ls (by rw [en]; rfl) (by rw [en]; simp only [List.length_cons, hd]; omega) hp_602 hM hS hl8
  · have en : numB v = 45 :: dgL sn (kdg sn + 1) := by unfold numB; rw [← esn, if_pos (by rw [Int32.lt_iff_toInt_lt]; rw [Int32.le_iff_toInt_le] at hv0; omega)]; rfl
    have hq9 := hlen
    rw [en] at hq9
    have hd := dgL_len sn (kdg sn + 1)
    simp only [List.length_cons, hd] at hq9
    have hmp0 : mPic w mm cI ad (va_up f 11 (f 11)) th no wr n k z r so (nI pp) := by rw [va_up_id]; exact hmp
    refine lv_aload_n hx hb d_M_number_0 rfl (lv_at hl 0 rfl) ?_
    refine lv_iload_n hx hb d_M_number_1 rfl (lv_at hl 1 rfl) ?_
    have hF := mw_free hM hS hA
    refine va_callv (va_runV (As := [.int x1]) (rest := []) ⟨hx, hb, hml, hown, hta⟩ (k_M_put l G q0 q1 cI ty2 w had hmp0 (pp := pp) (by omega) rfl x1 _) (cV 1 hta aw_709 aw_5 aw_706 aw_708 as_SceneTimesModel_put rfl rfl (by decide +kernel) ⟨Nat.le_of_ble_eq_true rfl, Nat.le_of_ble_eq_true rfl⟩) (pZ_V hK hM rfl hmp0.1) rfl rfl hl.1 rfl (lv_room (Nat.le_of_ble_eq_true rfl)) d_M_number_2 ⟨Nat.le_of_ble_eq_true rfl, Nat.le_of_ble_eq_true rfl⟩) hS (fun q _ h => hF q h) hF (fun u_r_701 t H locs ht hvm hr_701 hB hz1 hk1 hS => ?_)
    obtain ⟨hM1, hK1⟩ := hB
    rw [ht] at hM1
    have hM := mw_weaken hM1 hF
    clear hM1 hK1 hF hk1 hz1
    have hp_702 : mPic u_r_701 mm cI ad (va_up f 11 (upd (f 11) pp x1)) th no wr n k z r so (nI (pp + 1)) := by have z := hr_701; rw [va_up_up, nI_1] at z; exact z
    refine lv_iload_n hx hb d_M_number_5 rfl (lv_at hl 2 rfl) ?_
    refine lv_if_ge (tgt := 14) hx hb d_M_number_6 (by decide) (fun c_703 => absurd c_703 hv0) (fun c_703 => ?_)
    refine lv_iload_n hx hb d_M_number_9 rfl (lv_at hl 2 rfl) ?_
    refine lv_ineg hx hb d_M_number_10 ?_
    refine lv_goto (tgt := 15) hx hb d_M_number_11 (by decide) ?_
    refine lv_istore_n (lv' := [(3, .int (-v)), (0, .ref mm), (1, .int x1), (2, .int v)]) hx hb d_M_number_15 rfl hl (by decide) rfl (fun ls hl => ?_)
    refine lv_iload_n hx hb d_M_number_16 rfl (lv_at hl 3 rfl) ?_
    refine lv_if_ge (tgt := 26) hx hb d_M_number_17 (by decide) (fun c_704 => absurd c_704 hv0) (fun c_704 => ?_)
    refine lv_aload_n hx hb d_M_number_20 rfl (lv_at hl 1 rfl) ?_
    refine lv_bipush (v := 45) hx hb d_M_number_21 (by decide) ?_
    have hF := mw_free hM hS hA
    refine va_callv (va_runV (As := [.int 45]) (rest := []) ⟨hx, hb, hml, hown, hta⟩ (k_M_put l G q0 q1 cI ty2 u_r_701 had hp_702 (pp := (pp + 1)) (by omega) rfl 45 _) (cV 1 hta aw_709 aw_5 aw_706 aw_708 as_SceneTimesModel_put rfl rfl (by decide +kernel) ⟨Nat.le_of_ble_eq_true rfl, Nat.le_of_ble_eq_true rfl⟩) (pZ_V hK hM rfl hp_702.1) rfl rfl hl.1 rfl (lv_room (Nat.le_of_ble_eq_true rfl)) d_M_number_23 ⟨Nat.le_of_ble_eq_true rfl, Nat.le_of_ble_eq_true rfl⟩) hS (fun q _ h => hF q h) hF (fun u_r_705 t H locs ht hvm hr_705 hB hz1 hk1 hS => ?_)
    obtain ⟨hM1, hK1⟩ := hB
    rw [ht] at hM1
    have hM := mw_weaken hM1 hF
    clear hM1 hK1 hF hk1 hz1
    have hp_706 : mPic u_r_705 mm cI ad (va_up f 11 (upd (upd (f 11) pp x1) (pp + 1) 45)) th no wr n k z r so (nI ((pp + 1) + 1)) := by have z := hr_705; rw [va_up_up, nI_1] at z; exact z
    have hl9 : lv_has ls 5 [(0, .ref mm), (1, .int x1), (2, .int v), (3, .int (-v))] := (lv_sub hl [1, 2, 3, 0] rfl)
    have e39 : -v = nI sn := hab.2 hv0
    have hl8 : lv_has ls 5 [(0, .ref mm), (1, .int x1), (2, .int v), (3, .int (nI sn))] := by refine ⟨hl9.1, hl9.2.1, fun z hz => ?_⟩; rw [← e39] at hz; exact hl9.2.2 z hz
    exact j26 (upd (upd (f 11) pp x1) (pp + 1) 45) ((pp + 1) + 1) u_r_705 H locs ls (by rw [en]; rfl) (by rw [en]; simp only [List.length_cons, hd]; omega) hp_706 hM hS hl8
def rowB (f : Nat → Nat → Int32) (so : Int32) (ka j : Nat) : List Int32 := numB (f 3 j) ++ (58 :: ((119 :: numB (f 0 j)) ++ ((107 :: numB (f 1 j)) ++ ((115 :: numB (f 2 j)) ++ ((61 :: numB (valM f so j ka)) ++ ((if strM f so j ka = 0 then [] else [120]) ++ [59]))))))
def rowsB (f : Nat → Nat → Int32) (so : Int32) (ka : Nat) : Nat → Nat → List Int32
  | 0, _ => []
  | m + 1, i => rowB f so ka (f 10 i).toNatClampNeg ++ rowsB f so ka m (i + 1)
def shtB (f : Nat → Nat → Int32) (so : Int32) (ka rr : Nat) : List Int32 := (84 :: numB (nI rr)) ++ (59 :: rowsB f so ka rr 0)
theorem valM_11 (f : Nat → Nat → Int32) (g : Nat → Int32) (t : Int32) (j a : Nat) : valM (va_up f 11 g) t j a = valM f t j a := by
  induction a with
  | zero => rfl
  | succ a ih => unfold valM; rw [ih]; rfl
theorem strM_11 (f : Nat → Nat → Int32) (g : Nat → Int32) (t : Int32) (j a : Nat) : strM (va_up f 11 g) t j a = strM f t j a := by
  induction a with
  | zero => rfl
  | succ a ih => unfold strM; rw [ih]; rfl
theorem upd_id (g : Nat → Int32) (k : Nat) : upd g k (g k) = g := by
  funext i
  unfold upd
  split
  · rename_i h; rw [h]
  · rfl
