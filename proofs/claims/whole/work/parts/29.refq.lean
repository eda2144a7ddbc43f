/-! the reference: ask, reading, gap, by the list of the notes that follow each other -/
/-- L: the notes that S finds one behind the other, from lo on -/
def folL (S : Option Nat → Option Nat) : Option Nat → List Nat → Prop
  | lo, [] => S lo = none
  | lo, a :: r => S lo = some a ∧ folL S (some a) r
theorem folL_h {S : Option Nat → Option Nat} {lo : Option Nat} {L : List Nat} (h : folL S lo L) : S lo = L.head? := by
  cases L with
  | nil => exact h
  | cons a r => exact h.1
def folT (S : Option Nat → Option Nat) : List Nat → Prop
  | [] => True
  | a :: r => folL S (some a) r
theorem folL_t {S : Option Nat → Option Nat} {lo : Option Nat} {L : List Nat} (h : folL S lo L) : folT S L := by
  cases L with
  | nil => trivial
  | cons a r => exact h.2
def folS (f : Nat → Nat → Int32) (sk k z t no : Int32) (ka nn : Nat) : Option Nat → Option Nat := fun lo => folM (filM f lo sk k z t no ka) (befN f) nn
theorem strM_10 (f : Nat → Nat → Int32) (g : Nat → Int32) (t : Int32) (j a : Nat) : strM (va_up f 10 g) t j a = strM f t j a := by
  induction a with
  | zero => rfl
  | succ a ih => unfold strM; rw [ih]; rfl
theorem filM_10 (f : Nat → Nat → Int32) (g : Nat → Int32) (lo : Option Nat) (sk k z t no : Int32) (ka : Nat) : filM (va_up f 10 g) lo sk k z t no ka = filM f lo sk k z t no ka := by
  funext i
  unfold filM
  rw [strM_10]
  cases lo <;> rfl
theorem befN_10 (f : Nat → Nat → Int32) (g : Nat → Int32) : befN (va_up f 10 g) = befN f := rfl
theorem folS_10 (f : Nat → Nat → Int32) (g : Nat → Int32) (sk k z t no : Int32) (ka nn : Nat) : folS (va_up f 10 g) sk k z t no ka nn = folS f sk k z t no ka nn := by
  funext lo
  unfold folS
  rw [filM_10, befN_10]
/-- the rows of a question, laid from place c on -/
def askF (W : Nat → Bool) : (Nat → Int32) → Nat → List Nat → (Nat → Int32) × Nat
  | g, c, [] => (g, c)
  | g, c, a :: r => if W a = true then askF W (upd g c (nI a)) (c + 1) r else askF W g c r
def inW (f : Nat → Nat → Int32) (x1 x2 : Int32) (a : Nat) : Bool := decide (¬ f 3 a < x1 ∧ ¬ x2 ≤ f 3 a)
theorem va_up_up {α : Type} (f : Nat → α) (k : Nat) (a b : α) : va_up (va_up f k a) k b = va_up f k b := bx_uu f k a b
set_option maxHeartbeats 4000000 in
set_option maxRecDepth 100000 in
theorem k_M_ask (l : Launch) (G : va_G) (q0 q1 : ClassId × FieldType) (cI : ClassId) (ty2 : List (ClassId × FieldType)) (w : Nat → Option va_E) {mm : Nat} {ad : Nat → Nat} (had : ∀ i j, i < 12 → j < 12 → ad i = ad j → i = j) {f : Nat → Nat → Int32} {th no wr n k z r so pr : Int32} (hmp : mPic w mm cI ad f th no wr n k z r so pr) {ka nn : Nat} (hk : ka ≤ 200) (ek : k = nI ka) (hn : nn ≤ 100) (en : n = nI nn) (x1 x2 x3 x4 x5 : Int32) {L0 : List Nat} (hL0 : folL (folS f 1 x3 x4 x5 no ka nn) none L0) (hLl : L0.length ≤ 100) (hLm : ∀ a ∈ L0, a < nn) (sz : Nat) : Met l y_M_ask (wm y_M_ask c_M_ask 7 (some .int)) ({ frames := 2, cells := 0, slots := 0, locals := 51 }) (pZ G (q0 :: q1 :: (cI, .int) :: ty2) w sz [.ref mm, .int x1, .int x2, .int x3, .int x4, .int x5]) (va_Qi (fun (r0 : Int32) (u : Nat → Option va_E) => (¬ gC (if (¬ x3 < (-1) ∧ ¬ 5 < x3) ∧ (¬ x4 < (-1) ∧ ¬ 9 < x4) then 1 else 0) (if (¬ x5 < 0 ∧ ¬ no < x5) then 1 else 0) 1 1 = 0 → mPic u mm cI ad f (nI (gT 3 (gC (if (¬ x3 < (-1) ∧ ¬ 5 < x3) ∧ (¬ x4 < (-1) ∧ ¬ 9 < x4) then 1 else 0) (if (¬ x5 < 0 ∧ ¬ no < x5) then 1 else 0) 1 1))) no wr n k z r so pr) ∧ (gC (if (¬ x3 < (-1) ∧ ¬ 5 < x3) ∧ (¬ x4 < (-1) ∧ ¬ 9 < x4) then 1 else 0) (if (¬ x5 < 0 ∧ ¬ no < x5) then 1 else 0) 1 1 = 0 → r0 = nI (askF (inW f x1 x2) (f 10) 0 L0).2 ∧ mPic u mm cI ad (va_up f 10 (askF (inW f x1 x2) (f 10) 0 L0).1) 0 no wr n k 1 (nI (askF (inW f x1 x2) (f 10) 0 L0).2) x5 pr)) (fun w2 t => mw G ncl (mA w sz) w2 t.heap ∧ va_K G ncl (q0 :: q1 :: (cI, .int) :: ty2) t) (mA w sz)) 0 0 (mA w sz) := by
  refine Met.ofW (cc := c_M_ask) (maxL := 7) (ret := (some .int)) (by decide) rfl ?_
  intro p e s m args below meth c s₁ B hml hv
  obtain ⟨rfl, hsz, hM0, hK⟩ := hv
  have hx := B.exec
  have hb := B.bytes
  have hr := B.returns
  have hts := atoms_spec (ws := (wm y_M_ask c_M_ask 7 (some .int))) B.pre
  have hta : ∀ w ∈ AL, w.before _ s = true := fun w h => hts w (List.mem_cons_of_mem _ h)
  have hown : s.vm.findClass nR_M = some m.cls := findClass_of_methodNamed B.named
  have hlocks := B.notSynchronized
  have hl := lv_entry ([.ref mm, .int x1, .int x2, .int x3, .int x4, .int x5]) (n := 7) (Nat.le_of_ble_eq_true rfl)
  rw [lg_entry_eq]
  generalize (lg_sl ([.ref mm, .int x1, .int x2, .int x3, .int x4, .int x5]) ++ List.replicate (7 - (lg_sl ([.ref mm, .int x1, .int x2, .int x3, .int x4, .int x5])).length) Slot.unset).toArray = ls at hl ⊢
  have hl : lv_has ls 7 [(0, .ref mm), (1, .int x1), (2, .int x2), (3, .int x3), (4, .int x4), (5, .int x5)] := hl
  subst hsz
  have hM := mw_self (sz := s.heap.size) hM0
  clear hM0
  generalize hAe : mA w s.heap.size = A at hM ⊢
  have hA : ∀ q : Nat, s.heap.size ≤ q → A q := fun q h => by rw [← hAe]; exact Or.inr h
  have hS : va_S A s.heap s.heap [] := va_S.rf
  have j33 : ∀ (b1 b2 : Int32) (ls : Array Slot), b1 = (if (¬ x3 < (-1) ∧ ¬ 5 < x3) ∧ (¬ x4 < (-1) ∧ ¬ 9 < x4) then 1 else 0) → b2 = (if (¬ x5 < 0 ∧ ¬ no < x5) then 1 else 0) → lv_has ls 7 [(0, .ref mm), (1, .int x1), (2, .int x2), (3, .int x3), (4, .int x4), (5, .int x5)] → W p l e (headSpec (wm y_M_ask c_M_ask 7 (some .int)) ({ frames := 2, cells := 0, slots := 0, locals := 51 })).room s m ([.ref mm, .int x1, .int x2, .int x3, .int x4, .int x5] : List Value).toArray below meth c s.heap [] 0 0 (MQ below (va_Qi (fun (r0 : Int32) (u : Nat → Option va_E) => (¬ gC (if (¬ x3 < (-1) ∧ ¬ 5 < x3) ∧ (¬ x4 < (-1) ∧ ¬ 9 < x4) then 1 else 0) (if (¬ x5 < 0 ∧ ¬ no < x5) then 1 else 0) 1 1 = 0 → mPic u mm cI ad f (nI (gT 3 (gC (if (¬ x3 < (-1) ∧ ¬ 5 < x3) ∧ (¬ x4 < (-1) ∧ ¬ 9 < x4) then 1 else 0) (if (¬ x5 < 0 ∧ ¬ no < x5) then 1 else 0) 1 1))) no wr n k z r so pr) ∧ (gC (if (¬ x3 < (-1) ∧ ¬ 5 < x3) ∧ (¬ x4 < (-1) ∧ ¬ 9 < x4) then 1 else 0) (if (¬ x5 < 0 ∧ ¬ no < x5) then 1 else 0) 1 1 = 0 → r0 = nI (askF (inW f x1 x2) (f 10) 0 L0).2 ∧ mPic u mm cI ad (va_up f 10 (askF (inW f x1 x2) (f 10) 0 L0).1) 0 no wr n k 1 (nI (askF (inW f x1 x2) (f 10) 0 L0).2) x5 pr)) (fun w2 t => mw G ncl A w2 t.heap ∧ va_K G ncl (q0 :: q1 :: (cI, .int) :: ty2) t) A) ([.ref mm, .int x1, .int x2, .int x3, .int x4, .int x5] : List Value).toArray s 0 0 A) (F0 m 33 ls [.int b2, .int b1, .int 3, .ref mm]) := by
    intro b1 b2 ls eb1 eb2 hl
    refine lv_iconst (v := 1) hx hb d_M_ask_33 (by decide) ?_
    refine lv_iconst (v := 1) hx hb d_M_ask_34 (by decide) ?_
    have hF := mw_free hM hS hA
    refine va_calli (va_runV (As := [.int 3, .int b1, .int b2, .int 1, .int 1]) (rest := []) ⟨hx, hb, hml, hown, hta⟩ (k_M_goes_3 l G q0 q1 cI ty2 w hmp.1 hmp.2 b1 b2 1 1 _) (cV 5 hta aw_619 aw_5 aw_616 aw_618 as_SceneTimesModel_goes rfl rfl (by decide +kernel) ⟨Nat.le_of_ble_eq_true rfl, Nat.le_of_ble_eq_true rfl⟩) (pZ_V hK hM rfl hmp.1) rfl rfl hl.1 rfl (lv_room (Nat.le_of_ble_eq_true rfl)) d_M_ask_35 ⟨Nat.le_of_ble_eq_true rfl, Nat.le_of_ble_eq_true rfl⟩) hS (fun q _ h => hF q h) hF (fun r_10 u_r_10 t H locs ht hvm hr_10 hB hz1 hk1 hS => ?_)
    obtain ⟨hM1, hK1⟩ := hB
    rw [ht] at hM1
    have hM := mw_weaken hM1 hF
    clear hM1 hK1 hF hk1 hz1
    obtain ⟨w_11, hw_11⟩ : ∃ z9 : Nat → Option va_E, z9 = va_up w mm (some (.inr (6, [.int (nI (gT 3 (gC b1 b2 1 1))), .int no, .int wr, .int n, .ref (ad 0), .ref (ad 1), .ref (ad 2), .ref (ad 3), .ref (ad 4), .ref (ad 5), .int k, .ref (ad 6), .ref (ad 7), .ref (ad 8), .ref (ad 9), .int z, .int r, .int so, .ref (ad 10), .int pr, .ref (ad 11)]))) := ⟨_, rfl⟩
    rw [← hw_11] at hM
    have mp_12 : mPic w_11 mm cI ad f (nI (gT 3 (gC b1 b2 1 1))) no wr n k z r so pr := by rw [hw_11]; exact mp_obj hmp (nI (gT 3 (gC b1 b2 1 1))) no wr n k z r so pr
    have k_13 : w_11 (ad 3) = some (aI cI 100 (f 3)) := mp_12.2 3 (by decide)
    have k_14 : w_11 (ad 10) = some (aI cI 100 (f 10)) := mp_12.2 10 (by decide)
    refine lv_if_ne (tgt := 43) hx hb d_M_ask_38 (by decide) (fun c_15 => ?_) (fun c_15 => ?_)
    · have hc := go_t hr_10 c_15
      refine lv_aload_n hx hb d_M_ask_43 rfl (lv_at hl 0 rfl) ?_
      refine lv_iconst (v := 1) hx hb d_M_ask_44 (by decide) ?_
      refine m_put (D := G) (ci := 6) (v := .int 1) (ty := .boolean) (C := nR_M) (T := nT_M) (N := 21) hx hb hta in_M nt_M nt_M_ok nn_M hown hK hM hS mp_12.1 rfl 15 (by decide) (hta _ aw_558) (fun _ h9 => h9) rfl (by decide +kernel) rfl rfl (Nat.le_of_ble_eq_true rfl) d_M_ask_45 (fs' := [.int (nI (gT 3 (gC b1 b2 1 1))), .int no, .int wr, .int n, .ref (ad 0), .ref (ad 1), .ref (ad 2), .ref (ad 3), .ref (ad 4), .ref (ad 5), .int k, .ref (ad 6), .ref (ad 7), .ref (ad 8), .ref (ad 9), .int 1, .int r, .int so, .ref (ad 10), .int pr, .ref (ad 11)]) rfl (fun H locs hM hS => ?_)
      obtain ⟨w_16, hw_16⟩ : ∃ z9 : Nat → Option va_E, z9 = va_up w_11 mm (some (.inr (6, [.int (nI (gT 3 (gC b1 b2 1 1))), .int no, .int wr, .int n, .ref (ad 0), .ref (ad 1), .ref (ad 2), .ref (ad 3), .ref (ad 4), .ref (ad 5), .int k, .ref (ad 6), .ref (ad 7), .ref (ad 8), .ref (ad 9), .int 1, .int r, .int so, .ref (ad 10), .int pr, .ref (ad 11)]))) := ⟨_, rfl⟩
      rw [← hw_16] at hM
      have mp_17 : mPic w_16 mm cI ad f (nI (gT 3 (gC b1 b2 1 1))) no wr n k 1 r so pr := by rw [hw_16]; exact mp_obj mp_12 (nI (gT 3 (gC b1 b2 1 1))) no wr n k 1 r so pr
      have k_18 : w_16 (ad 3) = some (aI cI 100 (f 3)) := mp_17.2 3 (by decide)
      have k_19 : w_16 (ad 10) = some (aI cI 100 (f 10)) := mp_17.2 10 (by decide)
      refine lv_aload_n hx hb d_M_ask_48 rfl (lv_at hl 0 rfl) ?_
      refine lv_iload hx hb d_M_ask_49 (lv_at hl 5 rfl) ?_
      refine m_put (D := G) (ci := 6) (v := .int x5) (ty := .int) (C := nR_M) (T := nT_M) (N := 21) hx hb hta in_M nt_M nt_M_ok nn_M hown hK hM hS mp_17.1 rfl 17 (by decide) (hta _ aw_560) (fun _ h9 => h9) rfl (by decide +kernel) rfl rfl (Nat.le_of_ble_eq_true rfl) d_M_ask_51 (fs' := [.int (nI (gT 3 (gC b1 b2 1 1))), .int no, .int wr, .int n, .ref (ad 0), .ref (ad 1), .ref (ad 2), .ref (ad 3), .ref (ad 4), .ref (ad 5), .int k, .ref (ad 6), .ref (ad 7), .ref (ad 8), .ref (ad 9), .int 1, .int r, .int x5, .ref (ad 10), .int pr, .ref (ad 11)]) rfl (fun H locs hM hS => ?_)
      obtain ⟨w_20, hw_20⟩ : ∃ z9 : Nat → Option va_E, z9 = va_up w_16 mm (some (.inr (6, [.int (nI (gT 3 (gC b1 b2 1 1))), .int no, .int wr, .int n, .ref (ad 0), .ref (ad 1), .ref (ad 2), .ref (ad 3), .ref (ad 4), .ref (ad 5), .int k, .ref (ad 6), .ref (ad 7), .ref (ad 8), .ref (ad 9), .int 1, .int r, .int x5, .ref (ad 10), .int pr, .ref (ad 11)]))) := ⟨_, rfl⟩
      rw [← hw_20] at hM
      have mp_21 : mPic w_20 mm cI ad f (nI (gT 3 (gC b1 b2 1 1))) no wr n k 1 r x5 pr := by rw [hw_20]; exact mp_obj mp_17 (nI (gT 3 (gC b1 b2 1 1))) no wr n k 1 r x5 pr
      have k_22 : w_20 (ad 3) = some (aI cI 100 (f 3)) := mp_21.2 3 (by decide)
      have k_23 : w_20 (ad 10) = some (aI cI 100 (f 10)) := mp_21.2 10 (by decide)
      refine lv_aload_n hx hb d_M_ask_54 rfl (lv_at hl 0 rfl) ?_
      refine lv_iconst (v := 0) hx hb d_M_ask_55 (by decide) ?_
      refine m_put (D := G) (ci := 6) (v := .int 0) (ty := .int) (C := nR_M) (T := nT_M) (N := 21) hx hb hta in_M nt_M nt_M_ok nn_M hown hK hM hS mp_21.1 rfl 16 (by decide) (hta _ aw_559) (fun _ h9 => h9) rfl (by decide +kernel) rfl rfl (Nat.le_of_ble_eq_true rfl) d_M_ask_56 (fs' := [.int (nI (gT 3 (gC b1 b2 1 1))), .int no, .int wr, .int n, .ref (ad 0), .ref (ad 1), .ref (ad 2), .ref (ad 3), .ref (ad 4), .ref (ad 5), .int k, .ref (ad 6), .ref (ad 7), .ref (ad 8), .ref (ad 9), .int 1, .int 0, .int x5, .ref (ad 10), .int pr, .ref (ad 11)]) rfl (fun H locs hM hS => ?_)
      obtain ⟨w_24, hw_24⟩ : ∃ z9 : Nat → Option va_E, z9 = va_up w_20 mm (some (.inr (6, [.int (nI (gT 3 (gC b1 b2 1 1))), .int no, .int wr, .int n, .ref (ad 0), .ref (ad 1), .ref (ad 2), .ref (ad 3), .ref (ad 4), .ref (ad 5), .int k, .ref (ad 6), .ref (ad 7), .ref (ad 8), .ref (ad 9), .int 1, .int 0, .int x5, .ref (ad 10), .int pr, .ref (ad 11)]))) := ⟨_, rfl⟩
      rw [← hw_24] at hM
      have mp_25 : mPic w_24 mm cI ad f (nI (gT 3 (gC b1 b2 1 1))) no wr n k 1 0 x5 pr := by rw [hw_24]; exact mp_obj mp_21 (nI (gT 3 (gC b1 b2 1 1))) no wr n k 1 0 x5 pr
      have k_26 : w_24 (ad 3) = some (aI cI 100 (f 3)) := mp_25.2 3 (by decide)
      have k_27 : w_24 (ad 10) = some (aI cI 100 (f 10)) := mp_25.2 10 (by decide)
      refine lv_aload_n hx hb d_M_ask_59 rfl (lv_at hl 0 rfl) ?_
      refine lv_iconst (v := (-1)) hx hb d_M_ask_60 (by decide) ?_
      refine lv_iconst (v := 1) hx hb d_M_ask_61 (by decide) ?_
      refine lv_iload_n hx hb d_M_ask_62 rfl (lv_at hl 3 rfl) ?_
      refine lv_iload hx hb d_M_ask_63 (lv_at hl 4 rfl) ?_
      refine lv_iload hx hb d_M_ask_65 (lv_at hl 5 rfl) ?_
      refine vp_callSi (W.runV (As := [.int (-1), .int 1, .int x3, .int x4, .int x5]) (rest := []) ⟨hx, hb, hml, hown, hta⟩ (k_M_following l G q0 q1 cI ty2 w_24 mp_25.1 mp_25.2 hk ek hn en none (fun j q => by cases q) 1 x3 x4 x5) (cV 5 hta aw_662 aw_5 aw_659 aw_661 as_SceneTimesModel_following rfl rfl (by decide +kernel) ⟨Nat.le_of_ble_eq_true rfl, Nat.le_of_ble_eq_true rfl⟩) (pW_V hK hM rfl mp_25.1) rfl rfl hl.1 rfl (lv_room (Nat.le_of_ble_eq_true rfl)) d_M_ask_67 ⟨Nat.le_of_ble_eq_true rfl, Nat.le_of_ble_eq_true rfl⟩) (fun r_28 hr_28 => ?_)
      refine lv_istore (lv' := [(6, .int r_28), (0, .ref mm), (1, .int x1), (2, .int x2), (3, .int x3), (4, .int x4), (5, .int x5)]) hx hb d_M_ask_70 hl (by decide) rfl (fun ls hl => ?_)
      have loop : ∀ (L : List Nat) (g : Nat → Int32) (c1 : Nat) (w1 : Nat → Option va_E) (H : Heap) (locs : List Loc) (ls : Array Slot), folT (folS f 1 x3 x4 x5 no ka nn) L → c1 + L.length ≤ 100 → (∀ a ∈ L, a < nn) → askF (inW f x1 x2) g c1 L = askF (inW f x1 x2) (f 10) 0 L0 → mPic w1 mm cI ad (va_up f 10 g) (nI (gT 3 (gC b1 b2 1 1))) no wr n k 1 (nI c1) x5 pr → mw G ncl A w1 H → va_S A s.heap H locs → lv_has ls 7 [(0, .ref mm), (1, .int x1), (2, .int x2), (3, .int x3), (4, .int x4), (5, .int x5), (6, .int (oI L.head?))] → W p l e (headSpec (wm y_M_ask c_M_ask 7 (some .int)) ({ frames := 2, cells := 0, slots := 0, locals := 51 })).room s m ([.ref mm, .int x1, .int x2, .int x3, .int x4, .int x5] : List Value).toArray below meth c H locs 0 0 (MQ below (va_Qi (fun (r0 : Int32) (u : Nat → Option va_E) => (¬ gC (if (¬ x3 < (-1) ∧ ¬ 5 < x3) ∧ (¬ x4 < (-1) ∧ ¬ 9 < x4) then 1 else 0) (if (¬ x5 < 0 ∧ ¬ no < x5) then 1 else 0) 1 1 = 0 → mPic u mm cI ad f (nI (gT 3 (gC (if (¬ x3 < (-1) ∧ ¬ 5 < x3) ∧ (¬ x4 < (-1) ∧ ¬ 9 < x4) then 1 else 0) (if (¬ x5 < 0 ∧ ¬ no < x5) then 1 else 0) 1 1))) no wr n k z r so pr) ∧ (gC (if (¬ x3 < (-1) ∧ ¬ 5 < x3) ∧ (¬ x4 < (-1) ∧ ¬ 9 < x4) then 1 else 0) (if (¬ x5 < 0 ∧ ¬ no < x5) then 1 else 0) 1 1 = 0 → r0 = nI (askF (inW f x1 x2) (f 10) 0 L0).2 ∧ mPic u mm cI ad (va_up f 10 (askF (inW f x1 x2) (f 10) 0 L0).1) 0 no wr n k 1 (nI (askF (inW f x1 x2) (f 10) 0 L0).2) x5 pr)) (fun w2 t => mw G ncl A w2 t.heap ∧ va_K G ncl (q0 :: q1 :: (cI, .int) :: ty2) t) A) ([.ref mm, .int x1, .int x2, .int x3, .int x4, .int x5] : List Value).toArray s 0 0 A) (F0 m 72 ls []) := by
        intro L
        induction L with
        | nil =>
          intro g c1 w1 H locs ls hf hc1 hm1 ha hp hM hS hl
          have hl : lv_has ls 7 [(0, .ref mm), (1, .int x1), (2, .int x2), (3, .int x3), (4, .int x4), (5, .int x5), (6, .int (-1))] := hl
          refine lv_iload hx hb d_M_ask_72 (lv_at hl 6 rfl) ?_
          refine lv_if_lt (tgt := 137) hx hb d_M_ask_74 (by decide) (fun c_79 => ?_) (fun c_79 => absurd (by decide) c_79)
          refine lv_aload_n hx hb d_M_ask_137 rfl (lv_at hl 0 rfl) ?_
          refine m_get (D := G) (ci := 6) (v := .int (nI c1)) (C := nR_M) (T := nT_M) (N := 21) hx hb hta in_M hown hK hM hp.1 rfl 16 (by decide) (hta _ aw_559) (fun _ h9 => h9) rfl d_M_ask_138 ?_
          exact W.iret (v := nI c1) hx hb hr (fun t ht hW => ⟨⟨nI c1, w1, rfl, (by subst eb1; subst eb2; exact ⟨fun q => absurd hc q, fun _ => by rw [← ha]; exact ⟨rfl, by have q := hp; rw [hc] at q; exact q⟩⟩), by rw [ht]; exact hM, va_K.moved hW.alike hK⟩, hS.F ht⟩) hS.2.2 d_M_ask_141
        | cons a rr ih =>
          intro g c1 w1 H locs ls hf hc1 hm1 ha hp hM hS hl
          have hl : lv_has ls 7 [(0, .ref mm), (1, .int x1), (2, .int x2), (3, .int x3), (4, .int x4), (5, .int x5), (6, .int (nI a))] := hl
          have ha9 : a < nn := hm1 a List.mem_cons_self
          have hc9 : c1 + rr.length + 1 ≤ 100 := by have := hc1; simp at this; omega
          have q3 : w1 (ad 3) = some (aI cI 100 (f 3)) := hp.2 3 (by decide)
          have q10 : w1 (ad 10) = some (aI cI 100 g) := hp.2 10 (by decide)
          have j120 : ∀ (g : Nat → Int32) (c1 : Nat) (w1 : Nat → Option va_E) (H : Heap) (locs : List Loc) (ls : Array Slot), c1 + rr.length ≤ 100 → askF (inW f x1 x2) g c1 rr = askF (inW f x1 x2) (f 10) 0 L0 → mPic w1 mm cI ad (va_up f 10 g) (nI (gT 3 (gC b1 b2 1 1))) no wr n k 1 (nI c1) x5 pr → mw G ncl A w1 H → va_S A s.heap H locs → lv_has ls 7 [(0, .ref mm), (1, .int x1), (2, .int x2), (3, .int x3), (4, .int x4), (5, .int x5), (6, .int (nI a))] → W p l e (headSpec (wm y_M_ask c_M_ask 7 (some .int)) ({ frames := 2, cells := 0, slots := 0, locals := 51 })).room s m ([.ref mm, .int x1, .int x2, .int x3, .int x4, .int x5] : List Value).toArray below meth c H locs 0 0 (MQ below (va_Qi (fun (r0 : Int32) (u : Nat → Option va_E) => (¬ gC (if (¬ x3 < (-1) ∧ ¬ 5 < x3) ∧ (¬ x4 < (-1) ∧ ¬ 9 < x4) then 1 else 0) (if (¬ x5 < 0 ∧ ¬ no < x5) then 1 else 0) 1 1 = 0 → mPic u mm cI ad f (nI (gT 3 (gC (if (¬ x3 < (-1) ∧ ¬ 5 < x3) ∧ (¬ x4 < (-1) ∧ ¬ 9 < x4) then 1 else 0) (if (¬ x5 < 0 ∧ ¬ no < x5) then 1 else 0) 1 1))) no wr n k z r so pr) ∧ (gC (if (¬ x3 < (-1) ∧ ¬ 5 < x3) ∧ (¬ x4 < (-1) ∧ ¬ 9 < x4) then 1 else 0) (if (¬ x5 < 0 ∧ ¬ no < x5) then 1 else 0) 1 1 = 0 → r0 = nI (askF (inW f x1 x2) (f 10) 0 L0).2 ∧ mPic u mm cI ad (va_up f 10 (askF (inW f x1 x2) (f 10) 0 L0).1) 0 no wr n k 1 (nI (askF (inW f x1 x2) (f 10) 0 L0).2) x5 pr)) (fun w2 t => mw G ncl A w2 t.heap ∧ va_K G ncl (q0 :: q1 :: (cI, .int) :: ty2) t) A) ([.ref mm, .int x1, .int x2, .int x3, .int x4, .int x5] : List Value).toArray s 0 0 A) (F0 m 120 ls []) := by
            intro g c1 w1 H locs ls hc1 ha hp hM hS hl
            refine lv_aload_n hx hb d_M_ask_120 rfl (lv_at hl 0 rfl) ?_
            refine lv_iload hx hb d_M_ask_121 (lv_at hl 6 rfl) ?_
            refine lv_iconst (v := 1) hx hb d_M_ask_123 (by decide) ?_
            refine lv_iload_n hx hb d_M_ask_124 rfl (lv_at hl 3 rfl) ?_
            refine lv_iload hx hb d_M_ask_125 (lv_at hl 4 rfl) ?_
            refine lv_iload hx hb d_M_ask_127 (lv_at hl 5 rfl) ?_
            refine vp_callSi (W.runV (As := [.int (nI a), .int 1, .int x3, .int x4, .int x5]) (rest := []) ⟨hx, hb, hml, hown, hta⟩ (k_M_following l G q0 q1 cI ty2 w1 hp.1 hp.2 hk ek hn en (some a) (fun j q => by cases q; omega) 1 x3 x4 x5) (cV 5 hta aw_662 aw_5 aw_659 aw_661 as_SceneTimesModel_following rfl rfl (by decide +kernel) ⟨Nat.le_of_ble_eq_true rfl, Nat.le_of_ble_eq_true rfl⟩) (pW_V hK hM rfl hp.1) rfl rfl hl.1 rfl (lv_room (Nat.le_of_ble_eq_true rfl)) d_M_ask_129 ⟨Nat.le_of_ble_eq_true rfl, Nat.le_of_ble_eq_true rfl⟩) (fun r_130 hr_130 => ?_)
            refine lv_istore (lv' := [(6, .int r_130), (0, .ref mm), (1, .int x1), (2, .int x2), (3, .int x3), (4, .int x4), (5, .int x5)]) hx hb d_M_ask_132 hl (by decide) rfl (fun ls hl => ?_)
            refine lv_goto (tgt := 72) hx hb d_M_ask_134 (by decide) ?_
            have e6 : r_130 = oI rr.head? := by rw [hr_130]; show oI (folS (va_up f 10 g) 1 x3 x4 x5 no ka nn (some a)) = _; rw [folS_10]; exact congrArg oI (folL_h hf)
            subst e6
            exact ih g c1 w1 H locs ls (folL_t hf) hc1 (fun b hb => hm1 b (List.mem_cons_of_mem _ hb)) ha hp hM hS (lv_sub hl [1, 2, 3, 4, 5, 6, 0] rfl)
          refine lv_iload hx hb d_M_ask_72 (lv_at hl 6 rfl) ?_
          refine lv_if_lt (tgt := 137) hx hb d_M_ask_74 (by decide) (fun c_181 => absurd c_181 (nI_pos (by omega))) (fun c_181 => ?_)
          refine lv_aload_n hx hb d_M_ask_77 rfl (lv_at hl 0 rfl) ?_
          refine m_get (D := G) (ci := 6) (v := .ref (ad 3)) (C := nR_M) (T := nT_M) (N := 21) hx hb hta in_M hown hK hM hp.1 rfl 7 (by decide) (hta _ aw_550) (fun _ h9 => h9) rfl d_M_ask_78 ?_
          refine lv_iload hx hb d_M_ask_81 (lv_at hl 6 rfl) ?_
          refine m_ialv hx hb hK hM 2 q3 rfl (vp_in_nI (by omega) (by omega)) (v := f 3 a) (by rw [nI_clamp (by omega)]) d_M_ask_83 ?_
          refine lv_iload_n hx hb d_M_ask_84 rfl (lv_at hl 1 rfl) ?_
          refine lv_icmp_lt (tgt := 120) hx hb d_M_ask_85 (by decide) (fun c_182 => ?_) (fun c_182 => ?_)
          · have hp2 : mPic w1 mm cI ad (va_up f 10 g) (nI (gT 3 (gC b1 b2 1 1))) no wr n k 1 (nI c1) x5 pr := hp
            exact j120 g c1 w1 H locs ls (by omega) (by rw [← ha, askF]; rw [if_neg (by simp [inW, c_181, c_182])]) hp2 hM hS (lv_sub hl [0, 1, 2, 3, 4, 5, 6] rfl)
          · refine lv_aload_n hx hb d_M_ask_88 rfl (lv_at hl 0 rfl) ?_
            refine m_get (D := G) (ci := 6) (v := .ref (ad 3)) (C := nR_M) (T := nT_M) (N := 21) hx hb hta in_M hown hK hM hp.1 rfl 7 (by decide) (hta _ aw_550) (fun _ h9 => h9) rfl d_M_ask_89 ?_
            refine lv_iload hx hb d_M_ask_92 (lv_at hl 6 rfl) ?_
            refine m_ialv hx hb hK hM 2 q3 rfl (vp_in_nI (by omega) (by omega)) (v := f 3 a) (by rw [nI_clamp (by omega)]) d_M_ask_94 ?_
            refine lv_iload_n hx hb d_M_ask_95 rfl (lv_at hl 2 rfl) ?_
            refine lv_icmp_ge (tgt := 120) hx hb d_M_ask_96 (by decide) (fun c_184 => ?_) (fun c_184 => ?_)
            · have hp2 : mPic w1 mm cI ad (va_up f 10 g) (nI (gT 3 (gC b1 b2 1 1))) no wr n k 1 (nI c1) x5 pr := hp
              exact j120 g c1 w1 H locs ls (by omega) (by rw [← ha, askF]; rw [if_neg (by simp [inW, c_181, c_182, c_184])]) hp2 hM hS (lv_sub hl [0, 1, 2, 3, 4, 5, 6] rfl)
            · refine lv_aload_n hx hb d_M_ask_99 rfl (lv_at hl 0 rfl) ?_
              refine m_get (D := G) (ci := 6) (v := .ref (ad 10)) (C := nR_M) (T := nT_M) (N := 21) hx hb hta in_M hown hK hM hp.1 rfl 18 (by decide) (hta _ aw_561) (fun _ h9 => h9) rfl d_M_ask_100 ?_
              refine lv_aload_n hx hb d_M_ask_103 rfl (lv_at hl 0 rfl) ?_
              refine m_get (D := G) (ci := 6) (v := .int (nI c1)) (C := nR_M) (T := nT_M) (N := 21) hx hb hta in_M hown hK hM hp.1 rfl 16 (by decide) (hta _ aw_559) (fun _ h9 => h9) rfl d_M_ask_104 ?_
              refine lv_iload hx hb d_M_ask_107 (lv_at hl 6 rfl) ?_
              refine m_iasv hx hb hK hM hS 2 q10 rfl (vp_in_nI (by omega) (by omega)) (k := c1) (nI_clamp (by omega)) d_M_ask_109 (fun H locs hM hS => ?_)
              obtain ⟨w_186, hw_186⟩ : ∃ z9 : Nat → Option va_E, z9 = va_up w1 (ad 10) (some (.inl (cI, 100, .inl (upd g c1 (nI a))))) := ⟨_, rfl⟩
              rw [← hw_186] at hM
              obtain ⟨f_188, hf_188⟩ : ∃ z9 : Nat → Nat → Int32, z9 = va_up (va_up f 10 g) 10 (upd g c1 (nI a)) := ⟨_, rfl⟩
              have mp_187 : mPic w_186 mm cI ad f_188 (nI (gT 3 (gC b1 b2 1 1))) no wr n k 1 (nI c1) x5 pr := by rw [hw_186, hf_188]; exact mp_arr had hp 10 (by decide) _
              have k_189 : w_186 (ad 3) = some (aI cI 100 (f_188 3)) := mp_187.2 3 (by decide)
              have k_190 : w_186 (ad 10) = some (aI cI 100 (f_188 10)) := mp_187.2 10 (by decide)
              refine lv_aload_n hx hb d_M_ask_110 rfl (lv_at hl 0 rfl) ?_
              refine lv_dup hx hb d_M_ask_111 rfl ?_
              refine m_get (D := G) (ci := 6) (v := .int (nI c1)) (C := nR_M) (T := nT_M) (N := 21) hx hb hta in_M hown hK hM mp_187.1 rfl 16 (by decide) (hta _ aw_559) (fun _ h9 => h9) rfl d_M_ask_112 ?_
              refine lv_iconst (v := 1) hx hb d_M_ask_115 (by decide) ?_
              refine lv_iadd hx hb d_M_ask_116 ?_
              refine m_put (D := G) (ci := 6) (v := .int ((nI c1) + 1)) (ty := .int) (C := nR_M) (T := nT_M) (N := 21) hx hb hta in_M nt_M nt_M_ok nn_M hown hK hM hS mp_187.1 rfl 16 (by decide) (hta _ aw_559) (fun _ h9 => h9) rfl (by decide +kernel) rfl rfl (Nat.le_of_ble_eq_true rfl) d_M_ask_117 (fs' := [.int (nI (gT 3 (gC b1 b2 1 1))), .int no, .int wr, .int n, .ref (ad 0), .ref (ad 1), .ref (ad 2), .ref (ad 3), .ref (ad 4), .ref (ad 5), .int k, .ref (ad 6), .ref (ad 7), .ref (ad 8), .ref (ad 9), .int 1, .int ((nI c1) + 1), .int x5, .ref (ad 10), .int pr, .ref (ad 11)]) rfl (fun H locs hM hS => ?_)
              obtain ⟨w_191, hw_191⟩ : ∃ z9 : Nat → Option va_E, z9 = va_up w_186 mm (some (.inr (6, [.int (nI (gT 3 (gC b1 b2 1 1))), .int no, .int wr, .int n, .ref (ad 0), .ref (ad 1), .ref (ad 2), .ref (ad 3), .ref (ad 4), .ref (ad 5), .int k, .ref (ad 6), .ref (ad 7), .ref (ad 8), .ref (ad 9), .int 1, .int ((nI c1) + 1), .int x5, .ref (ad 10), .int pr, .ref (ad 11)]))) := ⟨_, rfl⟩
              rw [← hw_191] at hM
              have mp_192 : mPic w_191 mm cI ad f_188 (nI (gT 3 (gC b1 b2 1 1))) no wr n k 1 ((nI c1) + 1) x5 pr := by rw [hw_191]; exact mp_obj mp_187 (nI (gT 3 (gC b1 b2 1 1))) no wr n k 1 ((nI c1) + 1) x5 pr
              have k_193 : w_191 (ad 3) = some (aI cI 100 (f_188 3)) := mp_192.2 3 (by decide)
              have k_194 : w_191 (ad 10) = some (aI cI 100 (f_188 10)) := mp_192.2 10 (by decide)
              have hp2 : mPic w_191 mm cI ad (va_up f 10 (upd g c1 (nI a))) (nI (gT 3 (gC b1 b2 1 1))) no wr n k 1 (nI (c1 + 1)) x5 pr := by have q := mp_192; rw [hf_188, va_up_up, nI_1] at q; exact q
              exact j120 (upd g c1 (nI a)) (c1 + 1) w_191 H locs ls (by omega) (by rw [← ha, askF]; rw [if_pos (by simp [inW, c_181, c_182, c_184])]) hp2 hM hS (lv_sub hl [0, 1, 2, 3, 4, 5, 6] rfl)
      have e6 : r_28 = oI L0.head? := by rw [hr_28]; exact congrArg oI (folL_h hL0)
      subst e6
      exact loop L0 (f 10) 0 w_24 H locs ls (folL_t hL0) (by omega) hLm rfl (by have q := mp_25; rw [show va_up f 10 (f 10) = f from by funext i; unfold va_up; split <;> simp_all]; exact q) hM hS (lv_sub hl [1, 2, 3, 4, 5, 6, 0] rfl)
    · have hc := go_f hr_10 c_15
      refine lv_iconst (v := 0) hx hb d_M_ask_41 (by decide) ?_
      exact W.iret (v := 0) hx hb hr (fun t ht hW => ⟨⟨0, w_11, rfl, (by subst eb1; subst eb2; exact ⟨fun _ => mp_12, fun q => absurd q hc⟩), by rw [ht]; exact hM, va_K.moved hW.alike hK⟩, hS.F ht⟩) hS.2.2 d_M_ask_42
  have j27 : ∀ (b1 : Int32) (ls : Array Slot), b1 = (if (¬ x3 < (-1) ∧ ¬ 5 < x3) ∧ (¬ x4 < (-1) ∧ ¬ 9 < x4) then 1 else 0) → lv_has ls 7 [(0, .ref mm), (1, .int x1), (2, .int x2), (3, .int x3), (4, .int x4), (5, .int x5)] → W p l e (headSpec (wm y_M_ask c_M_ask 7 (some .int)) ({ frames := 2, cells := 0, slots := 0, locals := 51 })).room s m ([.ref mm, .int x1, .int x2, .int x3, .int x4, .int x5] : List Value).toArray below meth c s.heap [] 0 0 (MQ below (va_Qi (fun (r0 : Int32) (u : Nat → Option va_E) => (¬ gC (if (¬ x3 < (-1) ∧ ¬ 5 < x3) ∧ (¬ x4 < (-1) ∧ ¬ 9 < x4) then 1 else 0) (if (¬ x5 < 0 ∧ ¬ no < x5) then 1 else 0) 1 1 = 0 → mPic u mm cI ad f (nI (gT 3 (gC (if (¬ x3 < (-1) ∧ ¬ 5 < x3) ∧ (¬ x4 < (-1) ∧ ¬ 9 < x4) then 1 else 0) (if (¬ x5 < 0 ∧ ¬ no < x5) then 1 else 0) 1 1))) no wr n k z r so pr) ∧ (gC (if (¬ x3 < (-1) ∧ ¬ 5 < x3) ∧ (¬ x4 < (-1) ∧ ¬ 9 < x4) then 1 else 0) (if (¬ x5 < 0 ∧ ¬ no < x5) then 1 else 0) 1 1 = 0 → r0 = nI (askF (inW f x1 x2) (f 10) 0 L0).2 ∧ mPic u mm cI ad (va_up f 10 (askF (inW f x1 x2) (f 10) 0 L0).1) 0 no wr n k 1 (nI (askF (inW f x1 x2) (f 10) 0 L0).2) x5 pr)) (fun w2 t => mw G ncl A w2 t.heap ∧ va_K G ncl (q0 :: q1 :: (cI, .int) :: ty2) t) A) ([.ref mm, .int x1, .int x2, .int x3, .int x4, .int x5] : List Value).toArray s 0 0 A) (F0 m 27 ls [.int b1, .int 3, .ref mm]) := by
    intro b1 ls eb1 hl
    refine lv_aload_n hx hb d_M_ask_27 rfl (lv_at hl 0 rfl) ?_
    refine lv_iload hx hb d_M_ask_28 (lv_at hl 5 rfl) ?_
    refine vp_callSi (W.runV (As := [.int x5]) (rest := [.int b1, .int 3, .ref mm]) ⟨hx, hb, hml, hown, hta⟩ (k_M_isGone l G q0 q1 cI ty2 w hmp.1 hmp.2 x5) (cV 1 hta aw_630 aw_5 aw_627 aw_629 as_SceneTimesModel_isGone rfl rfl (by decide +kernel) ⟨Nat.le_of_ble_eq_true rfl, Nat.le_of_ble_eq_true rfl⟩) (pW_V hK hM rfl hmp.1) rfl rfl hl.1 rfl (lv_room (Nat.le_of_ble_eq_true rfl)) d_M_ask_30 ⟨Nat.le_of_ble_eq_true rfl, Nat.le_of_ble_eq_true rfl⟩) (fun r_9 hr_9 => ?_)
    exact j33 b1 r_9 ls eb1 (by simp only [hr_9, not_true_eq_false, not_false_eq_true, and_true, and_false, true_and, false_and, and_self, or_self, or_true, true_or, or_false, false_or, ↓reduceIte]) (lv_sub hl [0, 1, 2, 3, 4, 5] rfl)
  refine lv_aload_n hx hb d_M_ask_0 rfl (lv_at hl 0 rfl) ?_
  refine lv_iconst (v := 3) hx hb d_M_ask_1 (by decide) ?_
  refine lv_iload_n hx hb d_M_ask_2 rfl (lv_at hl 3 rfl) ?_
  refine lv_iconst (v := (-1)) hx hb d_M_ask_3 (by decide) ?_
  refine lv_iconst (v := 5) hx hb d_M_ask_4 (by decide) ?_
  refine vp_callSi (W.runS (As := [.int x3, .int (-1), .int 5]) (rest := [.int 3, .ref mm]) ⟨hx, hb, hml, hown, hta⟩ (k_M_in l x3 (-1) 5) (cS 3 hta aw_626 aw_5 aw_624 aw_625 rfl rfl (by decide +kernel) ⟨Nat.le_of_ble_eq_true rfl, Nat.le_of_ble_eq_true rfl⟩) ⟨fun a U g mk q => q, fun U hU hW => ⟨rfl, trivial⟩⟩ rfl rfl hl.1 rfl (lv_room (Nat.le_of_ble_eq_true rfl)) d_M_ask_5 ⟨Nat.le_of_ble_eq_true rfl, Nat.le_of_ble_eq_true rfl⟩) (fun r_1 hr_1 => ?_)
  refine lv_if_eq (tgt := 26) hx hb d_M_ask_8 (by decide) (fun c_2 => ?_) (fun c_2 => ?_)
  · have p_3 := b1_f hr_1 c_2
    refine lv_iconst (v := 0) hx hb d_M_ask_26 (by decide) ?_
    exact j27  0 ls  (by simp only [p_3, not_true_eq_false, not_false_eq_true, and_true, and_false, true_and, false_and, and_self, or_self, or_true, true_or, or_false, false_or, ↓reduceIte]) (lv_sub hl [0, 1, 2, 3, 4, 5] rfl)
  · have p_4 := b1_t hr_1 c_2
    refine lv_iload hx hb d_M_ask_11 (lv_at hl 4 rfl) ?_
    refine lv_iconst (v := (-1)) hx hb d_M_ask_13 (by decide) ?_
    refine lv_bipush (v := 9) hx hb d_M_ask_14 (by decide) ?_
    refine vp_callSi (W.runS (As := [.int x4, .int (-1), .int 9]) (rest := [.int 3, .ref mm]) ⟨hx, hb, hml, hown, hta⟩ (k_M_in l x4 (-1) 9) (cS 3 hta aw_626 aw_5 aw_624 aw_625 rfl rfl (by decide +kernel) ⟨Nat.le_of_ble_eq_true rfl, Nat.le_of_ble_eq_true rfl⟩) ⟨fun a U g mk q => q, fun U hU hW => ⟨rfl, trivial⟩⟩ rfl rfl hl.1 rfl (lv_room (Nat.le_of_ble_eq_true rfl)) d_M_ask_16 ⟨Nat.le_of_ble_eq_true rfl, Nat.le_of_ble_eq_true rfl⟩) (fun r_5 hr_5 => ?_)
    refine lv_if_eq (tgt := 26) hx hb d_M_ask_19 (by decide) (fun c_6 => ?_) (fun c_6 => ?_)
    · have p_7 := b1_f hr_5 c_6
      refine lv_iconst (v := 0) hx hb d_M_ask_26 (by decide) ?_
      exact j27  0 ls  (by simp only [p_4, p_7, not_true_eq_false, not_false_eq_true, and_true, and_false, true_and, false_and, and_self, or_self, or_true, true_or, or_false, false_or, ↓reduceIte]) (lv_sub hl [0, 1, 2, 3, 4, 5] rfl)
    · have p_8 := b1_t hr_5 c_6
      refine lv_iconst (v := 1) hx hb d_M_ask_22 (by decide) ?_
      refine lv_goto (tgt := 27) hx hb d_M_ask_23 (by decide) ?_
      exact j27  1 ls  (by simp only [p_4, p_8, not_true_eq_false, not_false_eq_true, and_true, and_false, true_and, false_and, and_self, or_self, or_true, true_or, or_false, false_or, ↓reduceIte]) (lv_sub hl [0, 1, 2, 3, 4, 5] rfl)
def rdB (f : Nat → Nat → Int32) (t : Int32) : Option Nat → List Nat → Option Nat
  | b, [] => b
  | b, a :: r => rdB f t (if ¬ t < f 3 a then some a else b) r
def rdH (f : Nat → Nat → Int32) (t : Int32) : Option Nat → List Nat → Option Nat
  | b, [] => b
  | b, a :: r => rdH f t (if ¬ f 3 a < t ∧ b = none then some a else b) r
theorem rdB_m {f : Nat → Nat → Int32} {t : Int32} {L : List Nat} : ∀ {b : Option Nat} {j n : Nat}, (∀ i, b = some i → i < n) → (∀ a ∈ L, a < n) → rdB f t b L = some j → j < n := by
  induction L with
  | nil => intro b j n h1 h2 h; exact h1 j h
  | cons a r ih =>
    intro b j n h1 h2 h
    refine ih (b := if ¬ t < f 3 a then some a else b) ?_ (fun c hc => h2 c (List.mem_cons_of_mem _ hc)) h
    intro i hi
    split at hi
    · cases hi; exact h2 a List.mem_cons_self
    · exact h1 i hi
theorem rdH_m {f : Nat → Nat → Int32} {t : Int32} {L : List Nat} : ∀ {b : Option Nat} {j n : Nat}, (∀ i, b = some i → i < n) → (∀ a ∈ L, a < n) → rdH f t b L = some j → j < n := by
  induction L with
  | nil => intro b j n h1 h2 h; exact h1 j h
  | cons a r ih =>
    intro b j n h1 h2 h
    refine ih (b := if ¬ f 3 a < t ∧ b = none then some a else b) ?_ (fun c hc => h2 c (List.mem_cons_of_mem _ hc)) h
    intro i hi
    split at hi
    · cases hi; exact h2 a List.mem_cons_self
    · exact h1 i hi
theorem oI_neg {o : Option Nat} (h : ∀ i, o = some i → i < 100) : (oI o < 0 ↔ o = none) := by
  cases o with
  | none => exact ⟨fun _ => rfl, fun _ => by decide⟩
  | some i => exact ⟨fun q => absurd q (nI_pos (by have := h i rfl; omega)), fun q => by cases q⟩
/-- the i-th gap of a length -/
def gapF (f : Nat → Nat → Int32) (len : Int32) : Int32 → List Nat → Int32
  | _, [] => -1
  | _, [_] => -1
  | lf, a :: b :: r => if f 3 b - f 3 a ≤ len then gapF f len lf (b :: r) else if lf = 0 then nI a else gapF f len (lf + (-1)) (b :: r)
set_option maxHeartbeats 4000000 in
set_option maxRecDepth 100000 in
theorem k_M_gap (l : Launch) (G : va_G) (q0 q1 : ClassId × FieldType) (cI : ClassId) (ty2 : List (ClassId × FieldType)) (w : Nat → Option va_E) {mm : Nat} {ad : Nat → Nat} (had : ∀ i j, i < 12 → j < 12 → ad i = ad j → i = j) {f : Nat → Nat → Int32} {th no wr n k z r so pr : Int32} (hmp : mPic w mm cI ad f th no wr n k z r so pr) {ka nn : Nat} (hk : ka ≤ 200) (ek : k = nI ka) (hn : nn ≤ 100) (en : n = nI nn) (x1 x2 : Int32) {L0 : List Nat} (hL0 : folL (folS f 0 (-1) (-1) no no ka nn) none L0) (hLm : ∀ a ∈ L0, a < nn) (sz : Nat) : Met l y_M_gap (wm y_M_gap c_M_gap 6 (some .int)) ({ frames := 2, cells := 0, slots := 0, locals := 51 }) (pZ G (q0 :: q1 :: (cI, .int) :: ty2) w sz [.ref mm, .int x1, .int x2]) (va_Qi (fun (r0 : Int32) (u : Nat → Option va_E) => (¬ gC 1 (if (¬ x1 < 0 ∧ ¬ 99999 < x1) ∧ ¬ x2 < 0 then 1 else 0) 1 1 = 0 → mPic u mm cI ad f (nI (gT 2 (gC 1 (if (¬ x1 < 0 ∧ ¬ 99999 < x1) ∧ ¬ x2 < 0 then 1 else 0) 1 1))) no wr n k z r so pr) ∧ (gC 1 (if (¬ x1 < 0 ∧ ¬ 99999 < x1) ∧ ¬ x2 < 0 then 1 else 0) 1 1 = 0 → r0 = gapF f x1 x2 L0 ∧ mPic u mm cI ad f 0 no wr n k z r so pr)) (fun w2 t => mw G ncl (mA w sz) w2 t.heap ∧ va_K G ncl (q0 :: q1 :: (cI, .int) :: ty2) t) (mA w sz)) 0 0 (mA w sz) := by
  refine Met.ofW (cc := c_M_gap) (maxL := 6) (ret := (some .int)) (by decide) rfl ?_
  intro p e s m args below meth c s₁ B hml hv
  obtain ⟨rfl, hsz, hM0, hK⟩ := hv
  have hx := B.exec
  have hb := B.bytes
  have hr := B.returns
  have hts := atoms_spec (ws := (wm y_M_gap c_M_gap 6 (some .int))) B.pre
  have hta : ∀ w ∈ AL, w.before _ s = true := fun w h => hts w (List.mem_cons_of_mem _ h)
  have hown : s.vm.findClass nR_M = some m.cls := findClass_of_methodNamed B.named
  have hlocks := B.notSynchronized
  have hl := lv_entry ([.ref mm, .int x1, .int x2]) (n := 6) (Nat.le_of_ble_eq_true rfl)
  rw [lg_entry_eq]
  generalize (lg_sl ([.ref mm, .int x1, .int x2]) ++ List.replicate (6 - (lg_sl ([.ref mm, .int x1, .int x2])).length) Slot.unset).toArray = ls at hl ⊢
  have hl : lv_has ls 6 [(0, .ref mm), (1, .int x1), (2, .int x2)] := hl
  subst hsz
  have hM := mw_self (sz := s.heap.size) hM0
  clear hM0
  generalize hAe : mA w s.heap.size = A at hM ⊢
  have hA : ∀ q : Nat, s.heap.size ≤ q → A q := fun q h => by rw [← hAe]; exact Or.inr h
  have hS : va_S A s.heap s.heap [] := va_S.rf
  have j22 : ∀ (b2 : Int32) (ls : Array Slot), b2 = (if (¬ x1 < 0 ∧ ¬ 99999 < x1) ∧ ¬ x2 < 0 then 1 else 0) → lv_has ls 6 [(0, .ref mm), (1, .int x1), (2, .int x2)] → W p l e (headSpec (wm y_M_gap c_M_gap 6 (some .int)) ({ frames := 2, cells := 0, slots := 0, locals := 51 })).room s m ([.ref mm, .int x1, .int x2] : List Value).toArray below meth c s.heap [] 0 0 (MQ below (va_Qi (fun (r0 : Int32) (u : Nat → Option va_E) => (¬ gC 1 (if (¬ x1 < 0 ∧ ¬ 99999 < x1) ∧ ¬ x2 < 0 then 1 else 0) 1 1 = 0 → mPic u mm cI ad f (nI (gT 2 (gC 1 (if (¬ x1 < 0 ∧ ¬ 99999 < x1) ∧ ¬ x2 < 0 then 1 else 0) 1 1))) no wr n k z r so pr) ∧ (gC 1 (if (¬ x1 < 0 ∧ ¬ 99999 < x1) ∧ ¬ x2 < 0 then 1 else 0) 1 1 = 0 → r0 = gapF f x1 x2 L0 ∧ mPic u mm cI ad f 0 no wr n k z r so pr)) (fun w2 t => mw G ncl A w2 t.heap ∧ va_K G ncl (q0 :: q1 :: (cI, .int) :: ty2) t) A) ([.ref mm, .int x1, .int x2] : List Value).toArray s 0 0 A) (F0 m 22 ls [.int b2, .int 1, .int 2, .ref mm]) := by
    intro b2 ls eb2 hl
    refine lv_iconst (v := 1) hx hb d_M_gap_22 (by decide) ?_
    refine lv_iconst (v := 1) hx hb d_M_gap_23 (by decide) ?_
    have hF := mw_free hM hS hA
    refine va_calli (va_runV (As := [.int 2, .int 1, .int b2, .int 1, .int 1]) (rest := []) ⟨hx, hb, hml, hown, hta⟩ (k_M_goes_2 l G q0 q1 cI ty2 w hmp.1 hmp.2 1 b2 1 1 _) (cV 5 hta aw_619 aw_5 aw_616 aw_618 as_SceneTimesModel_goes rfl rfl (by decide +kernel) ⟨Nat.le_of_ble_eq_true rfl, Nat.le_of_ble_eq_true rfl⟩) (pZ_V hK hM rfl hmp.1) rfl rfl hl.1 rfl (lv_room (Nat.le_of_ble_eq_true rfl)) d_M_gap_24 ⟨Nat.le_of_ble_eq_true rfl, Nat.le_of_ble_eq_true rfl⟩) hS (fun q _ h => hF q h) hF (fun r_6 u_r_6 t H locs ht hvm hr_6 hB hz1 hk1 hS => ?_)
    obtain ⟨hM1, hK1⟩ := hB
    rw [ht] at hM1
    have hM := mw_weaken hM1 hF
    clear hM1 hK1 hF hk1 hz1
    obtain ⟨w_7, hw_7⟩ : ∃ z9 : Nat → Option va_E, z9 = va_up w mm (some (.inr (6, [.int (nI (gT 2 (gC 1 b2 1 1))), .int no, .int wr, .int n, .ref (ad 0), .ref (ad 1), .ref (ad 2), .ref (ad 3), .ref (ad 4), .ref (ad 5), .int k, .ref (ad 6), .ref (ad 7), .ref (ad 8), .ref (ad 9), .int z, .int r, .int so, .ref (ad 10), .int pr, .ref (ad 11)]))) := ⟨_, rfl⟩
    rw [← hw_7] at hM
    have mp_8 : mPic w_7 mm cI ad f (nI (gT 2 (gC 1 b2 1 1))) no wr n k z r so pr := by rw [hw_7]; exact mp_obj hmp (nI (gT 2 (gC 1 b2 1 1))) no wr n k z r so pr
    have k_9 : w_7 (ad 3) = some (aI cI 100 (f 3)) := mp_8.2 3 (by decide)
    refine lv_if_ne (tgt := 32) hx hb d_M_gap_27 (by decide) (fun c_10 => ?_) (fun c_10 => ?_)
    · have hc := go_t hr_6 c_10
      refine lv_iload_n hx hb d_M_gap_32 rfl (lv_at hl 2 rfl) ?_
      refine lv_istore_n (lv' := [(3, .int x2), (0, .ref mm), (1, .int x1), (2, .int x2)]) hx hb d_M_gap_33 rfl hl (by decide) rfl (fun ls hl => ?_)
      refine lv_aload_n hx hb d_M_gap_34 rfl (lv_at hl 1 rfl) ?_
      refine lv_iconst (v := (-1)) hx hb d_M_gap_35 (by decide) ?_
      refine lv_iconst (v := 0) hx hb d_M_gap_36 (by decide) ?_
      refine lv_iconst (v := (-1)) hx hb d_M_gap_37 (by decide) ?_
      refine lv_iconst (v := (-1)) hx hb d_M_gap_38 (by decide) ?_
      refine lv_aload_n hx hb d_M_gap_39 rfl (lv_at hl 1 rfl) ?_
      refine m_get (D := G) (ci := 6) (v := .int no) (C := nR_M) (T := nT_M) (N := 21) hx hb hta in_M hown hK hM mp_8.1 rfl 1 (by decide) (hta _ aw_544) (fun _ h9 => h9) rfl d_M_gap_40 ?_
      refine vp_callSi (W.runV (As := [.int (-1), .int 0, .int (-1), .int (-1), .int no]) (rest := []) ⟨hx, hb, hml, hown, hta⟩ (k_M_following l G q0 q1 cI ty2 w_7 mp_8.1 mp_8.2 hk ek hn en none (fun j q => by cases q) 0 (-1) (-1) no) (cV 5 hta aw_662 aw_5 aw_659 aw_661 as_SceneTimesModel_following rfl rfl (by decide +kernel) ⟨Nat.le_of_ble_eq_true rfl, Nat.le_of_ble_eq_true rfl⟩) (pW_V hK hM rfl mp_8.1) rfl rfl hl.1 rfl (lv_room (Nat.le_of_ble_eq_true rfl)) d_M_gap_43 ⟨Nat.le_of_ble_eq_true rfl, Nat.le_of_ble_eq_true rfl⟩) (fun r_11 hr_11 => ?_)
      refine lv_istore (lv' := [(4, .int r_11), (3, .int x2), (0, .ref mm), (1, .int x1), (2, .int x2)]) hx hb d_M_gap_46 hl (by decide) rfl (fun ls hl => ?_)
      have loop : ∀ (L : List Nat) (y3 : Int32) (ls : Array Slot), folT (folS f 0 (-1) (-1) no no ka nn) L → (∀ a ∈ L, a < nn) → gapF f x1 y3 L = gapF f x1 x2 L0 → lv_has ls 6 [(0, .ref mm), (1, .int x1), (2, .int x2), (3, .int y3), (4, .int (oI L.head?))] → W p l e (headSpec (wm y_M_gap c_M_gap 6 (some .int)) ({ frames := 2, cells := 0, slots := 0, locals := 51 })).room s m ([.ref mm, .int x1, .int x2] : List Value).toArray below meth c H locs 0 0 (MQ below (va_Qi (fun (r0 : Int32) (u : Nat → Option va_E) => (¬ gC 1 (if (¬ x1 < 0 ∧ ¬ 99999 < x1) ∧ ¬ x2 < 0 then 1 else 0) 1 1 = 0 → mPic u mm cI ad f (nI (gT 2 (gC 1 (if (¬ x1 < 0 ∧ ¬ 99999 < x1) ∧ ¬ x2 < 0 then 1 else 0) 1 1))) no wr n k z r so pr) ∧ (gC 1 (if (¬ x1 < 0 ∧ ¬ 99999 < x1) ∧ ¬ x2 < 0 then 1 else 0) 1 1 = 0 → r0 = gapF f x1 x2 L0 ∧ mPic u mm cI ad f 0 no wr n k z r so pr)) (fun w2 t => mw G ncl A w2 t.heap ∧ va_K G ncl (q0 :: q1 :: (cI, .int) :: ty2) t) A) ([.ref mm, .int x1, .int x2] : List Value).toArray s 0 0 A) (F0 m 48 ls []) := by
        intro L
        induction L with
        | nil =>
          intro y3 ls hf hm1 ha hl
          have hl : lv_has ls 6 [(0, .ref mm), (1, .int x1), (2, .int x2), (3, .int y3), (4, .int (-1))] := hl
          refine lv_iload hx hb d_M_gap_48 (lv_at hl 4 rfl) ?_
          refine lv_if_lt (tgt := 109) hx hb d_M_gap_50 (by decide) (fun c_62 => ?_) (fun c_62 => absurd (by decide) c_62)
          refine lv_iconst (v := (-1)) hx hb d_M_gap_109 (by decide) ?_
          exact W.iret (v := (-1)) hx hb hr (fun t ht hW => ⟨⟨(-1), w_7, rfl, (by subst eb2; exact ⟨fun q => absurd hc q, fun _ => ⟨by rw [← ha]; rfl, (by have q := mp_8; rw [hc] at q; exact q)⟩⟩), by rw [ht]; exact hM, va_K.moved hW.alike hK⟩, hS.F ht⟩) hS.2.2 d_M_gap_110
        | cons a rr ih =>
          intro y3 ls hf hm1 ha hl
          have hl : lv_has ls 6 [(0, .ref mm), (1, .int x1), (2, .int x2), (3, .int y3), (4, .int (nI a))] := hl
          have ha9 : a < nn := hm1 a List.mem_cons_self
          refine lv_iload hx hb d_M_gap_48 (lv_at hl 4 rfl) ?_
          refine lv_if_lt (tgt := 109) hx hb d_M_gap_50 (by decide) (fun c_113 => absurd c_113 (nI_pos (by omega))) (fun c_113 => ?_)
          refine lv_aload_n hx hb d_M_gap_53 rfl (lv_at hl 0 rfl) ?_
          refine lv_iload hx hb d_M_gap_54 (lv_at hl 4 rfl) ?_
          refine lv_iconst (v := 0) hx hb d_M_gap_56 (by decide) ?_
          refine lv_iconst (v := (-1)) hx hb d_M_gap_57 (by decide) ?_
          refine lv_iconst (v := (-1)) hx hb d_M_gap_58 (by decide) ?_
          refine lv_aload_n hx hb d_M_gap_59 rfl (lv_at hl 0 rfl) ?_
          refine m_get (D := G) (ci := 6) (v := .int no) (C := nR_M) (T := nT_M) (N := 21) hx hb hta in_M hown hK hM mp_8.1 rfl 1 (by decide) (hta _ aw_544) (fun _ h9 => h9) rfl d_M_gap_60 ?_
          refine vp_callSi (W.runV (As := [.int (nI a), .int 0, .int (-1), .int (-1), .int no]) (rest := []) ⟨hx, hb, hml, hown, hta⟩ (k_M_following l G q0 q1 cI ty2 w_7 mp_8.1 mp_8.2 hk ek hn en (some a) (fun j q => by cases q; omega) 0 (-1) (-1) no) (cV 5 hta aw_662 aw_5 aw_659 aw_661 as_SceneTimesModel_following rfl rfl (by decide +kernel) ⟨Nat.le_of_ble_eq_true rfl, Nat.le_of_ble_eq_true rfl⟩) (pW_V hK hM rfl mp_8.1) rfl rfl hl.1 rfl (lv_room (Nat.le_of_ble_eq_true rfl)) d_M_gap_63 ⟨Nat.le_of_ble_eq_true rfl, Nat.le_of_ble_eq_true rfl⟩) (fun r_114 hr_114 => ?_)
          refine lv_istore (lv' := [(5, .int r_114), (0, .ref mm), (1, .int x1), (2, .int x2), (3, .int y3), (4, .int (nI a))]) hx hb d_M_gap_66 hl (by decide) rfl (fun ls hl => ?_)
          have e6 : r_114 = oI rr.head? := by rw [hr_114]; exact congrArg oI (folL_h (lo := some a) hf)
          subst e6
          cases rr with
          | nil =>
            have hl : lv_has ls 6 [(5, .int (-1)), (0, .ref mm), (1, .int x1), (2, .int x2), (3, .int y3), (4, .int (nI a))] := (lv_sub hl [0, 1, 2, 3, 4, 5] rfl)
            refine lv_iload hx hb d_M_gap_68 (lv_at hl 0 rfl) ?_
            refine lv_if_lt (tgt := 102) hx hb d_M_gap_70 (by decide) (fun c_165 => ?_) (fun c_165 => absurd (by decide) c_165)
            refine lv_iload hx hb d_M_gap_102 (lv_at hl 0 rfl) ?_
            refine lv_istore (lv' := [(4, .int (-1)), (5, .int (-1)), (0, .ref mm), (1, .int x1), (2, .int x2), (3, .int y3)]) hx hb d_M_gap_104 hl (by decide) rfl (fun ls hl => ?_)
            refine lv_goto (tgt := 48) hx hb d_M_gap_106 (by decide) ?_
            exact ih y3 ls (folL_t (lo := some a) hf) (fun b hb => hm1 b (List.mem_cons_of_mem _ hb)) (by rw [← ha]; rfl) (lv_sub hl [2, 3, 4, 5, 0] rfl)
          | cons b r2 =>
            have hl : lv_has ls 6 [(5, .int (nI b)), (0, .ref mm), (1, .int x1), (2, .int x2), (3, .int y3), (4, .int (nI a))] := (lv_sub hl [0, 1, 2, 3, 4, 5] rfl)
            have hb9 : b < nn := hm1 b (List.mem_cons_of_mem _ List.mem_cons_self)
            refine lv_iload hx hb d_M_gap_68 (lv_at hl 0 rfl) ?_
            refine lv_if_lt (tgt := 102) hx hb d_M_gap_70 (by decide) (fun c_216 => absurd c_216 (nI_pos (by omega))) (fun c_216 => ?_)
            refine lv_aload_n hx hb d_M_gap_73 rfl (lv_at hl 1 rfl) ?_
            refine m_get (D := G) (ci := 6) (v := .ref (ad 3)) (C := nR_M) (T := nT_M) (N := 21) hx hb hta in_M hown hK hM mp_8.1 rfl 7 (by decide) (hta _ aw_550) (fun _ h9 => h9) rfl d_M_gap_74 ?_
            refine lv_iload hx hb d_M_gap_77 (lv_at hl 0 rfl) ?_
            refine m_ialv hx hb hK hM 2 k_9 rfl (vp_in_nI (by omega) (by omega)) (v := f 3 b) (by rw [nI_clamp (by omega)]) d_M_gap_79 ?_
            refine lv_aload_n hx hb d_M_gap_80 rfl (lv_at hl 1 rfl) ?_
            refine m_get (D := G) (ci := 6) (v := .ref (ad 3)) (C := nR_M) (T := nT_M) (N := 21) hx hb hta in_M hown hK hM mp_8.1 rfl 7 (by decide) (hta _ aw_550) (fun _ h9 => h9) rfl d_M_gap_81 ?_
            refine lv_iload hx hb d_M_gap_84 (lv_at hl 5 rfl) ?_
            refine m_ialv hx hb hK hM 2 k_9 rfl (vp_in_nI (by omega) (by omega)) (v := f 3 a) (by rw [nI_clamp (by omega)]) d_M_gap_86 ?_
            refine lv_isub hx hb d_M_gap_87 ?_
            refine lv_iload_n hx hb d_M_gap_88 rfl (lv_at hl 2 rfl) ?_
            refine lv_icmp_le (tgt := 102) hx hb d_M_gap_89 (by decide) (fun c_217 => ?_) (fun c_217 => ?_)
            · refine lv_iload hx hb d_M_gap_102 (lv_at hl 0 rfl) ?_
              refine lv_istore (lv' := [(4, .int (nI b)), (5, .int (nI b)), (0, .ref mm), (1, .int x1), (2, .int x2), (3, .int y3)]) hx hb d_M_gap_104 hl (by decide) rfl (fun ls hl => ?_)
              refine lv_goto (tgt := 48) hx hb d_M_gap_106 (by decide) ?_
              exact ih y3 ls (folL_t (lo := some a) hf) (fun b hb => hm1 b (List.mem_cons_of_mem _ hb)) (by rw [← ha, gapF]; simp only [c_217, not_true_eq_false, not_false_eq_true, and_true, and_false, true_and, false_and, and_self, or_self, or_true, true_or, or_false, false_or, ↓reduceIte]) (lv_sub hl [2, 3, 4, 5, 0] rfl)
            · refine lv_iload_n hx hb d_M_gap_92 rfl (lv_at hl 4 rfl) ?_
              refine lv_if_ne (tgt := 99) hx hb d_M_gap_93 (by decide) (fun c_218 => ?_) (fun c_218 => ?_)
              · obtain ⟨x_219, ex_219⟩ : ∃ y : Int32, y = y3 + (-1) := ⟨_, rfl⟩
                refine lv_iinc (v := x_219) (lv' := [(3, .int x_219), (5, .int (nI b)), (0, .ref mm), (1, .int x1), (2, .int x2), (4, .int (nI a))]) hx hb d_M_gap_99 hl (k := 4) rfl (by rw [ex_219]; rfl) (by decide) rfl (fun ls hl => ?_)
                refine lv_iload hx hb d_M_gap_102 (lv_at hl 1 rfl) ?_
                refine lv_istore (lv' := [(4, .int (nI b)), (3, .int x_219), (5, .int (nI b)), (0, .ref mm), (1, .int x1), (2, .int x2)]) hx hb d_M_gap_104 hl (by decide) rfl (fun ls hl => ?_)
                refine lv_goto (tgt := 48) hx hb d_M_gap_106 (by decide) ?_
                exact ih x_219 ls (folL_t (lo := some a) hf) (fun b hb => hm1 b (List.mem_cons_of_mem _ hb)) (by rw [← ha, gapF]; simp only [c_217, c_218, not_true_eq_false, not_false_eq_true, and_true, and_false, true_and, false_and, and_self, or_self, or_true, true_or, or_false, false_or, ↓reduceIte]; rw [ex_219]) (lv_sub hl [3, 4, 5, 1, 0] rfl)
              · refine lv_iload hx hb d_M_gap_96 (lv_at hl 5 rfl) ?_
                exact W.iret (v := nI a) hx hb hr (fun t ht hW => ⟨⟨nI a, w_7, rfl, (by subst eb2; exact ⟨fun q => absurd hc q, fun _ => ⟨by rw [← ha, gapF]; simp only [c_217, c_218, not_true_eq_false, not_false_eq_true, and_true, and_false, true_and, false_and, and_self, or_self, or_true, true_or, or_false, false_or, ↓reduceIte], (by have q := mp_8; rw [hc] at q; exact q)⟩⟩), by rw [ht]; exact hM, va_K.moved hW.alike hK⟩, hS.F ht⟩) hS.2.2 d_M_gap_98
      have e6 : r_11 = oI L0.head? := by rw [hr_11]; exact congrArg oI (folL_h hL0)
      subst e6
      exact loop L0 x2 ls (folL_t hL0) hLm rfl (lv_sub hl [2, 3, 4, 1, 0] rfl)
    · have hc := go_f hr_6 c_10
      refine lv_iconst (v := 0) hx hb d_M_gap_30 (by decide) ?_
      exact W.iret (v := 0) hx hb hr (fun t ht hW => ⟨⟨0, w_7, rfl, (by subst eb2; exact ⟨fun _ => mp_8, fun q => absurd q hc⟩), by rw [ht]; exact hM, va_K.moved hW.alike hK⟩, hS.F ht⟩) hS.2.2 d_M_gap_31
  refine lv_aload_n hx hb d_M_gap_0 rfl (lv_at hl 0 rfl) ?_
  refine lv_iconst (v := 2) hx hb d_M_gap_1 (by decide) ?_
  refine lv_iconst (v := 1) hx hb d_M_gap_2 (by decide) ?_
  refine lv_iload_n hx hb d_M_gap_3 rfl (lv_at hl 1 rfl) ?_
  refine lv_iconst (v := 0) hx hb d_M_gap_4 (by decide) ?_
  refine lv_ldc (v := 99999) hx hb hown (hta _ aw_686) d_M_gap_5 ?_
  refine vp_callSi (W.runS (As := [.int x1, .int 0, .int 99999]) (rest := [.int 1, .int 2, .ref mm]) ⟨hx, hb, hml, hown, hta⟩ (k_M_in l x1 0 99999) (cS 3 hta aw_626 aw_5 aw_624 aw_625 rfl rfl (by decide +kernel) ⟨Nat.le_of_ble_eq_true rfl, Nat.le_of_ble_eq_true rfl⟩) ⟨fun a U g mk q => q, fun U hU hW => ⟨rfl, trivial⟩⟩ rfl rfl hl.1 rfl (lv_room (Nat.le_of_ble_eq_true rfl)) d_M_gap_7 ⟨Nat.le_of_ble_eq_true rfl, Nat.le_of_ble_eq_true rfl⟩) (fun r_1 hr_1 => ?_)
  refine lv_if_eq (tgt := 21) hx hb d_M_gap_10 (by decide) (fun c_2 => ?_) (fun c_2 => ?_)
  · have p_3 := b1_f hr_1 c_2
    refine lv_iconst (v := 0) hx hb d_M_gap_21 (by decide) ?_
    exact j22  0 ls  (by simp only [p_3, not_true_eq_false, not_false_eq_true, and_true, and_false, true_and, false_and, and_self, or_self, or_true, true_or, or_false, false_or, ↓reduceIte]) (lv_sub hl [0, 1, 2] rfl)
  · have p_4 := b1_t hr_1 c_2
    refine lv_iload_n hx hb d_M_gap_13 rfl (lv_at hl 2 rfl) ?_
    refine lv_if_lt (tgt := 21) hx hb d_M_gap_14 (by decide) (fun c_5 => ?_) (fun c_5 => ?_)
    · refine lv_iconst (v := 0) hx hb d_M_gap_21 (by decide) ?_
      exact j22  0 ls  (by simp only [p_4, c_5, not_true_eq_false, not_false_eq_true, and_true, and_false, true_and, false_and, and_self, or_self, or_true, true_or, or_false, false_or, ↓reduceIte]) (lv_sub hl [0, 1, 2] rfl)
    · refine lv_iconst (v := 1) hx hb d_M_gap_17 (by decide) ?_
      refine lv_goto (tgt := 22) hx hb d_M_gap_18 (by decide) ?_
      exact j22  1 ls  (by simp only [p_4, c_5, not_true_eq_false, not_false_eq_true, and_true, and_false, true_and, false_and, and_self, or_self, or_true, true_or, or_false, false_or, ↓reduceIte]) (lv_sub hl [0, 1, 2] rfl)
