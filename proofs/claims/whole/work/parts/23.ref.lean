/-! the reference: its picture, its readers -/
theorem m_ialv {p : Program} {l : Launch} {e : Env} {R : Room} {s : State} {m : MethodId} {args : Array Value} {below : List Frame} {meth : Method} {c : Code} {H : Heap} {locs : List Loc} {cells slots : Nat} {Q : State → Prop} {cc : ByteArray} {pc : Nat} {ls : Array Slot} {rest : List Value} {D : va_G} {cl : List vw_C} {A : Nat → Prop} {a : Nat} {tys : List (ClassId × FieldType)} {w : Nat → Option va_E}
    (hexec : p.tables.exec = Jvm.exec) (hb : c.code = cc) (hK : va_K D cl tys s) (hM : mw D cl A w H) (t0 : Nat) {cA : ClassId} {n : Nat} {f : Nat → Int32} (ha : w a = some (.inl (cA, n, .inl f))) (ht : tys[t0]? = some (cA, .int)) {i : Int32} (hin : vp_in i n) {v : Int32} (hv : f i.toNatClampNeg = v) (hdg : decode cc pc = .ok (.iaload, 1))
    (kk : W p l e R s m args below meth c H locs cells slots Q (F0 m (pc + 1) ls (.int v :: rest))) : W p l e R s m args below meth c H locs cells slots Q (F0 m pc ls (.int i :: .ref a :: rest)) := by
  subst hv
  exact m_iald hexec hb hK hM t0 ha ht hin hdg kk
/-- the reference's object: ad 0 .. 11 its arrays writer kind sector was first known actOn act actValue actAt rowNote out -/
abbrev eM (ad : Nat → Nat) (th no wr n k z r so pr : Int32) : va_E := .inr (6, [.int th, .int no, .int wr, .int n, .ref (ad 0), .ref (ad 1), .ref (ad 2), .ref (ad 3), .ref (ad 4), .ref (ad 5), .int k, .ref (ad 6), .ref (ad 7), .ref (ad 8), .ref (ad 9), .int z, .int r, .int so, .ref (ad 10), .int pr, .ref (ad 11)])
def msz (i : Nat) : Nat := if i < 6 then 100 else if i < 10 then 200 else if i = 10 then 100 else 2400
def oI (o : Option Nat) : Int32 := match o with | none => -1 | some j => nI j
/-- a note's value, whether it is struck, how many acts: by the first a acts -/
def valM (f : Nat → Nat → Int32) (t : Int32) (j : Nat) : Nat → Int32
  | 0 => f 4 j
  | a + 1 => if f 6 a = nI j ∧ f 7 a = 2 ∧ ¬ t < f 9 a then f 8 a else valM f t j a
def strM (f : Nat → Nat → Int32) (t : Int32) (j : Nat) : Nat → Int32
  | 0 => 0
  | a + 1 => if f 6 a = nI j ∧ ¬ f 7 a = 2 ∧ ¬ t < f 9 a then (if f 7 a = 0 then 1 else 0) else strM f t j a
def manM (f : Nat → Nat → Int32) (al : Int32) (j : Nat) : Nat → Nat
  | 0 => 0
  | a + 1 => manM f al j a + (if f 6 a = nI j ∧ (¬ al = 0 ∨ f 7 a = 2) then 1 else 0)
def digM (f : Nat → Nat → Int32) (j : Nat) : Nat → Int32
  | 0 => mixv (mixv (mixv (mixv (mixv 7 (f 0 j)) (f 1 j)) (f 2 j)) (f 3 j)) (f 4 j)
  | a + 1 => if f 6 a = nI j ∧ f 7 a = 2 then mixv (digM f j a) (f 8 a) else digM f j a
def befN (f : Nat → Nat → Int32) (a b : Nat) : Bool := if f 3 a = f 3 b then (if f 0 a = f 0 b then decide (¬ b ≤ a) else decide (¬ f 0 b ≤ f 0 a)) else decide (¬ f 3 b ≤ f 3 a)
def lsB (f : Nat → Nat → Int32) (lo : Option Nat) (i : Nat) : Bool := match lo with | none => true | some j => befN f j i
def filM (f : Nat → Nat → Int32) (lo : Option Nat) (sk k z t no : Int32) (ka i : Nat) : Bool :=
  decide (¬ t < f 5 i) && lsB f lo i && decide (k < 0 ∨ f 1 i = k) && decide (z < 0 ∨ f 2 i = z) && decide (¬ sk = 0 ∨ strM f no i ka = 0)
def folM (F : Nat → Bool) (B : Nat → Nat → Bool) : Nat → Option Nat
  | 0 => none
  | i + 1 => if F i = true then (match folM F B i with | none => some i | some b => if B i b = true then some i else some b) else folM F B i
theorem folM_lt {F : Nat → Bool} {B : Nat → Nat → Bool} {n b : Nat} (h : folM F B n = some b) : b < n ∧ F b = true := by
  induction n with
  | zero => cases h
  | succ n ih =>
    unfold folM at h
    split at h
    · rename_i hF
      split at h
      · cases h; exact ⟨by omega, hF⟩
      · rename_i b2 hb2
        split at h
        · cases h; exact ⟨by omega, hF⟩
        · cases h; exact ⟨by have := (ih hb2).1; omega, (ih hb2).2⟩
    · exact ⟨by have := (ih h).1; omega, (ih h).2⟩
set_option maxHeartbeats 4000000 in
set_option maxRecDepth 100000 in
theorem k_M_value (l : Launch) (G : va_G) (q0 q1 : ClassId × FieldType) (cI : ClassId) (ty2 : List (ClassId × FieldType)) (w : Nat → Option va_E) {mm : Nat} {ad : Nat → Nat} {f : Nat → Nat → Int32} {th no wr n k z r so pr : Int32} (hm : w mm = some (eM ad th no wr n k z r so pr)) (hma : ∀ i, i < 12 → w (ad i) = some (aI cI (msz i) (f i))) {ka : Nat} (hk : ka ≤ 200) (ek : k = nI ka) (j : Nat) (hj : j < 100) (t : Int32) : Met l y_M_value (wm y_M_value c_M_value 5 (some .int)) ({ frames := 0, cells := 0, slots := 0, locals := 0 }) (pW G (q0 :: q1 :: (cI, .int) :: ty2) w [.ref mm, .int (nI j), .int t]) (vp_Si (fun r => r = valM f t j ka)) 0 0 (fun _ => False) := by
  refine Met.ofW (cc := c_M_value) (maxL := 5) (ret := (some .int)) (by decide) rfl ?_
  intro p e s m args below meth c s₁ B hml hv
  obtain ⟨rfl, hM, hK⟩ := hv
  have hx := B.exec
  have hb := B.bytes
  have hr := B.returns
  have hts := atoms_spec (ws := (wm y_M_value c_M_value 5 (some .int))) B.pre
  have hta : ∀ w ∈ AL, w.before _ s = true := fun w h => hts w (List.mem_cons_of_mem _ h)
  have hown : s.vm.findClass nR_M = some m.cls := findClass_of_methodNamed B.named
  have hlocks := B.notSynchronized
  have hl := lv_entry ([.ref mm, .int (nI j), .int t]) (n := 5) (Nat.le_of_ble_eq_true rfl)
  rw [lg_entry_eq]
  generalize (lg_sl ([.ref mm, .int (nI j), .int t]) ++ List.replicate (5 - (lg_sl ([.ref mm, .int (nI j), .int t])).length) Slot.unset).toArray = ls at hl ⊢
  have hl : lv_has ls 5 [(0, .ref mm), (1, .int (nI j)), (2, .int t)] := hl
  have ha4 : w (ad 4) = some (aI cI 100 (f 4)) := hma 4 (by decide)
  have ha6 : w (ad 6) = some (aI cI 200 (f 6)) := hma 6 (by decide)
  have ha7 : w (ad 7) = some (aI cI 200 (f 7)) := hma 7 (by decide)
  have ha8 : w (ad 8) = some (aI cI 200 (f 8)) := hma 8 (by decide)
  have ha9 : w (ad 9) = some (aI cI 200 (f 9)) := hma 9 (by decide)
  have loop : ∀ (m9 a : Nat) (x3 x4 : Int32) (ls : Array Slot), a + m9 = ka → x3 = valM f t j a → x4 = nI a → lv_has ls 5 [(0, .ref mm), (1, .int (nI j)), (2, .int t), (3, .int x3), (4, .int x4)] → W p l e (headSpec (wm y_M_value c_M_value 5 (some .int)) ({ frames := 0, cells := 0, slots := 0, locals := 0 })).room s m ([.ref mm, .int (nI j), .int t] : List Value).toArray below meth c s.heap [] 0 0 (MQ below (vp_Si (fun r => r = valM f t j ka)) ([.ref mm, .int (nI j), .int t] : List Value).toArray s 0 0 (fun _ => False)) (F0 m 10 ls []) := by
    intro m9
    induction m9 with
    | zero =>
      intro a x3 x4 ls hi e3 e4 hl
      refine lv_iload hx hb d_M_value_10 (lv_at hl 4 rfl) ?_
      refine lv_aload_n hx hb d_M_value_12 rfl (lv_at hl 0 rfl) ?_
      refine m_get (D := G) (ci := 6) (v := .int k) (C := nR_M) (T := nT_M) (N := 21) hx hb hta in_M hown hK hM hm rfl 10 (by decide) (hta _ aw_553) (fun _ h9 => h9) rfl d_M_value_13 ?_
      refine lv_icmp_ge (tgt := 66) hx hb d_M_value_16 (by decide) (fun c_1 => ?_) (fun c_1 => absurd (by rw [e4, ek]; exact nI_le (by omega) (by omega)) c_1)
      refine lv_iload_n hx hb d_M_value_66 rfl (lv_at hl 3 rfl) ?_
      exact W.iret (v := x3) hx hb hr (fun t ht hW => ⟨x3, rfl, by rw [e3, show a = ka by omega], ht⟩) (fun q h => nomatch h) d_M_value_67
    | succ m9 ih =>
      intro a x3 x4 ls hi e3 e4 hl
      refine lv_iload hx hb d_M_value_10 (lv_at hl 4 rfl) ?_
      refine lv_aload_n hx hb d_M_value_12 rfl (lv_at hl 0 rfl) ?_
      refine m_get (D := G) (ci := 6) (v := .int k) (C := nR_M) (T := nT_M) (N := 21) hx hb hta in_M hown hK hM hm rfl 10 (by decide) (hta _ aw_553) (fun _ h9 => h9) rfl d_M_value_13 ?_
      refine lv_icmp_ge (tgt := 66) hx hb d_M_value_16 (by decide) (fun c_2 => absurd c_2 (by rw [e4, ek]; exact nI_ge (by omega) (by omega))) (fun c_2 => ?_)
      refine lv_aload_n hx hb d_M_value_19 rfl (lv_at hl 0 rfl) ?_
      refine m_get (D := G) (ci := 6) (v := .ref (ad 6)) (C := nR_M) (T := nT_M) (N := 21) hx hb hta in_M hown hK hM hm rfl 11 (by decide) (hta _ aw_554) (fun _ h9 => h9) rfl d_M_value_20 ?_
      refine lv_iload hx hb d_M_value_23 (lv_at hl 4 rfl) ?_
      refine m_ialv hx hb hK hM 2 ha6 rfl (by rw [e4]; exact vp_in_nI (by omega) (by omega)) (v := f 6 a) (by rw [e4, nI_clamp (by omega)]) d_M_value_25 ?_
      refine lv_iload_n hx hb d_M_value_26 rfl (lv_at hl 1 rfl) ?_
      refine lv_icmp_ne (tgt := 60) hx hb d_M_value_27 (by decide) (fun c_3 => ?_) (fun c_3 => ?_)
      · obtain ⟨x_4, ex_4⟩ : ∃ y : Int32, y = x4 + 1 := ⟨_, rfl⟩
        refine lv_iinc (v := x_4) (lv' := [(4, .int x_4), (0, .ref mm), (1, .int (nI j)), (2, .int t), (3, .int x3)]) hx hb d_M_value_60 hl (k := 4) rfl (by rw [ex_4]; rfl) (by decide) rfl (fun ls hl => ?_)
        refine lv_goto (tgt := 10) hx hb d_M_value_63 (by decide) ?_
        exact ih (a + 1) x3 x_4 ls (by omega) (by simp [valM, e3, c_3]) (by rw [ex_4, e4, nI_1]) (lv_sub hl [1, 2, 3, 4, 0] rfl)
      · refine lv_aload_n hx hb d_M_value_30 rfl (lv_at hl 0 rfl) ?_
        refine m_get (D := G) (ci := 6) (v := .ref (ad 7)) (C := nR_M) (T := nT_M) (N := 21) hx hb hta in_M hown hK hM hm rfl 12 (by decide) (hta _ aw_555) (fun _ h9 => h9) rfl d_M_value_31 ?_
        refine lv_iload hx hb d_M_value_34 (lv_at hl 4 rfl) ?_
        refine m_ialv hx hb hK hM 2 ha7 rfl (by rw [e4]; exact vp_in_nI (by omega) (by omega)) (v := f 7 a) (by rw [e4, nI_clamp (by omega)]) d_M_value_36 ?_
        refine lv_iconst (v := 2) hx hb d_M_value_37 (by decide) ?_
        refine lv_icmp_ne (tgt := 60) hx hb d_M_value_38 (by decide) (fun c_5 => ?_) (fun c_5 => ?_)
        · obtain ⟨x_6, ex_6⟩ : ∃ y : Int32, y = x4 + 1 := ⟨_, rfl⟩
          refine lv_iinc (v := x_6) (lv' := [(4, .int x_6), (0, .ref mm), (1, .int (nI j)), (2, .int t), (3, .int x3)]) hx hb d_M_value_60 hl (k := 4) rfl (by rw [ex_6]; rfl) (by decide) rfl (fun ls hl => ?_)
          refine lv_goto (tgt := 10) hx hb d_M_value_63 (by decide) ?_
          exact ih (a + 1) x3 x_6 ls (by omega) (by simp [valM, e3, c_3, c_5]) (by rw [ex_6, e4, nI_1]) (lv_sub hl [1, 2, 3, 4, 0] rfl)
        · refine lv_aload_n hx hb d_M_value_41 rfl (lv_at hl 0 rfl) ?_
          refine m_get (D := G) (ci := 6) (v := .ref (ad 9)) (C := nR_M) (T := nT_M) (N := 21) hx hb hta in_M hown hK hM hm rfl 14 (by decide) (hta _ aw_557) (fun _ h9 => h9) rfl d_M_value_42 ?_
          refine lv_iload hx hb d_M_value_45 (lv_at hl 4 rfl) ?_
          refine m_ialv hx hb hK hM 2 ha9 rfl (by rw [e4]; exact vp_in_nI (by omega) (by omega)) (v := f 9 a) (by rw [e4, nI_clamp (by omega)]) d_M_value_47 ?_
          refine lv_iload_n hx hb d_M_value_48 rfl (lv_at hl 2 rfl) ?_
          refine lv_icmp_gt (tgt := 60) hx hb d_M_value_49 (by decide) (fun c_7 => ?_) (fun c_7 => ?_)
          · obtain ⟨x_8, ex_8⟩ : ∃ y : Int32, y = x4 + 1 := ⟨_, rfl⟩
            refine lv_iinc (v := x_8) (lv' := [(4, .int x_8), (0, .ref mm), (1, .int (nI j)), (2, .int t), (3, .int x3)]) hx hb d_M_value_60 hl (k := 4) rfl (by rw [ex_8]; rfl) (by decide) rfl (fun ls hl => ?_)
            refine lv_goto (tgt := 10) hx hb d_M_value_63 (by decide) ?_
            exact ih (a + 1) x3 x_8 ls (by omega) (by simp [valM, e3, c_3, c_5, c_7]) (by rw [ex_8, e4, nI_1]) (lv_sub hl [1, 2, 3, 4, 0] rfl)
          · refine lv_aload_n hx hb d_M_value_52 rfl (lv_at hl 0 rfl) ?_
            refine m_get (D := G) (ci := 6) (v := .ref (ad 8)) (C := nR_M) (T := nT_M) (N := 21) hx hb hta in_M hown hK hM hm rfl 13 (by decide) (hta _ aw_556) (fun _ h9 => h9) rfl d_M_value_53 ?_
            refine lv_iload hx hb d_M_value_56 (lv_at hl 4 rfl) ?_
            refine m_ialv hx hb hK hM 2 ha8 rfl (by rw [e4]; exact vp_in_nI (by omega) (by omega)) (v := f 8 a) (by rw [e4, nI_clamp (by omega)]) d_M_value_58 ?_
            refine lv_istore_n (lv' := [(3, .int (f 8 a)), (0, .ref mm), (1, .int (nI j)), (2, .int t), (4, .int x4)]) hx hb d_M_value_59 rfl hl (by decide) rfl (fun ls hl => ?_)
            obtain ⟨x_9, ex_9⟩ : ∃ y : Int32, y = x4 + 1 := ⟨_, rfl⟩
            refine lv_iinc (v := x_9) (lv' := [(4, .int x_9), (3, .int (f 8 a)), (0, .ref mm), (1, .int (nI j)), (2, .int t)]) hx hb d_M_value_60 hl (k := 4) rfl (by rw [ex_9]; rfl) (by decide) rfl (fun ls hl => ?_)
            refine lv_goto (tgt := 10) hx hb d_M_value_63 (by decide) ?_
            exact ih (a + 1) (f 8 a) x_9 ls (by omega) (by simp [valM, e3, c_3, c_5, c_7]) (by rw [ex_9, e4, nI_1]) (lv_sub hl [2, 3, 4, 1, 0] rfl)
  refine lv_aload_n hx hb d_M_value_0 rfl (lv_at hl 0 rfl) ?_
  refine m_get (D := G) (ci := 6) (v := .ref (ad 4)) (C := nR_M) (T := nT_M) (N := 21) hx hb hta in_M hown hK hM hm rfl 8 (by decide) (hta _ aw_551) (fun _ h9 => h9) rfl d_M_value_1 ?_
  refine lv_iload_n hx hb d_M_value_4 rfl (lv_at hl 1 rfl) ?_
  refine m_ialv hx hb hK hM 2 ha4 rfl (vp_in_nI hj (by omega)) (v := f 4 j) (by rw [nI_clamp (by omega)]) d_M_value_5 ?_
  refine lv_istore_n (lv' := [(3, .int (f 4 j)), (0, .ref mm), (1, .int (nI j)), (2, .int t)]) hx hb d_M_value_6 rfl hl (by decide) rfl (fun ls hl => ?_)
  refine lv_iconst (v := 0) hx hb d_M_value_7 (by decide) ?_
  refine lv_istore (lv' := [(4, .int 0), (3, .int (f 4 j)), (0, .ref mm), (1, .int (nI j)), (2, .int t)]) hx hb d_M_value_8 hl (by decide) rfl (fun ls hl => ?_)
  exact loop ka 0 _ 0 ls (by omega) rfl rfl (lv_sub hl [2, 3, 4, 1, 0] rfl)
theorem strM_01 (f : Nat → Nat → Int32) (t : Int32) (j a : Nat) : strM f t j a = 0 ∨ strM f t j a = 1 := by
  induction a with
  | zero => exact Or.inl rfl
  | succ a ih => unfold strM; split
                 · split
                   · exact Or.inr rfl
                   · exact Or.inl rfl
                 · exact ih
theorem z_01 {x : Int32} (h : x = 0 ∨ x = 1) : narrow .boolean (.int x) = .int x := by rcases h with h | h <;> rw [h] <;> rfl
set_option maxHeartbeats 4000000 in
set_option maxRecDepth 100000 in
theorem k_M_isStruck (l : Launch) (G : va_G) (q0 q1 : ClassId × FieldType) (cI : ClassId) (ty2 : List (ClassId × FieldType)) (w : Nat → Option va_E) {mm : Nat} {ad : Nat → Nat} {f : Nat → Nat → Int32} {th no wr n k z r so pr : Int32} (hm : w mm = some (eM ad th no wr n k z r so pr)) (hma : ∀ i, i < 12 → w (ad i) = some (aI cI (msz i) (f i))) {ka : Nat} (hk : ka ≤ 200) (ek : k = nI ka) (j : Nat) (t : Int32) : Met l y_M_isStruck (wm y_M_isStruck c_M_isStruck 5 (some .boolean)) ({ frames := 0, cells := 0, slots := 0, locals := 0 }) (pW G (q0 :: q1 :: (cI, .int) :: ty2) w [.ref mm, .int (nI j), .int t]) (vp_Si (fun r => r = strM f t j ka)) 0 0 (fun _ => False) := by
  refine Met.ofW (cc := c_M_isStruck) (maxL := 5) (ret := (some .boolean)) (by decide) rfl ?_
  intro p e s m args below meth c s₁ B hml hv
  obtain ⟨rfl, hM, hK⟩ := hv
  have hx := B.exec
  have hb := B.bytes
  have hr := B.returns
  have hts := atoms_spec (ws := (wm y_M_isStruck c_M_isStruck 5 (some .boolean))) B.pre
  have hta : ∀ w ∈ AL, w.before _ s = true := fun w h => hts w (List.mem_cons_of_mem _ h)
  have hown : s.vm.findClass nR_M = some m.cls := findClass_of_methodNamed B.named
  have hlocks := B.notSynchronized
  have hl := lv_entry ([.ref mm, .int (nI j), .int t]) (n := 5) (Nat.le_of_ble_eq_true rfl)
  rw [lg_entry_eq]
  generalize (lg_sl ([.ref mm, .int (nI j), .int t]) ++ List.replicate (5 - (lg_sl ([.ref mm, .int (nI j), .int t])).length) Slot.unset).toArray = ls at hl ⊢
  have hl : lv_has ls 5 [(0, .ref mm), (1, .int (nI j)), (2, .int t)] := hl
  have ha6 : w (ad 6) = some (aI cI 200 (f 6)) := hma 6 (by decide)
  have ha7 : w (ad 7) = some (aI cI 200 (f 7)) := hma 7 (by decide)
  have ha9 : w (ad 9) = some (aI cI 200 (f 9)) := hma 9 (by decide)
  have loop : ∀ (m9 a : Nat) (x3 x4 : Int32) (ls : Array Slot), a + m9 = ka → x3 = strM f t j a → x4 = nI a → lv_has ls 5 [(0, .ref mm), (1, .int (nI j)), (2, .int t), (3, .int x3), (4, .int x4)] → W p l e (headSpec (wm y_M_isStruck c_M_isStruck 5 (some .boolean)) ({ frames := 0, cells := 0, slots := 0, locals := 0 })).room s m ([.ref mm, .int (nI j), .int t] : List Value).toArray below meth c s.heap [] 0 0 (MQ below (vp_Si (fun r => r = strM f t j ka)) ([.ref mm, .int (nI j), .int t] : List Value).toArray s 0 0 (fun _ => False)) (F0 m 5 ls []) := by
    intro m9
    induction m9 with
    | zero =>
      intro a x3 x4 ls hi e3 e4 hl
      refine lv_iload hx hb d_M_isStruck_5 (lv_at hl 4 rfl) ?_
      refine lv_aload_n hx hb d_M_isStruck_7 rfl (lv_at hl 0 rfl) ?_
      refine m_get (D := G) (ci := 6) (v := .int k) (C := nR_M) (T := nT_M) (N := 21) hx hb hta in_M hown hK hM hm rfl 10 (by decide) (hta _ aw_553) (fun _ h9 => h9) rfl d_M_isStruck_8 ?_
      refine lv_icmp_ge (tgt := 69) hx hb d_M_isStruck_11 (by decide) (fun c_1 => ?_) (fun c_1 => absurd (by rw [e4, ek]; exact nI_le (by omega) (by omega)) c_1)
      refine lv_iload_n hx hb d_M_isStruck_69 rfl (lv_at hl 3 rfl) ?_
      exact W.zret (v := x3) hx hb hr (z_01 (by rw [e3]; exact strM_01 f t j a)) (fun t ht hW => ⟨x3, rfl, by rw [e3, show a = ka by omega], ht⟩) (fun q h => nomatch h) d_M_isStruck_70
    | succ m9 ih =>
      intro a x3 x4 ls hi e3 e4 hl
      refine lv_iload hx hb d_M_isStruck_5 (lv_at hl 4 rfl) ?_
      refine lv_aload_n hx hb d_M_isStruck_7 rfl (lv_at hl 0 rfl) ?_
      refine m_get (D := G) (ci := 6) (v := .int k) (C := nR_M) (T := nT_M) (N := 21) hx hb hta in_M hown hK hM hm rfl 10 (by decide) (hta _ aw_553) (fun _ h9 => h9) rfl d_M_isStruck_8 ?_
      refine lv_icmp_ge (tgt := 69) hx hb d_M_isStruck_11 (by decide) (fun c_2 => absurd c_2 (by rw [e4, ek]; exact nI_ge (by omega) (by omega))) (fun c_2 => ?_)
      refine lv_aload_n hx hb d_M_isStruck_14 rfl (lv_at hl 0 rfl) ?_
      refine m_get (D := G) (ci := 6) (v := .ref (ad 6)) (C := nR_M) (T := nT_M) (N := 21) hx hb hta in_M hown hK hM hm rfl 11 (by decide) (hta _ aw_554) (fun _ h9 => h9) rfl d_M_isStruck_15 ?_
      refine lv_iload hx hb d_M_isStruck_18 (lv_at hl 4 rfl) ?_
      refine m_ialv hx hb hK hM 2 ha6 rfl (by rw [e4]; exact vp_in_nI (by omega) (by omega)) (v := f 6 a) (by rw [e4, nI_clamp (by omega)]) d_M_isStruck_20 ?_
      refine lv_iload_n hx hb d_M_isStruck_21 rfl (lv_at hl 1 rfl) ?_
      refine lv_icmp_ne (tgt := 63) hx hb d_M_isStruck_22 (by decide) (fun c_3 => ?_) (fun c_3 => ?_)
      · obtain ⟨x_4, ex_4⟩ : ∃ y : Int32, y = x4 + 1 := ⟨_, rfl⟩
        refine lv_iinc (v := x_4) (lv' := [(4, .int x_4), (0, .ref mm), (1, .int (nI j)), (2, .int t), (3, .int x3)]) hx hb d_M_isStruck_63 hl (k := 4) rfl (by rw [ex_4]; rfl) (by decide) rfl (fun ls hl => ?_)
        refine lv_goto (tgt := 5) hx hb d_M_isStruck_66 (by decide) ?_
        exact ih (a + 1) x3 x_4 ls (by omega) (by simp [strM, e3, c_3]) (by rw [ex_4, e4, nI_1]) (lv_sub hl [1, 2, 3, 4, 0] rfl)
      · refine lv_aload_n hx hb d_M_isStruck_25 rfl (lv_at hl 0 rfl) ?_
        refine m_get (D := G) (ci := 6) (v := .ref (ad 7)) (C := nR_M) (T := nT_M) (N := 21) hx hb hta in_M hown hK hM hm rfl 12 (by decide) (hta _ aw_555) (fun _ h9 => h9) rfl d_M_isStruck_26 ?_
        refine lv_iload hx hb d_M_isStruck_29 (lv_at hl 4 rfl) ?_
        refine m_ialv hx hb hK hM 2 ha7 rfl (by rw [e4]; exact vp_in_nI (by omega) (by omega)) (v := f 7 a) (by rw [e4, nI_clamp (by omega)]) d_M_isStruck_31 ?_
        refine lv_iconst (v := 2) hx hb d_M_isStruck_32 (by decide) ?_
        refine lv_icmp_eq (tgt := 63) hx hb d_M_isStruck_33 (by decide) (fun c_5 => ?_) (fun c_5 => ?_)
        · obtain ⟨x_6, ex_6⟩ : ∃ y : Int32, y = x4 + 1 := ⟨_, rfl⟩
          refine lv_iinc (v := x_6) (lv' := [(4, .int x_6), (0, .ref mm), (1, .int (nI j)), (2, .int t), (3, .int x3)]) hx hb d_M_isStruck_63 hl (k := 4) rfl (by rw [ex_6]; rfl) (by decide) rfl (fun ls hl => ?_)
          refine lv_goto (tgt := 5) hx hb d_M_isStruck_66 (by decide) ?_
          exact ih (a + 1) x3 x_6 ls (by omega) (by simp [strM, e3, c_3, c_5]) (by rw [ex_6, e4, nI_1]) (lv_sub hl [1, 2, 3, 4, 0] rfl)
        · refine lv_aload_n hx hb d_M_isStruck_36 rfl (lv_at hl 0 rfl) ?_
          refine m_get (D := G) (ci := 6) (v := .ref (ad 9)) (C := nR_M) (T := nT_M) (N := 21) hx hb hta in_M hown hK hM hm rfl 14 (by decide) (hta _ aw_557) (fun _ h9 => h9) rfl d_M_isStruck_37 ?_
          refine lv_iload hx hb d_M_isStruck_40 (lv_at hl 4 rfl) ?_
          refine m_ialv hx hb hK hM 2 ha9 rfl (by rw [e4]; exact vp_in_nI (by omega) (by omega)) (v := f 9 a) (by rw [e4, nI_clamp (by omega)]) d_M_isStruck_42 ?_
          refine lv_iload_n hx hb d_M_isStruck_43 rfl (lv_at hl 2 rfl) ?_
          refine lv_icmp_gt (tgt := 63) hx hb d_M_isStruck_44 (by decide) (fun c_7 => ?_) (fun c_7 => ?_)
          · obtain ⟨x_8, ex_8⟩ : ∃ y : Int32, y = x4 + 1 := ⟨_, rfl⟩
            refine lv_iinc (v := x_8) (lv' := [(4, .int x_8), (0, .ref mm), (1, .int (nI j)), (2, .int t), (3, .int x3)]) hx hb d_M_isStruck_63 hl (k := 4) rfl (by rw [ex_8]; rfl) (by decide) rfl (fun ls hl => ?_)
            refine lv_goto (tgt := 5) hx hb d_M_isStruck_66 (by decide) ?_
            exact ih (a + 1) x3 x_8 ls (by omega) (by simp [strM, e3, c_3, c_5, c_7]) (by rw [ex_8, e4, nI_1]) (lv_sub hl [1, 2, 3, 4, 0] rfl)
          · refine lv_aload_n hx hb d_M_isStruck_47 rfl (lv_at hl 0 rfl) ?_
            refine m_get (D := G) (ci := 6) (v := .ref (ad 7)) (C := nR_M) (T := nT_M) (N := 21) hx hb hta in_M hown hK hM hm rfl 12 (by decide) (hta _ aw_555) (fun _ h9 => h9) rfl d_M_isStruck_48 ?_
            refine lv_iload hx hb d_M_isStruck_51 (lv_at hl 4 rfl) ?_
            refine m_ialv hx hb hK hM 2 ha7 rfl (by rw [e4]; exact vp_in_nI (by omega) (by omega)) (v := f 7 a) (by rw [e4, nI_clamp (by omega)]) d_M_isStruck_53 ?_
            refine lv_if_ne (tgt := 61) hx hb d_M_isStruck_54 (by decide) (fun c_9 => ?_) (fun c_9 => ?_)
            · refine lv_iconst (v := 0) hx hb d_M_isStruck_61 (by decide) ?_
              refine lv_istore_n (lv' := [(3, .int 0), (0, .ref mm), (1, .int (nI j)), (2, .int t), (4, .int x4)]) hx hb d_M_isStruck_62 rfl hl (by decide) rfl (fun ls hl => ?_)
              obtain ⟨x_10, ex_10⟩ : ∃ y : Int32, y = x4 + 1 := ⟨_, rfl⟩
              refine lv_iinc (v := x_10) (lv' := [(4, .int x_10), (3, .int 0), (0, .ref mm), (1, .int (nI j)), (2, .int t)]) hx hb d_M_isStruck_63 hl (k := 4) rfl (by rw [ex_10]; rfl) (by decide) rfl (fun ls hl => ?_)
              refine lv_goto (tgt := 5) hx hb d_M_isStruck_66 (by decide) ?_
              exact ih (a + 1) 0 x_10 ls (by omega) (by simp [strM, e3, c_3, c_5, c_7, c_9]) (by rw [ex_10, e4, nI_1]) (lv_sub hl [2, 3, 4, 1, 0] rfl)
            · refine lv_iconst (v := 1) hx hb d_M_isStruck_57 (by decide) ?_
              refine lv_goto (tgt := 62) hx hb d_M_isStruck_58 (by decide) ?_
              refine lv_istore_n (lv' := [(3, .int 1), (0, .ref mm), (1, .int (nI j)), (2, .int t), (4, .int x4)]) hx hb d_M_isStruck_62 rfl hl (by decide) rfl (fun ls hl => ?_)
              obtain ⟨x_11, ex_11⟩ : ∃ y : Int32, y = x4 + 1 := ⟨_, rfl⟩
              refine lv_iinc (v := x_11) (lv' := [(4, .int x_11), (3, .int 1), (0, .ref mm), (1, .int (nI j)), (2, .int t)]) hx hb d_M_isStruck_63 hl (k := 4) rfl (by rw [ex_11]; rfl) (by decide) rfl (fun ls hl => ?_)
              refine lv_goto (tgt := 5) hx hb d_M_isStruck_66 (by decide) ?_
              exact ih (a + 1) 1 x_11 ls (by omega) (by simp [strM, e3, c_3, c_5, c_7, c_9]) (by rw [ex_11, e4, nI_1]) (lv_sub hl [2, 3, 4, 1, 0] rfl)
  refine lv_iconst (v := 0) hx hb d_M_isStruck_0 (by decide) ?_
  refine lv_istore_n (lv' := [(3, .int 0), (0, .ref mm), (1, .int (nI j)), (2, .int t)]) hx hb d_M_isStruck_1 rfl hl (by decide) rfl (fun ls hl => ?_)
  refine lv_iconst (v := 0) hx hb d_M_isStruck_2 (by decide) ?_
  refine lv_istore (lv' := [(4, .int 0), (3, .int 0), (0, .ref mm), (1, .int (nI j)), (2, .int t)]) hx hb d_M_isStruck_3 hl (by decide) rfl (fun ls hl => ?_)
  exact loop ka 0 _ 0 ls (by omega) rfl rfl (lv_sub hl [2, 3, 4, 1, 0] rfl)
set_option maxHeartbeats 4000000 in
set_option maxRecDepth 100000 in
theorem k_M_many (l : Launch) (G : va_G) (q0 q1 : ClassId × FieldType) (cI : ClassId) (ty2 : List (ClassId × FieldType)) (w : Nat → Option va_E) {mm : Nat} {ad : Nat → Nat} {f : Nat → Nat → Int32} {th no wr n k z r so pr : Int32} (hm : w mm = some (eM ad th no wr n k z r so pr)) (hma : ∀ i, i < 12 → w (ad i) = some (aI cI (msz i) (f i))) {ka : Nat} (hk : ka ≤ 200) (ek : k = nI ka) (j : Nat) (t : Int32) : Met l y_M_many (wm y_M_many c_M_many 5 (some .int)) ({ frames := 0, cells := 0, slots := 0, locals := 0 }) (pW G (q0 :: q1 :: (cI, .int) :: ty2) w [.ref mm, .int (nI j), .int t]) (vp_Si (fun r => r = nI (manM f t j ka))) 0 0 (fun _ => False) := by
  refine Met.ofW (cc := c_M_many) (maxL := 5) (ret := (some .int)) (by decide) rfl ?_
  intro p e s m args below meth c s₁ B hml hv
  obtain ⟨rfl, hM, hK⟩ := hv
  have hx := B.exec
  have hb := B.bytes
  have hr := B.returns
  have hts := atoms_spec (ws := (wm y_M_many c_M_many 5 (some .int))) B.pre
  have hta : ∀ w ∈ AL, w.before _ s = true := fun w h => hts w (List.mem_cons_of_mem _ h)
  have hown : s.vm.findClass nR_M = some m.cls := findClass_of_methodNamed B.named
  have hlocks := B.notSynchronized
  have hl := lv_entry ([.ref mm, .int (nI j), .int t]) (n := 5) (Nat.le_of_ble_eq_true rfl)
  rw [lg_entry_eq]
  generalize (lg_sl ([.ref mm, .int (nI j), .int t]) ++ List.replicate (5 - (lg_sl ([.ref mm, .int (nI j), .int t])).length) Slot.unset).toArray = ls at hl ⊢
  have hl : lv_has ls 5 [(0, .ref mm), (1, .int (nI j)), (2, .int t)] := hl
  have ha6 : w (ad 6) = some (aI cI 200 (f 6)) := hma 6 (by decide)
  have ha7 : w (ad 7) = some (aI cI 200 (f 7)) := hma 7 (by decide)
  have loop : ∀ (m9 a : Nat) (x3 x4 : Int32) (ls : Array Slot), a + m9 = ka → x3 = nI (manM f t j a) → x4 = nI a → lv_has ls 5 [(0, .ref mm), (1, .int (nI j)), (2, .int t), (3, .int x3), (4, .int x4)] → W p l e (headSpec (wm y_M_many c_M_many 5 (some .int)) ({ frames := 0, cells := 0, slots := 0, locals := 0 })).room s m ([.ref mm, .int (nI j), .int t] : List Value).toArray below meth c s.heap [] 0 0 (MQ below (vp_Si (fun r => r = nI (manM f t j ka))) ([.ref mm, .int (nI j), .int t] : List Value).toArray s 0 0 (fun _ => False)) (F0 m 5 ls []) := by
    intro m9
    induction m9 with
    | zero =>
      intro a x3 x4 ls hi e3 e4 hl
      refine lv_iload hx hb d_M_many_5 (lv_at hl 4 rfl) ?_
      refine lv_aload_n hx hb d_M_many_7 rfl (lv_at hl 0 rfl) ?_
      refine m_get (D := G) (ci := 6) (v := .int k) (C := nR_M) (T := nT_M) (N := 21) hx hb hta in_M hown hK hM hm rfl 10 (by decide) (hta _ aw_553) (fun _ h9 => h9) rfl d_M_many_8 ?_
      refine lv_icmp_ge (tgt := 49) hx hb d_M_many_11 (by decide) (fun c_1 => ?_) (fun c_1 => absurd (by rw [e4, ek]; exact nI_le (by omega) (by omega)) c_1)
      refine lv_iload_n hx hb d_M_many_49 rfl (lv_at hl 3 rfl) ?_
      exact W.iret (v := x3) hx hb hr (fun t ht hW => ⟨x3, rfl, by rw [e3, show a = ka by omega], ht⟩) (fun q h => nomatch h) d_M_many_50
    | succ m9 ih =>
      intro a x3 x4 ls hi e3 e4 hl
      refine lv_iload hx hb d_M_many_5 (lv_at hl 4 rfl) ?_
      refine lv_aload_n hx hb d_M_many_7 rfl (lv_at hl 0 rfl) ?_
      refine m_get (D := G) (ci := 6) (v := .int k) (C := nR_M) (T := nT_M) (N := 21) hx hb hta in_M hown hK hM hm rfl 10 (by decide) (hta _ aw_553) (fun _ h9 => h9) rfl d_M_many_8 ?_
      refine lv_icmp_ge (tgt := 49) hx hb d_M_many_11 (by decide) (fun c_2 => absurd c_2 (by rw [e4, ek]; exact nI_ge (by omega) (by omega))) (fun c_2 => ?_)
      refine lv_aload_n hx hb d_M_many_14 rfl (lv_at hl 0 rfl) ?_
      refine m_get (D := G) (ci := 6) (v := .ref (ad 6)) (C := nR_M) (T := nT_M) (N := 21) hx hb hta in_M hown hK hM hm rfl 11 (by decide) (hta _ aw_554) (fun _ h9 => h9) rfl d_M_many_15 ?_
      refine lv_iload hx hb d_M_many_18 (lv_at hl 4 rfl) ?_
      refine m_ialv hx hb hK hM 2 ha6 rfl (by rw [e4]; exact vp_in_nI (by omega) (by omega)) (v := f 6 a) (by rw [e4, nI_clamp (by omega)]) d_M_many_20 ?_
      refine lv_iload_n hx hb d_M_many_21 rfl (lv_at hl 1 rfl) ?_
      refine lv_icmp_ne (tgt := 43) hx hb d_M_many_22 (by decide) (fun c_3 => ?_) (fun c_3 => ?_)
      · obtain ⟨x_4, ex_4⟩ : ∃ y : Int32, y = x4 + 1 := ⟨_, rfl⟩
        refine lv_iinc (v := x_4) (lv' := [(4, .int x_4), (0, .ref mm), (1, .int (nI j)), (2, .int t), (3, .int x3)]) hx hb d_M_many_43 hl (k := 4) rfl (by rw [ex_4]; rfl) (by decide) rfl (fun ls hl => ?_)
        refine lv_goto (tgt := 5) hx hb d_M_many_46 (by decide) ?_
        exact ih (a + 1) x3 x_4 ls (by omega) (by rw [e3, manM, if_neg (by simp [c_3])]; rfl) (by rw [ex_4, e4, nI_1]) (lv_sub hl [1, 2, 3, 4, 0] rfl)
      · refine lv_iload_n hx hb d_M_many_25 rfl (lv_at hl 2 rfl) ?_
        refine lv_if_ne (tgt := 40) hx hb d_M_many_26 (by decide) (fun c_5 => ?_) (fun c_5 => ?_)
        · obtain ⟨x_6, ex_6⟩ : ∃ y : Int32, y = x3 + 1 := ⟨_, rfl⟩
          refine lv_iinc (v := x_6) (lv' := [(3, .int x_6), (0, .ref mm), (1, .int (nI j)), (2, .int t), (4, .int x4)]) hx hb d_M_many_40 hl (k := 3) rfl (by rw [ex_6]; rfl) (by decide) rfl (fun ls hl => ?_)
          obtain ⟨x_7, ex_7⟩ : ∃ y : Int32, y = x4 + 1 := ⟨_, rfl⟩
          refine lv_iinc (v := x_7) (lv' := [(4, .int x_7), (3, .int x_6), (0, .ref mm), (1, .int (nI j)), (2, .int t)]) hx hb d_M_many_43 hl (k := 4) rfl (by rw [ex_7]; rfl) (by decide) rfl (fun ls hl => ?_)
          refine lv_goto (tgt := 5) hx hb d_M_many_46 (by decide) ?_
          exact ih (a + 1) x_6 x_7 ls (by omega) (by rw [ex_6, e3, manM, if_pos (by simp [c_3, c_5]), nI_1]) (by rw [ex_7, e4, nI_1]) (lv_sub hl [2, 3, 4, 1, 0] rfl)
        · refine lv_aload_n hx hb d_M_many_29 rfl (lv_at hl 0 rfl) ?_
          refine m_get (D := G) (ci := 6) (v := .ref (ad 7)) (C := nR_M) (T := nT_M) (N := 21) hx hb hta in_M hown hK hM hm rfl 12 (by decide) (hta _ aw_555) (fun _ h9 => h9) rfl d_M_many_30 ?_
          refine lv_iload hx hb d_M_many_33 (lv_at hl 4 rfl) ?_
          refine m_ialv hx hb hK hM 2 ha7 rfl (by rw [e4]; exact vp_in_nI (by omega) (by omega)) (v := f 7 a) (by rw [e4, nI_clamp (by omega)]) d_M_many_35 ?_
          refine lv_iconst (v := 2) hx hb d_M_many_36 (by decide) ?_
          refine lv_icmp_ne (tgt := 43) hx hb d_M_many_37 (by decide) (fun c_8 => ?_) (fun c_8 => ?_)
          · obtain ⟨x_9, ex_9⟩ : ∃ y : Int32, y = x4 + 1 := ⟨_, rfl⟩
            refine lv_iinc (v := x_9) (lv' := [(4, .int x_9), (0, .ref mm), (1, .int (nI j)), (2, .int t), (3, .int x3)]) hx hb d_M_many_43 hl (k := 4) rfl (by rw [ex_9]; rfl) (by decide) rfl (fun ls hl => ?_)
            refine lv_goto (tgt := 5) hx hb d_M_many_46 (by decide) ?_
            exact ih (a + 1) x3 x_9 ls (by omega) (by rw [e3, manM, if_neg (by simp [c_3, c_5, c_8])]; rfl) (by rw [ex_9, e4, nI_1]) (lv_sub hl [1, 2, 3, 4, 0] rfl)
          · obtain ⟨x_10, ex_10⟩ : ∃ y : Int32, y = x3 + 1 := ⟨_, rfl⟩
            refine lv_iinc (v := x_10) (lv' := [(3, .int x_10), (0, .ref mm), (1, .int (nI j)), (2, .int t), (4, .int x4)]) hx hb d_M_many_40 hl (k := 3) rfl (by rw [ex_10]; rfl) (by decide) rfl (fun ls hl => ?_)
            obtain ⟨x_11, ex_11⟩ : ∃ y : Int32, y = x4 + 1 := ⟨_, rfl⟩
            refine lv_iinc (v := x_11) (lv' := [(4, .int x_11), (3, .int x_10), (0, .ref mm), (1, .int (nI j)), (2, .int t)]) hx hb d_M_many_43 hl (k := 4) rfl (by rw [ex_11]; rfl) (by decide) rfl (fun ls hl => ?_)
            refine lv_goto (tgt := 5) hx hb d_M_many_46 (by decide) ?_
            exact ih (a + 1) x_10 x_11 ls (by omega) (by rw [ex_10, e3, manM, if_pos (by simp [c_3, c_5, c_8]), nI_1]) (by rw [ex_11, e4, nI_1]) (lv_sub hl [2, 3, 4, 1, 0] rfl)
  refine lv_iconst (v := 0) hx hb d_M_many_0 (by decide) ?_
  refine lv_istore_n (lv' := [(3, .int 0), (0, .ref mm), (1, .int (nI j)), (2, .int t)]) hx hb d_M_many_1 rfl hl (by decide) rfl (fun ls hl => ?_)
  refine lv_iconst (v := 0) hx hb d_M_many_2 (by decide) ?_
  refine lv_istore (lv' := [(4, .int 0), (3, .int 0), (0, .ref mm), (1, .int (nI j)), (2, .int t)]) hx hb d_M_many_3 hl (by decide) rfl (fun ls hl => ?_)
  exact loop ka 0 _ 0 ls (by omega) rfl rfl (lv_sub hl [2, 3, 4, 1, 0] rfl)
set_option maxHeartbeats 4000000 in
set_option maxRecDepth 100000 in
theorem k_M_isBefore (l : Launch) (G : va_G) (q0 q1 : ClassId × FieldType) (cI : ClassId) (ty2 : List (ClassId × FieldType)) (w : Nat → Option va_E) {mm : Nat} {ad : Nat → Nat} {f : Nat → Nat → Int32} {th no wr n k z r so pr : Int32} (hm : w mm = some (eM ad th no wr n k z r so pr)) (hma : ∀ i, i < 12 → w (ad i) = some (aI cI (msz i) (f i))) (a b : Nat) (ha : a < 100) (hb2 : b < 100) : Met l y_M_isBefore (wm y_M_isBefore c_M_isBefore 3 (some .boolean)) ({ frames := 0, cells := 0, slots := 0, locals := 0 }) (pW G (q0 :: q1 :: (cI, .int) :: ty2) w [.ref mm, .int (nI a), .int (nI b)]) (vp_Si (fun r => r = if befN f a b = true then 1 else 0)) 0 0 (fun _ => False) := by
  refine Met.ofW (cc := c_M_isBefore) (maxL := 3) (ret := (some .boolean)) (by decide) rfl ?_
  intro p e s m args below meth c s₁ B hml hv
  obtain ⟨rfl, hM, hK⟩ := hv
  have hx := B.exec
  have hb := B.bytes
  have hr := B.returns
  have hts := atoms_spec (ws := (wm y_M_isBefore c_M_isBefore 3 (some .boolean))) B.pre
  have hta : ∀ w ∈ AL, w.before _ s = true := fun w h => hts w (List.mem_cons_of_mem _ h)
  have hown : s.vm.findClass nR_M = some m.cls := findClass_of_methodNamed B.named
  have hlocks := B.notSynchronized
  have hl := lv_entry ([.ref mm, .int (nI a), .int (nI b)]) (n := 3) (Nat.le_of_ble_eq_true rfl)
  rw [lg_entry_eq]
  generalize (lg_sl ([.ref mm, .int (nI a), .int (nI b)]) ++ List.replicate (3 - (lg_sl ([.ref mm, .int (nI a), .int (nI b)])).length) Slot.unset).toArray = ls at hl ⊢
  have hl : lv_has ls 3 [(0, .ref mm), (1, .int (nI a)), (2, .int (nI b))] := hl
  have ha0 : w (ad 0) = some (aI cI 100 (f 0)) := hma 0 (by decide)
  have ha3 : w (ad 3) = some (aI cI 100 (f 3)) := hma 3 (by decide)
  refine lv_aload_n hx hb d_M_isBefore_0 rfl (lv_at hl 0 rfl) ?_
  refine m_get (D := G) (ci := 6) (v := .ref (ad 3)) (C := nR_M) (T := nT_M) (N := 21) hx hb hta in_M hown hK hM hm rfl 7 (by decide) (hta _ aw_550) (fun _ h9 => h9) rfl d_M_isBefore_1 ?_
  refine lv_iload_n hx hb d_M_isBefore_4 rfl (lv_at hl 1 rfl) ?_
  refine m_ialv hx hb hK hM 2 ha3 rfl (vp_in_nI ha (by omega)) (v := f 3 a) (by rw [nI_clamp (by omega)]) d_M_isBefore_5 ?_
  refine lv_aload_n hx hb d_M_isBefore_6 rfl (lv_at hl 0 rfl) ?_
  refine m_get (D := G) (ci := 6) (v := .ref (ad 3)) (C := nR_M) (T := nT_M) (N := 21) hx hb hta in_M hown hK hM hm rfl 7 (by decide) (hta _ aw_550) (fun _ h9 => h9) rfl d_M_isBefore_7 ?_
  refine lv_iload_n hx hb d_M_isBefore_10 rfl (lv_at hl 2 rfl) ?_
  refine m_ialv hx hb hK hM 2 ha3 rfl (vp_in_nI hb2 (by omega)) (v := f 3 b) (by rw [nI_clamp (by omega)]) d_M_isBefore_11 ?_
  refine lv_icmp_eq (tgt := 36) hx hb d_M_isBefore_12 (by decide) (fun c_1 => ?_) (fun c_1 => ?_)
  · refine lv_aload_n hx hb d_M_isBefore_36 rfl (lv_at hl 0 rfl) ?_
    refine m_get (D := G) (ci := 6) (v := .ref (ad 0)) (C := nR_M) (T := nT_M) (N := 21) hx hb hta in_M hown hK hM hm rfl 4 (by decide) (hta _ aw_547) (fun _ h9 => h9) rfl d_M_isBefore_37 ?_
    refine lv_iload_n hx hb d_M_isBefore_40 rfl (lv_at hl 1 rfl) ?_
    refine m_ialv hx hb hK hM 2 ha0 rfl (vp_in_nI ha (by omega)) (v := f 0 a) (by rw [nI_clamp (by omega)]) d_M_isBefore_41 ?_
    refine lv_aload_n hx hb d_M_isBefore_42 rfl (lv_at hl 0 rfl) ?_
    refine m_get (D := G) (ci := 6) (v := .ref (ad 0)) (C := nR_M) (T := nT_M) (N := 21) hx hb hta in_M hown hK hM hm rfl 4 (by decide) (hta _ aw_547) (fun _ h9 => h9) rfl d_M_isBefore_43 ?_
    refine lv_iload_n hx hb d_M_isBefore_46 rfl (lv_at hl 2 rfl) ?_
    refine m_ialv hx hb hK hM 2 ha0 rfl (vp_in_nI hb2 (by omega)) (v := f 0 b) (by rw [nI_clamp (by omega)]) d_M_isBefore_47 ?_
    refine lv_icmp_eq (tgt := 74) hx hb d_M_isBefore_48 (by decide) (fun c_2 => ?_) (fun c_2 => ?_)
    · refine lv_iload_n hx hb d_M_isBefore_74 rfl (lv_at hl 1 rfl) ?_
      refine lv_iload_n hx hb d_M_isBefore_75 rfl (lv_at hl 2 rfl) ?_
      refine lv_icmp_ge (tgt := 83) hx hb d_M_isBefore_76 (by decide) (fun c_3 => ?_) (fun c_3 => ?_)
      · refine lv_iconst (v := 0) hx hb d_M_isBefore_83 (by decide) ?_
        exact W.zret (v := 0) hx hb hr rfl (fun t ht hW => ⟨0, rfl, by simp [befN, ← nI_leI (a := b) (b := a) (by omega) (by omega), c_1, c_2, c_3], ht⟩) (fun q h => nomatch h) d_M_isBefore_84
      · refine lv_iconst (v := 1) hx hb d_M_isBefore_79 (by decide) ?_
        refine lv_goto (tgt := 84) hx hb d_M_isBefore_80 (by decide) ?_
        exact W.zret (v := 1) hx hb hr rfl (fun t ht hW => ⟨1, rfl, by simp [befN, ← nI_leI (a := b) (b := a) (by omega) (by omega), c_1, c_2, c_3], ht⟩) (fun q h => nomatch h) d_M_isBefore_84
    · refine lv_aload_n hx hb d_M_isBefore_51 rfl (lv_at hl 0 rfl) ?_
      refine m_get (D := G) (ci := 6) (v := .ref (ad 0)) (C := nR_M) (T := nT_M) (N := 21) hx hb hta in_M hown hK hM hm rfl 4 (by decide) (hta _ aw_547) (fun _ h9 => h9) rfl d_M_isBefore_52 ?_
      refine lv_iload_n hx hb d_M_isBefore_55 rfl (lv_at hl 1 rfl) ?_
      refine m_ialv hx hb hK hM 2 ha0 rfl (vp_in_nI ha (by omega)) (v := f 0 a) (by rw [nI_clamp (by omega)]) d_M_isBefore_56 ?_
      refine lv_aload_n hx hb d_M_isBefore_57 rfl (lv_at hl 0 rfl) ?_
      refine m_get (D := G) (ci := 6) (v := .ref (ad 0)) (C := nR_M) (T := nT_M) (N := 21) hx hb hta in_M hown hK hM hm rfl 4 (by decide) (hta _ aw_547) (fun _ h9 => h9) rfl d_M_isBefore_58 ?_
      refine lv_iload_n hx hb d_M_isBefore_61 rfl (lv_at hl 2 rfl) ?_
      refine m_ialv hx hb hK hM 2 ha0 rfl (vp_in_nI hb2 (by omega)) (v := f 0 b) (by rw [nI_clamp (by omega)]) d_M_isBefore_62 ?_
      refine lv_icmp_ge (tgt := 70) hx hb d_M_isBefore_63 (by decide) (fun c_4 => ?_) (fun c_4 => ?_)
      · refine lv_iconst (v := 0) hx hb d_M_isBefore_70 (by decide) ?_
        refine lv_goto (tgt := 84) hx hb d_M_isBefore_71 (by decide) ?_
        exact W.zret (v := 0) hx hb hr rfl (fun t ht hW => ⟨0, rfl, by simp [befN, ← nI_leI (a := b) (b := a) (by omega) (by omega), c_1, c_2, c_4], ht⟩) (fun q h => nomatch h) d_M_isBefore_84
      · refine lv_iconst (v := 1) hx hb d_M_isBefore_66 (by decide) ?_
        refine lv_goto (tgt := 84) hx hb d_M_isBefore_67 (by decide) ?_
        exact W.zret (v := 1) hx hb hr rfl (fun t ht hW => ⟨1, rfl, by simp [befN, ← nI_leI (a := b) (b := a) (by omega) (by omega), c_1, c_2, c_4], ht⟩) (fun q h => nomatch h) d_M_isBefore_84
  · refine lv_aload_n hx hb d_M_isBefore_15 rfl (lv_at hl 0 rfl) ?_
    refine m_get (D := G) (ci := 6) (v := .ref (ad 3)) (C := nR_M) (T := nT_M) (N := 21) hx hb hta in_M hown hK hM hm rfl 7 (by decide) (hta _ aw_550) (fun _ h9 => h9) rfl d_M_isBefore_16 ?_
    refine lv_iload_n hx hb d_M_isBefore_19 rfl (lv_at hl 1 rfl) ?_
    refine m_ialv hx hb hK hM 2 ha3 rfl (vp_in_nI ha (by omega)) (v := f 3 a) (by rw [nI_clamp (by omega)]) d_M_isBefore_20 ?_
    refine lv_aload_n hx hb d_M_isBefore_21 rfl (lv_at hl 0 rfl) ?_
    refine m_get (D := G) (ci := 6) (v := .ref (ad 3)) (C := nR_M) (T := nT_M) (N := 21) hx hb hta in_M hown hK hM hm rfl 7 (by decide) (hta _ aw_550) (fun _ h9 => h9) rfl d_M_isBefore_22 ?_
    refine lv_iload_n hx hb d_M_isBefore_25 rfl (lv_at hl 2 rfl) ?_
    refine m_ialv hx hb hK hM 2 ha3 rfl (vp_in_nI hb2 (by omega)) (v := f 3 b) (by rw [nI_clamp (by omega)]) d_M_isBefore_26 ?_
    refine lv_icmp_ge (tgt := 34) hx hb d_M_isBefore_27 (by decide) (fun c_5 => ?_) (fun c_5 => ?_)
    · refine lv_iconst (v := 0) hx hb d_M_isBefore_34 (by decide) ?_
      exact W.zret (v := 0) hx hb hr rfl (fun t ht hW => ⟨0, rfl, by simp [befN, ← nI_leI (a := b) (b := a) (by omega) (by omega), c_1, c_5], ht⟩) (fun q h => nomatch h) d_M_isBefore_35
    · refine lv_iconst (v := 1) hx hb d_M_isBefore_30 (by decide) ?_
      refine lv_goto (tgt := 35) hx hb d_M_isBefore_31 (by decide) ?_
      exact W.zret (v := 1) hx hb hr rfl (fun t ht hW => ⟨1, rfl, by simp [befN, ← nI_leI (a := b) (b := a) (by omega) (by omega), c_1, c_5], ht⟩) (fun q h => nomatch h) d_M_isBefore_35
set_option maxHeartbeats 4000000 in
set_option maxRecDepth 100000 in
theorem k_M_isNote (l : Launch) (G : va_G) (q0 q1 : ClassId × FieldType) (cI : ClassId) (ty2 : List (ClassId × FieldType)) (w : Nat → Option va_E) {mm : Nat} {ad : Nat → Nat} {f : Nat → Nat → Int32} {th no wr n k z r so pr : Int32} (hm : w mm = some (eM ad th no wr n k z r so pr)) (hma : ∀ i, i < 12 → w (ad i) = some (aI cI (msz i) (f i))) (x : Int32) : Met l y_M_isNote (wm y_M_isNote c_M_isNote 2 (some .boolean)) ({ frames := 1, cells := 0, slots := 0, locals := 22 }) (pW G (q0 :: q1 :: (cI, .int) :: ty2) w [.ref mm, .int x]) (vp_Si (fun r => r = if ¬ x < 0 ∧ ¬ n - 1 < x then 1 else 0)) 0 0 (fun _ => False) := by
  refine Met.ofW (cc := c_M_isNote) (maxL := 2) (ret := (some .boolean)) (by decide) rfl ?_
  intro p e s m args below meth c s₁ B hml hv
  obtain ⟨rfl, hM, hK⟩ := hv
  have hx := B.exec
  have hb := B.bytes
  have hr := B.returns
  have hts := atoms_spec (ws := (wm y_M_isNote c_M_isNote 2 (some .boolean))) B.pre
  have hta : ∀ w ∈ AL, w.before _ s = true := fun w h => hts w (List.mem_cons_of_mem _ h)
  have hown : s.vm.findClass nR_M = some m.cls := findClass_of_methodNamed B.named
  have hlocks := B.notSynchronized
  have hl := lv_entry ([.ref mm, .int x]) (n := 2) (Nat.le_of_ble_eq_true rfl)
  rw [lg_entry_eq]
  generalize (lg_sl ([.ref mm, .int x]) ++ List.replicate (2 - (lg_sl ([.ref mm, .int x])).length) Slot.unset).toArray = ls at hl ⊢
  have hl : lv_has ls 2 [(0, .ref mm), (1, .int x)] := hl
  refine lv_iload_n hx hb d_M_isNote_0 rfl (lv_at hl 1 rfl) ?_
  refine lv_iconst (v := 0) hx hb d_M_isNote_1 (by decide) ?_
  refine lv_aload_n hx hb d_M_isNote_2 rfl (lv_at hl 0 rfl) ?_
  refine m_get (D := G) (ci := 6) (v := .int n) (C := nR_M) (T := nT_M) (N := 21) hx hb hta in_M hown hK hM hm rfl 3 (by decide) (hta _ aw_546) (fun _ h9 => h9) rfl d_M_isNote_3 ?_
  refine lv_iconst (v := 1) hx hb d_M_isNote_6 (by decide) ?_
  refine lv_isub hx hb d_M_isNote_7 ?_
  refine vp_callSi (W.runS (As := [.int x, .int 0, .int (n - 1)]) (rest := []) ⟨hx, hb, hml, hown, hta⟩ (k_M_in l x 0 (n - 1)) (cS 3 hta aw_626 aw_5 aw_624 aw_625 rfl rfl (by decide +kernel) ⟨Nat.le_of_ble_eq_true rfl, Nat.le_of_ble_eq_true rfl⟩) ⟨fun a U g mk q => q, fun U hU hW => ⟨rfl, trivial⟩⟩ rfl rfl hl.1 rfl (lv_room (Nat.le_of_ble_eq_true rfl)) d_M_isNote_8 ⟨Nat.le_of_ble_eq_true rfl, Nat.le_of_ble_eq_true rfl⟩) (fun r_1 hr_1 => ?_)
  exact W.zret (v := r_1) hx hb hr (z_01 (by rw [hr_1]; split <;> simp)) (fun t ht hW => ⟨r_1, rfl, hr_1, ht⟩) (fun q h => nomatch h) d_M_isNote_11
set_option maxHeartbeats 4000000 in
set_option maxRecDepth 100000 in
theorem k_M_isGone (l : Launch) (G : va_G) (q0 q1 : ClassId × FieldType) (cI : ClassId) (ty2 : List (ClassId × FieldType)) (w : Nat → Option va_E) {mm : Nat} {ad : Nat → Nat} {f : Nat → Nat → Int32} {th no wr n k z r so pr : Int32} (hm : w mm = some (eM ad th no wr n k z r so pr)) (hma : ∀ i, i < 12 → w (ad i) = some (aI cI (msz i) (f i))) (x : Int32) : Met l y_M_isGone (wm y_M_isGone c_M_isGone 2 (some .boolean)) ({ frames := 1, cells := 0, slots := 0, locals := 22 }) (pW G (q0 :: q1 :: (cI, .int) :: ty2) w [.ref mm, .int x]) (vp_Si (fun r => r = if ¬ x < 0 ∧ ¬ no < x then 1 else 0)) 0 0 (fun _ => False) := by
  refine Met.ofW (cc := c_M_isGone) (maxL := 2) (ret := (some .boolean)) (by decide) rfl ?_
  intro p e s m args below meth c s₁ B hml hv
  obtain ⟨rfl, hM, hK⟩ := hv
  have hx := B.exec
  have hb := B.bytes
  have hr := B.returns
  have hts := atoms_spec (ws := (wm y_M_isGone c_M_isGone 2 (some .boolean))) B.pre
  have hta : ∀ w ∈ AL, w.before _ s = true := fun w h => hts w (List.mem_cons_of_mem _ h)
  have hown : s.vm.findClass nR_M = some m.cls := findClass_of_methodNamed B.named
  have hlocks := B.notSynchronized
  have hl := lv_entry ([.ref mm, .int x]) (n := 2) (Nat.le_of_ble_eq_true rfl)
  rw [lg_entry_eq]
  generalize (lg_sl ([.ref mm, .int x]) ++ List.replicate (2 - (lg_sl ([.ref mm, .int x])).length) Slot.unset).toArray = ls at hl ⊢
  have hl : lv_has ls 2 [(0, .ref mm), (1, .int x)] := hl
  refine lv_iload_n hx hb d_M_isGone_0 rfl (lv_at hl 1 rfl) ?_
  refine lv_iconst (v := 0) hx hb d_M_isGone_1 (by decide) ?_
  refine lv_aload_n hx hb d_M_isGone_2 rfl (lv_at hl 0 rfl) ?_
  refine m_get (D := G) (ci := 6) (v := .int no) (C := nR_M) (T := nT_M) (N := 21) hx hb hta in_M hown hK hM hm rfl 1 (by decide) (hta _ aw_544) (fun _ h9 => h9) rfl d_M_isGone_3 ?_
  refine vp_callSi (W.runS (As := [.int x, .int 0, .int no]) (rest := []) ⟨hx, hb, hml, hown, hta⟩ (k_M_in l x 0 no) (cS 3 hta aw_626 aw_5 aw_624 aw_625 rfl rfl (by decide +kernel) ⟨Nat.le_of_ble_eq_true rfl, Nat.le_of_ble_eq_true rfl⟩) ⟨fun a U g mk q => q, fun U hU hW => ⟨rfl, trivial⟩⟩ rfl rfl hl.1 rfl (lv_room (Nat.le_of_ble_eq_true rfl)) d_M_isGone_6 ⟨Nat.le_of_ble_eq_true rfl, Nat.le_of_ble_eq_true rfl⟩) (fun r_1 hr_1 => ?_)
  exact W.zret (v := r_1) hx hb hr (z_01 (by rw [hr_1]; split <;> simp)) (fun t ht hW => ⟨r_1, rfl, hr_1, ht⟩) (fun q h => nomatch h) d_M_isGone_9
