/-! the constructors -/
theorem RA_n {U : State} {c : ClassId} {ty : FieldType} (h : va_RA U c ty) : U.vm.findClass ("[" ++ ty.toString) = some c := by
  cases ty with
  | object C => obtain ⟨kA, comp, h1, h2, h3, h4⟩ := h; exact h4
  | _ => exact h
theorem K_u {D : va_G} {cl : List vw_C} {tys : List (ClassId × FieldType)} {U : State} (hK : va_K D cl tys U) {i j : Nat} {c1 c2 : ClassId} {ty : FieldType} (h1 : tys[i]? = some (c1, ty)) (h2 : tys[j]? = some (c2, ty)) : c1 = c2 :=
  Option.some.inj ((RA_n (hK.2 i _ h1).2).symm.trans (RA_n (hK.2 j _ h2).2))
section MT
variable {p : Program} {l : Launch} {e : Env} {R : Room} {s : State} {m : MethodId} {args : Array Value} {below : List Frame} {meth : Method} {c : Code} {H : Heap} {locs : List Loc} {cells slots : Nat} {Q : State → Prop}
variable {cc : ByteArray} {pc : Nat} {ls : Array Slot} {rest : List Value} {D : va_G} {cl : List vw_C} {A : Nat → Prop} {a : Nat} {tys : List (ClassId × FieldType)} {w : Nat → Option va_E} {H0 : Heap}
theorem m_newaT (hexec : p.tables.exec = Jvm.exec) (hb : c.code = cc) {atype : ArrayType} (harr : (Cond.arrayClass (newarray.typeOf atype)).before args s = true) {ty : FieldType} (hty : newarray.typeOf atype = ty) (hK : va_K D cl tys s) (hM : mw D cl A w H) (hS : va_S A H0 H locs) (hA : ∀ q, H0.size ≤ q → A q) {t0 : Nat} {cA : ClassId} (ht : tys[t0]? = some (cA, ty)) {n : Int32} {N' : Nat} {a0 : vp_A} (ha : ∀ cA : ClassId, vp_cell cA a0 = arrV cA N' (fun _ => defaultValue ty)) (hn : ¬ n < 0) (hN : n.toNatClampNeg = N') (hbytes : N' * componentBytes ty ≤ 536870912) (hcells : cells + 1 ≤ R.cells) (hslots : slots + N' ≤ R.slots) (hdg : decode cc pc = .ok (.newarray atype, 2))
    (kk : ∀ (q : Nat) (H : Heap), w q = none → mw D cl A (va_up w q (some (.inl (cA, a0)))) H → va_S A H0 H locs → W p l e R s m args below meth c H locs (cells + 1) (slots + N') Q (F0 m (pc + 2) ls (.ref q :: rest))) : W p l e R s m args below meth c H locs cells slots Q (F0 m pc ls (.int n :: rest)) := by
  refine m_newa hexec hb harr hty hK hM hS hA ha hn hN hbytes hcells hslots hdg (fun q cA2 H1 hK1 hq hM1 hS1 => ?_)
  have e : cA2 = cA := K_u (c1 := cA2) (c2 := cA) (ty := ty) hK1 (i := tys.length) (j := t0) (by simp) (by rw [List.getElem?_append_left (List.getElem?_eq_some_iff.mp ht).1]; exact ht)
  subst e
  exact kk q H1 hq hM1 hS1
theorem m_newqT (hexec : p.tables.exec = Jvm.exec) (hb : c.code = cc) {own C : String} {index : Nat} (hown : s.vm.findClass own = some m.cls) (hclink : (Cond.classLink own index C).before args s = true) (hover : va_AO C s) (hK : va_K D cl tys s) (hM : mw D cl A w H) (hS : va_S A H0 H locs) (hA : ∀ q, H0.size ≤ q → A q) {t0 : Nat} {cA : ClassId} (ht : tys[t0]? = some (cA, .object C)) {n : Int32} {N' : Nat} (hn : ¬ n < 0) (hN : n.toNatClampNeg = N') (hbytes : N' * 4 ≤ 536870912) (hcells : cells + 1 ≤ R.cells) (hslots : slots + N' ≤ R.slots) (hdg : decode cc pc = .ok (.anewarray index, 3))
    (kk : ∀ (q : Nat) (H : Heap), w q = none → mw D cl A (va_up w q (some (.inl (cA, N', .inr (.inr (.inr (.inr (fun _ => none)))))))) H → va_S A H0 H locs → W p l e R s m args below meth c H locs (cells + 1) (slots + N') Q (F0 m (pc + 3) ls (.ref q :: rest))) : W p l e R s m args below meth c H locs cells slots Q (F0 m pc ls (.int n :: rest)) := by
  refine m_newq hexec hb hown hclink hover hK hM hS hA hn hN hbytes hcells hslots hdg (fun q cA2 H1 hK1 hq hM1 hS1 => ?_)
  have e : cA2 = cA := K_u (c1 := cA2) (c2 := cA) (ty := .object C) hK1 (i := tys.length) (j := t0) (by simp) (by rw [List.getElem?_append_left (List.getElem?_eq_some_iff.mp ht).1]; exact ht)
  subst e
  exact kk q H1 hq hM1 hS1
end MT
/-- what the constructors want of the tables beside the good words -/
def nestL : Cond := .methodLinkNest "SceneTimes" 9 ⟨"SceneTimes$Line", "<init>", "()V"⟩ "SceneTimes"
def nestQ : Cond := .methodLinkNest "SceneTimes" 18 ⟨"SceneTimes$Question", "<init>", "()V"⟩ "SceneTimes"
def nestS : Cond := .methodLinkNest "SceneTimes" 25 ⟨"SceneTimes$Sheet", "<init>", "()V"⟩ "SceneTimes"
def xI (U : State) : Prop := va_AO nR_N U ∧ va_Nw nestL U ∧ va_Nw nestQ U ∧ va_Nw nestS U
theorem xI.warm {s U : State} (hW : s.WarmedH U.vm) (h : xI s) : xI U := ⟨va_AO.moved hW.alike h.1, va_Nw.warmM hW h.2.1, va_Nw.warmM hW h.2.2.1, va_Nw.warmM hW h.2.2.2⟩
theorem xI.call {U : State} {g : JFrame} {mk : MethodId} {a : Array Value} (h : xI U) : xI (U.calling g mk a) := ⟨va_AO.moved (u := U) (U := U.calling g mk a) (Vm.Alike.refl U.vm) h.1, va_Nw.same (u := U) (U := U.calling g mk a) rfl rfl h.2.1, va_Nw.same (u := U) (U := U.calling g mk a) rfl rfl h.2.2.1, va_Nw.same (u := U) (U := U.calling g mk a) rfl rfl h.2.2.2⟩
abbrev pI (G : va_G) (tys : List (ClassId × FieldType)) (w : Nat → Option va_E) (sz : Nat) (av : List Value) : Array Value → State → Prop := va_Pc av (fun U => U.heap.size = sz ∧ mw G ncl (fun _ => True) w U.heap ∧ va_K G ncl tys U ∧ xI U)
theorem pI_S {G : va_G} {tys : List (ClassId × FieldType)} {w : Nat → Option va_E} {s : State} {H : Heap} {A : Nat → Prop} {As : List Value} (hK : va_K G ncl tys s) (hM : mw G ncl A w H) (hE : xI s) : PreS s H (pI G tys w H.size As) As :=
  ⟨fun a U g mk q => ⟨q.1, q.2.1, q.2.2.1, va_K.moved (u := U) (U := U.calling g mk a) (Vm.Alike.refl U.vm) q.2.2.2.1, xI.call q.2.2.2.2⟩, fun U hU hW => ⟨rfl, by rw [hU], by rw [hU]; exact mw_weaken hM (fun _ _ => trivial), va_K.moved hW.alike hK, xI.warm hW hE⟩⟩
set_option maxHeartbeats 4000000 in
set_option maxRecDepth 100000 in
theorem k_L_init (l : Launch) (G : va_G) (cN cB : ClassId) (ty2 : List (ClassId × FieldType)) (w : Nat → Option va_E) {a : Nat} (ha : w a = some (.inr (1, [.null, .null, .int 0]))) (sz : Nat) : Met l y_L_init (wm y_L_init c_L_init 1 none) ({ frames := 1, cells := 2, slots := 200, locals := 12 }) (va_Pc [.ref a] (fun U => U.heap.size = sz ∧ mw G ncl (fun _ => True) w U.heap ∧ va_K G ncl ((cN, .object nR_N) :: (cB, .byte) :: ty2) U ∧ xI U)) (va_Qv (fun (u : Nat × Nat) => w u.1 = none ∧ w u.2 = none ∧ u.1 ≠ u.2) (fun u t => mw G ncl (mA w sz) (va_up (va_up (va_up w u.1 (some (aQ cN 100 (fun _ => none)))) u.2 (some (aQ cN 100 (fun _ => none)))) a (some (eL u.1 u.2 0))) t.heap ∧ va_K G ncl ((cN, .object nR_N) :: (cB, .byte) :: ty2) t) (mA w sz)) 2 200 (mA w sz) := by
  refine Met.ofW (cc := c_L_init) (maxL := 1) (ret := none) (by decide) rfl ?_
  intro p e s m args below meth c s₁ B hml hv
  obtain ⟨rfl, hsz, hM0, hK, hE⟩ := hv
  have hx := B.exec
  have hb := B.bytes
  have hr := B.returns
  have hts := atoms_spec (ws := (wm y_L_init c_L_init 1 none)) B.pre
  have hta : ∀ w ∈ AL, w.before _ s = true := fun w h => hts w (List.mem_cons_of_mem _ h)
  have hown : s.vm.findClass nR_L = some m.cls := findClass_of_methodNamed B.named
  have hlocks := B.notSynchronized
  have hl := lv_entry ([.ref a]) (n := 1) (Nat.le_of_ble_eq_true rfl)
  rw [lg_entry_eq]
  generalize (lg_sl ([.ref a]) ++ List.replicate (1 - (lg_sl ([.ref a])).length) Slot.unset).toArray = ls at hl ⊢
  have hl : lv_has ls 1 [(0, .ref a)] := hl
  subst hsz
  have hM := mw_self (sz := s.heap.size) hM0
  clear hM0
  generalize hAe : mA w s.heap.size = A at hM hE ⊢
  have hA : ∀ q : Nat, s.heap.size ≤ q → A q := fun q h => by rw [← hAe]; exact Or.inr h
  have hS : va_S A s.heap s.heap [] := va_S.rf
  have hin : meth.name = "<init>" := (name_of_methodNamed B.named B.method).1
  refine lv_aload_n hx hb d_L_init_0 rfl (lv_at hl 0 rfl) ?_
  refine W.objInit hx hb hown (hta _ aw_29) (hta _ aw_22) (hta _ aw_23) rfl (by rw [hml]; exact hl.1) rfl d_L_init_1 (Nat.le_of_ble_eq_true rfl) (Nat.le_of_ble_eq_true rfl) ?_
  refine lv_aload_n hx hb d_L_init_4 rfl (lv_at hl 0 rfl) ?_
  refine lv_bipush (v := 100) hx hb d_L_init_5 (by decide) ?_
  refine m_newqT (C := nR_N) hx hb hown (hta _ aw_30) hE.1 hK hM hS hA (t0 := 0) rfl (n := 100) (N' := 100) (by decide) (by decide) (by decide) (Nat.le_of_ble_eq_true rfl) (Nat.le_of_ble_eq_true rfl) d_L_init_7 (fun q_1 H nq_1 hM hS => ?_)
  obtain ⟨w_2, hw_2⟩ : ∃ z9 : Nat → Option va_E, z9 = va_up w q_1 (some (.inl (cN, 100, .inr (.inr (.inr (.inr (fun _ => none))))))) := ⟨_, rfl⟩
  rw [← hw_2] at hM
  have k_3 : w_2 a = some (.inr (1, [.null, .null, .int 0])) := by rw [hw_2, va_up_ne _ _ (m_newne ha nq_1)]; exact ha
  have k_4 : w_2 q_1 = some (.inl (cN, 100, .inr (.inr (.inr (.inr (fun _ => none)))))) := by rw [hw_2, va_up_self]
  refine m_putF (D := G) (ci := 1) (v := .ref q_1) (ty := .array (.object "SceneTimes$Note")) (C := nR_L) (T := nT_L) (N := 3) hx hb hta in_L nt_L nt_L_ok nn_L hown hK hM hS k_3 rfl 0 (by decide) (hta _ aw_32) (fun _ h9 => h9) rfl hin rfl (by decide +kernel) rfl rfl (Nat.le_of_ble_eq_true rfl) d_L_init_10 (fs' := [.ref q_1, .null, .int 0]) rfl (fun H locs hM hS => ?_)
  obtain ⟨w_5, hw_5⟩ : ∃ z9 : Nat → Option va_E, z9 = va_up w_2 a (some (.inr (1, [.ref q_1, .null, .int 0]))) := ⟨_, rfl⟩
  rw [← hw_5] at hM
  have k_6 : w_5 a = some (.inr (1, [.ref q_1, .null, .int 0])) := by rw [hw_5, va_up_self]
  have k_7 : w_5 q_1 = some (.inl (cN, 100, .inr (.inr (.inr (.inr (fun _ => none)))))) := by rw [hw_5, va_up_ne _ _ (Ne.symm (m_newne ha nq_1))]; exact k_4
  refine lv_aload_n hx hb d_L_init_13 rfl (lv_at hl 0 rfl) ?_
  refine lv_bipush (v := 100) hx hb d_L_init_14 (by decide) ?_
  refine m_newqT (C := nR_N) hx hb hown (hta _ aw_30) hE.1 hK hM hS hA (t0 := 0) rfl (n := 100) (N' := 100) (by decide) (by decide) (by decide) (Nat.le_of_ble_eq_true rfl) (Nat.le_of_ble_eq_true rfl) d_L_init_16 (fun q_8 H nq_8 hM hS => ?_)
  obtain ⟨w_9, hw_9⟩ : ∃ z9 : Nat → Option va_E, z9 = va_up w_5 q_8 (some (.inl (cN, 100, .inr (.inr (.inr (.inr (fun _ => none))))))) := ⟨_, rfl⟩
  rw [← hw_9] at hM
  have k_10 : w_9 a = some (.inr (1, [.ref q_1, .null, .int 0])) := by rw [hw_9, va_up_ne _ _ (m_newne k_6 nq_8)]; exact k_6
  have k_11 : w_9 q_1 = some (.inl (cN, 100, .inr (.inr (.inr (.inr (fun _ => none)))))) := by rw [hw_9, va_up_ne _ _ (m_newne k_7 nq_8)]; exact k_7
  have k_12 : w_9 q_8 = some (.inl (cN, 100, .inr (.inr (.inr (.inr (fun _ => none)))))) := by rw [hw_9, va_up_self]
  refine m_putF (D := G) (ci := 1) (v := .ref q_8) (ty := .array (.object "SceneTimes$Note")) (C := nR_L) (T := nT_L) (N := 3) hx hb hta in_L nt_L nt_L_ok nn_L hown hK hM hS k_10 rfl 1 (by decide) (hta _ aw_34) (fun _ h9 => h9) rfl hin rfl (by decide +kernel) rfl rfl (Nat.le_of_ble_eq_true rfl) d_L_init_19 (fs' := [.ref q_1, .ref q_8, .int 0]) rfl (fun H locs hM hS => ?_)
  obtain ⟨w_13, hw_13⟩ : ∃ z9 : Nat → Option va_E, z9 = va_up w_9 a (some (.inr (1, [.ref q_1, .ref q_8, .int 0]))) := ⟨_, rfl⟩
  rw [← hw_13] at hM
  have k_14 : w_13 a = some (.inr (1, [.ref q_1, .ref q_8, .int 0])) := by rw [hw_13, va_up_self]
  have k_15 : w_13 q_1 = some (.inl (cN, 100, .inr (.inr (.inr (.inr (fun _ => none)))))) := by rw [hw_13, va_up_ne _ _ (Ne.symm (m_newne ha nq_1))]; exact k_11
  have k_16 : w_13 q_8 = some (.inl (cN, 100, .inr (.inr (.inr (.inr (fun _ => none)))))) := by rw [hw_13, va_up_ne _ _ (Ne.symm (m_newne k_6 nq_8))]; exact k_12
  have zq_1 : w q_1 = none := nq_1
  have zq_8 : w q_8 = none := by
    have z := nq_8
    rw [hw_5] at z
    by_cases y0 : q_8 = a
    · rw [y0, va_up_self] at z; cases z
    rw [va_up_ne _ _ y0, hw_2] at z
    by_cases y1 : q_8 = q_1
    · rw [y1, va_up_self] at z; cases z
    rw [va_up_ne _ _ y1] at z
    exact z
  have hbc : q_1 ≠ q_8 := (m_newne k_7 nq_8)
  have hfin : w_13 = va_up (va_up (va_up w q_1 (some (aQ cN 100 (fun _ => none)))) q_8 (some (aQ cN 100 (fun _ => none)))) a (some (eL q_1 q_8 0)) := by
    rw [hw_13, hw_9, hw_5, hw_2]
    funext z9
    simp only [va_up]
    by_cases y0 : z9 = a
    · by_cases y1 : z9 = q_1
      · by_cases y2 : z9 = q_8
        · exact absurd (y0.symm.trans y1) (m_newne ha zq_1)
        · exact absurd (y0.symm.trans y1) (m_newne ha zq_1)
      · by_cases y2 : z9 = q_8
        · exact absurd (y0.symm.trans y2) (m_newne ha zq_8)
        · first | (simp only [if_pos y0, if_neg y1, if_neg y2]; done) | (simp only [if_pos y0, if_neg y1, if_neg y2]; rfl)
    · by_cases y1 : z9 = q_1
      · by_cases y2 : z9 = q_8
        · exact absurd (y1.symm.trans y2) hbc
        · first | (simp only [if_neg y0, if_pos y1, if_neg y2]; done) | (simp only [if_neg y0, if_pos y1, if_neg y2]; rfl)
      · by_cases y2 : z9 = q_8
        · first | (simp only [if_neg y0, if_neg y1, if_pos y2]; done) | (simp only [if_neg y0, if_neg y1, if_pos y2]; rfl)
        · first | (simp only [if_neg y0, if_neg y1, if_neg y2]; done) | (simp only [if_neg y0, if_neg y1, if_neg y2]; rfl)
  rw [hfin] at hM
  exact W.vret hx hb hr (fun t ht hW => ⟨⟨(q_1, q_8), rfl, ⟨zq_1, zq_8, hbc⟩, by rw [ht]; exact hM, va_K.moved hW.alike hK⟩, hS.F ht⟩) hS.2.2 d_L_init_22
set_option maxHeartbeats 4000000 in
set_option maxRecDepth 100000 in
theorem k_Q_init (l : Launch) (G : va_G) (cN cB : ClassId) (ty2 : List (ClassId × FieldType)) (w : Nat → Option va_E) {a : Nat} (ha : w a = some (.inr (2, [.null, .int 0, .int 0, .int 0]))) (sz : Nat) : Met l y_Q_init (wm y_Q_init c_Q_init 1 none) ({ frames := 1, cells := 1, slots := 100, locals := 12 }) (va_Pc [.ref a] (fun U => U.heap.size = sz ∧ mw G ncl (fun _ => True) w U.heap ∧ va_K G ncl ((cN, .object nR_N) :: (cB, .byte) :: ty2) U ∧ xI U)) (va_Qv (fun (u : Nat) => w u = none) (fun u t => mw G ncl (mA w sz) (va_up (va_up w u (some (aQ cN 100 (fun _ => none)))) a (some (eQ u 0 0 0))) t.heap ∧ va_K G ncl ((cN, .object nR_N) :: (cB, .byte) :: ty2) t) (mA w sz)) 1 100 (mA w sz) := by
  refine Met.ofW (cc := c_Q_init) (maxL := 1) (ret := none) (by decide) rfl ?_
  intro p e s m args below meth c s₁ B hml hv
  obtain ⟨rfl, hsz, hM0, hK, hE⟩ := hv
  have hx := B.exec
  have hb := B.bytes
  have hr := B.returns
  have hts := atoms_spec (ws := (wm y_Q_init c_Q_init 1 none)) B.pre
  have hta : ∀ w ∈ AL, w.before _ s = true := fun w h => hts w (List.mem_cons_of_mem _ h)
  have hown : s.vm.findClass nR_Q = some m.cls := findClass_of_methodNamed B.named
  have hlocks := B.notSynchronized
  have hl := lv_entry ([.ref a]) (n := 1) (Nat.le_of_ble_eq_true rfl)
  rw [lg_entry_eq]
  generalize (lg_sl ([.ref a]) ++ List.replicate (1 - (lg_sl ([.ref a])).length) Slot.unset).toArray = ls at hl ⊢
  have hl : lv_has ls 1 [(0, .ref a)] := hl
  subst hsz
  have hM := mw_self (sz := s.heap.size) hM0
  clear hM0
  generalize hAe : mA w s.heap.size = A at hM hE ⊢
  have hA : ∀ q : Nat, s.heap.size ≤ q → A q := fun q h => by rw [← hAe]; exact Or.inr h
  have hS : va_S A s.heap s.heap [] := va_S.rf
  have hin : meth.name = "<init>" := (name_of_methodNamed B.named B.method).1
  refine lv_aload_n hx hb d_Q_init_0 rfl (lv_at hl 0 rfl) ?_
  refine W.objInit hx hb hown (hta _ aw_50) (hta _ aw_22) (hta _ aw_23) rfl (by rw [hml]; exact hl.1) rfl d_Q_init_1 (Nat.le_of_ble_eq_true rfl) (Nat.le_of_ble_eq_true rfl) ?_
  refine lv_aload_n hx hb d_Q_init_4 rfl (lv_at hl 0 rfl) ?_
  refine lv_bipush (v := 100) hx hb d_Q_init_5 (by decide) ?_
  refine m_newqT (C := nR_N) hx hb hown (hta _ aw_51) hE.1 hK hM hS hA (t0 := 0) rfl (n := 100) (N' := 100) (by decide) (by decide) (by decide) (Nat.le_of_ble_eq_true rfl) (Nat.le_of_ble_eq_true rfl) d_Q_init_7 (fun q_1 H nq_1 hM hS => ?_)
  obtain ⟨w_2, hw_2⟩ : ∃ z9 : Nat → Option va_E, z9 = va_up w q_1 (some (.inl (cN, 100, .inr (.inr (.inr (.inr (fun _ => none))))))) := ⟨_, rfl⟩
  rw [← hw_2] at hM
  have k_3 : w_2 a = some (.inr (2, [.null, .int 0, .int 0, .int 0])) := by rw [hw_2, va_up_ne _ _ (m_newne ha nq_1)]; exact ha
  have k_4 : w_2 q_1 = some (.inl (cN, 100, .inr (.inr (.inr (.inr (fun _ => none)))))) := by rw [hw_2, va_up_self]
  refine m_putF (D := G) (ci := 2) (v := .ref q_1) (ty := .array (.object "SceneTimes$Note")) (C := nR_Q) (T := nT_Q) (N := 4) hx hb hta in_Q nt_Q nt_Q_ok nn_Q hown hK hM hS k_3 rfl 0 (by decide) (hta _ aw_52) (fun _ h9 => h9) rfl hin rfl (by decide +kernel) rfl rfl (Nat.le_of_ble_eq_true rfl) d_Q_init_10 (fs' := [.ref q_1, .int 0, .int 0, .int 0]) rfl (fun H locs hM hS => ?_)
  obtain ⟨w_5, hw_5⟩ : ∃ z9 : Nat → Option va_E, z9 = va_up w_2 a (some (.inr (2, [.ref q_1, .int 0, .int 0, .int 0]))) := ⟨_, rfl⟩
  rw [← hw_5] at hM
  have k_6 : w_5 a = some (.inr (2, [.ref q_1, .int 0, .int 0, .int 0])) := by rw [hw_5, va_up_self]
  have k_7 : w_5 q_1 = some (.inl (cN, 100, .inr (.inr (.inr (.inr (fun _ => none)))))) := by rw [hw_5, va_up_ne _ _ (Ne.symm (m_newne ha nq_1))]; exact k_4
  have zq_1 : w q_1 = none := nq_1
  have hfin : w_5 = va_up (va_up w q_1 (some (aQ cN 100 (fun _ => none)))) a (some (eQ q_1 0 0 0)) := by rw [hw_5, hw_2]
  rw [hfin] at hM
  exact W.vret hx hb hr (fun t ht hW => ⟨⟨q_1, rfl, zq_1, by rw [ht]; exact hM, va_K.moved hW.alike hK⟩, hS.F ht⟩) hS.2.2 d_Q_init_13
set_option maxHeartbeats 4000000 in
set_option maxRecDepth 100000 in
theorem k_S_init (l : Launch) (G : va_G) (cN cB : ClassId) (ty2 : List (ClassId × FieldType)) (w : Nat → Option va_E) {a : Nat} (ha : w a = some (.inr (3, [.null, .int 0]))) (sz : Nat) : Met l y_S_init (wm y_S_init c_S_init 1 none) ({ frames := 1, cells := 1, slots := 2005, locals := 12 }) (va_Pc [.ref a] (fun U => U.heap.size = sz ∧ mw G ncl (fun _ => True) w U.heap ∧ va_K G ncl ((cN, .object nR_N) :: (cB, .byte) :: ty2) U ∧ xI U)) (va_Qv (fun (u : Nat) => w u = none) (fun u t => mw G ncl (mA w sz) (va_up (va_up w u (some (aI cB 2005 (fun _ => 0)))) a (some (eS u 0))) t.heap ∧ va_K G ncl ((cN, .object nR_N) :: (cB, .byte) :: ty2) t) (mA w sz)) 1 2005 (mA w sz) := by
  refine Met.ofW (cc := c_S_init) (maxL := 1) (ret := none) (by decide) rfl ?_
  intro p e s m args below meth c s₁ B hml hv
  obtain ⟨rfl, hsz, hM0, hK, hE⟩ := hv
  have hx := B.exec
  have hb := B.bytes
  have hr := B.returns
  have hts := atoms_spec (ws := (wm y_S_init c_S_init 1 none)) B.pre
  have hta : ∀ w ∈ AL, w.before _ s = true := fun w h => hts w (List.mem_cons_of_mem _ h)
  have hown : s.vm.findClass nR_S = some m.cls := findClass_of_methodNamed B.named
  have hlocks := B.notSynchronized
  have hl := lv_entry ([.ref a]) (n := 1) (Nat.le_of_ble_eq_true rfl)
  rw [lg_entry_eq]
  generalize (lg_sl ([.ref a]) ++ List.replicate (1 - (lg_sl ([.ref a])).length) Slot.unset).toArray = ls at hl ⊢
  have hl : lv_has ls 1 [(0, .ref a)] := hl
  subst hsz
  have hM := mw_self (sz := s.heap.size) hM0
  clear hM0
  generalize hAe : mA w s.heap.size = A at hM hE ⊢
  have hA : ∀ q : Nat, s.heap.size ≤ q → A q := fun q h => by rw [← hAe]; exact Or.inr h
  have hS : va_S A s.heap s.heap [] := va_S.rf
  have hin : meth.name = "<init>" := (name_of_methodNamed B.named B.method).1
  refine lv_aload_n hx hb d_S_init_0 rfl (lv_at hl 0 rfl) ?_
  refine W.objInit hx hb hown (hta _ aw_74) (hta _ aw_22) (hta _ aw_23) rfl (by rw [hml]; exact hl.1) rfl d_S_init_1 (Nat.le_of_ble_eq_true rfl) (Nat.le_of_ble_eq_true rfl) ?_
  refine lv_aload_n hx hb d_S_init_4 rfl (lv_at hl 0 rfl) ?_
  refine lv_sipush (v := 2005) hx hb d_S_init_5 (by decide) ?_
  refine m_newaT (atype := .byte) (ty := .byte) hx hb (hta _ aw_84) rfl hK hM hS hA (t0 := 1) rfl (n := 2005) (N' := 2005) (a0 := (2005, .inl (fun _ => 0))) (fun _ => rfl) (by decide) (by decide) (by decide) (Nat.le_of_ble_eq_true rfl) (Nat.le_of_ble_eq_true rfl) d_S_init_8 (fun q_1 H nq_1 hM hS => ?_)
  obtain ⟨w_2, hw_2⟩ : ∃ z9 : Nat → Option va_E, z9 = va_up w q_1 (some (.inl (cB, 2005, .inl (fun _ => 0)))) := ⟨_, rfl⟩
  rw [← hw_2] at hM
  have k_3 : w_2 a = some (.inr (3, [.null, .int 0])) := by rw [hw_2, va_up_ne _ _ (m_newne ha nq_1)]; exact ha
  have k_4 : w_2 q_1 = some (.inl (cB, 2005, .inl (fun _ => 0))) := by rw [hw_2, va_up_self]
  refine m_putF (D := G) (ci := 3) (v := .ref q_1) (ty := .array .byte) (C := nR_S) (T := nT_S) (N := 2) hx hb hta in_S nt_S nt_S_ok nn_S hown hK hM hS k_3 rfl 0 (by decide) (hta _ aw_75) (fun _ h9 => h9) rfl hin rfl (by decide +kernel) rfl rfl (Nat.le_of_ble_eq_true rfl) d_S_init_10 (fs' := [.ref q_1, .int 0]) rfl (fun H locs hM hS => ?_)
  obtain ⟨w_5, hw_5⟩ : ∃ z9 : Nat → Option va_E, z9 = va_up w_2 a (some (.inr (3, [.ref q_1, .int 0]))) := ⟨_, rfl⟩
  rw [← hw_5] at hM
  have k_6 : w_5 a = some (.inr (3, [.ref q_1, .int 0])) := by rw [hw_5, va_up_self]
  have k_7 : w_5 q_1 = some (.inl (cB, 2005, .inl (fun _ => 0))) := by rw [hw_5, va_up_ne _ _ (Ne.symm (m_newne ha nq_1))]; exact k_4
  have zq_1 : w q_1 = none := nq_1
  have hfin : w_5 = va_up (va_up w q_1 (some (aI cB 2005 (fun _ => 0)))) a (some (eS q_1 0)) := by rw [hw_5, hw_2]
  rw [hfin] at hM
  exact W.vret hx hb hr (fun t ht hW => ⟨⟨q_1, rfl, zq_1, by rw [ht]; exact hM, va_K.moved hW.alike hK⟩, hS.F ht⟩) hS.2.2 d_S_init_13
theorem inj_pw {L : List Nat} (h : L.Pairwise (· ≠ ·)) : ∀ i j, i < L.length → j < L.length → L.getD i 0 = L.getD j 0 → i = j := by
  intro i j hi hj he
  rw [List.getD_eq_getElem?_getD, List.getD_eq_getElem?_getD, List.getElem?_eq_getElem hi, List.getElem?_eq_getElem hj, Option.getD_some, Option.getD_some] at he
  have h2 := List.pairwise_iff_getElem.mp h
  rcases Nat.lt_trichotomy i j with c | c | c
  · exact absurd he (h2 i j hi hj c)
  · exact c
  · exact absurd he.symm (h2 j i hj hi c)
set_option maxHeartbeats 4000000 in
set_option maxRecDepth 100000 in
theorem k_X_init (l : Launch) (G : va_G) (cN cB : ClassId) (ty2 : List (ClassId × FieldType)) (w : Nat → Option va_E) {a : Nat} (ha : w a = some (.inr (0, [.null, .null, .null, .int 0, .int 0, .int 0]))) (sz : Nat) : Met l y_X_init (wm y_X_init c_X_init 1 none) ({ frames := 2, cells := 7, slots := 2314, locals := 32 }) (va_Pc [.ref a] (fun U => U.heap.size = sz ∧ mw G ncl (fun _ => True) w U.heap ∧ va_K G ncl ((cN, .object nR_N) :: (cB, .byte) :: ty2) U ∧ xI U)) (va_Qv (fun (u : (Nat → Option va_E) × (Nat → Nat)) => u.2 0 = a ∧ (∀ i j, i < 8 → j < 8 → u.2 i = u.2 j → i = j) ∧ ∀ (v : Nat → nV) (od ro : Nat → Nat), cPic u.1 u.2 cN cB v od ro (fun _ => 0) 0 0 0 0 0 0 0 0) (fun u t => mw G ncl (mA w sz) u.1 t.heap ∧ va_K G ncl ((cN, .object nR_N) :: (cB, .byte) :: ty2) t) (mA w sz)) 7 2314 (mA w sz) := by
  refine Met.ofW (cc := c_X_init) (maxL := 1) (ret := none) (by decide) rfl ?_
  intro p e s m args below meth c s₁ B hml hv
  obtain ⟨rfl, hsz, hM0, hK, hE⟩ := hv
  have hx := B.exec
  have hb := B.bytes
  have hr := B.returns
  have hts := atoms_spec (ws := (wm y_X_init c_X_init 1 none)) B.pre
  have hta : ∀ w ∈ AL, w.before _ s = true := fun w h => hts w (List.mem_cons_of_mem _ h)
  have hown : s.vm.findClass nR_X = some m.cls := findClass_of_methodNamed B.named
  have hlocks := B.notSynchronized
  have hl := lv_entry ([.ref a]) (n := 1) (Nat.le_of_ble_eq_true rfl)
  rw [lg_entry_eq]
  generalize (lg_sl ([.ref a]) ++ List.replicate (1 - (lg_sl ([.ref a])).length) Slot.unset).toArray = ls at hl ⊢
  have hl : lv_has ls 1 [(0, .ref a)] := hl
  subst hsz
  have hM := mw_self (sz := s.heap.size) hM0
  clear hM0
  generalize hAe : mA w s.heap.size = A at hM hE ⊢
  have hA : ∀ q : Nat, s.heap.size ≤ q → A q := fun q h => by rw [← hAe]; exact Or.inr h
  have hS : va_S A s.heap s.heap [] := va_S.rf
  have hin : meth.name = "<init>" := (name_of_methodNamed B.named B.method).1
  refine lv_aload_n hx hb d_X_init_0 rfl (lv_at hl 0 rfl) ?_
  refine W.objInit hx hb hown (hta _ aw_21) (hta _ aw_22) (hta _ aw_23) rfl (by rw [hml]; exact hl.1) rfl d_X_init_1 (Nat.le_of_ble_eq_true rfl) (Nat.le_of_ble_eq_true rfl) ?_
  refine lv_aload_n hx hb d_X_init_4 rfl (lv_at hl 0 rfl) ?_
  refine m_new (D := G) (ci := 1) (fs := [.null, .null, .int 0]) (C := nR_L) (T := nT_L) (N := 3) hx hb hta in_L nt_L nt_L_ok hown (hta _ aw_24) (hta _ aw_25) (hta _ aw_2) hK hM hS hA rfl (fun j hj => by rcases (show j = 0 ∨ j = 1 ∨ j = 2 by omega) with rfl | rfl | rfl <;> rfl) (Nat.le_of_ble_eq_true rfl) (Nat.le_of_ble_eq_true rfl) d_X_init_5 (fun q_l H nq_l hM hS => ?_)
  obtain ⟨w_1, hw_1⟩ : ∃ z9 : Nat → Option va_E, z9 = va_up w q_l (some (.inr (1, [.null, .null, .int 0]))) := ⟨_, rfl⟩
  rw [← hw_1] at hM
  have k_2 : w_1 a = some (.inr (0, [.null, .null, .null, .int 0, .int 0, .int 0])) := by rw [hw_1, va_up_ne _ _ (m_newne ha nq_l)]; exact ha
  have k_3 : w_1 q_l = some (.inr (1, [.null, .null, .int 0])) := by rw [hw_1, va_up_self]
  refine lv_dup hx hb d_X_init_8 rfl ?_
  have hF := mw_free hM hS hA
  refine va_callv (va_runIN (As := []) (rest := [.ref q_l, .ref a]) ⟨hx, hb, hml, hown, hta⟩ (k_L_init l G cN cB ty2 w_1 k_3 _) ⟨va_cnB 0 hta (gI aw_28) rfl rfl rfl hE.2.1 (hta _ aw_2) (by decide +kernel) ⟨Nat.le_of_ble_eq_true rfl, Nat.le_of_ble_eq_true rfl⟩, rfl, hta _ aw_27⟩ (pI_S hK hM hE) rfl rfl hl.1 rfl (lv_room (Nat.le_of_ble_eq_true rfl)) d_X_init_9 ⟨Nat.le_of_ble_eq_true rfl, Nat.le_of_ble_eq_true rfl⟩) hS (fun q _ h => hF q h) hF (fun u_r_4 t H locs ht hvm hr_4 hB hz1 hk1 hS => ?_)
  obtain ⟨hM1, hK1⟩ := hB
  rw [ht] at hM1
  have hM := mw_weaken hM1 hF
  clear hM1 hK1 hF hk1 hz1
  obtain ⟨b4, b5⟩ := u_r_4
  obtain ⟨f4, f5, n45⟩ := hr_4
  have f4 : w_1 b4 = none := f4
  have f5 : w_1 b5 = none := f5
  have n45 : b4 ≠ b5 := n45
  obtain ⟨w_5, hw_5⟩ : ∃ z9 : Nat → Option va_E, z9 = va_up (va_up (va_up w_1 b4 (some (.inl (cN, 100, .inr (.inr (.inr (.inr (fun _ => none)))))))) b5 (some (.inl (cN, 100, .inr (.inr (.inr (.inr (fun _ => none)))))))) q_l (some (.inr (1, [.ref b4, .ref b5, .int 0]))) := ⟨_, rfl⟩
  have hM : mw G ncl A w_5 H := by rw [hw_5]; exact hM
  have k_6 : w_5 a = some (.inr (0, [.null, .null, .null, .int 0, .int 0, .int 0])) := by rw [hw_5, va_up_ne _ _ (m_newne ha nq_l), va_up_ne _ _ (m_newne k_2 f5), va_up_ne _ _ (m_newne k_2 f4)]; exact k_2
  have k_7 : w_5 q_l = some (.inr (1, [.ref b4, .ref b5, .int 0])) := by rw [hw_5, va_up_self]
  have k_8 : w_5 b4 = some (.inl (cN, 100, .inr (.inr (.inr (.inr (fun _ => none)))))) := by rw [hw_5, va_up_ne _ _ (Ne.symm (m_newne k_3 f4)), va_up_ne _ _ n45, va_up_self]
  have k_9 : w_5 b5 = some (.inl (cN, 100, .inr (.inr (.inr (.inr (fun _ => none)))))) := by rw [hw_5, va_up_ne _ _ (Ne.symm (m_newne k_3 f5)), va_up_self]
  refine m_putF (D := G) (ci := 0) (v := .ref q_l) (ty := .object "SceneTimes$Line") (C := nR_X) (T := nT_X) (N := 6) hx hb hta in_X nt_X nt_X_ok nn_X hown hK hM hS k_6 rfl 0 (by decide) (hta _ aw_85) (fun _ h9 => h9) rfl hin rfl (by decide +kernel) rfl rfl (Nat.le_of_ble_eq_true rfl) d_X_init_12 (fs' := [.ref q_l, .null, .null, .int 0, .int 0, .int 0]) rfl (fun H locs hM hS => ?_)
  obtain ⟨w_10, hw_10⟩ : ∃ z9 : Nat → Option va_E, z9 = va_up w_5 a (some (.inr (0, [.ref q_l, .null, .null, .int 0, .int 0, .int 0]))) := ⟨_, rfl⟩
  rw [← hw_10] at hM
  have k_11 : w_10 a = some (.inr (0, [.ref q_l, .null, .null, .int 0, .int 0, .int 0])) := by rw [hw_10, va_up_self]
  have k_12 : w_10 q_l = some (.inr (1, [.ref b4, .ref b5, .int 0])) := by rw [hw_10, va_up_ne _ _ (Ne.symm (m_newne ha nq_l))]; exact k_7
  have k_13 : w_10 b4 = some (.inl (cN, 100, .inr (.inr (.inr (.inr (fun _ => none)))))) := by rw [hw_10, va_up_ne _ _ (Ne.symm (m_newne k_2 f4))]; exact k_8
  have k_14 : w_10 b5 = some (.inl (cN, 100, .inr (.inr (.inr (.inr (fun _ => none)))))) := by rw [hw_10, va_up_ne _ _ (Ne.symm (m_newne k_2 f5))]; exact k_9
  refine lv_aload_n hx hb d_X_init_15 rfl (lv_at hl 0 rfl) ?_
  refine m_new (D := G) (ci := 2) (fs := [.null, .int 0, .int 0, .int 0]) (C := nR_Q) (T := nT_Q) (N := 4) hx hb hta in_Q nt_Q nt_Q_ok hown (hta _ aw_45) (hta _ aw_46) (hta _ aw_3) hK hM hS hA rfl (fun j hj => by rcases (show j = 0 ∨ j = 1 ∨ j = 2 ∨ j = 3 by omega) with rfl | rfl | rfl | rfl <;> rfl) (Nat.le_of_ble_eq_true rfl) (Nat.le_of_ble_eq_true rfl) d_X_init_16 (fun q_q H nq_q hM hS => ?_)
  obtain ⟨w_15, hw_15⟩ : ∃ z9 : Nat → Option va_E, z9 = va_up w_10 q_q (some (.inr (2, [.null, .int 0, .int 0, .int 0]))) := ⟨_, rfl⟩
  rw [← hw_15] at hM
  have k_16 : w_15 a = some (.inr (0, [.ref q_l, .null, .null, .int 0, .int 0, .int 0])) := by rw [hw_15, va_up_ne _ _ (m_newne k_11 nq_q)]; exact k_11
  have k_17 : w_15 q_l = some (.inr (1, [.ref b4, .ref b5, .int 0])) := by rw [hw_15, va_up_ne _ _ (m_newne k_12 nq_q)]; exact k_12
  have k_18 : w_15 b4 = some (.inl (cN, 100, .inr (.inr (.inr (.inr (fun _ => none)))))) := by rw [hw_15, va_up_ne _ _ (m_newne k_13 nq_q)]; exact k_13
  have k_19 : w_15 b5 = some (.inl (cN, 100, .inr (.inr (.inr (.inr (fun _ => none)))))) := by rw [hw_15, va_up_ne _ _ (m_newne k_14 nq_q)]; exact k_14
  have k_20 : w_15 q_q = some (.inr (2, [.null, .int 0, .int 0, .int 0])) := by rw [hw_15, va_up_self]
  refine lv_dup hx hb d_X_init_19 rfl ?_
  have hF := mw_free hM hS hA
  refine va_callv (va_runIN (As := []) (rest := [.ref q_q, .ref a]) ⟨hx, hb, hml, hown, hta⟩ (k_Q_init l G cN cB ty2 w_15 k_20 _) ⟨va_cnB 0 hta (gI aw_49) rfl rfl rfl hE.2.2.1 (hta _ aw_3) (by decide +kernel) ⟨Nat.le_of_ble_eq_true rfl, Nat.le_of_ble_eq_true rfl⟩, rfl, hta _ aw_48⟩ (pI_S hK hM hE) rfl rfl hl.1 rfl (lv_room (Nat.le_of_ble_eq_true rfl)) d_X_init_20 ⟨Nat.le_of_ble_eq_true rfl, Nat.le_of_ble_eq_true rfl⟩) hS (fun q _ h => hF q h) hF (fun u_r_21 t H locs ht hvm hr_21 hB hz1 hk1 hS => ?_)
  obtain ⟨hM1, hK1⟩ := hB
  rw [ht] at hM1
  have hM := mw_weaken hM1 hF
  clear hM1 hK1 hF hk1 hz1
  obtain ⟨b6, e6⟩ : ∃ z9 : Nat, z9 = u_r_21 := ⟨_, rfl⟩
  rw [← e6] at hM hr_21
  obtain ⟨w_22, hw_22⟩ : ∃ z9 : Nat → Option va_E, z9 = va_up (va_up w_15 b6 (some (.inl (cN, 100, .inr (.inr (.inr (.inr (fun _ => none)))))))) q_q (some (.inr (2, [.ref b6, .int 0, .int 0, .int 0]))) := ⟨_, rfl⟩
  have hM : mw G ncl A w_22 H := by rw [hw_22]; exact hM
  have k_23 : w_22 a = some (.inr (0, [.ref q_l, .null, .null, .int 0, .int 0, .int 0])) := by rw [hw_22, va_up_ne _ _ (m_newne k_11 nq_q), va_up_ne _ _ (m_newne k_16 hr_21)]; exact k_16
  have k_24 : w_22 q_l = some (.inr (1, [.ref b4, .ref b5, .int 0])) := by rw [hw_22, va_up_ne _ _ (m_newne k_12 nq_q), va_up_ne _ _ (m_newne k_17 hr_21)]; exact k_17
  have k_25 : w_22 b4 = some (.inl (cN, 100, .inr (.inr (.inr (.inr (fun _ => none)))))) := by rw [hw_22, va_up_ne _ _ (m_newne k_13 nq_q), va_up_ne _ _ (m_newne k_18 hr_21)]; exact k_18
  have k_26 : w_22 b5 = some (.inl (cN, 100, .inr (.inr (.inr (.inr (fun _ => none)))))) := by rw [hw_22, va_up_ne _ _ (m_newne k_14 nq_q), va_up_ne _ _ (m_newne k_19 hr_21)]; exact k_19
  have k_27 : w_22 q_q = some (.inr (2, [.ref b6, .int 0, .int 0, .int 0])) := by rw [hw_22, va_up_self]
  have k_28 : w_22 b6 = some (.inl (cN, 100, .inr (.inr (.inr (.inr (fun _ => none)))))) := by rw [hw_22, va_up_ne _ _ (Ne.symm (m_newne k_20 hr_21)), va_up_self]
  refine m_putF (D := G) (ci := 0) (v := .ref q_q) (ty := .object "SceneTimes$Question") (C := nR_X) (T := nT_X) (N := 6) hx hb hta in_X nt_X nt_X_ok nn_X hown hK hM hS k_23 rfl 1 (by decide) (hta _ aw_86) (fun _ h9 => h9) rfl hin rfl (by decide +kernel) rfl rfl (Nat.le_of_ble_eq_true rfl) d_X_init_23 (fs' := [.ref q_l, .ref q_q, .null, .int 0, .int 0, .int 0]) rfl (fun H locs hM hS => ?_)
  obtain ⟨w_29, hw_29⟩ : ∃ z9 : Nat → Option va_E, z9 = va_up w_22 a (some (.inr (0, [.ref q_l, .ref q_q, .null, .int 0, .int 0, .int 0]))) := ⟨_, rfl⟩
  rw [← hw_29] at hM
  have k_30 : w_29 a = some (.inr (0, [.ref q_l, .ref q_q, .null, .int 0, .int 0, .int 0])) := by rw [hw_29, va_up_self]
  have k_31 : w_29 q_l = some (.inr (1, [.ref b4, .ref b5, .int 0])) := by rw [hw_29, va_up_ne _ _ (Ne.symm (m_newne ha nq_l))]; exact k_24
  have k_32 : w_29 b4 = some (.inl (cN, 100, .inr (.inr (.inr (.inr (fun _ => none)))))) := by rw [hw_29, va_up_ne _ _ (Ne.symm (m_newne k_2 f4))]; exact k_25
  have k_33 : w_29 b5 = some (.inl (cN, 100, .inr (.inr (.inr (.inr (fun _ => none)))))) := by rw [hw_29, va_up_ne _ _ (Ne.symm (m_newne k_2 f5))]; exact k_26
  have k_34 : w_29 q_q = some (.inr (2, [.ref b6, .int 0, .int 0, .int 0])) := by rw [hw_29, va_up_ne _ _ (Ne.symm (m_newne k_11 nq_q))]; exact k_27
  have k_35 : w_29 b6 = some (.inl (cN, 100, .inr (.inr (.inr (.inr (fun _ => none)))))) := by rw [hw_29, va_up_ne _ _ (Ne.symm (m_newne k_16 hr_21))]; exact k_28
  refine lv_aload_n hx hb d_X_init_26 rfl (lv_at hl 0 rfl) ?_
  refine m_new (D := G) (ci := 3) (fs := [.null, .int 0]) (C := nR_S) (T := nT_S) (N := 2) hx hb hta in_S nt_S nt_S_ok hown (hta _ aw_69) (hta _ aw_70) (hta _ aw_4) hK hM hS hA rfl (fun j hj => by rcases (show j = 0 ∨ j = 1 by omega) with rfl | rfl <;> rfl) (Nat.le_of_ble_eq_true rfl) (Nat.le_of_ble_eq_true rfl) d_X_init_27 (fun q_s H nq_s hM hS => ?_)
  obtain ⟨w_36, hw_36⟩ : ∃ z9 : Nat → Option va_E, z9 = va_up w_29 q_s (some (.inr (3, [.null, .int 0]))) := ⟨_, rfl⟩
  rw [← hw_36] at hM
  have k_37 : w_36 a = some (.inr (0, [.ref q_l, .ref q_q, .null, .int 0, .int 0, .int 0])) := by rw [hw_36, va_up_ne _ _ (m_newne k_30 nq_s)]; exact k_30
  have k_38 : w_36 q_l = some (.inr (1, [.ref b4, .ref b5, .int 0])) := by rw [hw_36, va_up_ne _ _ (m_newne k_31 nq_s)]; exact k_31
  have k_39 : w_36 b4 = some (.inl (cN, 100, .inr (.inr (.inr (.inr (fun _ => none)))))) := by rw [hw_36, va_up_ne _ _ (m_newne k_32 nq_s)]; exact k_32
  have k_40 : w_36 b5 = some (.inl (cN, 100, .inr (.inr (.inr (.inr (fun _ => none)))))) := by rw [hw_36, va_up_ne _ _ (m_newne k_33 nq_s)]; exact k_33
  have k_41 : w_36 q_q = some (.inr (2, [.ref b6, .int 0, .int 0, .int 0])) := by rw [hw_36, va_up_ne _ _ (m_newne k_34 nq_s)]; exact k_34
  have k_42 : w_36 b6 = some (.inl (cN, 100, .inr (.inr (.inr (.inr (fun _ => none)))))) := by rw [hw_36, va_up_ne _ _ (m_newne k_35 nq_s)]; exact k_35
  have k_43 : w_36 q_s = some (.inr (3, [.null, .int 0])) := by rw [hw_36, va_up_self]
  refine lv_dup hx hb d_X_init_30 rfl ?_
  have hF := mw_free hM hS hA
  refine va_callv (va_runIN (As := []) (rest := [.ref q_s, .ref a]) ⟨hx, hb, hml, hown, hta⟩ (k_S_init l G cN cB ty2 w_36 k_43 _) ⟨va_cnB 0 hta (gI aw_73) rfl rfl rfl hE.2.2.2 (hta _ aw_4) (by decide +kernel) ⟨Nat.le_of_ble_eq_true rfl, Nat.le_of_ble_eq_true rfl⟩, rfl, hta _ aw_72⟩ (pI_S hK hM hE) rfl rfl hl.1 rfl (lv_room (Nat.le_of_ble_eq_true rfl)) d_X_init_31 ⟨Nat.le_of_ble_eq_true rfl, Nat.le_of_ble_eq_true rfl⟩) hS (fun q _ h => hF q h) hF (fun u_r_44 t H locs ht hvm hr_44 hB hz1 hk1 hS => ?_)
  obtain ⟨hM1, hK1⟩ := hB
  rw [ht] at hM1
  have hM := mw_weaken hM1 hF
  clear hM1 hK1 hF hk1 hz1
  obtain ⟨b7, e7⟩ : ∃ z9 : Nat, z9 = u_r_44 := ⟨_, rfl⟩
  rw [← e7] at hM hr_44
  obtain ⟨w_45, hw_45⟩ : ∃ z9 : Nat → Option va_E, z9 = va_up (va_up w_36 b7 (some (.inl (cB, 2005, .inl (fun _ => 0))))) q_s (some (.inr (3, [.ref b7, .int 0]))) := ⟨_, rfl⟩
  have hM : mw G ncl A w_45 H := by rw [hw_45]; exact hM
  have k_46 : w_45 a = some (.inr (0, [.ref q_l, .ref q_q, .null, .int 0, .int 0, .int 0])) := by rw [hw_45, va_up_ne _ _ (m_newne k_30 nq_s), va_up_ne _ _ (m_newne k_37 hr_44)]; exact k_37
  have k_47 : w_45 q_l = some (.inr (1, [.ref b4, .ref b5, .int 0])) := by rw [hw_45, va_up_ne _ _ (m_newne k_31 nq_s), va_up_ne _ _ (m_newne k_38 hr_44)]; exact k_38
  have k_48 : w_45 b4 = some (.inl (cN, 100, .inr (.inr (.inr (.inr (fun _ => none)))))) := by rw [hw_45, va_up_ne _ _ (m_newne k_32 nq_s), va_up_ne _ _ (m_newne k_39 hr_44)]; exact k_39
  have k_49 : w_45 b5 = some (.inl (cN, 100, .inr (.inr (.inr (.inr (fun _ => none)))))) := by rw [hw_45, va_up_ne _ _ (m_newne k_33 nq_s), va_up_ne _ _ (m_newne k_40 hr_44)]; exact k_40
  have k_50 : w_45 q_q = some (.inr (2, [.ref b6, .int 0, .int 0, .int 0])) := by rw [hw_45, va_up_ne _ _ (m_newne k_34 nq_s), va_up_ne _ _ (m_newne k_41 hr_44)]; exact k_41
  have k_51 : w_45 b6 = some (.inl (cN, 100, .inr (.inr (.inr (.inr (fun _ => none)))))) := by rw [hw_45, va_up_ne _ _ (m_newne k_35 nq_s), va_up_ne _ _ (m_newne k_42 hr_44)]; exact k_42
  have k_52 : w_45 q_s = some (.inr (3, [.ref b7, .int 0])) := by rw [hw_45, va_up_self]
  have k_53 : w_45 b7 = some (.inl (cB, 2005, .inl (fun _ => 0))) := by rw [hw_45, va_up_ne _ _ (Ne.symm (m_newne k_43 hr_44)), va_up_self]
  refine m_putF (D := G) (ci := 0) (v := .ref q_s) (ty := .object "SceneTimes$Sheet") (C := nR_X) (T := nT_X) (N := 6) hx hb hta in_X nt_X nt_X_ok nn_X hown hK hM hS k_46 rfl 2 (by decide) (hta _ aw_87) (fun _ h9 => h9) rfl hin rfl (by decide +kernel) rfl rfl (Nat.le_of_ble_eq_true rfl) d_X_init_34 (fs' := [.ref q_l, .ref q_q, .ref q_s, .int 0, .int 0, .int 0]) rfl (fun H locs hM hS => ?_)
  obtain ⟨w_54, hw_54⟩ : ∃ z9 : Nat → Option va_E, z9 = va_up w_45 a (some (.inr (0, [.ref q_l, .ref q_q, .ref q_s, .int 0, .int 0, .int 0]))) := ⟨_, rfl⟩
  rw [← hw_54] at hM
  have k_55 : w_54 a = some (.inr (0, [.ref q_l, .ref q_q, .ref q_s, .int 0, .int 0, .int 0])) := by rw [hw_54, va_up_self]
  have k_56 : w_54 q_l = some (.inr (1, [.ref b4, .ref b5, .int 0])) := by rw [hw_54, va_up_ne _ _ (Ne.symm (m_newne ha nq_l))]; exact k_47
  have k_57 : w_54 b4 = some (.inl (cN, 100, .inr (.inr (.inr (.inr (fun _ => none)))))) := by rw [hw_54, va_up_ne _ _ (Ne.symm (m_newne k_2 f4))]; exact k_48
  have k_58 : w_54 b5 = some (.inl (cN, 100, .inr (.inr (.inr (.inr (fun _ => none)))))) := by rw [hw_54, va_up_ne _ _ (Ne.symm (m_newne k_2 f5))]; exact k_49
  have k_59 : w_54 q_q = some (.inr (2, [.ref b6, .int 0, .int 0, .int 0])) := by rw [hw_54, va_up_ne _ _ (Ne.symm (m_newne k_11 nq_q))]; exact k_50
  have k_60 : w_54 b6 = some (.inl (cN, 100, .inr (.inr (.inr (.inr (fun _ => none)))))) := by rw [hw_54, va_up_ne _ _ (Ne.symm (m_newne k_16 hr_21))]; exact k_51
  have k_61 : w_54 q_s = some (.inr (3, [.ref b7, .int 0])) := by rw [hw_54, va_up_ne _ _ (Ne.symm (m_newne k_30 nq_s))]; exact k_52
  have k_62 : w_54 b7 = some (.inl (cB, 2005, .inl (fun _ => 0))) := by rw [hw_54, va_up_ne _ _ (Ne.symm (m_newne k_37 hr_44))]; exact k_53
  have hpw : List.Pairwise (· ≠ ·) [a, q_l, q_q, q_s, b4, b5, b6, b7] := (List.Pairwise.cons (List.forall_mem_cons.mpr ⟨(m_newne ha nq_l), (List.forall_mem_cons.mpr ⟨(m_newne k_11 nq_q), (List.forall_mem_cons.mpr ⟨(m_newne k_30 nq_s), (List.forall_mem_cons.mpr ⟨(m_newne k_2 f4), (List.forall_mem_cons.mpr ⟨(m_newne k_2 f5), (List.forall_mem_cons.mpr ⟨(m_newne k_16 hr_21), (List.forall_mem_cons.mpr ⟨(m_newne k_37 hr_44), (fun _ h => absurd h List.not_mem_nil)⟩)⟩)⟩)⟩)⟩)⟩)⟩) (List.Pairwise.cons (List.forall_mem_cons.mpr ⟨(m_newne k_12 nq_q), (List.forall_mem_cons.mpr ⟨(m_newne k_31 nq_s), (List.forall_mem_cons.mpr ⟨(m_newne k_3 f4), (List.forall_mem_cons.mpr ⟨(m_newne k_3 f5), (List.forall_mem_cons.mpr ⟨(m_newne k_17 hr_21), (List.forall_mem_cons.mpr ⟨(m_newne k_38 hr_44), (fun _ h => absurd h List.not_mem_nil)⟩)⟩)⟩)⟩)⟩)⟩) (List.Pairwise.cons (List.forall_mem_cons.mpr ⟨(m_newne k_34 nq_s), (List.forall_mem_cons.mpr ⟨(Ne.symm (m_newne k_13 nq_q)), (List.forall_mem_cons.mpr ⟨(Ne.symm (m_newne k_14 nq_q)), (List.forall_mem_cons.mpr ⟨(m_newne k_20 hr_21), (List.forall_mem_cons.mpr ⟨(m_newne k_41 hr_44), (fun _ h => absurd h List.not_mem_nil)⟩)⟩)⟩)⟩)⟩) (List.Pairwise.cons (List.forall_mem_cons.mpr ⟨(Ne.symm (m_newne k_32 nq_s)), (List.forall_mem_cons.mpr ⟨(Ne.symm (m_newne k_33 nq_s)), (List.forall_mem_cons.mpr ⟨(Ne.symm (m_newne k_35 nq_s)), (List.forall_mem_cons.mpr ⟨(m_newne k_43 hr_44), (fun _ h => absurd h List.not_mem_nil)⟩)⟩)⟩)⟩) (List.Pairwise.cons (List.forall_mem_cons.mpr ⟨n45, (List.forall_mem_cons.mpr ⟨(m_newne k_18 hr_21), (List.forall_mem_cons.mpr ⟨(m_newne k_39 hr_44), (fun _ h => absurd h List.not_mem_nil)⟩)⟩)⟩) (List.Pairwise.cons (List.forall_mem_cons.mpr ⟨(m_newne k_19 hr_21), (List.forall_mem_cons.mpr ⟨(m_newne k_40 hr_44), (fun _ h => absurd h List.not_mem_nil)⟩)⟩) (List.Pairwise.cons (List.forall_mem_cons.mpr ⟨(m_newne k_42 hr_44), (fun _ h => absurd h List.not_mem_nil)⟩) (List.Pairwise.cons (fun _ h => absurd h List.not_mem_nil) List.Pairwise.nil))))))))
  exact W.vret hx hb hr (fun t ht hW => ⟨⟨(w_54, (fun i => [a, q_l, q_q, q_s, b4, b5, b6, b7].getD i 0)), rfl, ⟨rfl, inj_pw hpw, fun v od ro => ⟨k_55, k_56, k_59, k_61, k_62, ⟨_, k_57, (fun i hi => absurd hi (Nat.not_lt_zero i))⟩, ⟨_, k_58, (fun i hi => absurd hi (Nat.not_lt_zero i))⟩, ⟨_, k_60, (fun i hi => absurd hi (Nat.not_lt_zero i))⟩, (fun i hi => absurd hi (Nat.not_lt_zero i))⟩⟩, by rw [ht]; exact hM, va_K.moved hW.alike hK⟩, hS.F ht⟩) hS.2.2 d_X_init_37
